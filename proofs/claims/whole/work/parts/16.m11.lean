def tOK (S : MS) : Prop := ∃ n : Nat, n ≤ 60 ∧ S.1 21 = nI n
theorem in5 {n : Int32} (h : 1 ≤ n ∧ n ≤ 5) : n = nI n.toNatClampNeg ∧ n.toNatClampNeg ≤ 5 := by
  have h1 := Int32.le_iff_toInt_le.mp h.1
  have h2 := Int32.le_iff_toInt_le.mp h.2
  have e1 : (1 : Int32).toInt = 1 := rfl
  have e6 : (5 : Int32).toInt = 5 := rfl
  obtain ⟨k, hk, e⟩ := nI_of (x := n) (fun q => by have h3 := Int32.lt_iff_toInt_lt.mp q; have e0 : (0 : Int32).toInt = 0 := rfl; omega)
  subst e
  rw [nI_toInt hk] at h1 h2
  rw [nI_clamp hk]
  exact ⟨rfl, by omega⟩
theorem inW {S : MS} (hs : sOK2 S) {a b n : Int32} (ha : vp_in a 4) (h : ¬ b < 0 ∧ ¬ n < 0 ∧ ¬ S.2.2 33 a.toNatClampNeg - n < b) : b = nI b.toNatClampNeg ∧ n = nI n.toNatClampNeg ∧ b.toNatClampNeg + n.toNatClampNeg ≤ (S.2.2 33 a.toNatClampNeg).toNatClampNeg ∧ (S.2.2 33 a.toNatClampNeg).toNatClampNeg ≤ 40 := by
  obtain ⟨z, hz, e⟩ := hs _ (in_cl ha (by decide)).2
  obtain ⟨b', hb', rfl⟩ := nI_of h.1
  obtain ⟨n', hn', rfl⟩ := nI_of h.2.1
  have h3 := h.2.2
  rw [e] at h3 ⊢
  rw [nI_clamp hb', nI_clamp hn', nI_clamp (by omega)]
  refine ⟨rfl, rfl, ?_, hz⟩
  have h4 := mt Int32.lt_iff_toInt_lt.mpr h3
  rw [nI_toInt hb'] at h4
  have e5 : (nI z - nI n').toInt = (z : Int) - n' := by
    rw [Int32.toInt_sub, nI_toInt (by omega), nI_toInt hn']
    apply Int.bmod_eq_of_le <;> omega
  rw [e5] at h4
  omega
theorem cpIx {a b : Int32} (ha : vp_in a 4) (hb : b = nI b.toNatClampNeg ∧ b.toNatClampNeg ≤ 40) : 40 * a + b = nI (40 * a.toNatClampNeg + b.toNatClampNeg) ∧ (40 * a + b).toNatClampNeg = 40 * a.toNatClampNeg + b.toNatClampNeg ∧ a.toNatClampNeg ≤ 3 := by
  obtain ⟨q, hq, e⟩ := vp_in_of ha (by decide)
  subst e
  have e1 := hb.1
  generalize hbb : b.toNatClampNeg = bb at hb e1 ⊢
  subst e1
  rw [nI_clamp (by omega), show (40 : Int32) = nI 40 from rfl, pk_mul, nI_add]
  exact ⟨rfl, nI_clamp (by omega), by omega⟩
set_option maxHeartbeats 4000000 in
set_option maxRecDepth 100000 in
theorem cM_mix (Z : VZ) (S : MS) (a_ : Int32) (e_ : Int32) (n_ : Int32) (i_ : Int32) (hm : mOK S) : CtF MW Z yX11_mix cX11_mix 8 (some .int) 4 0 0 [.ref (Z.2.2.2 99), .int a_, .int e_, .int n_, .int i_] (S) (some (.int (if ((0 ≤ a_ ∧ a_ ≤ 3) ∧ (0 ≤ e_ ∧ e_ ≤ (1 <<< (S.1 0 &&& 31)) - 1) ∧ (0 ≤ n_ ∧ n_ ≤ 40) ∧ (0 ≤ i_ ∧ i_ ≤ 1)) then n_ else -2))) (if ((0 ≤ a_ ∧ a_ ≤ 3) ∧ (0 ≤ e_ ∧ e_ ≤ (1 <<< (S.1 0 &&& 31)) - 1) ∧ (0 ≤ n_ ∧ n_ ≤ 40) ∧ (0 ≤ i_ ∧ i_ ≤ 1)) then mCm (mF (mA (mxS S e_ n_ (S.1 0).toNatClampNeg) 11 (mxR (mxS S e_ n_ (S.1 0).toNatClampNeg) i_ n_.toNatClampNeg)) 12 n_) a_.toNatClampNeg else S) := by
  refine V_entry (own := RX11) (by decide) rfl (Nat.le_of_ble_eq_true rfl) ?_
  intro B hB
  refine V_sub (L' := [(0, .ref (Z.2.2.2 99)), (1, .int a_), (2, .int e_), (3, .int n_), (4, .int i_)]) [0, 1, 2, 3, 4] rfl ?_
  refine V_iload_n (pc := 0) dX11_mix_0 1 rfl rfl ?_
  refine McSi (pc := 1) dX11_mix_1 (cM_isSheet Z _ _) kM_150 rfl (Nat.le_of_ble_eq_true rfl) (by decide) (by decide) ?_
  refine V_bif_eq (pc := 4) (tgt := 43) dX11_mix_4 (by decide) (fun h4 => ?_) (fun h4 => ?_)
  · skip
    refine V_bipush (v := (-2)) (pc := 43) dX11_mix_43 (by decide) ?_
    exact V_iret (pc := 45) dX11_mix_45 (Nat.le_of_ble_eq_true rfl) (Nat.le_of_ble_eq_true rfl) (hB _ _ ⟨congrArg (fun z => some (Value.int z)) (by exact (if_neg (fun h => h4 h.1)).symm), by exact (if_neg (fun h => h4 h.1)).symm⟩)
  · skip
    refine V_iload_n (pc := 7) dX11_mix_7 2 rfl rfl ?_
    refine V_iconst (v := 0) (pc := 8) dX11_mix_8 (by decide) ?_
    refine V_iconst (v := 1) (pc := 9) dX11_mix_9 (by decide) ?_
    refine V_aload_n (pc := 10) dX11_mix_10 0 rfl rfl ?_
    refine Mg_many (pc := 11) (v := (S.1 0)) rfl dX11_mix_11 ?_
    refine V_ishl (pc := 14) dX11_mix_14 ?_
    refine V_iconst (v := 1) (pc := 15) dX11_mix_15 (by decide) ?_
    refine V_isub (pc := 16) dX11_mix_16 ?_
    refine McSi (pc := 17) dX11_mix_17 (cM_in Z _ _ _ _) kM_70 rfl (Nat.le_of_ble_eq_true rfl) (by decide) (by decide) ?_
    refine V_bif_eq (pc := 20) (tgt := 43) dX11_mix_20 (by decide) (fun h20 => ?_) (fun h20 => ?_)
    · skip
      refine V_bipush (v := (-2)) (pc := 43) dX11_mix_43 (by decide) ?_
      exact V_iret (pc := 45) dX11_mix_45 (Nat.le_of_ble_eq_true rfl) (Nat.le_of_ble_eq_true rfl) (hB _ _ ⟨congrArg (fun z => some (Value.int z)) (by exact (if_neg (fun h => h20 h.2.1)).symm), by exact (if_neg (fun h => h20 h.2.1)).symm⟩)
    · skip
      refine V_iload_n (pc := 23) dX11_mix_23 3 rfl rfl ?_
      refine V_iconst (v := 0) (pc := 24) dX11_mix_24 (by decide) ?_
      refine V_bipush (v := 40) (pc := 25) dX11_mix_25 (by decide) ?_
      refine McSi (pc := 27) dX11_mix_27 (cM_in Z _ _ _ _) kM_70 rfl (Nat.le_of_ble_eq_true rfl) (by decide) (by decide) ?_
      refine V_bif_eq (pc := 30) (tgt := 43) dX11_mix_30 (by decide) (fun h30 => ?_) (fun h30 => ?_)
      · skip
        refine V_bipush (v := (-2)) (pc := 43) dX11_mix_43 (by decide) ?_
        exact V_iret (pc := 45) dX11_mix_45 (Nat.le_of_ble_eq_true rfl) (Nat.le_of_ble_eq_true rfl) (hB _ _ ⟨congrArg (fun z => some (Value.int z)) (by exact (if_neg (fun h => h30 h.2.2.1)).symm), by exact (if_neg (fun h => h30 h.2.2.1)).symm⟩)
      · skip
        refine V_iload (pc := 33) dX11_mix_33 4 rfl ?_
        refine V_iconst (v := 0) (pc := 35) dX11_mix_35 (by decide) ?_
        refine V_iconst (v := 1) (pc := 36) dX11_mix_36 (by decide) ?_
        refine McSi (pc := 37) dX11_mix_37 (cM_in Z _ _ _ _) kM_70 rfl (Nat.le_of_ble_eq_true rfl) (by decide) (by decide) ?_
        refine V_bif_ne (pc := 40) (tgt := 46) dX11_mix_40 (by decide) (fun h40 => ?_) (fun h40 => ?_)
        · skip
          refine V_iconst (v := 0) (pc := 46) dX11_mix_46 (by decide) ?_
          refine V_istore (pc := 47) (L2 := [(0, .ref (Z.2.2.2 99)), (1, .int a_), (2, .int e_), (3, .int n_), (4, .int i_)]) dX11_mix_47 (by decide) rfl (fun x5_47 ex5_47 => ?_)
          subst ex5_47
          have hn4 := in40 h30
          have hm4 := mOK_le hm
          refine V_eqS _ (mA_self S 13) ?_
          refine V_sub (L' := [(5, .int (nI 0)), (0, .ref (Z.2.2.2 99)), (1, .int a_), (2, .int e_), (3, .int n_), (4, .int i_)]) [0, 1, 2, 3, 4, 5] rfl ?_
          refine Vloop (σ := Nat) (fun x => x ≤ n_.toNatClampNeg) (fun x => n_.toNatClampNeg - x) (fun x => V MW Z cX11_mix RX11 8 (some .int) 4 0 0 B 0 0 49 [(5, .int (nI x)), (0, .ref (Z.2.2.2 99)), (1, .int a_), (2, .int e_), (3, .int n_), (4, .int i_)] [] (mA S 13 (smZ S x))) ?_ 0 (by exact Nat.zero_le _)
          rintro j hI49 ih49
          have hI49 : j ≤ n_.toNatClampNeg := hI49
          show V MW Z cX11_mix RX11 8 (some .int) 4 0 0 B 0 0 49 [(5, .int (nI j)), (0, .ref (Z.2.2.2 99)), (1, .int a_), (2, .int e_), (3, .int n_), (4, .int i_)] [] (mA S 13 (smZ S j))
          refine V_iload (pc := 49) dX11_mix_49 0 rfl ?_
          refine V_iload_n (pc := 51) dX11_mix_51 4 rfl rfl ?_
          refine V_icmp_ge (pc := 52) (tgt := 69) dX11_mix_52 (by decide) (fun h52 => ?_) (fun h52 => ?_)
          · skip
            have hj : n_.toNatClampNeg ≤ j := jge h52 (by omega)
            have ej : j = n_.toNatClampNeg := Nat.le_antisymm hI49 hj
            refine V_eqS ((mxS S e_ n_ 0)) (by rw [ej]; rfl) ?_
            refine V_iconst (v := 0) (pc := 69) dX11_mix_69 (by decide) ?_
            refine V_istore (pc := 70) (L2 := [(0, .ref (Z.2.2.2 99)), (1, .int a_), (2, .int e_), (3, .int n_), (4, .int i_)]) dX11_mix_70 (by decide) rfl (fun x5_70 ex5_70 => ?_)
            subst ex5_70
            refine V_sub (L' := [(5, .int (nI 0)), (0, .ref (Z.2.2.2 99)), (1, .int a_), (2, .int e_), (3, .int n_), (4, .int i_)]) [0, 1, 2, 3, 4, 5] rfl ?_
            refine Vloop (σ := Nat) (fun x => x ≤ (S.1 0).toNatClampNeg) (fun x => (S.1 0).toNatClampNeg - x) (fun x => V MW Z cX11_mix RX11 8 (some .int) 4 0 0 B 0 0 72 [(5, .int (nI x)), (0, .ref (Z.2.2.2 99)), (1, .int a_), (2, .int e_), (3, .int n_), (4, .int i_)] [] ((mxS S e_ n_ x))) ?_ 0 (by exact Nat.zero_le _)
            rintro jm hI72 ih72
            have hI72 : jm ≤ (S.1 0).toNatClampNeg := hI72
            show V MW Z cX11_mix RX11 8 (some .int) 4 0 0 B 0 0 72 [(5, .int (nI jm)), (0, .ref (Z.2.2.2 99)), (1, .int a_), (2, .int e_), (3, .int n_), (4, .int i_)] [] ((mxS S e_ n_ jm))
            refine V_iload (pc := 72) dX11_mix_72 0 rfl ?_
            refine V_aload_n (pc := 74) dX11_mix_74 1 rfl rfl ?_
            refine Mg_many (pc := 75) (v := (S.1 0)) (mxS0 S e_ n_ jm) dX11_mix_75 ?_
            refine V_icmp_ge (pc := 78) (tgt := 138) dX11_mix_78 (by decide) (fun h78 => ?_) (fun h78 => ?_)
            · skip
              have hjm : (S.1 0).toNatClampNeg ≤ jm := jge h78 (by omega)
              have ejm : jm = (S.1 0).toNatClampNeg := Nat.le_antisymm hI72 hjm
              refine V_eqS (mxS S e_ n_ (S.1 0).toNatClampNeg) (by rw [ejm]) ?_
              refine V_iconst (v := 0) (pc := 138) dX11_mix_138 (by decide) ?_
              refine V_istore (pc := 139) (L2 := [(0, .ref (Z.2.2.2 99)), (1, .int a_), (2, .int e_), (3, .int n_), (4, .int i_)]) dX11_mix_139 (by decide) rfl (fun x5_139 ex5_139 => ?_)
              subst ex5_139
              refine V_iconst (v := 0) (pc := 141) dX11_mix_141 (by decide) ?_
              refine V_istore (pc := 142) (L2 := [(5, .int 0), (0, .ref (Z.2.2.2 99)), (1, .int a_), (2, .int e_), (3, .int n_), (4, .int i_)]) dX11_mix_142 (by decide) rfl (fun x6_142 ex6_142 => ?_)
              subst ex6_142
              refine V_eqS _ (mA_self (mxS S e_ n_ (S.1 0).toNatClampNeg) 11) ?_
              refine V_sub (L' := [(6, .int (nI 0)), (5, .int 0), (0, .ref (Z.2.2.2 99)), (1, .int a_), (2, .int e_), (3, .int n_), (4, .int i_)]) [0, 1, 2, 3, 4, 5, 6] rfl ?_
              refine Vloop (σ := Nat × Int32) (fun x => (x.1) ≤ n_.toNatClampNeg ∧ (x.2) = crr (mxS S e_ n_ (S.1 0).toNatClampNeg) i_ (x.1)) (fun x => n_.toNatClampNeg - (x.1)) (fun x => V MW Z cX11_mix RX11 8 (some .int) 4 0 0 B 0 0 144 [(6, .int (nI (x.1))), (5, .int (x.2)), (0, .ref (Z.2.2.2 99)), (1, .int a_), (2, .int e_), (3, .int n_), (4, .int i_)] [] (mA (mxS S e_ n_ (S.1 0).toNatClampNeg) 11 (mxR (mxS S e_ n_ (S.1 0).toNatClampNeg) i_ (x.1)))) ?_ (0, 0) (by exact ⟨Nat.zero_le _, rfl⟩)
              rintro ⟨j, u⟩ hI144 ih144
              have hI144 : j ≤ n_.toNatClampNeg ∧ u = crr (mxS S e_ n_ (S.1 0).toNatClampNeg) i_ j := hI144
              show V MW Z cX11_mix RX11 8 (some .int) 4 0 0 B 0 0 144 [(6, .int (nI j)), (5, .int u), (0, .ref (Z.2.2.2 99)), (1, .int a_), (2, .int e_), (3, .int n_), (4, .int i_)] [] (mA (mxS S e_ n_ (S.1 0).toNatClampNeg) 11 (mxR (mxS S e_ n_ (S.1 0).toNatClampNeg) i_ j))
              refine V_iload (pc := 144) dX11_mix_144 0 rfl ?_
              refine V_iload_n (pc := 146) dX11_mix_146 5 rfl rfl ?_
              refine V_icmp_ge (pc := 147) (tgt := 195) dX11_mix_147 (by decide) (fun h147 => ?_) (fun h147 => ?_)
              · skip
                have hj : n_.toNatClampNeg ≤ j := jge h147 (by omega)
                have ej : j = n_.toNatClampNeg := Nat.le_antisymm hI144.1 hj
                refine V_aload_n (pc := 195) dX11_mix_195 2 rfl rfl ?_
                refine V_iload_n (pc := 196) dX11_mix_196 5 rfl rfl ?_
                refine Mp_length (pc := 197) dX11_mix_197 ?_
                refine V_aload_n (pc := 200) dX11_mix_200 2 rfl rfl ?_
                refine V_iload_n (pc := 201) dX11_mix_201 3 rfl rfl ?_
                refine McVi (pc := 202) dX11_mix_202 (cM_comesTo Z _ _ (by exact inSh h4)) kM_157 rfl rfl (Nat.le_of_ble_eq_true rfl) (by decide) (by decide) ?_
                exact V_iret (pc := 205) dX11_mix_205 (Nat.le_of_ble_eq_true rfl) (Nat.le_of_ble_eq_true rfl) (hB _ _ ⟨congrArg (fun z => some (Value.int z)) (by rw [if_pos ⟨h4, h20, h30, h40⟩]; rfl), by rw [if_pos ⟨h4, h20, h30, h40⟩, ← ej]⟩)
              · skip
                have hj : j < n_.toNatClampNeg := jlt h147 (by omega)
                refine V_aload_n (pc := 150) dX11_mix_150 2 rfl rfl ?_
                refine Mg_sums (pc := 151) dX11_mix_151 ?_
                refine V_iload (pc := 154) dX11_mix_154 0 rfl ?_
                refine Ml_sums (pc := 156) dX11_mix_156 (by exact vp_in_nI (by omega) (by decide)) ?_
                refine V_iload (pc := 157) dX11_mix_157 1 rfl ?_
                refine V_iadd (pc := 159) dX11_mix_159 ?_
                refine V_istore (pc := 160) (L2 := [(6, .int (nI j)), (5, .int u), (0, .ref (Z.2.2.2 99)), (1, .int a_), (2, .int e_), (3, .int n_), (4, .int i_)]) dX11_mix_160 (by decide) rfl (fun x7_160 ex7_160 => ?_)
                rw [nI_clamp (by omega)] at ex7_160
                refine V_aload_n (pc := 162) dX11_mix_162 3 rfl rfl ?_
                refine Mg_row (pc := 163) dX11_mix_163 ?_
                refine V_iload (pc := 166) dX11_mix_166 1 rfl ?_
                refine V_iload (pc := 168) dX11_mix_168 0 rfl ?_
                refine V_iconst (v := 2) (pc := 170) dX11_mix_170 (by decide) ?_
                refine V_irem (pc := 171) dX11_mix_171 (by first | assumption | decide) ?_
                refine Ms_row (pc := 172) dX11_mix_172 (by exact vp_in_nI (by omega) (by decide)) ?_
                refine V_eqS (mA (mxS S e_ n_ (S.1 0).toNatClampNeg) 11 (mxR (mxS S e_ n_ (S.1 0).toNatClampNeg) i_ (j + 1))) (by
                    refine (mA_mA _ 11 _ _).trans ?_
                    rw [nI_clamp (by omega), ← ex7_160, hI144.2]
                    rfl) ?_
                refine V_iload (pc := 173) dX11_mix_173 7 rfl ?_
                refine V_iconst (v := 1) (pc := 175) dX11_mix_175 (by decide) ?_
                refine V_icmp_ne (pc := 176) (tgt := 186) dX11_mix_176 (by decide) (fun h176 => ?_) (fun h176 => ?_)
                · skip
                  refine V_iconst (v := 0) (pc := 186) dX11_mix_186 (by decide) ?_
                  refine V_istore (pc := 187) (L2 := [(7, .int x7_160), (6, .int (nI j)), (0, .ref (Z.2.2.2 99)), (1, .int a_), (2, .int e_), (3, .int n_), (4, .int i_)]) dX11_mix_187 (by decide) rfl (fun x5_187 ex5_187 => ?_)
                  subst ex5_187
                  refine V_iinc (pc := 189) (v := 1) (L2 := [(5, .int 0), (7, .int x7_160), (0, .ref (Z.2.2.2 99)), (1, .int a_), (2, .int e_), (3, .int n_), (4, .int i_)]) dX11_mix_189 2 rfl (by decide) (by decide) rfl (fun x6_189 ex6_189 => ?_)
                  rw [nI_1] at ex6_189
                  subst ex6_189
                  refine V_goto (pc := 192) (tgt := 144) dX11_mix_192 (by decide) ?_
                  refine V_sub (L' := [(6, .int (nI (j + 1))), (5, .int 0), (0, .ref (Z.2.2.2 99)), (1, .int a_), (2, .int e_), (3, .int n_), (4, .int i_)]) [0, 1, 3, 4, 5, 6, 7] rfl ?_
                  refine ih144 (((j + 1)), _) ?_ ?_
                  · show ((j + 1)) ≤ n_.toNatClampNeg ∧ (0) = crr (mxS S e_ n_ (S.1 0).toNatClampNeg) i_ ((j + 1))
                    refine ⟨hj, ?_⟩
                    show _ = crr (mxS S e_ n_ (S.1 0).toNatClampNeg) i_ (j + 1)
                    simp only [crr, it]
                    first | (rw [if_pos h176, ← ex7_160, hI144.2]; rfl) | rw [if_neg h176]
                  · show n_.toNatClampNeg - (j + 1) < n_.toNatClampNeg - j
                    omega
                · skip
                  refine V_iload (pc := 179) dX11_mix_179 0 rfl ?_
                  refine V_iconst (v := 2) (pc := 181) dX11_mix_181 (by decide) ?_
                  refine V_idiv (pc := 182) dX11_mix_182 (by first | assumption | decide) ?_
                  refine V_goto (pc := 183) (tgt := 187) dX11_mix_183 (by decide) ?_
                  refine V_istore (pc := 187) (L2 := [(7, .int x7_160), (6, .int (nI j)), (0, .ref (Z.2.2.2 99)), (1, .int a_), (2, .int e_), (3, .int n_), (4, .int i_)]) dX11_mix_187 (by decide) rfl (fun x5_187 ex5_187 => ?_)
                  subst ex5_187
                  refine V_iinc (pc := 189) (v := 1) (L2 := [(5, .int (x7_160 / 2)), (7, .int x7_160), (0, .ref (Z.2.2.2 99)), (1, .int a_), (2, .int e_), (3, .int n_), (4, .int i_)]) dX11_mix_189 2 rfl (by decide) (by decide) rfl (fun x6_189 ex6_189 => ?_)
                  rw [nI_1] at ex6_189
                  subst ex6_189
                  refine V_goto (pc := 192) (tgt := 144) dX11_mix_192 (by decide) ?_
                  refine V_sub (L' := [(6, .int (nI (j + 1))), (5, .int (x7_160 / 2)), (0, .ref (Z.2.2.2 99)), (1, .int a_), (2, .int e_), (3, .int n_), (4, .int i_)]) [0, 1, 3, 4, 5, 6, 7] rfl ?_
                  refine ih144 (((j + 1)), _) ?_ ?_
                  · show ((j + 1)) ≤ n_.toNatClampNeg ∧ ((x7_160 / 2)) = crr (mxS S e_ n_ (S.1 0).toNatClampNeg) i_ ((j + 1))
                    refine ⟨hj, ?_⟩
                    show _ = crr (mxS S e_ n_ (S.1 0).toNatClampNeg) i_ (j + 1)
                    simp only [crr, it]
                    first | (rw [if_pos h176, ← ex7_160, hI144.2]; rfl) | rw [if_neg h176]
                  · show n_.toNatClampNeg - (j + 1) < n_.toNatClampNeg - j
                    omega
            · skip
              have hjm : jm < (S.1 0).toNatClampNeg := jlt h78 (by omega)
              refine V_iload_n (pc := 81) dX11_mix_81 3 rfl rfl ?_
              refine V_iload (pc := 82) dX11_mix_82 0 rfl ?_
              refine McSi (pc := 84) dX11_mix_84 (cM_has Z _ _ _) kM_96 rfl (Nat.le_of_ble_eq_true rfl) (by decide) (by decide) ?_
              refine V_bif_ne (pc := 87) (tgt := 93) dX11_mix_87 (by decide) (fun h87 => ?_) (fun h87 => ?_)
              · skip
                refine V_aload_n (pc := 93) dX11_mix_93 1 rfl rfl ?_
                refine V_iload (pc := 94) dX11_mix_94 0 rfl ?_
                refine V_iload_n (pc := 96) dX11_mix_96 4 rfl rfl ?_
                refine McVv (pc := 97) dX11_mix_97 (cM_tells Z _ _ _ (by exact vp_in_nI (by omega) (by decide)) (by exact hn4)) kM_153 rfl rfl (Nat.le_of_ble_eq_true rfl) (by decide) (by decide) ?_
                refine V_eqS (mTells (mxS S e_ n_ jm) jm n_ n_.toNatClampNeg) (by rw [nI_clamp (by omega)]) ?_
                refine V_iconst (v := 0) (pc := 100) dX11_mix_100 (by decide) ?_
                refine V_istore (pc := 101) (L2 := [(5, .int (nI jm)), (0, .ref (Z.2.2.2 99)), (1, .int a_), (2, .int e_), (3, .int n_), (4, .int i_)]) dX11_mix_101 (by decide) rfl (fun x6_101 ex6_101 => ?_)
                subst ex6_101
                refine V_eqS _ (mA_self (mTells (mxS S e_ n_ jm) jm n_ n_.toNatClampNeg) 13) ?_
                refine V_sub (L' := [(6, .int (nI 0)), (5, .int (nI jm)), (0, .ref (Z.2.2.2 99)), (1, .int a_), (2, .int e_), (3, .int n_), (4, .int i_)]) [0, 1, 2, 3, 4, 5, 6] rfl ?_
                refine Vloop (σ := Nat) (fun x => x ≤ n_.toNatClampNeg) (fun x => n_.toNatClampNeg - x) (fun x => V MW Z cX11_mix RX11 8 (some .int) 4 0 0 B 0 0 103 [(6, .int (nI x)), (5, .int (nI jm)), (0, .ref (Z.2.2.2 99)), (1, .int a_), (2, .int e_), (3, .int n_), (4, .int i_)] [] (mA (mTells (mxS S e_ n_ jm) jm n_ n_.toNatClampNeg) 13 (smA (mTells (mxS S e_ n_ jm) jm n_ n_.toNatClampNeg) x))) ?_ 0 (by exact Nat.zero_le _)
                rintro j hI103 ih103
                have hI103 : j ≤ n_.toNatClampNeg := hI103
                show V MW Z cX11_mix RX11 8 (some .int) 4 0 0 B 0 0 103 [(6, .int (nI j)), (5, .int (nI jm)), (0, .ref (Z.2.2.2 99)), (1, .int a_), (2, .int e_), (3, .int n_), (4, .int i_)] [] (mA (mTells (mxS S e_ n_ jm) jm n_ n_.toNatClampNeg) 13 (smA (mTells (mxS S e_ n_ jm) jm n_ n_.toNatClampNeg) j))
                refine V_iload (pc := 103) dX11_mix_103 0 rfl ?_
                refine V_iload_n (pc := 105) dX11_mix_105 5 rfl rfl ?_
                refine V_icmp_ge (pc := 106) (tgt := 132) dX11_mix_106 (by decide) (fun h106 => ?_) (fun h106 => ?_)
                · skip
                  have hj : n_.toNatClampNeg ≤ j := jge h106 (by omega)
                  have ej : j = n_.toNatClampNeg := Nat.le_antisymm hI103 hj
                  refine V_eqS ((mxS S e_ n_ (jm + 1))) (by rw [ej]; exact (if_pos h87).symm) ?_
                  refine V_iinc (pc := 132) (v := 1) (L2 := [(6, .int (nI j)), (0, .ref (Z.2.2.2 99)), (1, .int a_), (2, .int e_), (3, .int n_), (4, .int i_)]) dX11_mix_132 1 rfl (by decide) (by decide) rfl (fun x5_132 ex5_132 => ?_)
                  rw [nI_1] at ex5_132
                  subst ex5_132
                  refine V_goto (pc := 135) (tgt := 72) dX11_mix_135 (by decide) ?_
                  refine V_sub (L' := [(5, .int (nI (jm + 1))), (0, .ref (Z.2.2.2 99)), (1, .int a_), (2, .int e_), (3, .int n_), (4, .int i_)]) [0, 2, 3, 4, 5, 6] rfl ?_
                  refine ih72 ((jm + 1)) ?_ ?_
                  · show ((jm + 1)) ≤ (S.1 0).toNatClampNeg
                    exact hjm
                  · show (S.1 0).toNatClampNeg - (jm + 1) < (S.1 0).toNatClampNeg - jm
                    omega
                · skip
                  have hj : j < n_.toNatClampNeg := jlt h106 (by omega)
                  refine V_aload_n (pc := 109) dX11_mix_109 2 rfl rfl ?_
                  refine Mg_sums (pc := 110) dX11_mix_110 ?_
                  refine V_iload (pc := 113) dX11_mix_113 0 rfl ?_
                  refine V_dup2_11 (pc := 115) dX11_mix_115 rfl rfl ?_
                  refine Ml_sums (pc := 116) dX11_mix_116 (by exact vp_in_nI (by omega) (by decide)) ?_
                  refine V_aload_n (pc := 117) dX11_mix_117 2 rfl rfl ?_
                  refine Mg_row (pc := 118) dX11_mix_118 ?_
                  refine V_iload (pc := 121) dX11_mix_121 0 rfl ?_
                  refine Ml_row (pc := 123) dX11_mix_123 (by exact vp_in_nI (by omega) (by decide)) ?_
                  refine V_iadd (pc := 124) dX11_mix_124 ?_
                  refine Ms_sums (pc := 125) dX11_mix_125 (by exact vp_in_nI (by omega) (by decide)) ?_
                  refine V_eqS (mA (mTells (mxS S e_ n_ jm) jm n_ n_.toNatClampNeg) 13 (smA (mTells (mxS S e_ n_ jm) jm n_ n_.toNatClampNeg) (j + 1))) (by
                      refine (mA_mA _ 13 _ _).trans ?_
                      rw [nI_clamp (by omega)]
                      rfl) ?_
                  refine V_iinc (pc := 126) (v := 1) (L2 := [(5, .int (nI jm)), (0, .ref (Z.2.2.2 99)), (1, .int a_), (2, .int e_), (3, .int n_), (4, .int i_)]) dX11_mix_126 0 rfl (by decide) (by decide) rfl (fun x6_126 ex6_126 => ?_)
                  rw [nI_1] at ex6_126
                  subst ex6_126
                  refine V_goto (pc := 129) (tgt := 103) dX11_mix_129 (by decide) ?_
                  refine V_sub (L' := [(6, .int (nI (j + 1))), (5, .int (nI jm)), (0, .ref (Z.2.2.2 99)), (1, .int a_), (2, .int e_), (3, .int n_), (4, .int i_)]) [0, 1, 2, 3, 4, 5, 6] rfl ?_
                  refine ih103 ((j + 1)) ?_ ?_
                  · show ((j + 1)) ≤ n_.toNatClampNeg
                    exact hj
                  · show n_.toNatClampNeg - (j + 1) < n_.toNatClampNeg - j
                    omega
              · skip
                refine V_eqS ((mxS S e_ n_ (jm + 1))) (if_neg h87).symm ?_
                refine V_goto (pc := 90) (tgt := 132) dX11_mix_90 (by decide) ?_
                refine V_iinc (pc := 132) (v := 1) (L2 := [(0, .ref (Z.2.2.2 99)), (1, .int a_), (2, .int e_), (3, .int n_), (4, .int i_)]) dX11_mix_132 0 rfl (by decide) (by decide) rfl (fun x5_132 ex5_132 => ?_)
                rw [nI_1] at ex5_132
                subst ex5_132
                refine V_goto (pc := 135) (tgt := 72) dX11_mix_135 (by decide) ?_
                refine V_sub (L' := [(5, .int (nI (jm + 1))), (0, .ref (Z.2.2.2 99)), (1, .int a_), (2, .int e_), (3, .int n_), (4, .int i_)]) [0, 1, 2, 3, 4, 5] rfl ?_
                refine ih72 ((jm + 1)) ?_ ?_
                · show ((jm + 1)) ≤ (S.1 0).toNatClampNeg
                  exact hjm
                · show (S.1 0).toNatClampNeg - (jm + 1) < (S.1 0).toNatClampNeg - jm
                  omega
          · skip
            have hj : j < n_.toNatClampNeg := jlt h52 (by omega)
            refine V_aload_n (pc := 55) dX11_mix_55 1 rfl rfl ?_
            refine Mg_sums (pc := 56) dX11_mix_56 ?_
            refine V_iload (pc := 59) dX11_mix_59 0 rfl ?_
            refine V_iconst (v := 0) (pc := 61) dX11_mix_61 (by decide) ?_
            refine Ms_sums (pc := 62) dX11_mix_62 (by exact vp_in_nI (by omega) (by decide)) ?_
            refine V_eqS (mA S 13 (smZ S (j + 1))) (by
                refine (mA_mA _ 13 _ _).trans ?_
                rw [nI_clamp (by omega)]
                rfl) ?_
            refine V_iinc (pc := 63) (v := 1) (L2 := [(0, .ref (Z.2.2.2 99)), (1, .int a_), (2, .int e_), (3, .int n_), (4, .int i_)]) dX11_mix_63 0 rfl (by decide) (by decide) rfl (fun x5_63 ex5_63 => ?_)
            rw [nI_1] at ex5_63
            subst ex5_63
            refine V_goto (pc := 66) (tgt := 49) dX11_mix_66 (by decide) ?_
            refine V_sub (L' := [(5, .int (nI (j + 1))), (0, .ref (Z.2.2.2 99)), (1, .int a_), (2, .int e_), (3, .int n_), (4, .int i_)]) [0, 1, 2, 3, 4, 5] rfl ?_
            refine ih49 ((j + 1)) ?_ ?_
            · show ((j + 1)) ≤ n_.toNatClampNeg
              exact hj
            · show n_.toNatClampNeg - (j + 1) < n_.toNatClampNeg - j
              omega
        · skip
          refine V_bipush (v := (-2)) (pc := 43) dX11_mix_43 (by decide) ?_
          exact V_iret (pc := 45) dX11_mix_45 (Nat.le_of_ble_eq_true rfl) (Nat.le_of_ble_eq_true rfl) (hB _ _ ⟨congrArg (fun z => some (Value.int z)) (by exact (if_neg (fun h => h40 h.2.2.2)).symm), by exact (if_neg (fun h => h40 h.2.2.2)).symm⟩)
set_option maxHeartbeats 4000000 in
set_option maxRecDepth 100000 in
theorem cM_feed (Z : VZ) (S : MS) (n_ : Int32) (a_ : Int32) (b_ : Int32) (c_ : Int32) (d_ : Int32) (e_ : Int32) (ht : tOK S) : CtF MW Z yX11_feed cX11_feed 8 (some .int) 1 0 0 [.ref (Z.2.2.2 99), .int n_, .int a_, .int b_, .int c_, .int d_, .int e_] (S) (some (.int (if ((1 ≤ n_ ∧ n_ ≤ 5) ∧ (0 ≤ a_ ∧ a_ ≤ 255) ∧ (0 ≤ b_ ∧ b_ ≤ 255) ∧ (0 ≤ c_ ∧ c_ ≤ 255) ∧ (0 ≤ d_ ∧ d_ ≤ 255) ∧ (0 ≤ e_ ∧ e_ ≤ 255)) then (if S.1 21 + n_ ≤ 60 then S.1 21 + n_ else -4) else -2))) (if ((1 ≤ n_ ∧ n_ ≤ 5) ∧ (0 ≤ a_ ∧ a_ ≤ 255) ∧ (0 ≤ b_ ∧ b_ ≤ 255) ∧ (0 ≤ c_ ∧ c_ ≤ 255) ∧ (0 ≤ d_ ∧ d_ ≤ 255) ∧ (0 ≤ e_ ∧ e_ ≤ 255)) ∧ S.1 21 + n_ ≤ 60 then mF (mA S 20 (fdT S (S.1 21).toNatClampNeg a_ b_ c_ d_ e_ n_.toNatClampNeg)) 21 (S.1 21 + n_) else S) := by
  refine V_entry (own := RX11) (by decide) rfl (Nat.le_of_ble_eq_true rfl) ?_
  intro B hB
  refine V_sub (L' := [(0, .ref (Z.2.2.2 99)), (1, .int n_), (2, .int a_), (3, .int b_), (4, .int c_), (5, .int d_), (6, .int e_)]) [0, 1, 2, 3, 4, 5, 6] rfl ?_
  refine V_iload_n (pc := 0) dX11_feed_0 1 rfl rfl ?_
  refine V_iconst (v := 1) (pc := 1) dX11_feed_1 (by decide) ?_
  refine V_iconst (v := 5) (pc := 2) dX11_feed_2 (by decide) ?_
  refine McSi (pc := 3) dX11_feed_3 (cM_in Z _ _ _ _) kM_70 rfl (Nat.le_of_ble_eq_true rfl) (by decide) (by decide) ?_
  refine V_bif_eq (pc := 6) (tgt := 67) dX11_feed_6 (by decide) (fun h6 => ?_) (fun h6 => ?_)
  · skip
    refine V_bipush (v := (-2)) (pc := 67) dX11_feed_67 (by decide) ?_
    exact V_iret (pc := 69) dX11_feed_69 (Nat.le_of_ble_eq_true rfl) (Nat.le_of_ble_eq_true rfl) (hB _ _ ⟨congrArg (fun z => some (Value.int z)) (by exact (if_neg (fun h => h6 h.1)).symm), by exact (if_neg (fun h => h6 h.1.1)).symm⟩)
  · skip
    refine V_iload_n (pc := 9) dX11_feed_9 2 rfl rfl ?_
    refine V_iconst (v := 0) (pc := 10) dX11_feed_10 (by decide) ?_
    refine V_sipush (v := 255) (pc := 11) dX11_feed_11 (by decide) ?_
    refine McSi (pc := 14) dX11_feed_14 (cM_in Z _ _ _ _) kM_70 rfl (Nat.le_of_ble_eq_true rfl) (by decide) (by decide) ?_
    refine V_bif_eq (pc := 17) (tgt := 67) dX11_feed_17 (by decide) (fun h17 => ?_) (fun h17 => ?_)
    · skip
      refine V_bipush (v := (-2)) (pc := 67) dX11_feed_67 (by decide) ?_
      exact V_iret (pc := 69) dX11_feed_69 (Nat.le_of_ble_eq_true rfl) (Nat.le_of_ble_eq_true rfl) (hB _ _ ⟨congrArg (fun z => some (Value.int z)) (by exact (if_neg (fun h => h17 h.2.1)).symm), by exact (if_neg (fun h => h17 h.1.2.1)).symm⟩)
    · skip
      refine V_iload_n (pc := 20) dX11_feed_20 3 rfl rfl ?_
      refine V_iconst (v := 0) (pc := 21) dX11_feed_21 (by decide) ?_
      refine V_sipush (v := 255) (pc := 22) dX11_feed_22 (by decide) ?_
      refine McSi (pc := 25) dX11_feed_25 (cM_in Z _ _ _ _) kM_70 rfl (Nat.le_of_ble_eq_true rfl) (by decide) (by decide) ?_
      refine V_bif_eq (pc := 28) (tgt := 67) dX11_feed_28 (by decide) (fun h28 => ?_) (fun h28 => ?_)
      · skip
        refine V_bipush (v := (-2)) (pc := 67) dX11_feed_67 (by decide) ?_
        exact V_iret (pc := 69) dX11_feed_69 (Nat.le_of_ble_eq_true rfl) (Nat.le_of_ble_eq_true rfl) (hB _ _ ⟨congrArg (fun z => some (Value.int z)) (by exact (if_neg (fun h => h28 h.2.2.1)).symm), by exact (if_neg (fun h => h28 h.1.2.2.1)).symm⟩)
      · skip
        refine V_iload (pc := 31) dX11_feed_31 4 rfl ?_
        refine V_iconst (v := 0) (pc := 33) dX11_feed_33 (by decide) ?_
        refine V_sipush (v := 255) (pc := 34) dX11_feed_34 (by decide) ?_
        refine McSi (pc := 37) dX11_feed_37 (cM_in Z _ _ _ _) kM_70 rfl (Nat.le_of_ble_eq_true rfl) (by decide) (by decide) ?_
        refine V_bif_eq (pc := 40) (tgt := 67) dX11_feed_40 (by decide) (fun h40 => ?_) (fun h40 => ?_)
        · skip
          refine V_bipush (v := (-2)) (pc := 67) dX11_feed_67 (by decide) ?_
          exact V_iret (pc := 69) dX11_feed_69 (Nat.le_of_ble_eq_true rfl) (Nat.le_of_ble_eq_true rfl) (hB _ _ ⟨congrArg (fun z => some (Value.int z)) (by exact (if_neg (fun h => h40 h.2.2.2.1)).symm), by exact (if_neg (fun h => h40 h.1.2.2.2.1)).symm⟩)
        · skip
          refine V_iload (pc := 43) dX11_feed_43 5 rfl ?_
          refine V_iconst (v := 0) (pc := 45) dX11_feed_45 (by decide) ?_
          refine V_sipush (v := 255) (pc := 46) dX11_feed_46 (by decide) ?_
          refine McSi (pc := 49) dX11_feed_49 (cM_in Z _ _ _ _) kM_70 rfl (Nat.le_of_ble_eq_true rfl) (by decide) (by decide) ?_
          refine V_bif_eq (pc := 52) (tgt := 67) dX11_feed_52 (by decide) (fun h52 => ?_) (fun h52 => ?_)
          · skip
            refine V_bipush (v := (-2)) (pc := 67) dX11_feed_67 (by decide) ?_
            exact V_iret (pc := 69) dX11_feed_69 (Nat.le_of_ble_eq_true rfl) (Nat.le_of_ble_eq_true rfl) (hB _ _ ⟨congrArg (fun z => some (Value.int z)) (by exact (if_neg (fun h => h52 h.2.2.2.2.1)).symm), by exact (if_neg (fun h => h52 h.1.2.2.2.2.1)).symm⟩)
          · skip
            refine V_iload (pc := 55) dX11_feed_55 6 rfl ?_
            refine V_iconst (v := 0) (pc := 57) dX11_feed_57 (by decide) ?_
            refine V_sipush (v := 255) (pc := 58) dX11_feed_58 (by decide) ?_
            refine McSi (pc := 61) dX11_feed_61 (cM_in Z _ _ _ _) kM_70 rfl (Nat.le_of_ble_eq_true rfl) (by decide) (by decide) ?_
            refine V_bif_ne (pc := 64) (tgt := 70) dX11_feed_64 (by decide) (fun h64 => ?_) (fun h64 => ?_)
            · skip
              refine V_aload_n (pc := 70) dX11_feed_70 0 rfl rfl ?_
              refine Mg_taped (pc := 71) (v := (S.1 21)) rfl dX11_feed_71 ?_
              refine V_iload_n (pc := 74) dX11_feed_74 1 rfl rfl ?_
              refine V_iadd (pc := 75) dX11_feed_75 ?_
              refine V_bipush (v := 60) (pc := 76) dX11_feed_76 (by decide) ?_
              refine V_icmp_le (pc := 78) (tgt := 84) dX11_feed_78 (by decide) (fun h78 => ?_) (fun h78 => ?_)
              · skip
                refine V_iconst (v := 0) (pc := 84) dX11_feed_84 (by decide) ?_
                refine V_istore (pc := 85) (L2 := [(0, .ref (Z.2.2.2 99)), (1, .int n_), (2, .int a_), (3, .int b_), (4, .int c_), (5, .int d_), (6, .int e_)]) dX11_feed_85 (by decide) rfl (fun x7_85 ex7_85 => ?_)
                subst ex7_85
                obtain ⟨tp_, htp, etp⟩ := ht
                obtain ⟨en5, hn5⟩ := in5 h6
                have etp2 : (S.1 21).toNatClampNeg = tp_ := by rw [etp, nI_clamp (by omega)]
                have hsum : tp_ + n_.toNatClampNeg ≤ 60 := by
                  rw [etp, en5, nI_add] at h78
                  exact (nI_leI (b := 60) (by omega) (by decide)).mp h78
                refine V_eqS _ (mA_self S 20) ?_
                refine V_sub (L' := [(7, .int (nI 0)), (0, .ref (Z.2.2.2 99)), (1, .int n_), (2, .int a_), (3, .int b_), (4, .int c_), (5, .int d_), (6, .int e_)]) [0, 1, 2, 3, 4, 5, 6, 7] rfl ?_
                refine Vloop (σ := Nat) (fun x => x ≤ n_.toNatClampNeg) (fun x => n_.toNatClampNeg - x) (fun x => V MW Z cX11_feed RX11 8 (some .int) 1 0 0 B 0 0 87 [(7, .int (nI x)), (0, .ref (Z.2.2.2 99)), (1, .int n_), (2, .int a_), (3, .int b_), (4, .int c_), (5, .int d_), (6, .int e_)] [] (mA S 20 (fdT S (S.1 21).toNatClampNeg a_ b_ c_ d_ e_ x))) ?_ 0 (by exact Nat.zero_le _)
                rintro j hI87 ih87
                have hI87 : j ≤ n_.toNatClampNeg := hI87
                show V MW Z cX11_feed RX11 8 (some .int) 1 0 0 B 0 0 87 [(7, .int (nI j)), (0, .ref (Z.2.2.2 99)), (1, .int n_), (2, .int a_), (3, .int b_), (4, .int c_), (5, .int d_), (6, .int e_)] [] (mA S 20 (fdT S (S.1 21).toNatClampNeg a_ b_ c_ d_ e_ j))
                refine V_iload (pc := 87) dX11_feed_87 0 rfl ?_
                refine V_iload_n (pc := 89) dX11_feed_89 2 rfl rfl ?_
                refine V_icmp_ge (pc := 90) (tgt := 154) dX11_feed_90 (by decide) (fun h90 => ?_) (fun h90 => ?_)
                · skip
                  have hj : n_.toNatClampNeg ≤ j := jge h90 (by omega)
                  have ej : j = n_.toNatClampNeg := Nat.le_antisymm hI87 hj
                  refine V_aload_n (pc := 154) dX11_feed_154 1 rfl rfl ?_
                  refine V_dup (pc := 155) dX11_feed_155 rfl ?_
                  refine Mg_taped (pc := 156) (v := (S.1 21)) rfl dX11_feed_156 ?_
                  refine V_iload_n (pc := 159) dX11_feed_159 2 rfl rfl ?_
                  refine V_iadd (pc := 160) dX11_feed_160 ?_
                  refine Mp_taped (pc := 161) dX11_feed_161 ?_
                  refine V_aload_n (pc := 164) dX11_feed_164 1 rfl rfl ?_
                  refine Mg_taped (pc := 165) (v := ((S.1 21) + n_)) rfl dX11_feed_165 ?_
                  exact V_iret (pc := 168) dX11_feed_168 (Nat.le_of_ble_eq_true rfl) (Nat.le_of_ble_eq_true rfl) (hB _ _ ⟨congrArg (fun z => some (Value.int z)) (by rw [if_pos ⟨h6, h17, h28, h40, h52, h64⟩, if_pos h78]), by rw [if_pos ⟨⟨h6, h17, h28, h40, h52, h64⟩, h78⟩, ej]⟩)
                · skip
                  have hj : j < n_.toNatClampNeg := jlt h90 (by omega)
                  refine V_aload_n (pc := 93) dX11_feed_93 1 rfl rfl ?_
                  refine Mg_tape (pc := 94) dX11_feed_94 ?_
                  refine V_aload_n (pc := 97) dX11_feed_97 1 rfl rfl ?_
                  refine Mg_taped (pc := 98) (v := (S.1 21)) rfl dX11_feed_98 ?_
                  refine V_iload (pc := 101) dX11_feed_101 0 rfl ?_
                  refine V_iadd (pc := 103) dX11_feed_103 ?_
                  refine V_iload (pc := 104) dX11_feed_104 0 rfl ?_
                  refine V_if_ne (pc := 106) (tgt := 113) dX11_feed_106 (by decide) (fun h106 => ?_) (fun h106 => ?_)
                  · skip
                    refine V_iload (pc := 113) dX11_feed_113 0 rfl ?_
                    refine V_iconst (v := 1) (pc := 115) dX11_feed_115 (by decide) ?_
                    refine V_icmp_ne (pc := 116) (tgt := 123) dX11_feed_116 (by decide) (fun h116 => ?_) (fun h116 => ?_)
                    · skip
                      refine V_iload (pc := 123) dX11_feed_123 0 rfl ?_
                      refine V_iconst (v := 2) (pc := 125) dX11_feed_125 (by decide) ?_
                      refine V_icmp_ne (pc := 126) (tgt := 134) dX11_feed_126 (by decide) (fun h126 => ?_) (fun h126 => ?_)
                      · skip
                        refine V_iload (pc := 134) dX11_feed_134 0 rfl ?_
                        refine V_iconst (v := 3) (pc := 136) dX11_feed_136 (by decide) ?_
                        refine V_icmp_ne (pc := 137) (tgt := 145) dX11_feed_137 (by decide) (fun h137 => ?_) (fun h137 => ?_)
                        · skip
                          refine V_iload (pc := 145) dX11_feed_145 7 rfl ?_
                          refine Ms_tape (pc := 147) dX11_feed_147 (by rw [etp, nI_add]; exact vp_in_nI (by omega) (by decide)) ?_
                          refine V_eqS (mA S 20 (fdT S (S.1 21).toNatClampNeg a_ b_ c_ d_ e_ (j + 1))) (by
                              refine (mA_mA _ 20 _ _).trans ?_
                              rw [show (S.1 21 + nI j).toNatClampNeg = (S.1 21).toNatClampNeg + j by rw [etp2, etp, nI_add, nI_clamp (by omega)]]
                              show _ = mA S 20 (upd (fdT S (S.1 21).toNatClampNeg a_ b_ c_ d_ e_ j) ((S.1 21).toNatClampNeg + j) (fdV a_ b_ c_ d_ e_ j))
                              simp [fdV, *]
                              try rfl) ?_
                          refine V_iinc (pc := 148) (v := 1) (L2 := [(0, .ref (Z.2.2.2 99)), (1, .int n_), (2, .int a_), (3, .int b_), (4, .int c_), (5, .int d_), (6, .int e_)]) dX11_feed_148 0 rfl (by decide) (by decide) rfl (fun x7_148 ex7_148 => ?_)
                          rw [nI_1] at ex7_148
                          subst ex7_148
                          refine V_goto (pc := 151) (tgt := 87) dX11_feed_151 (by decide) ?_
                          refine V_sub (L' := [(7, .int (nI (j + 1))), (0, .ref (Z.2.2.2 99)), (1, .int n_), (2, .int a_), (3, .int b_), (4, .int c_), (5, .int d_), (6, .int e_)]) [0, 1, 2, 3, 4, 5, 6, 7] rfl ?_
                          refine ih87 ((j + 1)) ?_ ?_
                          · show ((j + 1)) ≤ n_.toNatClampNeg
                            exact hj
                          · show n_.toNatClampNeg - (j + 1) < n_.toNatClampNeg - j
                            omega
                        · skip
                          refine V_iload (pc := 140) dX11_feed_140 6 rfl ?_
                          refine V_goto (pc := 142) (tgt := 147) dX11_feed_142 (by decide) ?_
                          refine Ms_tape (pc := 147) dX11_feed_147 (by rw [etp, nI_add]; exact vp_in_nI (by omega) (by decide)) ?_
                          refine V_eqS (mA S 20 (fdT S (S.1 21).toNatClampNeg a_ b_ c_ d_ e_ (j + 1))) (by
                              refine (mA_mA _ 20 _ _).trans ?_
                              rw [show (S.1 21 + nI j).toNatClampNeg = (S.1 21).toNatClampNeg + j by rw [etp2, etp, nI_add, nI_clamp (by omega)]]
                              show _ = mA S 20 (upd (fdT S (S.1 21).toNatClampNeg a_ b_ c_ d_ e_ j) ((S.1 21).toNatClampNeg + j) (fdV a_ b_ c_ d_ e_ j))
                              simp [fdV, *]
                              try rfl) ?_
                          refine V_iinc (pc := 148) (v := 1) (L2 := [(0, .ref (Z.2.2.2 99)), (1, .int n_), (2, .int a_), (3, .int b_), (4, .int c_), (5, .int d_), (6, .int e_)]) dX11_feed_148 0 rfl (by decide) (by decide) rfl (fun x7_148 ex7_148 => ?_)
                          rw [nI_1] at ex7_148
                          subst ex7_148
                          refine V_goto (pc := 151) (tgt := 87) dX11_feed_151 (by decide) ?_
                          refine V_sub (L' := [(7, .int (nI (j + 1))), (0, .ref (Z.2.2.2 99)), (1, .int n_), (2, .int a_), (3, .int b_), (4, .int c_), (5, .int d_), (6, .int e_)]) [0, 1, 2, 3, 4, 5, 6, 7] rfl ?_
                          refine ih87 ((j + 1)) ?_ ?_
                          · show ((j + 1)) ≤ n_.toNatClampNeg
                            exact hj
                          · show n_.toNatClampNeg - (j + 1) < n_.toNatClampNeg - j
                            omega
                      · skip
                        refine V_iload (pc := 129) dX11_feed_129 5 rfl ?_
                        refine V_goto (pc := 131) (tgt := 147) dX11_feed_131 (by decide) ?_
                        refine Ms_tape (pc := 147) dX11_feed_147 (by rw [etp, nI_add]; exact vp_in_nI (by omega) (by decide)) ?_
                        refine V_eqS (mA S 20 (fdT S (S.1 21).toNatClampNeg a_ b_ c_ d_ e_ (j + 1))) (by
                            refine (mA_mA _ 20 _ _).trans ?_
                            rw [show (S.1 21 + nI j).toNatClampNeg = (S.1 21).toNatClampNeg + j by rw [etp2, etp, nI_add, nI_clamp (by omega)]]
                            show _ = mA S 20 (upd (fdT S (S.1 21).toNatClampNeg a_ b_ c_ d_ e_ j) ((S.1 21).toNatClampNeg + j) (fdV a_ b_ c_ d_ e_ j))
                            simp [fdV, *]
                            try rfl) ?_
                        refine V_iinc (pc := 148) (v := 1) (L2 := [(0, .ref (Z.2.2.2 99)), (1, .int n_), (2, .int a_), (3, .int b_), (4, .int c_), (5, .int d_), (6, .int e_)]) dX11_feed_148 0 rfl (by decide) (by decide) rfl (fun x7_148 ex7_148 => ?_)
                        rw [nI_1] at ex7_148
                        subst ex7_148
                        refine V_goto (pc := 151) (tgt := 87) dX11_feed_151 (by decide) ?_
                        refine V_sub (L' := [(7, .int (nI (j + 1))), (0, .ref (Z.2.2.2 99)), (1, .int n_), (2, .int a_), (3, .int b_), (4, .int c_), (5, .int d_), (6, .int e_)]) [0, 1, 2, 3, 4, 5, 6, 7] rfl ?_
                        refine ih87 ((j + 1)) ?_ ?_
                        · show ((j + 1)) ≤ n_.toNatClampNeg
                          exact hj
                        · show n_.toNatClampNeg - (j + 1) < n_.toNatClampNeg - j
                          omega
                    · skip
                      refine V_iload_n (pc := 119) dX11_feed_119 4 rfl rfl ?_
                      refine V_goto (pc := 120) (tgt := 147) dX11_feed_120 (by decide) ?_
                      refine Ms_tape (pc := 147) dX11_feed_147 (by rw [etp, nI_add]; exact vp_in_nI (by omega) (by decide)) ?_
                      refine V_eqS (mA S 20 (fdT S (S.1 21).toNatClampNeg a_ b_ c_ d_ e_ (j + 1))) (by
                          refine (mA_mA _ 20 _ _).trans ?_
                          rw [show (S.1 21 + nI j).toNatClampNeg = (S.1 21).toNatClampNeg + j by rw [etp2, etp, nI_add, nI_clamp (by omega)]]
                          show _ = mA S 20 (upd (fdT S (S.1 21).toNatClampNeg a_ b_ c_ d_ e_ j) ((S.1 21).toNatClampNeg + j) (fdV a_ b_ c_ d_ e_ j))
                          simp [fdV, *]
                          try rfl) ?_
                      refine V_iinc (pc := 148) (v := 1) (L2 := [(0, .ref (Z.2.2.2 99)), (1, .int n_), (2, .int a_), (3, .int b_), (4, .int c_), (5, .int d_), (6, .int e_)]) dX11_feed_148 0 rfl (by decide) (by decide) rfl (fun x7_148 ex7_148 => ?_)
                      rw [nI_1] at ex7_148
                      subst ex7_148
                      refine V_goto (pc := 151) (tgt := 87) dX11_feed_151 (by decide) ?_
                      refine V_sub (L' := [(7, .int (nI (j + 1))), (0, .ref (Z.2.2.2 99)), (1, .int n_), (2, .int a_), (3, .int b_), (4, .int c_), (5, .int d_), (6, .int e_)]) [0, 1, 2, 3, 4, 5, 6, 7] rfl ?_
                      refine ih87 ((j + 1)) ?_ ?_
                      · show ((j + 1)) ≤ n_.toNatClampNeg
                        exact hj
                      · show n_.toNatClampNeg - (j + 1) < n_.toNatClampNeg - j
                        omega
                  · skip
                    refine V_iload_n (pc := 109) dX11_feed_109 3 rfl rfl ?_
                    refine V_goto (pc := 110) (tgt := 147) dX11_feed_110 (by decide) ?_
                    refine Ms_tape (pc := 147) dX11_feed_147 (by rw [etp, nI_add]; exact vp_in_nI (by omega) (by decide)) ?_
                    refine V_eqS (mA S 20 (fdT S (S.1 21).toNatClampNeg a_ b_ c_ d_ e_ (j + 1))) (by
                        refine (mA_mA _ 20 _ _).trans ?_
                        rw [show (S.1 21 + nI j).toNatClampNeg = (S.1 21).toNatClampNeg + j by rw [etp2, etp, nI_add, nI_clamp (by omega)]]
                        show _ = mA S 20 (upd (fdT S (S.1 21).toNatClampNeg a_ b_ c_ d_ e_ j) ((S.1 21).toNatClampNeg + j) (fdV a_ b_ c_ d_ e_ j))
                        simp [fdV, *]
                        try rfl) ?_
                    refine V_iinc (pc := 148) (v := 1) (L2 := [(0, .ref (Z.2.2.2 99)), (1, .int n_), (2, .int a_), (3, .int b_), (4, .int c_), (5, .int d_), (6, .int e_)]) dX11_feed_148 0 rfl (by decide) (by decide) rfl (fun x7_148 ex7_148 => ?_)
                    rw [nI_1] at ex7_148
                    subst ex7_148
                    refine V_goto (pc := 151) (tgt := 87) dX11_feed_151 (by decide) ?_
                    refine V_sub (L' := [(7, .int (nI (j + 1))), (0, .ref (Z.2.2.2 99)), (1, .int n_), (2, .int a_), (3, .int b_), (4, .int c_), (5, .int d_), (6, .int e_)]) [0, 1, 2, 3, 4, 5, 6, 7] rfl ?_
                    refine ih87 ((j + 1)) ?_ ?_
                    · show ((j + 1)) ≤ n_.toNatClampNeg
                      exact hj
                    · show n_.toNatClampNeg - (j + 1) < n_.toNatClampNeg - j
                      omega
              · skip
                refine V_bipush (v := (-4)) (pc := 81) dX11_feed_81 (by decide) ?_
                exact V_iret (pc := 83) dX11_feed_83 (Nat.le_of_ble_eq_true rfl) (Nat.le_of_ble_eq_true rfl) (hB _ _ ⟨congrArg (fun z => some (Value.int z)) (by rw [if_pos ⟨h6, h17, h28, h40, h52, h64⟩, if_neg h78]), by exact (if_neg (fun h => h78 h.2)).symm⟩)
            · skip
              refine V_bipush (v := (-2)) (pc := 67) dX11_feed_67 (by decide) ?_
              exact V_iret (pc := 69) dX11_feed_69 (Nat.le_of_ble_eq_true rfl) (Nat.le_of_ble_eq_true rfl) (hB _ _ ⟨congrArg (fun z => some (Value.int z)) (by exact (if_neg (fun h => h64 h.2.2.2.2.2)).symm), by exact (if_neg (fun h => h64 h.1.2.2.2.2.2)).symm⟩)
set_option maxHeartbeats 4000000 in
set_option maxRecDepth 100000 in
theorem cM_copy (Z : VZ) (S : MS) (a_ : Int32) (i_ : Int32) (b_ : Int32) (j_ : Int32) (n_ : Int32) (hs : sOK2 S) : CtF MW Z yX11_copy cX11_copy 6 (some .int) 2 0 0 [.ref (Z.2.2.2 99), .int a_, .int i_, .int b_, .int j_, .int n_] (S) (some (.int (if ((0 ≤ a_ ∧ a_ ≤ 3) ∧ (0 ≤ b_ ∧ b_ ≤ 3)) then (if (¬ S.2.2 32 a_.toNatClampNeg < 0 ∧ 0 ≤ S.2.2 32 b_.toNatClampNeg) then (if S.2.2 32 a_.toNatClampNeg = S.2.2 32 b_.toNatClampNeg then (if ((¬ i_ < 0 ∧ ¬ n_ < 0 ∧ ¬ S.2.2 33 a_.toNatClampNeg - n_ < i_) ∧ (¬ j_ < 0 ∧ ¬ n_ < 0 ∧ ¬ S.2.2 33 b_.toNatClampNeg - n_ < j_)) then n_ else -12) else -13) else -11) else -2))) (if ((0 ≤ a_ ∧ a_ ≤ 3) ∧ (0 ≤ b_ ∧ b_ ≤ 3)) ∧ (¬ S.2.2 32 a_.toNatClampNeg < 0 ∧ 0 ≤ S.2.2 32 b_.toNatClampNeg) ∧ S.2.2 32 a_.toNatClampNeg = S.2.2 32 b_.toNatClampNeg ∧ ((¬ i_ < 0 ∧ ¬ n_ < 0 ∧ ¬ S.2.2 33 a_.toNatClampNeg - n_ < i_) ∧ (¬ j_ < 0 ∧ ¬ n_ < 0 ∧ ¬ S.2.2 33 b_.toNatClampNeg - n_ < j_)) then mA S 34 (va_cpy (S.2.2 34) (S.2.2 34) (40 * a_.toNatClampNeg + i_.toNatClampNeg) (40 * b_.toNatClampNeg + j_.toNatClampNeg) n_.toNatClampNeg) else S) := by
  refine V_entry (own := RX11) (by decide) rfl (Nat.le_of_ble_eq_true rfl) ?_
  intro B hB
  refine V_sub (L' := [(0, .ref (Z.2.2.2 99)), (1, .int a_), (2, .int i_), (3, .int b_), (4, .int j_), (5, .int n_)]) [0, 1, 2, 3, 4, 5] rfl ?_
  refine V_iload_n (pc := 0) dX11_copy_0 1 rfl rfl ?_
  refine McSi (pc := 1) dX11_copy_1 (cM_isSheet Z _ _) kM_150 rfl (Nat.le_of_ble_eq_true rfl) (by decide) (by decide) ?_
  refine V_bif_eq (pc := 4) (tgt := 14) dX11_copy_4 (by decide) (fun h4 => ?_) (fun h4 => ?_)
  · skip
    refine V_bipush (v := (-2)) (pc := 14) dX11_copy_14 (by decide) ?_
    exact V_iret (pc := 16) dX11_copy_16 (Nat.le_of_ble_eq_true rfl) (Nat.le_of_ble_eq_true rfl) (hB _ _ ⟨congrArg (fun z => some (Value.int z)) (by exact (if_neg (fun h => h4 h.1)).symm), by exact (if_neg (fun h => h4 h.1.1)).symm⟩)
  · skip
    refine V_iload_n (pc := 7) dX11_copy_7 3 rfl rfl ?_
    refine McSi (pc := 8) dX11_copy_8 (cM_isSheet Z _ _) kM_150 rfl (Nat.le_of_ble_eq_true rfl) (by decide) (by decide) ?_
    refine V_bif_ne (pc := 11) (tgt := 17) dX11_copy_11 (by decide) (fun h11 => ?_) (fun h11 => ?_)
    · skip
      refine V_aload_n (pc := 17) dX11_copy_17 0 rfl rfl ?_
      refine Mg_sorts (pc := 18) dX11_copy_18 ?_
      refine V_iload_n (pc := 21) dX11_copy_21 1 rfl rfl ?_
      refine Ml_sorts (pc := 22) dX11_copy_22 (by exact inSh h4) ?_
      refine V_if_lt (pc := 23) (tgt := 35) dX11_copy_23 (by decide) (fun h23 => ?_) (fun h23 => ?_)
      · skip
        refine V_bipush (v := (-11)) (pc := 35) dX11_copy_35 (by decide) ?_
        exact V_iret (pc := 37) dX11_copy_37 (Nat.le_of_ble_eq_true rfl) (Nat.le_of_ble_eq_true rfl) (hB _ _ ⟨congrArg (fun z => some (Value.int z)) (by rw [if_pos ⟨h4, h11⟩, if_neg (fun h => h.1 h23)]), by exact (if_neg (fun h => h.2.1.1 h23)).symm⟩)
      · skip
        refine V_aload_n (pc := 26) dX11_copy_26 0 rfl rfl ?_
        refine Mg_sorts (pc := 27) dX11_copy_27 ?_
        refine V_iload_n (pc := 30) dX11_copy_30 3 rfl rfl ?_
        refine Ml_sorts (pc := 31) dX11_copy_31 (by exact inSh h11) ?_
        refine V_if_ge (pc := 32) (tgt := 38) dX11_copy_32 (by decide) (fun h32 => ?_) (fun h32 => ?_)
        · skip
          refine V_aload_n (pc := 38) dX11_copy_38 0 rfl rfl ?_
          refine Mg_sorts (pc := 39) dX11_copy_39 ?_
          refine V_iload_n (pc := 42) dX11_copy_42 1 rfl rfl ?_
          refine Ml_sorts (pc := 43) dX11_copy_43 (by exact inSh h4) ?_
          refine V_aload_n (pc := 44) dX11_copy_44 0 rfl rfl ?_
          refine Mg_sorts (pc := 45) dX11_copy_45 ?_
          refine V_iload_n (pc := 48) dX11_copy_48 3 rfl rfl ?_
          refine Ml_sorts (pc := 49) dX11_copy_49 (by exact inSh h11) ?_
          refine V_icmp_eq (pc := 50) (tgt := 56) dX11_copy_50 (by decide) (fun h50 => ?_) (fun h50 => ?_)
          · skip
            refine V_aload_n (pc := 56) dX11_copy_56 0 rfl rfl ?_
            refine V_iload_n (pc := 57) dX11_copy_57 1 rfl rfl ?_
            refine V_iload_n (pc := 58) dX11_copy_58 2 rfl rfl ?_
            refine V_iload (pc := 59) dX11_copy_59 5 rfl ?_
            refine McVi (pc := 61) dX11_copy_61 (cM_isWithin Z _ _ _ _ (by exact inSh h4)) kM_337 rfl rfl (Nat.le_of_ble_eq_true rfl) (by decide) (by decide) ?_
            refine V_bif_eq (pc := 64) (tgt := 79) dX11_copy_64 (by decide) (fun h64 => ?_) (fun h64 => ?_)
            · skip
              refine V_bipush (v := (-12)) (pc := 79) dX11_copy_79 (by decide) ?_
              exact V_iret (pc := 81) dX11_copy_81 (Nat.le_of_ble_eq_true rfl) (Nat.le_of_ble_eq_true rfl) (hB _ _ ⟨congrArg (fun z => some (Value.int z)) (by rw [if_pos ⟨h4, h11⟩, if_pos ⟨h23, h32⟩, if_pos h50, if_neg (fun h => h64 h.1)]), by exact (if_neg (fun h => h64 h.2.2.2.1)).symm⟩)
            · skip
              refine V_aload_n (pc := 67) dX11_copy_67 0 rfl rfl ?_
              refine V_iload_n (pc := 68) dX11_copy_68 3 rfl rfl ?_
              refine V_iload (pc := 69) dX11_copy_69 4 rfl ?_
              refine V_iload (pc := 71) dX11_copy_71 5 rfl ?_
              refine McVi (pc := 73) dX11_copy_73 (cM_isWithin Z _ _ _ _ (by exact inSh h11)) kM_337 rfl rfl (Nat.le_of_ble_eq_true rfl) (by decide) (by decide) ?_
              refine V_bif_ne (pc := 76) (tgt := 82) dX11_copy_76 (by decide) (fun h76 => ?_) (fun h76 => ?_)
              · skip
                have w1 := inW hs (inSh h4) h64
                have w2 := inW hs (inSh h11) h76
                have c1 := cpIx (inSh h4) ⟨w1.1, by omega⟩
                have c2 := cpIx (inSh h11) ⟨w2.1, by omega⟩
                refine V_aload_n (pc := 82) dX11_copy_82 0 rfl rfl ?_
                refine Mg_items (pc := 83) dX11_copy_83 ?_
                refine V_bipush (v := 40) (pc := 86) dX11_copy_86 (by decide) ?_
                refine V_iload_n (pc := 88) dX11_copy_88 1 rfl rfl ?_
                refine V_imul (pc := 89) dX11_copy_89 ?_
                refine V_iload_n (pc := 90) dX11_copy_90 2 rfl rfl ?_
                refine V_iadd (pc := 91) dX11_copy_91 ?_
                refine V_aload_n (pc := 92) dX11_copy_92 0 rfl rfl ?_
                refine Mg_items (pc := 93) dX11_copy_93 ?_
                refine V_bipush (v := 40) (pc := 96) dX11_copy_96 (by decide) ?_
                refine V_iload_n (pc := 98) dX11_copy_98 3 rfl rfl ?_
                refine V_imul (pc := 99) dX11_copy_99 ?_
                refine V_iload (pc := 100) dX11_copy_100 4 rfl ?_
                refine V_iadd (pc := 102) dX11_copy_102 ?_
                refine V_iload (pc := 103) dX11_copy_103 5 rfl ?_
                refine Mcpy_34_34 (pc := 105) dX11_copy_105 (by rw [c1.1]; exact nI_pos (by omega)) (by rw [c2.1]; exact nI_pos (by omega)) (by rw [w1.2.1]; exact nI_pos (by omega)) (by rw [c1.2.1]; omega) (by rw [c2.2.1]; omega) (by decide) (Nat.le_of_ble_eq_true rfl) ?_
                refine V_iload (pc := 108) dX11_copy_108 5 rfl ?_
                exact V_iret (pc := 110) dX11_copy_110 (Nat.le_of_ble_eq_true rfl) (Nat.le_of_ble_eq_true rfl) (hB _ _ ⟨congrArg (fun z => some (Value.int z)) (by rw [if_pos ⟨h4, h11⟩, if_pos ⟨h23, h32⟩, if_pos h50, if_pos ⟨h64, h76⟩]), by rw [if_pos ⟨⟨h4, h11⟩, ⟨h23, h32⟩, h50, h64, h76⟩, c1.2.1, c2.2.1]⟩)
              · skip
                refine V_bipush (v := (-12)) (pc := 79) dX11_copy_79 (by decide) ?_
                exact V_iret (pc := 81) dX11_copy_81 (Nat.le_of_ble_eq_true rfl) (Nat.le_of_ble_eq_true rfl) (hB _ _ ⟨congrArg (fun z => some (Value.int z)) (by rw [if_pos ⟨h4, h11⟩, if_pos ⟨h23, h32⟩, if_pos h50, if_neg (fun h => h76 h.2)]), by exact (if_neg (fun h => h76 h.2.2.2.2)).symm⟩)
          · skip
            refine V_bipush (v := (-13)) (pc := 53) dX11_copy_53 (by decide) ?_
            exact V_iret (pc := 55) dX11_copy_55 (Nat.le_of_ble_eq_true rfl) (Nat.le_of_ble_eq_true rfl) (hB _ _ ⟨congrArg (fun z => some (Value.int z)) (by rw [if_pos ⟨h4, h11⟩, if_pos ⟨h23, h32⟩, if_neg h50]), by exact (if_neg (fun h => h50 h.2.2.1)).symm⟩)
        · skip
          refine V_bipush (v := (-11)) (pc := 35) dX11_copy_35 (by decide) ?_
          exact V_iret (pc := 37) dX11_copy_37 (Nat.le_of_ble_eq_true rfl) (Nat.le_of_ble_eq_true rfl) (hB _ _ ⟨congrArg (fun z => some (Value.int z)) (by rw [if_pos ⟨h4, h11⟩, if_neg (fun h => h32 h.2)]), by exact (if_neg (fun h => h32 h.2.1.2)).symm⟩)
    · skip
      refine V_bipush (v := (-2)) (pc := 14) dX11_copy_14 (by decide) ?_
      exact V_iret (pc := 16) dX11_copy_16 (Nat.le_of_ble_eq_true rfl) (Nat.le_of_ble_eq_true rfl) (hB _ _ ⟨congrArg (fun z => some (Value.int z)) (by exact (if_neg (fun h => h11 h.2)).symm), by exact (if_neg (fun h => h11 h.1.2)).symm⟩)
