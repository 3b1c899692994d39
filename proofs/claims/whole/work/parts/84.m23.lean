def tkM (T : Nat → Int32) (L b : Nat) (v : Int32) : Int32 := if b < L then (if ltB (T b) = true then nI (wdo T b (skp ltB T L b)) else if dgB (T b) = true ∨ T b = 45 then (if T b = 45 then -nvT T (tkF T b) (tkN T L b) else nvT T (tkF T b) (tkN T L b)) else v) else v
theorem tkM_V {T : Nat → Int32} {L b : Nat} {v : Int32} (h : tkK T L b = 1 ∨ tkK T L b = 2) : tkM T L b v = tkV T L b := by
  rw [← tkU_V (v := v) h]
  unfold tkM tkU
  unfold tkK at h
  by_cases h1 : b < L
  · rw [if_pos h1] at h ⊢
    rw [if_pos h1]
    by_cases h2 : ltB (T b) = true
    · rw [if_pos h2] at h
      rw [if_pos h2, if_pos h2]
      by_cases h3 : wdo T b (skp ltB T L b) < 6
      · rw [if_pos h3]
      · rw [if_neg h3] at h
        rcases h with h | h <;> exact absurd h (by decide)
    · rw [if_neg h2, if_neg h2]
  · rw [if_neg h1, if_neg h1]
theorem wdo_6 {T : Nat → Int32} {b e : Nat} (h : ∀ i, i < 6 → ¬ wdm T b e i) : wdo T b e = 6 := by
  unfold wdo
  rw [if_neg (h 0 (by decide)), if_neg (h 1 (by decide)), if_neg (h 2 (by decide)), if_neg (h 3 (by decide)), if_neg (h 4 (by decide)), if_neg (h 5 (by decide))]
set_option maxHeartbeats 4000000 in
set_option maxRecDepth 100000 in
theorem cM_look (Z : VZ) (S : MS) (a_ L_ : Nat) (k_ t_ v_ : Int32) (hL : S.1 21 = nI L_) (hL6 : L_ ≤ 60) (ha : a_ ≤ L_) : CtS MW Z yX11_look cX11_look 1 none 6 0 0 [.ref (Z.2.2.2 99)] (mTk S (nI a_) t_ k_ v_) (fun v S' => v = none ∧ S' = mTk S (nI (tkE (S.2.2 20) L_ (skp wsB (S.2.2 20) L_ a_))) (nI (skp wsB (S.2.2 20) L_ a_)) (tkK (S.2.2 20) L_ (skp wsB (S.2.2 20) L_ a_)) (tkM (S.2.2 20) L_ (skp wsB (S.2.2 20) L_ a_) v_)) := by
  refine V_entryS (own := RX11) (by decide +kernel) rfl (Nat.le_of_ble_eq_true rfl) ?_
  intro B hB hst
  refine V_sub (L' := [(0, .ref (Z.2.2.2 99))]) [0] rfl ?_
  refine Vloop (σ := Nat) (fun x => x ≤ L_ ∧ skp wsB (S.2.2 20) L_ x = (skp wsB (S.2.2 20) L_ a_)) (fun x => L_ - x) (fun x => V MW Z cX11_look RX11 1 none 6 0 0 B 0 0 0 [(0, .ref (Z.2.2.2 99))] [] (mTk S (nI x) t_ k_ v_)) ?_ a_ (by exact ⟨ha, rfl⟩)
  rintro a hI0 ih0
  have hI0 : a ≤ L_ ∧ skp wsB (S.2.2 20) L_ a = (skp wsB (S.2.2 20) L_ a_) := hI0
  show V MW Z cX11_look RX11 1 none 6 0 0 B 0 0 0 [(0, .ref (Z.2.2.2 99))] [] (mTk S (nI a) t_ k_ v_)
  refine V_aload_n (pc := 0) dX11_look_0 0 rfl rfl ?_
  refine V_bipush (v := 32) (pc := 1) dX11_look_1 (by decide) ?_
  refine V_bipush (v := 32) (pc := 3) dX11_look_3 (by decide) ?_
  refine McVi (pc := 5) dX11_look_5 (cM_isAtT Z _ (a) L_ _ _ _ _ _ (by exact hL) (by exact hL6) (by omega)) kM_283 rfl rfl (Nat.le_of_ble_eq_true rfl) (by decide) (by decide) ?_
  refine V_bif_ne (pc := 8) (tgt := 22) dX11_look_8 (by decide) (fun h8 => ?_) (fun h8 => ?_)
  · skip
    have hj : a < L_ := h8.1
    have hws : wsB ((S.2.2 20) a) = true := by unfold wsB; exact decide_eq_true (Or.inl (one_iff.mp h8.2))
    refine V_aload_n (pc := 22) dX11_look_22 0 rfl rfl ?_
    refine V_dup (pc := 23) dX11_look_23 rfl ?_
    refine Mg_at (pc := 24) (v := (nI a)) rfl dX11_look_24 ?_
    refine V_iconst (v := 1) (pc := 27) dX11_look_27 (by decide) ?_
    refine V_iadd (pc := 28) dX11_look_28 ?_
    refine Mp_at (pc := 29) dX11_look_29 ?_
    refine V_eqS (mTk S (nI (a + 1)) t_ k_ v_) (by rw [nI_1]; exact mTk_a S _ _ _ _ _) ?_
    refine V_goto (pc := 32) (tgt := 0) dX11_look_32 (by decide) ?_
    refine V_sub (L' := [(0, .ref (Z.2.2.2 99))]) [0] rfl ?_
    refine ih0 (a + 1) ?_ ?_
    · show (a + 1) ≤ L_ ∧ skp wsB (S.2.2 20) L_ (a + 1) = (skp wsB (S.2.2 20) L_ a_)
      exact ⟨hj, by rw [← hI0.2, skp_t hj hws]⟩
    · show L_ - (a + 1) < L_ - a
      omega
  · skip
    refine V_aload_n (pc := 11) dX11_look_11 0 rfl rfl ?_
    refine V_bipush (v := 10) (pc := 12) dX11_look_12 (by decide) ?_
    refine V_bipush (v := 10) (pc := 14) dX11_look_14 (by decide) ?_
    refine McVi (pc := 16) dX11_look_16 (cM_isAtT Z _ (a) L_ _ _ _ _ _ (by exact hL) (by exact hL6) (by omega)) kM_283 rfl rfl (Nat.le_of_ble_eq_true rfl) (by decide) (by decide) ?_
    refine V_bif_eq (pc := 19) (tgt := 35) dX11_look_19 (by decide) (fun h19 => ?_) (fun h19 => ?_)
    · skip
      have hE : a = (skp wsB (S.2.2 20) L_ a_) := by rw [← hI0.2]; exact (skp_f (fun h => (of_decide_eq_true h.2).elim (fun z => h8 ⟨h.1, one_iff.mpr z⟩) (fun z => h19 ⟨h.1, one_iff.mpr z⟩))).symm
      refine V_aload_n (pc := 35) dX11_look_35 0 rfl rfl ?_
      refine V_aload_n (pc := 36) dX11_look_36 0 rfl rfl ?_
      refine Mg_at (pc := 37) (v := (nI a)) rfl dX11_look_37 ?_
      refine Mp_begun (pc := 40) dX11_look_40 ?_
      refine V_eqS (mTk S (nI a) (nI a) k_ v_) (mTk_b S _ _ _ _ _) ?_
      refine V_aload_n (pc := 43) dX11_look_43 0 rfl rfl ?_
      refine Mg_at (pc := 44) (v := (nI a)) rfl dX11_look_44 ?_
      refine V_aload_n (pc := 47) dX11_look_47 0 rfl rfl ?_
      refine Mg_taped (pc := 48) (v := (nI L_)) hL dX11_look_48 ?_
      refine V_icmp_ne (pc := 51) (tgt := 62) dX11_look_51 (by decide) (fun h51 => ?_) (fun h51 => ?_)
      · skip
        have hbl : a < L_ := Nat.lt_of_le_of_ne hI0.1 (fun z => h51 (by rw [z]))
        refine V_aload_n (pc := 62) dX11_look_62 0 rfl rfl ?_
        refine V_bipush (v := 97) (pc := 63) dX11_look_63 (by decide) ?_
        refine V_bipush (v := 122) (pc := 65) dX11_look_65 (by decide) ?_
        refine McVi (pc := 67) dX11_look_67 (cM_isAtT Z _ (a) L_ _ _ _ _ _ (by exact hL) (by exact hL6) (by omega)) kM_283 rfl rfl (Nat.le_of_ble_eq_true rfl) (by decide) (by decide) ?_
        refine V_bif_eq (pc := 70) (tgt := 156) dX11_look_70 (by decide) (fun h70 => ?_) (fun h70 => ?_)
        · skip
          have hlt : ¬ ltB ((S.2.2 20) a) = true := fun z => h70 ⟨hbl, lt_iff.mpr z⟩
          refine V_aload_n (pc := 156) dX11_look_156 0 rfl rfl ?_
          refine V_bipush (v := 48) (pc := 157) dX11_look_157 (by decide) ?_
          refine V_bipush (v := 57) (pc := 159) dX11_look_159 (by decide) ?_
          refine McVi (pc := 161) dX11_look_161 (cM_isAtT Z _ (a) L_ _ _ _ _ _ (by exact hL) (by exact hL6) (by omega)) kM_283 rfl rfl (Nat.le_of_ble_eq_true rfl) (by decide) (by decide) ?_
          refine V_bif_ne (pc := 164) (tgt := 178) dX11_look_164 (by decide) (fun h164 => ?_) (fun h164 => ?_)
          · skip
            refine V_aload_n (pc := 178) dX11_look_178 0 rfl rfl ?_
            refine McVv (pc := 179) dX11_look_179 (cM_takesNumber Z _ a L_ _ _ _ (by exact hL) (by exact hL6) (by exact hbl)) kM_295 rfl rfl (Nat.le_of_ble_eq_true rfl) (by decide) (by decide) ?_
            refine V_goto (pc := 182) (tgt := 215) dX11_look_182 (by decide) ?_
            exact V_vret (pc := 215) dX11_look_215 (Nat.le_of_ble_eq_true rfl) (Nat.le_of_ble_eq_true rfl) (hB _ _ (by refine ⟨rfl, ?_⟩; rw [← hE]; unfold tkE tkK tkM; have hn : dgB ((S.2.2 20) a) = true ∨ (S.2.2 20) a = 45 := Or.inl (dg_iff.mp h164.2); rw [if_pos hbl, if_pos hbl, if_pos hbl, if_neg hlt, if_neg hlt, if_neg hlt, if_pos hn, if_pos hn, if_pos hn]))
          · skip
            refine V_aload_n (pc := 167) dX11_look_167 0 rfl rfl ?_
            refine V_bipush (v := 45) (pc := 168) dX11_look_168 (by decide) ?_
            refine V_bipush (v := 45) (pc := 170) dX11_look_170 (by decide) ?_
            refine McVi (pc := 172) dX11_look_172 (cM_isAtT Z _ (a) L_ _ _ _ _ _ (by exact hL) (by exact hL6) (by omega)) kM_283 rfl rfl (Nat.le_of_ble_eq_true rfl) (by decide) (by decide) ?_
            refine V_bif_eq (pc := 175) (tgt := 185) dX11_look_175 (by decide) (fun h175 => ?_) (fun h175 => ?_)
            · skip
              refine V_aload_n (pc := 185) dX11_look_185 0 rfl rfl ?_
              refine V_aload_n (pc := 186) dX11_look_186 0 rfl rfl ?_
              refine V_bipush (v := 59) (pc := 187) dX11_look_187 (by decide) ?_
              refine V_bipush (v := 59) (pc := 189) dX11_look_189 (by decide) ?_
              refine McVi (pc := 191) dX11_look_191 (cM_isAtT Z _ (a) L_ _ _ _ _ _ (by exact hL) (by exact hL6) (by omega)) kM_283 rfl rfl (Nat.le_of_ble_eq_true rfl) (by decide) (by decide) ?_
              refine V_bif_eq (pc := 194) (tgt := 201) dX11_look_194 (by decide) (fun h194 => ?_) (fun h194 => ?_)
              · skip
                refine V_iconst (v := 4) (pc := 201) dX11_look_201 (by decide) ?_
                refine Mp_token (pc := 202) dX11_look_202 ?_
                refine V_eqS _ (mTk_k S _ _ _ _ _) ?_
                refine V_aload_n (pc := 205) dX11_look_205 0 rfl rfl ?_
                refine V_dup (pc := 206) dX11_look_206 rfl ?_
                refine Mg_at (pc := 207) (v := (nI a)) rfl dX11_look_207 ?_
                refine V_iconst (v := 1) (pc := 210) dX11_look_210 (by decide) ?_
                refine V_iadd (pc := 211) dX11_look_211 ?_
                refine Mp_at (pc := 212) dX11_look_212 ?_
                refine V_eqS (mTk S (nI (a + 1)) (nI a) _ v_) (by rw [nI_1]; exact mTk_a S _ _ _ _ _) ?_
                exact V_vret (pc := 215) dX11_look_215 (Nat.le_of_ble_eq_true rfl) (Nat.le_of_ble_eq_true rfl) (hB _ _ (by refine ⟨rfl, ?_⟩; rw [← hE]; unfold tkE tkK tkM; have hnn : ¬ (dgB ((S.2.2 20) a) = true ∨ (S.2.2 20) a = 45) := fun h => h.elim (fun z => h164 ⟨hbl, dg_iff.mpr z⟩) (fun z => h175 ⟨hbl, one_iff.mpr z⟩); rw [if_pos hbl, if_pos hbl, if_pos hbl, if_neg hlt, if_neg hlt, if_neg hlt, if_neg hnn, if_neg hnn, if_neg hnn]; first | rw [if_pos (one_iff.mp h194.2)] | rw [if_neg (fun z => h194 ⟨hbl, one_iff.mpr z⟩)]))
              · skip
                refine V_iconst (v := 3) (pc := 197) dX11_look_197 (by decide) ?_
                refine V_goto (pc := 198) (tgt := 202) dX11_look_198 (by decide) ?_
                refine Mp_token (pc := 202) dX11_look_202 ?_
                refine V_eqS _ (mTk_k S _ _ _ _ _) ?_
                refine V_aload_n (pc := 205) dX11_look_205 0 rfl rfl ?_
                refine V_dup (pc := 206) dX11_look_206 rfl ?_
                refine Mg_at (pc := 207) (v := (nI a)) rfl dX11_look_207 ?_
                refine V_iconst (v := 1) (pc := 210) dX11_look_210 (by decide) ?_
                refine V_iadd (pc := 211) dX11_look_211 ?_
                refine Mp_at (pc := 212) dX11_look_212 ?_
                refine V_eqS (mTk S (nI (a + 1)) (nI a) _ v_) (by rw [nI_1]; exact mTk_a S _ _ _ _ _) ?_
                exact V_vret (pc := 215) dX11_look_215 (Nat.le_of_ble_eq_true rfl) (Nat.le_of_ble_eq_true rfl) (hB _ _ (by refine ⟨rfl, ?_⟩; rw [← hE]; unfold tkE tkK tkM; have hnn : ¬ (dgB ((S.2.2 20) a) = true ∨ (S.2.2 20) a = 45) := fun h => h.elim (fun z => h164 ⟨hbl, dg_iff.mpr z⟩) (fun z => h175 ⟨hbl, one_iff.mpr z⟩); rw [if_pos hbl, if_pos hbl, if_pos hbl, if_neg hlt, if_neg hlt, if_neg hlt, if_neg hnn, if_neg hnn, if_neg hnn]; first | rw [if_pos (one_iff.mp h194.2)] | rw [if_neg (fun z => h194 ⟨hbl, one_iff.mpr z⟩)]))
            · skip
              refine V_aload_n (pc := 178) dX11_look_178 0 rfl rfl ?_
              refine McVv (pc := 179) dX11_look_179 (cM_takesNumber Z _ a L_ _ _ _ (by exact hL) (by exact hL6) (by exact hbl)) kM_295 rfl rfl (Nat.le_of_ble_eq_true rfl) (by decide) (by decide) ?_
              refine V_goto (pc := 182) (tgt := 215) dX11_look_182 (by decide) ?_
              exact V_vret (pc := 215) dX11_look_215 (Nat.le_of_ble_eq_true rfl) (Nat.le_of_ble_eq_true rfl) (hB _ _ (by refine ⟨rfl, ?_⟩; rw [← hE]; unfold tkE tkK tkM; have hn : dgB ((S.2.2 20) a) = true ∨ (S.2.2 20) a = 45 := Or.inr (one_iff.mp h175.2); rw [if_pos hbl, if_pos hbl, if_pos hbl, if_neg hlt, if_neg hlt, if_neg hlt, if_pos hn, if_pos hn, if_pos hn]))
        · skip
          have hlt : ltB ((S.2.2 20) a) = true := lt_iff.mp h70.2
          refine Vloop (σ := Nat) (fun x => a ≤ x ∧ x ≤ L_ ∧ skp ltB (S.2.2 20) L_ x = skp ltB (S.2.2 20) L_ a) (fun x => L_ - x) (fun x => V MW Z cX11_look RX11 1 none 6 0 0 B 0 0 73 [(0, .ref (Z.2.2.2 99))] [] (mTk S (nI x) (nI a) k_ v_)) ?_ a (by exact ⟨Nat.le_refl _, hI0.1, rfl⟩)
          rintro e hI73 ih73
          have hI73 : a ≤ e ∧ e ≤ L_ ∧ skp ltB (S.2.2 20) L_ e = skp ltB (S.2.2 20) L_ a := hI73
          show V MW Z cX11_look RX11 1 none 6 0 0 B 0 0 73 [(0, .ref (Z.2.2.2 99))] [] (mTk S (nI e) (nI a) k_ v_)
          refine V_aload_n (pc := 73) dX11_look_73 0 rfl rfl ?_
          refine V_bipush (v := 97) (pc := 74) dX11_look_74 (by decide) ?_
          refine V_bipush (v := 122) (pc := 76) dX11_look_76 (by decide) ?_
          refine McVi (pc := 78) dX11_look_78 (cM_isAtT Z _ (e) L_ _ _ _ _ _ (by exact hL) (by exact hL6) (by omega)) kM_283 rfl rfl (Nat.le_of_ble_eq_true rfl) (by decide) (by decide) ?_
          refine V_bif_eq (pc := 81) (tgt := 97) dX11_look_81 (by decide) (fun h81 => ?_) (fun h81 => ?_)
          · skip
            have hEe : skp ltB (S.2.2 20) L_ a = e := by rw [← hI73.2.2]; exact skp_f (fun h => h81 ⟨h.1, lt_iff.mpr h.2⟩)
            refine V_aload_n (pc := 97) dX11_look_97 0 rfl rfl ?_
            refine V_iconst (v := 0) (pc := 98) dX11_look_98 (by decide) ?_
            refine Mp_value (pc := 99) dX11_look_99 ?_
            refine V_eqS (mTk S (nI e) (nI a) k_ (nI 0)) (mTk_v S _ _ _ _ _) ?_
            refine Vloop (σ := Nat) (fun x => x ≤ 6 ∧ ∀ i, i < x → ¬ wdm (S.2.2 20) a e i) (fun x => 6 - x) (fun x => V MW Z cX11_look RX11 1 none 6 0 0 B 0 0 102 [(0, .ref (Z.2.2.2 99))] [] (mTk S (nI e) (nI a) k_ (nI x))) ?_ 0 (by exact ⟨Nat.zero_le _, fun i hi => absurd hi (Nat.not_lt_zero _)⟩)
            rintro w hI102 ih102
            have hI102 : w ≤ 6 ∧ ∀ i, i < w → ¬ wdm (S.2.2 20) a e i := hI102
            show V MW Z cX11_look RX11 1 none 6 0 0 B 0 0 102 [(0, .ref (Z.2.2.2 99))] [] (mTk S (nI e) (nI a) k_ (nI w))
            refine V_aload_n (pc := 102) dX11_look_102 0 rfl rfl ?_
            refine Mg_value (pc := 103) (v := (nI w)) rfl dX11_look_103 ?_
            refine V_bipush (v := 6) (pc := 106) dX11_look_106 (by decide) ?_
            refine V_icmp_ge (pc := 108) (tgt := 135) dX11_look_108 (by decide) (fun h108 => ?_) (fun h108 => ?_)
            · skip
              have hw6 : w = 6 := by
                have q := (nI_leI (a := 6) (by decide) (by omega)).mp h108
                omega
              have hwd : wdo (S.2.2 20) a e = w := by
                rw [hw6]
                exact wdo_6 (fun i hi => hI102.2 i (by omega))
              refine V_aload_n (pc := 135) dX11_look_135 0 rfl rfl ?_
              refine V_aload_n (pc := 136) dX11_look_136 0 rfl rfl ?_
              refine Mg_value (pc := 137) (v := (nI w)) rfl dX11_look_137 ?_
              refine V_bipush (v := 6) (pc := 140) dX11_look_140 (by decide) ?_
              refine V_icmp_ge (pc := 142) (tgt := 149) dX11_look_142 (by decide) (fun h142 => ?_) (fun h142 => ?_)
              · skip
                have hw7 : ¬ w < 6 := Nat.not_lt.mpr ((nI_leI (a := 6) (by decide) (by omega)).mp h142)
                refine V_iconst (v := 4) (pc := 149) dX11_look_149 (by decide) ?_
                refine Mp_token (pc := 150) dX11_look_150 ?_
                refine V_eqS _ (mTk_k S _ _ _ _ _) ?_
                refine V_goto (pc := 153) (tgt := 215) dX11_look_153 (by decide) ?_
                exact V_vret (pc := 215) dX11_look_215 (Nat.le_of_ble_eq_true rfl) (Nat.le_of_ble_eq_true rfl) (hB _ _ (by refine ⟨rfl, ?_⟩; rw [← hE]; unfold tkE tkK tkM; rw [if_pos hbl, if_pos hbl, if_pos hbl, if_pos hlt, if_pos hlt, if_pos hlt]; rw [hEe, hwd]; first | rw [if_pos hw7] | rw [if_neg hw7]))
              · skip
                have hw7 : w < 6 := Nat.not_le.mp (fun q => h142 (nI_le (a := 6) q (by omega)))
                refine V_iconst (v := 1) (pc := 145) dX11_look_145 (by decide) ?_
                refine V_goto (pc := 146) (tgt := 150) dX11_look_146 (by decide) ?_
                refine Mp_token (pc := 150) dX11_look_150 ?_
                refine V_eqS _ (mTk_k S _ _ _ _ _) ?_
                refine V_goto (pc := 153) (tgt := 215) dX11_look_153 (by decide) ?_
                exact V_vret (pc := 215) dX11_look_215 (Nat.le_of_ble_eq_true rfl) (Nat.le_of_ble_eq_true rfl) (hB _ _ (by refine ⟨rfl, ?_⟩; rw [← hE]; unfold tkE tkK tkM; rw [if_pos hbl, if_pos hbl, if_pos hbl, if_pos hlt, if_pos hlt, if_pos hlt]; rw [hEe, hwd]; first | rw [if_pos hw7] | rw [if_neg hw7]))
            · skip
              have hw6 : w < 6 := Nat.not_le.mp (fun q => h108 (nI_le (a := 6) q (by omega)))
              refine V_aload_n (pc := 111) dX11_look_111 0 rfl rfl ?_
              refine V_aload_n (pc := 112) dX11_look_112 0 rfl rfl ?_
              refine Mg_value (pc := 113) (v := (nI w)) rfl dX11_look_113 ?_
              refine V_callVS (q0 := 0) (ci := 11) (C := RX11) (T := TX11) (N := 35) (pc := 116) hst dX11_look_116 (cM_isWord Z _ e a L_ _ _ w (by exact hw6) (by exact hL) (by exact hL6) (by exact hI73.1) (by exact hI73.2.1)) kM_292 rfl rfl rfl rfl (Nat.le_of_ble_eq_true rfl) (by decide) (by decide) (Nat.le_of_ble_eq_true rfl) (Nat.le_of_ble_eq_true rfl) (fun v116 S116 hp116 => ?_)
              obtain ⟨rfl, rfl⟩ := hp116
              refine V_bif_ne (pc := 119) (tgt := 135) dX11_look_119 (by decide) (fun h119 => ?_) (fun h119 => ?_)
              · skip
                have hwd : wdo (S.2.2 20) a e = w := (wdo_iff hw6).mpr h119
                refine V_aload_n (pc := 135) dX11_look_135 0 rfl rfl ?_
                refine V_aload_n (pc := 136) dX11_look_136 0 rfl rfl ?_
                refine Mg_value (pc := 137) (v := (nI w)) rfl dX11_look_137 ?_
                refine V_bipush (v := 6) (pc := 140) dX11_look_140 (by decide) ?_
                refine V_icmp_ge (pc := 142) (tgt := 149) dX11_look_142 (by decide) (fun h142 => ?_) (fun h142 => ?_)
                · skip
                  have hw7 : ¬ w < 6 := Nat.not_lt.mpr ((nI_leI (a := 6) (by decide) (by omega)).mp h142)
                  refine V_iconst (v := 4) (pc := 149) dX11_look_149 (by decide) ?_
                  refine Mp_token (pc := 150) dX11_look_150 ?_
                  refine V_eqS _ (mTk_k S _ _ _ _ _) ?_
                  refine V_goto (pc := 153) (tgt := 215) dX11_look_153 (by decide) ?_
                  exact V_vret (pc := 215) dX11_look_215 (Nat.le_of_ble_eq_true rfl) (Nat.le_of_ble_eq_true rfl) (hB _ _ (by refine ⟨rfl, ?_⟩; rw [← hE]; unfold tkE tkK tkM; rw [if_pos hbl, if_pos hbl, if_pos hbl, if_pos hlt, if_pos hlt, if_pos hlt]; rw [hEe, hwd]; first | rw [if_pos hw7] | rw [if_neg hw7]))
                · skip
                  have hw7 : w < 6 := Nat.not_le.mp (fun q => h142 (nI_le (a := 6) q (by omega)))
                  refine V_iconst (v := 1) (pc := 145) dX11_look_145 (by decide) ?_
                  refine V_goto (pc := 146) (tgt := 150) dX11_look_146 (by decide) ?_
                  refine Mp_token (pc := 150) dX11_look_150 ?_
                  refine V_eqS _ (mTk_k S _ _ _ _ _) ?_
                  refine V_goto (pc := 153) (tgt := 215) dX11_look_153 (by decide) ?_
                  exact V_vret (pc := 215) dX11_look_215 (Nat.le_of_ble_eq_true rfl) (Nat.le_of_ble_eq_true rfl) (hB _ _ (by refine ⟨rfl, ?_⟩; rw [← hE]; unfold tkE tkK tkM; rw [if_pos hbl, if_pos hbl, if_pos hbl, if_pos hlt, if_pos hlt, if_pos hlt]; rw [hEe, hwd]; first | rw [if_pos hw7] | rw [if_neg hw7]))
              · skip
                refine V_aload_n (pc := 122) dX11_look_122 0 rfl rfl ?_
                refine V_dup (pc := 123) dX11_look_123 rfl ?_
                refine Mg_value (pc := 124) (v := (nI w)) rfl dX11_look_124 ?_
                refine V_iconst (v := 1) (pc := 127) dX11_look_127 (by decide) ?_
                refine V_iadd (pc := 128) dX11_look_128 ?_
                refine Mp_value (pc := 129) dX11_look_129 ?_
                refine V_eqS (mTk S (nI e) (nI a) k_ (nI (w + 1))) (by rw [nI_1]; exact mTk_v S _ _ _ _ _) ?_
                refine V_goto (pc := 132) (tgt := 102) dX11_look_132 (by decide) ?_
                refine V_sub (L' := [(0, .ref (Z.2.2.2 99))]) [0] rfl ?_
                refine ih102 (w + 1) ?_ ?_
                · refine ⟨hw6, fun i hi => ?_⟩
                  by_cases z : i = w
                  · rw [z]; exact h119
                  · exact hI102.2 i (by have : i < w + 1 := hi; omega)
                · show 6 - (w + 1) < 6 - w
                  omega
          · skip
            refine V_aload_n (pc := 84) dX11_look_84 0 rfl rfl ?_
            refine V_dup (pc := 85) dX11_look_85 rfl ?_
            refine Mg_at (pc := 86) (v := (nI e)) rfl dX11_look_86 ?_
            refine V_iconst (v := 1) (pc := 89) dX11_look_89 (by decide) ?_
            refine V_iadd (pc := 90) dX11_look_90 ?_
            refine Mp_at (pc := 91) dX11_look_91 ?_
            refine V_eqS (mTk S (nI (e + 1)) (nI a) k_ v_) (by rw [nI_1]; exact mTk_a S _ _ _ _ _) ?_
            refine V_goto (pc := 94) (tgt := 73) dX11_look_94 (by decide) ?_
            refine V_sub (L' := [(0, .ref (Z.2.2.2 99))]) [0] rfl ?_
            refine ih73 (e + 1) ?_ ?_
            · show a ≤ (e + 1) ∧ (e + 1) ≤ L_ ∧ skp ltB (S.2.2 20) L_ (e + 1) = skp ltB (S.2.2 20) L_ a
              exact ⟨by omega, h81.1, by rw [← hI73.2.2, skp_t h81.1 (lt_iff.mp h81.2)]⟩
            · have := h81.1
              show L_ - (e + 1) < L_ - e
              omega
      · skip
        have hbl : ¬ a < L_ := by
          have := (nI_eq (by omega) (by omega)).mp h51
          omega
        refine V_aload_n (pc := 54) dX11_look_54 0 rfl rfl ?_
        refine V_iconst (v := 0) (pc := 55) dX11_look_55 (by decide) ?_
        refine Mp_token (pc := 56) dX11_look_56 ?_
        refine V_eqS _ (mTk_k S _ _ _ _ _) ?_
        refine V_goto (pc := 59) (tgt := 215) dX11_look_59 (by decide) ?_
        exact V_vret (pc := 215) dX11_look_215 (Nat.le_of_ble_eq_true rfl) (Nat.le_of_ble_eq_true rfl) (hB _ _ (by refine ⟨rfl, ?_⟩; rw [← hE]; unfold tkE tkK tkM; rw [if_neg hbl, if_neg hbl, if_neg hbl]))
    · skip
      have hj : a < L_ := h19.1
      have hws : wsB ((S.2.2 20) a) = true := by unfold wsB; exact decide_eq_true (Or.inr (one_iff.mp h19.2))
      refine V_aload_n (pc := 22) dX11_look_22 0 rfl rfl ?_
      refine V_dup (pc := 23) dX11_look_23 rfl ?_
      refine Mg_at (pc := 24) (v := (nI a)) rfl dX11_look_24 ?_
      refine V_iconst (v := 1) (pc := 27) dX11_look_27 (by decide) ?_
      refine V_iadd (pc := 28) dX11_look_28 ?_
      refine Mp_at (pc := 29) dX11_look_29 ?_
      refine V_eqS (mTk S (nI (a + 1)) t_ k_ v_) (by rw [nI_1]; exact mTk_a S _ _ _ _ _) ?_
      refine V_goto (pc := 32) (tgt := 0) dX11_look_32 (by decide) ?_
      refine V_sub (L' := [(0, .ref (Z.2.2.2 99))]) [0] rfl ?_
      refine ih0 (a + 1) ?_ ?_
      · show (a + 1) ≤ L_ ∧ skp wsB (S.2.2 20) L_ (a + 1) = (skp wsB (S.2.2 20) L_ a_)
        exact ⟨hj, by rw [← hI0.2, skp_t hj hws]⟩
      · show L_ - (a + 1) < L_ - a
        omega
