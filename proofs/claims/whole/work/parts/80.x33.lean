def setV (S : XS) (m_ w_ v_ : Int32) : Int32 := (if (0 ≤ m_ ∧ m_ < S.1 1) then (if w_ = 0 then (if (0 ≤ v_ ∧ v_ ≤ 1 <<< (mfo S (xAd S m_) 1 &&& 31) - 1) then mfo S (xAd S m_) 3 else -1000) else if w_ = 1 then (if (-9 ≤ v_ ∧ v_ ≤ 9) then mfo S (xAd S m_) 4 else -1000) else if w_ = 2 then (if (1 ≤ v_ ∧ v_ ≤ 1 <<< (mfo S (xAd S m_) 1 &&& 31) - 1) then mfo S (xAd S m_) 2 else -1000) else if w_ = 3 then (if (0 ≤ v_ ∧ v_ ≤ 5) then mfo S (xAd S m_) 0 else -1000) else -1000) else -1000)
def stpV (S : XS) (i_ n_ : Int32) : Int32 := (if (0 ≤ i_ ∧ i_ < S.1 1) ∧ (1 ≤ n_ ∧ n_ ≤ 30) then (tlL (xmk S (xAd S i_)) (mfo S (xAd S i_)) n_.toNatClampNeg).toInt32 else -2)
def stpS (S : XS) (i_ n_ : Int32) : XS := if (0 ≤ i_ ∧ i_ < S.1 1) ∧ (1 ≤ n_ ∧ n_ ≤ 30) then xM S (xAd S i_) (advN (xmk S (xAd S i_)) n_.toNatClampNeg (mfo S (xAd S i_))) else S
def drpV (S : XS) : Int32 := if S.1 1 < 1 then -3 else S.1 1 - 1
def drpS (S : XS) : XS := if S.1 1 < 1 then S else xD S
/-- what a clause answers, and makes of the class -/
def cseA (S : XS) (w a b c d : Int32) : Int32 := if w = 0 then (if mchV S a b c d < 0 then 0 else 1) else if w = 1 then (if setV S a 0 b = -1000 then 0 else 1) else if w = 2 then (if setV S a 1 b = -1000 then 0 else 1) else if w = 3 then (if setV S a 2 b = -1000 then 0 else 1) else if w = 4 then (if stpV S a b < 0 then 0 else 1) else if w = 5 then (if drpV S < 0 then 0 else 1) else 0
def cseX (S : XS) (w a b c d : Int32) (S' : XS) : Prop := (w = 0 ∧ mchX S a b c d S') ∨ (w = 1 ∧ setX S a 0 b S') ∨ (w = 2 ∧ setX S a 1 b S') ∨ (w = 3 ∧ setX S a 2 b S') ∨ (w = 4 ∧ S' = stpS S a b) ∨ (w = 5 ∧ S' = drpS S) ∨ (¬ w = 0 ∧ ¬ w = 1 ∧ ¬ w = 2 ∧ ¬ w = 3 ∧ ¬ w = 4 ∧ ¬ w = 5 ∧ S' = S)
set_option maxHeartbeats 4000000 in
set_option maxRecDepth 100000 in
theorem c_X10_doClause (Z : VZ) (S : XS) (c_ : Nat) (w_ : Int32) (hx : xOK S) (hc : c_ < 16) : Ct XW Z yX10_doClause cX10_doClause 5 (some .boolean) 7 1 6 [.ref (Z.2.2.2 99), .int w_, .int (nI c_)] (S) (fun v S' => v = some (.int (cseA S w_ (S.2.2.1 34 (4 * c_ + 0)) (S.2.2.1 34 (4 * c_ + 1)) (S.2.2.1 34 (4 * c_ + 2)) (S.2.2.1 34 (4 * c_ + 3)))) ∧ cseX S w_ (S.2.2.1 34 (4 * c_ + 0)) (S.2.2.1 34 (4 * c_ + 1)) (S.2.2.1 34 (4 * c_ + 2)) (S.2.2.1 34 (4 * c_ + 3)) S') := by
  refine V_entry (own := RX10) (by decide) rfl (Nat.le_of_ble_eq_true rfl) ?_
  intro B hB
  refine V_sub (L' := [(0, .ref (Z.2.2.2 99)), (1, .int w_), (2, .int (nI c_))]) [0, 1, 2] rfl ?_
  refine V_aload_n (pc := 0) dX10_doClause_0 0 rfl rfl ?_
  refine Xg_X10_37 (pc := 1) dX10_doClause_1 ?_
  refine V_iload_n (pc := 4) dX10_doClause_4 2 rfl rfl ?_
  refine V_iconst (v := 0) (pc := 5) dX10_doClause_5 (by decide) ?_
  refine V_callVi (q0 := 13) (ci := 7) (C := RX7) (T := TX7) (N := 9) (pc := 6) dX10_doClause_6 (c_X7_numberOf Z _ c_ 0 (by exact hc) (by decide)) kX10_362 rfl rfl rfl rfl (Nat.le_of_ble_eq_true rfl) (by decide) (by decide) (Nat.le_of_ble_eq_true rfl) (Nat.le_of_ble_eq_true rfl) ?_
  refine V_istore_n (pc := 9) (L2 := [(0, .ref (Z.2.2.2 99)), (1, .int w_), (2, .int (nI c_))]) dX10_doClause_9 rfl (by decide) rfl (fun x3_9 ex3_9 => ?_)
  subst ex3_9
  refine V_aload_n (pc := 10) dX10_doClause_10 1 rfl rfl ?_
  refine Xg_X10_37 (pc := 11) dX10_doClause_11 ?_
  refine V_iload_n (pc := 14) dX10_doClause_14 3 rfl rfl ?_
  refine V_iconst (v := 1) (pc := 15) dX10_doClause_15 (by decide) ?_
  refine V_callVi (q0 := 13) (ci := 7) (C := RX7) (T := TX7) (N := 9) (pc := 16) dX10_doClause_16 (c_X7_numberOf Z _ c_ 1 (by exact hc) (by decide)) kX10_362 rfl rfl rfl rfl (Nat.le_of_ble_eq_true rfl) (by decide) (by decide) (Nat.le_of_ble_eq_true rfl) (Nat.le_of_ble_eq_true rfl) ?_
  refine V_istore (pc := 19) (L2 := [(3, .int (S.2.2.1 34 (4 * c_ + 0))), (0, .ref (Z.2.2.2 99)), (1, .int w_), (2, .int (nI c_))]) dX10_doClause_19 (by decide) rfl (fun x4_19 ex4_19 => ?_)
  subst ex4_19
  refine V_iload_n (pc := 21) dX10_doClause_21 3 rfl rfl ?_
  by_cases h22_0 : w_ = 0
  · refine V_eqi 0 h22_0 ?_
    refine V_tableIn (pc := 22) (tgt := 60) dX10_doClause_22 (by decide) (by decide) rfl (by decide) ?_
    refine V_aload_n (pc := 60) dX10_doClause_60 2 rfl rfl ?_
    refine V_iload_n (pc := 61) dX10_doClause_61 1 rfl rfl ?_
    refine V_iload (pc := 62) dX10_doClause_62 0 rfl ?_
    refine V_aload_n (pc := 64) dX10_doClause_64 2 rfl rfl ?_
    refine Xg_X10_37 (pc := 65) dX10_doClause_65 ?_
    refine V_iload_n (pc := 68) dX10_doClause_68 4 rfl rfl ?_
    refine V_iconst (v := 2) (pc := 69) dX10_doClause_69 (by decide) ?_
    refine V_callVi (q0 := 13) (ci := 7) (C := RX7) (T := TX7) (N := 9) (pc := 70) dX10_doClause_70 (c_X7_numberOf Z _ c_ 2 (by exact hc) (by decide)) kX10_362 rfl rfl rfl rfl (Nat.le_of_ble_eq_true rfl) (by decide) (by decide) (Nat.le_of_ble_eq_true rfl) (Nat.le_of_ble_eq_true rfl) ?_
    refine V_aload_n (pc := 73) dX10_doClause_73 2 rfl rfl ?_
    refine Xg_X10_37 (pc := 74) dX10_doClause_74 ?_
    refine V_iload_n (pc := 77) dX10_doClause_77 4 rfl rfl ?_
    refine V_iconst (v := 3) (pc := 78) dX10_doClause_78 (by decide) ?_
    refine V_callVi (q0 := 13) (ci := 7) (C := RX7) (T := TX7) (N := 9) (pc := 79) dX10_doClause_79 (c_X7_numberOf Z _ c_ 3 (by exact hc) (by decide)) kX10_362 rfl rfl rfl rfl (Nat.le_of_ble_eq_true rfl) (by decide) (by decide) (Nat.le_of_ble_eq_true rfl) (Nat.le_of_ble_eq_true rfl) ?_
    refine V_callV (q0 := 0) (ci := 10) (C := RX10) (T := TX10) (N := 9) (pc := 82) dX10_doClause_82 (c_X10_machine Z _ _ _ _ _ (by exact hx)) kX10_274 rfl rfl rfl rfl (Nat.le_of_ble_eq_true rfl) (by decide) (by decide) (Nat.le_of_ble_eq_true rfl) (Nat.le_of_ble_eq_true rfl) (fun v82 S82 hp82 => ?_)
    refine V_widen (n' := 1) (k' := 6) (Nat.le_refl _) (Nat.le_refl _) ?_
    obtain ⟨rfl, hp8⟩ := hp82
    have hp9 : mchX S (S.2.2.1 34 (4 * c_ + 0)) (S.2.2.1 34 (4 * c_ + 1)) (S.2.2.1 34 (4 * c_ + 2)) (S.2.2.1 34 (4 * c_ + 3)) S82 := hp8
    refine V_eqi (mchV S (S.2.2.1 34 (4 * c_ + 0)) (S.2.2.1 34 (4 * c_ + 1)) (S.2.2.1 34 (4 * c_ + 2)) (S.2.2.1 34 (4 * c_ + 3))) rfl ?_
    refine V_if_lt (pc := 85) (tgt := 92) dX10_doClause_85 (by decide) (fun h85 => ?_) (fun h85 => ?_)
    · skip
      refine V_iconst (v := 0) (pc := 92) dX10_doClause_92 (by decide) ?_
      exact V_zret (pc := 93) dX10_doClause_93 (Nat.le_of_ble_eq_true rfl) (Nat.le_of_ble_eq_true rfl) (Or.inl rfl) (hB _ _ (by refine ⟨congrArg (fun z => some (Value.int z)) ?_, Or.inl ⟨h22_0, hp9⟩⟩; unfold cseA; rw [if_pos h22_0]; first | exact (if_pos h85).symm | exact (if_neg h85).symm))
    · skip
      refine V_iconst (v := 1) (pc := 88) dX10_doClause_88 (by decide) ?_
      refine V_goto (pc := 89) (tgt := 93) dX10_doClause_89 (by decide) ?_
      exact V_zret (pc := 93) dX10_doClause_93 (Nat.le_of_ble_eq_true rfl) (Nat.le_of_ble_eq_true rfl) (Or.inr rfl) (hB _ _ (by refine ⟨congrArg (fun z => some (Value.int z)) ?_, Or.inl ⟨h22_0, hp9⟩⟩; unfold cseA; rw [if_pos h22_0]; first | exact (if_pos h85).symm | exact (if_neg h85).symm))
  by_cases h22_1 : w_ = 1
  · refine V_eqi 1 h22_1 ?_
    refine V_tableIn (pc := 22) (tgt := 94) dX10_doClause_22 (by decide) (by decide) rfl (by decide) ?_
    refine V_aload_n (pc := 94) dX10_doClause_94 2 rfl rfl ?_
    refine V_iload_n (pc := 95) dX10_doClause_95 1 rfl rfl ?_
    refine V_iconst (v := 0) (pc := 96) dX10_doClause_96 (by decide) ?_
    refine V_iload (pc := 97) dX10_doClause_97 0 rfl ?_
    refine V_callV (q0 := 0) (ci := 10) (C := RX10) (T := TX10) (N := 9) (pc := 99) dX10_doClause_99 (c_X10_set Z _ _ _ _ (by exact hx)) kX10_365 rfl rfl rfl rfl (Nat.le_of_ble_eq_true rfl) (by decide) (by decide) (Nat.le_of_ble_eq_true rfl) (Nat.le_of_ble_eq_true rfl) (fun v99 S99 hp99 => ?_)
    refine V_widen (n' := 1) (k' := 6) (Nat.le_refl _) (Nat.le_refl _) ?_
    obtain ⟨rfl, hp9⟩ := hp99
    refine V_eqi (setV S (S.2.2.1 34 (4 * c_ + 0)) 0 (S.2.2.1 34 (4 * c_ + 1))) rfl ?_
    refine V_sipush (v := (-1000)) (pc := 102) dX10_doClause_102 (by decide) ?_
    refine V_icmp_eq (pc := 105) (tgt := 112) dX10_doClause_105 (by decide) (fun h105 => ?_) (fun h105 => ?_)
    · skip
      refine V_iconst (v := 0) (pc := 112) dX10_doClause_112 (by decide) ?_
      exact V_zret (pc := 113) dX10_doClause_113 (Nat.le_of_ble_eq_true rfl) (Nat.le_of_ble_eq_true rfl) (Or.inl rfl) (hB _ _ (by refine ⟨congrArg (fun z => some (Value.int z)) ?_, Or.inr (Or.inl ⟨h22_1, hp9⟩)⟩; unfold cseA; rw [if_neg h22_0, if_pos h22_1]; first | exact (if_pos h105).symm | exact (if_neg h105).symm))
    · skip
      refine V_iconst (v := 1) (pc := 108) dX10_doClause_108 (by decide) ?_
      refine V_goto (pc := 109) (tgt := 113) dX10_doClause_109 (by decide) ?_
      exact V_zret (pc := 113) dX10_doClause_113 (Nat.le_of_ble_eq_true rfl) (Nat.le_of_ble_eq_true rfl) (Or.inr rfl) (hB _ _ (by refine ⟨congrArg (fun z => some (Value.int z)) ?_, Or.inr (Or.inl ⟨h22_1, hp9⟩)⟩; unfold cseA; rw [if_neg h22_0, if_pos h22_1]; first | exact (if_pos h105).symm | exact (if_neg h105).symm))
  by_cases h22_2 : w_ = 2
  · refine V_eqi 2 h22_2 ?_
    refine V_tableIn (pc := 22) (tgt := 114) dX10_doClause_22 (by decide) (by decide) rfl (by decide) ?_
    refine V_aload_n (pc := 114) dX10_doClause_114 2 rfl rfl ?_
    refine V_iload_n (pc := 115) dX10_doClause_115 1 rfl rfl ?_
    refine V_iconst (v := 1) (pc := 116) dX10_doClause_116 (by decide) ?_
    refine V_iload (pc := 117) dX10_doClause_117 0 rfl ?_
    refine V_callV (q0 := 0) (ci := 10) (C := RX10) (T := TX10) (N := 9) (pc := 119) dX10_doClause_119 (c_X10_set Z _ _ _ _ (by exact hx)) kX10_365 rfl rfl rfl rfl (Nat.le_of_ble_eq_true rfl) (by decide) (by decide) (Nat.le_of_ble_eq_true rfl) (Nat.le_of_ble_eq_true rfl) (fun v119 S119 hp119 => ?_)
    refine V_widen (n' := 1) (k' := 6) (Nat.le_refl _) (Nat.le_refl _) ?_
    obtain ⟨rfl, hp9⟩ := hp119
    refine V_eqi (setV S (S.2.2.1 34 (4 * c_ + 0)) 1 (S.2.2.1 34 (4 * c_ + 1))) rfl ?_
    refine V_sipush (v := (-1000)) (pc := 122) dX10_doClause_122 (by decide) ?_
    refine V_icmp_eq (pc := 125) (tgt := 132) dX10_doClause_125 (by decide) (fun h125 => ?_) (fun h125 => ?_)
    · skip
      refine V_iconst (v := 0) (pc := 132) dX10_doClause_132 (by decide) ?_
      exact V_zret (pc := 133) dX10_doClause_133 (Nat.le_of_ble_eq_true rfl) (Nat.le_of_ble_eq_true rfl) (Or.inl rfl) (hB _ _ (by refine ⟨congrArg (fun z => some (Value.int z)) ?_, Or.inr (Or.inr (Or.inl ⟨h22_2, hp9⟩))⟩; unfold cseA; rw [if_neg h22_0, if_neg h22_1, if_pos h22_2]; first | exact (if_pos h125).symm | exact (if_neg h125).symm))
    · skip
      refine V_iconst (v := 1) (pc := 128) dX10_doClause_128 (by decide) ?_
      refine V_goto (pc := 129) (tgt := 133) dX10_doClause_129 (by decide) ?_
      exact V_zret (pc := 133) dX10_doClause_133 (Nat.le_of_ble_eq_true rfl) (Nat.le_of_ble_eq_true rfl) (Or.inr rfl) (hB _ _ (by refine ⟨congrArg (fun z => some (Value.int z)) ?_, Or.inr (Or.inr (Or.inl ⟨h22_2, hp9⟩))⟩; unfold cseA; rw [if_neg h22_0, if_neg h22_1, if_pos h22_2]; first | exact (if_pos h125).symm | exact (if_neg h125).symm))
  by_cases h22_3 : w_ = 3
  · refine V_eqi 3 h22_3 ?_
    refine V_tableIn (pc := 22) (tgt := 134) dX10_doClause_22 (by decide) (by decide) rfl (by decide) ?_
    refine V_aload_n (pc := 134) dX10_doClause_134 2 rfl rfl ?_
    refine V_iload_n (pc := 135) dX10_doClause_135 1 rfl rfl ?_
    refine V_iconst (v := 2) (pc := 136) dX10_doClause_136 (by decide) ?_
    refine V_iload (pc := 137) dX10_doClause_137 0 rfl ?_
    refine V_callV (q0 := 0) (ci := 10) (C := RX10) (T := TX10) (N := 9) (pc := 139) dX10_doClause_139 (c_X10_set Z _ _ _ _ (by exact hx)) kX10_365 rfl rfl rfl rfl (Nat.le_of_ble_eq_true rfl) (by decide) (by decide) (Nat.le_of_ble_eq_true rfl) (Nat.le_of_ble_eq_true rfl) (fun v139 S139 hp139 => ?_)
    refine V_widen (n' := 1) (k' := 6) (Nat.le_refl _) (Nat.le_refl _) ?_
    obtain ⟨rfl, hp9⟩ := hp139
    refine V_eqi (setV S (S.2.2.1 34 (4 * c_ + 0)) 2 (S.2.2.1 34 (4 * c_ + 1))) rfl ?_
    refine V_sipush (v := (-1000)) (pc := 142) dX10_doClause_142 (by decide) ?_
    refine V_icmp_eq (pc := 145) (tgt := 152) dX10_doClause_145 (by decide) (fun h145 => ?_) (fun h145 => ?_)
    · skip
      refine V_iconst (v := 0) (pc := 152) dX10_doClause_152 (by decide) ?_
      exact V_zret (pc := 153) dX10_doClause_153 (Nat.le_of_ble_eq_true rfl) (Nat.le_of_ble_eq_true rfl) (Or.inl rfl) (hB _ _ (by refine ⟨congrArg (fun z => some (Value.int z)) ?_, Or.inr (Or.inr (Or.inr (Or.inl ⟨h22_3, hp9⟩)))⟩; unfold cseA; rw [if_neg h22_0, if_neg h22_1, if_neg h22_2, if_pos h22_3]; first | exact (if_pos h145).symm | exact (if_neg h145).symm))
    · skip
      refine V_iconst (v := 1) (pc := 148) dX10_doClause_148 (by decide) ?_
      refine V_goto (pc := 149) (tgt := 153) dX10_doClause_149 (by decide) ?_
      exact V_zret (pc := 153) dX10_doClause_153 (Nat.le_of_ble_eq_true rfl) (Nat.le_of_ble_eq_true rfl) (Or.inr rfl) (hB _ _ (by refine ⟨congrArg (fun z => some (Value.int z)) ?_, Or.inr (Or.inr (Or.inr (Or.inl ⟨h22_3, hp9⟩)))⟩; unfold cseA; rw [if_neg h22_0, if_neg h22_1, if_neg h22_2, if_pos h22_3]; first | exact (if_pos h145).symm | exact (if_neg h145).symm))
  by_cases h22_4 : w_ = 4
  · refine V_eqi 4 h22_4 ?_
    refine V_tableIn (pc := 22) (tgt := 154) dX10_doClause_22 (by decide) (by decide) rfl (by decide) ?_
    refine V_aload_n (pc := 154) dX10_doClause_154 2 rfl rfl ?_
    refine V_iload_n (pc := 155) dX10_doClause_155 1 rfl rfl ?_
    refine V_iload (pc := 156) dX10_doClause_156 0 rfl ?_
    refine V_callVi (q0 := 0) (ci := 10) (C := RX10) (T := TX10) (N := 9) (pc := 158) dX10_doClause_158 (c_X10_step Z _ _ _ (by exact hx)) kX10_369 rfl rfl rfl rfl (Nat.le_of_ble_eq_true rfl) (by decide) (by decide) (Nat.le_of_ble_eq_true rfl) (Nat.le_of_ble_eq_true rfl) ?_
    refine V_eqi (stpV S (S.2.2.1 34 (4 * c_ + 0)) (S.2.2.1 34 (4 * c_ + 1))) rfl ?_
    refine V_eqS (stpS S (S.2.2.1 34 (4 * c_ + 0)) (S.2.2.1 34 (4 * c_ + 1))) rfl ?_
    refine V_if_lt (pc := 161) (tgt := 168) dX10_doClause_161 (by decide) (fun h161 => ?_) (fun h161 => ?_)
    · skip
      refine V_iconst (v := 0) (pc := 168) dX10_doClause_168 (by decide) ?_
      exact V_zret (pc := 169) dX10_doClause_169 (Nat.le_of_ble_eq_true rfl) (Nat.le_of_ble_eq_true rfl) (Or.inl rfl) (hB _ _ (by refine ⟨congrArg (fun z => some (Value.int z)) ?_, Or.inr (Or.inr (Or.inr (Or.inr (Or.inl ⟨h22_4, rfl⟩))))⟩; unfold cseA; rw [if_neg h22_0, if_neg h22_1, if_neg h22_2, if_neg h22_3, if_pos h22_4]; first | exact (if_pos h161).symm | exact (if_neg h161).symm))
    · skip
      refine V_iconst (v := 1) (pc := 164) dX10_doClause_164 (by decide) ?_
      refine V_goto (pc := 165) (tgt := 169) dX10_doClause_165 (by decide) ?_
      exact V_zret (pc := 169) dX10_doClause_169 (Nat.le_of_ble_eq_true rfl) (Nat.le_of_ble_eq_true rfl) (Or.inr rfl) (hB _ _ (by refine ⟨congrArg (fun z => some (Value.int z)) ?_, Or.inr (Or.inr (Or.inr (Or.inr (Or.inl ⟨h22_4, rfl⟩))))⟩; unfold cseA; rw [if_neg h22_0, if_neg h22_1, if_neg h22_2, if_neg h22_3, if_pos h22_4]; first | exact (if_pos h161).symm | exact (if_neg h161).symm))
  by_cases h22_5 : w_ = 5
  · refine V_eqi 5 h22_5 ?_
    refine V_tableIn (pc := 22) (tgt := 170) dX10_doClause_22 (by decide) (by decide) rfl (by decide) ?_
    refine V_aload_n (pc := 170) dX10_doClause_170 2 rfl rfl ?_
    refine V_callVi (q0 := 0) (ci := 10) (C := RX10) (T := TX10) (N := 9) (pc := 171) dX10_doClause_171 (c_X10_drop Z _ (by exact hx)) kX10_372 rfl rfl rfl rfl (Nat.le_of_ble_eq_true rfl) (by decide) (by decide) (Nat.le_of_ble_eq_true rfl) (Nat.le_of_ble_eq_true rfl) ?_
    refine V_eqi (drpV S) rfl ?_
    refine V_eqS (drpS S) rfl ?_
    refine V_if_lt (pc := 174) (tgt := 181) dX10_doClause_174 (by decide) (fun h174 => ?_) (fun h174 => ?_)
    · skip
      refine V_iconst (v := 0) (pc := 181) dX10_doClause_181 (by decide) ?_
      exact V_zret (pc := 182) dX10_doClause_182 (Nat.le_of_ble_eq_true rfl) (Nat.le_of_ble_eq_true rfl) (Or.inl rfl) (hB _ _ (by refine ⟨congrArg (fun z => some (Value.int z)) ?_, Or.inr (Or.inr (Or.inr (Or.inr (Or.inr (Or.inl ⟨h22_5, rfl⟩)))))⟩; unfold cseA; rw [if_neg h22_0, if_neg h22_1, if_neg h22_2, if_neg h22_3, if_neg h22_4, if_pos h22_5]; first | exact (if_pos h174).symm | exact (if_neg h174).symm))
    · skip
      refine V_iconst (v := 1) (pc := 177) dX10_doClause_177 (by decide) ?_
      refine V_goto (pc := 178) (tgt := 182) dX10_doClause_178 (by decide) ?_
      exact V_zret (pc := 182) dX10_doClause_182 (Nat.le_of_ble_eq_true rfl) (Nat.le_of_ble_eq_true rfl) (Or.inr rfl) (hB _ _ (by refine ⟨congrArg (fun z => some (Value.int z)) ?_, Or.inr (Or.inr (Or.inr (Or.inr (Or.inr (Or.inl ⟨h22_5, rfl⟩)))))⟩; unfold cseA; rw [if_neg h22_0, if_neg h22_1, if_neg h22_2, if_neg h22_3, if_neg h22_4, if_pos h22_5]; first | exact (if_pos h174).symm | exact (if_neg h174).symm))
  refine V_tableOut (pc := 22) (tgt := 183) dX10_doClause_22 (by have a0 := lv_neT h22_0 (a := 0) rfl; have a1 := lv_neT h22_1 (a := 1) rfl; have a2 := lv_neT h22_2 (a := 2) rfl; have a3 := lv_neT h22_3 (a := 3) rfl; have a4 := lv_neT h22_4 (a := 4) rfl; have a5 := lv_neT h22_5 (a := 5) rfl; omega) (by decide) ?_
  refine V_iconst (v := 0) (pc := 183) dX10_doClause_183 (by decide) ?_
  exact V_zret (pc := 184) dX10_doClause_184 (Nat.le_of_ble_eq_true rfl) (Nat.le_of_ble_eq_true rfl) (Or.inl rfl) (hB _ _ (by refine ⟨congrArg (fun z => some (Value.int z)) ?_, Or.inr (Or.inr (Or.inr (Or.inr (Or.inr (Or.inr ⟨h22_0, h22_1, h22_2, h22_3, h22_4, h22_5, rfl⟩)))))⟩; unfold cseA; rw [if_neg h22_0, if_neg h22_1, if_neg h22_2, if_neg h22_3, if_neg h22_4, if_neg h22_5]))
