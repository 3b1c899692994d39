def msR (S : MS) (a b v : Int32) : Int32 := if (0 ≤ a ∧ a ≤ S.1 0 - 1) ∧ mSt b v (S.2.2 2 a.toNatClampNeg) then S.2.2 (mRk b) a.toNatClampNeg else -1000
def msS (S : MS) (a b v : Int32) : MS := if (0 ≤ a ∧ a ≤ S.1 0 - 1) ∧ mSt b v (S.2.2 2 a.toNatClampNeg) then mA S (mRk b) (upd (S.2.2 (mRk b)) a.toNatClampNeg v) else S
def mpR (S : MS) (a n : Int32) : Int32 := if (0 ≤ a ∧ a ≤ S.1 0 - 1) ∧ (1 ≤ n ∧ n ≤ 30) then tlI S a.toNatClampNeg n.toNatClampNeg else -2
def mpS (S : MS) (a n : Int32) : MS := if (0 ≤ a ∧ a ≤ S.1 0 - 1) ∧ (1 ≤ n ∧ n ≤ 30) then mA (mA (mThN S a.toNatClampNeg n.toNatClampNeg) 4 (upd (S.2.2 4) a.toNatClampNeg (mRn S a.toNatClampNeg n.toNatClampNeg).1)) 5 (upd (S.2.2 5) a.toNatClampNeg (mRn S a.toNatClampNeg n.toNatClampNeg).2) else S
def mdR (S : MS) : Int32 := if S.1 0 = 0 then -3 else S.1 0 - 1
def mdS (S : MS) : MS := (if S.1 0 = 0 then S.1 else va_up S.1 0 (S.1 0 - 1), S.2)
/-- what a clause answers in the reference, and makes of it -/
def dnA (S : MS) (w a b c d : Int32) : Int32 := if w = 0 then (if mchR S a b c d < 0 then 0 else 1) else if w = 1 then (if msR S a 0 b = -1000 then 0 else 1) else if w = 2 then (if msR S a 1 b = -1000 then 0 else 1) else if w = 3 then (if msR S a 2 b = -1000 then 0 else 1) else if w = 4 then (if mpR S a b < 0 then 0 else 1) else (if mdR S < 0 then 0 else 1)
def dnS (S : MS) (w a b c d : Int32) : MS := if w = 0 then mchS S a b c d else if w = 1 then msS S a 0 b else if w = 2 then msS S a 1 b else if w = 3 then msS S a 2 b else if w = 4 then mpS S a b else mdS S
theorem msS_k (S : MS) (a b v : Int32) : (msS S a b v).1 = S.1 ∧ ∀ j, 5 < j → (msS S a b v).2.2 j = S.2.2 j := by
  unfold msS
  split
  · refine ⟨rfl, fun j hj => ?_⟩
    show (if j = mRk b then _ else S.2.2 j) = _
    rw [if_neg (fun z => ?_)]
    rw [z] at hj
    unfold mRk at hj
    repeat' split at hj
    all_goals omega
  · exact ⟨rfl, fun _ _ => rfl⟩
theorem mpS_k (S : MS) (a n : Int32) : (∀ i, (i < 6 ∨ 10 < i) → (mpS S a n).1 i = S.1 i) ∧ ∀ j, 5 < j → (mpS S a n).2.2 j = S.2.2 j := by
  unfold mpS
  split
  · refine ⟨fun i hi => ?_, fun j hj => ?_⟩
    · show (if i = 6 then _ else if i = 7 then _ else if i = 8 then _ else if i = 9 then _ else if i = 10 then _ else S.1 i) = _
      rw [if_neg (by omega), if_neg (by omega), if_neg (by omega), if_neg (by omega), if_neg (by omega)]
    · show (if j = 5 then _ else if j = 4 then _ else S.2.2 j) = _
      rw [if_neg (by omega), if_neg (by omega)]
  · exact ⟨fun _ _ => rfl, fun _ _ => rfl⟩
theorem mdS_OK {S : MS} (h : mOK S) : mOK (mdS S) := by
  obtain ⟨n, hn, e⟩ := h
  unfold mdS
  by_cases z : S.1 0 = 0
  · rw [if_pos z]; exact ⟨n, hn, e⟩
  · rw [if_neg z]
    have hn0 : n ≠ 0 := fun q => z (by rw [e, q]; rfl)
    refine ⟨n - 1, by omega, ?_⟩
    show S.1 0 - 1 = _
    rw [e]
    rcases (show n = 1 ∨ n = 2 ∨ n = 3 ∨ n = 4 by omega) with rfl | rfl | rfl | rfl <;> decide
theorem mchS_f (T : MS) (k c t s : Int32) {j : Nat} (h : j ≠ 0) : (mchS T k c t s).1 j = T.1 j := by
  unfold mchS
  split
  · exact if_neg h
  · rfl
theorem dnS_OK {S : MS} (h : mOK S) (w a b c d : Int32) : mOK (dnS S w a b c d) := by
  unfold dnS
  repeat' split
  · exact mchS_OK h _ _ _ _
  · obtain ⟨n, hn, e⟩ := h; exact ⟨n, hn, (congrFun (msS_k S a 0 b).1 0).trans e⟩
  · obtain ⟨n, hn, e⟩ := h; exact ⟨n, hn, (congrFun (msS_k S a 1 b).1 0).trans e⟩
  · obtain ⟨n, hn, e⟩ := h; exact ⟨n, hn, (congrFun (msS_k S a 2 b).1 0).trans e⟩
  · obtain ⟨n, hn, e⟩ := h; exact ⟨n, hn, ((mpS_k S a b).1 0 (by decide)).trans e⟩
  · exact mdS_OK h
theorem dnS_k (S : MS) (w a b c d : Int32) : (∀ i, i ≠ 0 → (i < 6 ∨ 10 < i) → (dnS S w a b c d).1 i = S.1 i) ∧ ∀ j, 5 < j → (dnS S w a b c d).2.2 j = S.2.2 j := by
  unfold dnS
  repeat' split
  · exact ⟨fun i h _ => mchS_f S _ _ _ _ h, fun j h => mchS_a _ _ _ _ h⟩
  · exact ⟨fun i _ _ => congrFun (msS_k S a 0 b).1 i, (msS_k S a 0 b).2⟩
  · exact ⟨fun i _ _ => congrFun (msS_k S a 1 b).1 i, (msS_k S a 1 b).2⟩
  · exact ⟨fun i _ _ => congrFun (msS_k S a 2 b).1 i, (msS_k S a 2 b).2⟩
  · exact ⟨fun i _ h => (mpS_k S a b).1 i h, (mpS_k S a b).2⟩
  · refine ⟨fun i h _ => ?_, fun j h => rfl⟩
    show (if S.1 0 = 0 then S.1 else va_up S.1 0 (S.1 0 - 1)) i = _
    split
    · rfl
    · exact if_neg h
def runM (S : MS) (W N : Nat → Int32) : Nat → MS × Int32
  | 0 => (S, 0)
  | j + 1 => (dnS (runM S W N j).1 (W j) (N (4 * j + 0)) (N (4 * j + 1)) (N (4 * j + 2)) (N (4 * j + 3)), if dnA (runM S W N j).1 (W j) (N (4 * j + 0)) (N (4 * j + 1)) (N (4 * j + 2)) (N (4 * j + 3)) = 0 then (runM S W N j).2 else (runM S W N j).2 + 1)
theorem runM_k (S : MS) (W N : Nat → Int32) : ∀ n, (mOK S → mOK (runM S W N n).1) ∧ (∀ i, i ≠ 0 → (i < 6 ∨ 10 < i) → (runM S W N n).1.1 i = S.1 i) ∧ ∀ j, 5 < j → (runM S W N n).1.2.2 j = S.2.2 j
  | 0 => ⟨fun h => h, fun _ _ _ => rfl, fun _ _ => rfl⟩
  | n + 1 => by
    have ih := runM_k S W N n
    exact ⟨fun h => dnS_OK (ih.1 h) _ _ _ _ _, fun i h1 h2 => ((dnS_k _ _ _ _ _ _).1 i h1 h2).trans (ih.2.1 i h1 h2), fun j h => ((dnS_k _ _ _ _ _ _).2 j h).trans (ih.2.2 j h)⟩
set_option maxHeartbeats 4000000 in
set_option maxRecDepth 100000 in
theorem cM_isDone (Z : VZ) (S : MS) (c_ : Nat) (hm : mOK S) (hc : c_ < 16) : CtF MW Z yX11_isDone cX11_isDone 4 (some .boolean) 4 0 0 [.ref (Z.2.2.2 99), .int (nI c_)] (S) (some (.int (dnA S (S.2.2 27 c_) (S.2.2 28 (4 * c_ + 0)) (S.2.2 28 (4 * c_ + 1)) (S.2.2 28 (4 * c_ + 2)) (S.2.2 28 (4 * c_ + 3))))) (dnS S (S.2.2 27 c_) (S.2.2 28 (4 * c_ + 0)) (S.2.2 28 (4 * c_ + 1)) (S.2.2 28 (4 * c_ + 2)) (S.2.2 28 (4 * c_ + 3))) := by
  refine V_entry (own := RX11) (by decide) rfl (Nat.le_of_ble_eq_true rfl) ?_
  intro B hB
  refine V_sub (L' := [(0, .ref (Z.2.2.2 99)), (1, .int (nI c_))]) [0, 1] rfl ?_
  refine V_aload_n (pc := 0) dX11_isDone_0 0 rfl rfl ?_
  refine Mg_numbers (pc := 1) dX11_isDone_1 ?_
  refine V_iconst (v := 4) (pc := 4) dX11_isDone_4 (by decide) ?_
  refine V_iload_n (pc := 5) dX11_isDone_5 1 rfl rfl ?_
  refine V_imul (pc := 6) dX11_isDone_6 ?_
  refine V_eqi (nI (4 * c_ + 0)) (by rw [nI4', Nat.add_zero]) ?_
  refine Ml_numbers (pc := 7) dX11_isDone_7 (by exact vp_in_nI (by omega) (by decide)) ?_
  refine V_eqi (S.2.2 28 (4 * c_ + 0)) (by rw [nI_clamp (by omega)]) ?_
  refine V_istore_n (pc := 8) (L2 := [(0, .ref (Z.2.2.2 99)), (1, .int (nI c_))]) dX11_isDone_8 rfl (by decide) rfl (fun x2_8 ex2_8 => ?_)
  subst ex2_8
  refine V_aload_n (pc := 9) dX11_isDone_9 1 rfl rfl ?_
  refine Mg_numbers (pc := 10) dX11_isDone_10 ?_
  refine V_iconst (v := 4) (pc := 13) dX11_isDone_13 (by decide) ?_
  refine V_iload_n (pc := 14) dX11_isDone_14 2 rfl rfl ?_
  refine V_imul (pc := 15) dX11_isDone_15 ?_
  refine V_iconst (v := 1) (pc := 16) dX11_isDone_16 (by decide) ?_
  refine V_iadd (pc := 17) dX11_isDone_17 ?_
  refine V_eqi (nI (4 * c_ + 1)) (by rw [nI4', show (1 : Int32) = nI 1 from rfl, nI_add]) ?_
  refine Ml_numbers (pc := 18) dX11_isDone_18 (by exact vp_in_nI (by omega) (by decide)) ?_
  refine V_eqi (S.2.2 28 (4 * c_ + 1)) (by rw [nI_clamp (by omega)]) ?_
  refine V_istore_n (pc := 19) (L2 := [(2, .int (S.2.2 28 (4 * c_ + 0))), (0, .ref (Z.2.2.2 99)), (1, .int (nI c_))]) dX11_isDone_19 rfl (by decide) rfl (fun x3_19 ex3_19 => ?_)
  subst ex3_19
  refine V_aload_n (pc := 20) dX11_isDone_20 2 rfl rfl ?_
  refine Mg_words (pc := 21) dX11_isDone_21 ?_
  refine V_iload_n (pc := 24) dX11_isDone_24 3 rfl rfl ?_
  refine Ml_words (pc := 25) dX11_isDone_25 (by exact vp_in_nI (by omega) (by decide)) ?_
  refine V_eqi (S.2.2 27 c_) (by rw [nI_clamp (by omega)]) ?_
  by_cases h26_0 : (S.2.2 27 c_) = 0
  · refine V_eqi 0 h26_0 ?_
    refine V_tableIn (pc := 26) (tgt := 60) dX11_isDone_26 (by decide) (by decide) rfl (by decide) ?_
    refine V_aload_n (pc := 60) dX11_isDone_60 2 rfl rfl ?_
    refine V_iload_n (pc := 61) dX11_isDone_61 1 rfl rfl ?_
    refine V_iload_n (pc := 62) dX11_isDone_62 0 rfl rfl ?_
    refine V_aload_n (pc := 63) dX11_isDone_63 2 rfl rfl ?_
    refine Mg_numbers (pc := 64) dX11_isDone_64 ?_
    refine V_iconst (v := 4) (pc := 67) dX11_isDone_67 (by decide) ?_
    refine V_iload_n (pc := 68) dX11_isDone_68 3 rfl rfl ?_
    refine V_imul (pc := 69) dX11_isDone_69 ?_
    refine V_iconst (v := 2) (pc := 70) dX11_isDone_70 (by decide) ?_
    refine V_iadd (pc := 71) dX11_isDone_71 ?_
    refine V_eqi (nI (4 * c_ + 2)) (by rw [nI4', show (2 : Int32) = nI 2 from rfl, nI_add]) ?_
    refine Ml_numbers (pc := 72) dX11_isDone_72 (by exact vp_in_nI (by omega) (by decide)) ?_
    refine V_eqi (S.2.2 28 (4 * c_ + 2)) (by rw [nI_clamp (by omega)]) ?_
    refine V_aload_n (pc := 73) dX11_isDone_73 2 rfl rfl ?_
    refine Mg_numbers (pc := 74) dX11_isDone_74 ?_
    refine V_iconst (v := 4) (pc := 77) dX11_isDone_77 (by decide) ?_
    refine V_iload_n (pc := 78) dX11_isDone_78 3 rfl rfl ?_
    refine V_imul (pc := 79) dX11_isDone_79 ?_
    refine V_iconst (v := 3) (pc := 80) dX11_isDone_80 (by decide) ?_
    refine V_iadd (pc := 81) dX11_isDone_81 ?_
    refine V_eqi (nI (4 * c_ + 3)) (by rw [nI4', show (3 : Int32) = nI 3 from rfl, nI_add]) ?_
    refine Ml_numbers (pc := 82) dX11_isDone_82 (by exact vp_in_nI (by omega) (by decide)) ?_
    refine V_eqi (S.2.2 28 (4 * c_ + 3)) (by rw [nI_clamp (by omega)]) ?_
    refine McVi (pc := 83) dX11_isDone_83 (cM_machine Z _ _ _ _ _ (by exact hm)) kM_311 rfl rfl (Nat.le_of_ble_eq_true rfl) (by decide) (by decide) ?_
    refine V_eqi (mchR S (S.2.2 28 (4 * c_ + 0)) (S.2.2 28 (4 * c_ + 1)) (S.2.2 28 (4 * c_ + 2)) (S.2.2 28 (4 * c_ + 3))) rfl ?_
    refine V_eqS (mchS S (S.2.2 28 (4 * c_ + 0)) (S.2.2 28 (4 * c_ + 1)) (S.2.2 28 (4 * c_ + 2)) (S.2.2 28 (4 * c_ + 3))) rfl ?_
    refine V_if_lt (pc := 86) (tgt := 93) dX11_isDone_86 (by decide) (fun h86 => ?_) (fun h86 => ?_)
    · skip
      refine V_iconst (v := 0) (pc := 93) dX11_isDone_93 (by decide) ?_
      exact V_zret (pc := 94) dX11_isDone_94 (Nat.le_of_ble_eq_true rfl) (Nat.le_of_ble_eq_true rfl) (Or.inl rfl) (hB _ _ ⟨congrArg (fun z => some (Value.int z)) (by unfold dnA; rw [if_pos h26_0]; first | exact (if_pos h86).symm | exact (if_neg h86).symm), by unfold dnS; rw [if_pos h26_0]⟩)
    · skip
      refine V_iconst (v := 1) (pc := 89) dX11_isDone_89 (by decide) ?_
      refine V_goto (pc := 90) (tgt := 94) dX11_isDone_90 (by decide) ?_
      exact V_zret (pc := 94) dX11_isDone_94 (Nat.le_of_ble_eq_true rfl) (Nat.le_of_ble_eq_true rfl) (Or.inr rfl) (hB _ _ ⟨congrArg (fun z => some (Value.int z)) (by unfold dnA; rw [if_pos h26_0]; first | exact (if_pos h86).symm | exact (if_neg h86).symm), by unfold dnS; rw [if_pos h26_0]⟩)
  by_cases h26_1 : (S.2.2 27 c_) = 1
  · refine V_eqi 1 h26_1 ?_
    refine V_tableIn (pc := 26) (tgt := 95) dX11_isDone_26 (by decide) (by decide) rfl (by decide) ?_
    refine V_aload_n (pc := 95) dX11_isDone_95 2 rfl rfl ?_
    refine V_iload_n (pc := 96) dX11_isDone_96 1 rfl rfl ?_
    refine V_iconst (v := 0) (pc := 97) dX11_isDone_97 (by decide) ?_
    refine V_iload_n (pc := 98) dX11_isDone_98 0 rfl rfl ?_
    refine McVi (pc := 99) dX11_isDone_99 (cM_set Z _ _ _ _ (by exact hm)) kM_314 rfl rfl (Nat.le_of_ble_eq_true rfl) (by decide) (by decide) ?_
    refine V_eqi (msR S (S.2.2 28 (4 * c_ + 0)) 0 (S.2.2 28 (4 * c_ + 1))) rfl ?_
    refine V_eqS (msS S (S.2.2 28 (4 * c_ + 0)) 0 (S.2.2 28 (4 * c_ + 1))) rfl ?_
    refine V_sipush (v := (-1000)) (pc := 102) dX11_isDone_102 (by decide) ?_
    refine V_icmp_eq (pc := 105) (tgt := 112) dX11_isDone_105 (by decide) (fun h105 => ?_) (fun h105 => ?_)
    · skip
      refine V_iconst (v := 0) (pc := 112) dX11_isDone_112 (by decide) ?_
      exact V_zret (pc := 113) dX11_isDone_113 (Nat.le_of_ble_eq_true rfl) (Nat.le_of_ble_eq_true rfl) (Or.inl rfl) (hB _ _ ⟨congrArg (fun z => some (Value.int z)) (by unfold dnA; rw [if_neg h26_0, if_pos h26_1]; first | exact (if_pos h105).symm | exact (if_neg h105).symm), by unfold dnS; rw [if_neg h26_0, if_pos h26_1]⟩)
    · skip
      refine V_iconst (v := 1) (pc := 108) dX11_isDone_108 (by decide) ?_
      refine V_goto (pc := 109) (tgt := 113) dX11_isDone_109 (by decide) ?_
      exact V_zret (pc := 113) dX11_isDone_113 (Nat.le_of_ble_eq_true rfl) (Nat.le_of_ble_eq_true rfl) (Or.inr rfl) (hB _ _ ⟨congrArg (fun z => some (Value.int z)) (by unfold dnA; rw [if_neg h26_0, if_pos h26_1]; first | exact (if_pos h105).symm | exact (if_neg h105).symm), by unfold dnS; rw [if_neg h26_0, if_pos h26_1]⟩)
  by_cases h26_2 : (S.2.2 27 c_) = 2
  · refine V_eqi 2 h26_2 ?_
    refine V_tableIn (pc := 26) (tgt := 114) dX11_isDone_26 (by decide) (by decide) rfl (by decide) ?_
    refine V_aload_n (pc := 114) dX11_isDone_114 2 rfl rfl ?_
    refine V_iload_n (pc := 115) dX11_isDone_115 1 rfl rfl ?_
    refine V_iconst (v := 1) (pc := 116) dX11_isDone_116 (by decide) ?_
    refine V_iload_n (pc := 117) dX11_isDone_117 0 rfl rfl ?_
    refine McVi (pc := 118) dX11_isDone_118 (cM_set Z _ _ _ _ (by exact hm)) kM_314 rfl rfl (Nat.le_of_ble_eq_true rfl) (by decide) (by decide) ?_
    refine V_eqi (msR S (S.2.2 28 (4 * c_ + 0)) 1 (S.2.2 28 (4 * c_ + 1))) rfl ?_
    refine V_eqS (msS S (S.2.2 28 (4 * c_ + 0)) 1 (S.2.2 28 (4 * c_ + 1))) rfl ?_
    refine V_sipush (v := (-1000)) (pc := 121) dX11_isDone_121 (by decide) ?_
    refine V_icmp_eq (pc := 124) (tgt := 131) dX11_isDone_124 (by decide) (fun h124 => ?_) (fun h124 => ?_)
    · skip
      refine V_iconst (v := 0) (pc := 131) dX11_isDone_131 (by decide) ?_
      exact V_zret (pc := 132) dX11_isDone_132 (Nat.le_of_ble_eq_true rfl) (Nat.le_of_ble_eq_true rfl) (Or.inl rfl) (hB _ _ ⟨congrArg (fun z => some (Value.int z)) (by unfold dnA; rw [if_neg h26_0, if_neg h26_1, if_pos h26_2]; first | exact (if_pos h124).symm | exact (if_neg h124).symm), by unfold dnS; rw [if_neg h26_0, if_neg h26_1, if_pos h26_2]⟩)
    · skip
      refine V_iconst (v := 1) (pc := 127) dX11_isDone_127 (by decide) ?_
      refine V_goto (pc := 128) (tgt := 132) dX11_isDone_128 (by decide) ?_
      exact V_zret (pc := 132) dX11_isDone_132 (Nat.le_of_ble_eq_true rfl) (Nat.le_of_ble_eq_true rfl) (Or.inr rfl) (hB _ _ ⟨congrArg (fun z => some (Value.int z)) (by unfold dnA; rw [if_neg h26_0, if_neg h26_1, if_pos h26_2]; first | exact (if_pos h124).symm | exact (if_neg h124).symm), by unfold dnS; rw [if_neg h26_0, if_neg h26_1, if_pos h26_2]⟩)
  by_cases h26_3 : (S.2.2 27 c_) = 3
  · refine V_eqi 3 h26_3 ?_
    refine V_tableIn (pc := 26) (tgt := 133) dX11_isDone_26 (by decide) (by decide) rfl (by decide) ?_
    refine V_aload_n (pc := 133) dX11_isDone_133 2 rfl rfl ?_
    refine V_iload_n (pc := 134) dX11_isDone_134 1 rfl rfl ?_
    refine V_iconst (v := 2) (pc := 135) dX11_isDone_135 (by decide) ?_
    refine V_iload_n (pc := 136) dX11_isDone_136 0 rfl rfl ?_
    refine McVi (pc := 137) dX11_isDone_137 (cM_set Z _ _ _ _ (by exact hm)) kM_314 rfl rfl (Nat.le_of_ble_eq_true rfl) (by decide) (by decide) ?_
    refine V_eqi (msR S (S.2.2 28 (4 * c_ + 0)) 2 (S.2.2 28 (4 * c_ + 1))) rfl ?_
    refine V_eqS (msS S (S.2.2 28 (4 * c_ + 0)) 2 (S.2.2 28 (4 * c_ + 1))) rfl ?_
    refine V_sipush (v := (-1000)) (pc := 140) dX11_isDone_140 (by decide) ?_
    refine V_icmp_eq (pc := 143) (tgt := 150) dX11_isDone_143 (by decide) (fun h143 => ?_) (fun h143 => ?_)
    · skip
      refine V_iconst (v := 0) (pc := 150) dX11_isDone_150 (by decide) ?_
      exact V_zret (pc := 151) dX11_isDone_151 (Nat.le_of_ble_eq_true rfl) (Nat.le_of_ble_eq_true rfl) (Or.inl rfl) (hB _ _ ⟨congrArg (fun z => some (Value.int z)) (by unfold dnA; rw [if_neg h26_0, if_neg h26_1, if_neg h26_2, if_pos h26_3]; first | exact (if_pos h143).symm | exact (if_neg h143).symm), by unfold dnS; rw [if_neg h26_0, if_neg h26_1, if_neg h26_2, if_pos h26_3]⟩)
    · skip
      refine V_iconst (v := 1) (pc := 146) dX11_isDone_146 (by decide) ?_
      refine V_goto (pc := 147) (tgt := 151) dX11_isDone_147 (by decide) ?_
      exact V_zret (pc := 151) dX11_isDone_151 (Nat.le_of_ble_eq_true rfl) (Nat.le_of_ble_eq_true rfl) (Or.inr rfl) (hB _ _ ⟨congrArg (fun z => some (Value.int z)) (by unfold dnA; rw [if_neg h26_0, if_neg h26_1, if_neg h26_2, if_pos h26_3]; first | exact (if_pos h143).symm | exact (if_neg h143).symm), by unfold dnS; rw [if_neg h26_0, if_neg h26_1, if_neg h26_2, if_pos h26_3]⟩)
  by_cases h26_4 : (S.2.2 27 c_) = 4
  · refine V_eqi 4 h26_4 ?_
    refine V_tableIn (pc := 26) (tgt := 152) dX11_isDone_26 (by decide) (by decide) rfl (by decide) ?_
    refine V_aload_n (pc := 152) dX11_isDone_152 2 rfl rfl ?_
    refine V_iload_n (pc := 153) dX11_isDone_153 1 rfl rfl ?_
    refine V_iload_n (pc := 154) dX11_isDone_154 0 rfl rfl ?_
    refine McVi (pc := 155) dX11_isDone_155 (cM_step Z _ _ _ (by exact hm)) kM_317 rfl rfl (Nat.le_of_ble_eq_true rfl) (by decide) (by decide) ?_
    refine V_eqi (mpR S (S.2.2 28 (4 * c_ + 0)) (S.2.2 28 (4 * c_ + 1))) rfl ?_
    refine V_eqS (mpS S (S.2.2 28 (4 * c_ + 0)) (S.2.2 28 (4 * c_ + 1))) rfl ?_
    refine V_if_lt (pc := 158) (tgt := 165) dX11_isDone_158 (by decide) (fun h158 => ?_) (fun h158 => ?_)
    · skip
      refine V_iconst (v := 0) (pc := 165) dX11_isDone_165 (by decide) ?_
      exact V_zret (pc := 166) dX11_isDone_166 (Nat.le_of_ble_eq_true rfl) (Nat.le_of_ble_eq_true rfl) (Or.inl rfl) (hB _ _ ⟨congrArg (fun z => some (Value.int z)) (by unfold dnA; rw [if_neg h26_0, if_neg h26_1, if_neg h26_2, if_neg h26_3, if_pos h26_4]; first | exact (if_pos h158).symm | exact (if_neg h158).symm), by unfold dnS; rw [if_neg h26_0, if_neg h26_1, if_neg h26_2, if_neg h26_3, if_pos h26_4]⟩)
    · skip
      refine V_iconst (v := 1) (pc := 161) dX11_isDone_161 (by decide) ?_
      refine V_goto (pc := 162) (tgt := 166) dX11_isDone_162 (by decide) ?_
      exact V_zret (pc := 166) dX11_isDone_166 (Nat.le_of_ble_eq_true rfl) (Nat.le_of_ble_eq_true rfl) (Or.inr rfl) (hB _ _ ⟨congrArg (fun z => some (Value.int z)) (by unfold dnA; rw [if_neg h26_0, if_neg h26_1, if_neg h26_2, if_neg h26_3, if_pos h26_4]; first | exact (if_pos h158).symm | exact (if_neg h158).symm), by unfold dnS; rw [if_neg h26_0, if_neg h26_1, if_neg h26_2, if_neg h26_3, if_pos h26_4]⟩)
  refine V_tableOut (pc := 26) (tgt := 167) dX11_isDone_26 (by have a0 := lv_neT h26_0 (a := 0) rfl; have a1 := lv_neT h26_1 (a := 1) rfl; have a2 := lv_neT h26_2 (a := 2) rfl; have a3 := lv_neT h26_3 (a := 3) rfl; have a4 := lv_neT h26_4 (a := 4) rfl; omega) (by decide) ?_
  refine V_aload_n (pc := 167) dX11_isDone_167 2 rfl rfl ?_
  refine McVi (pc := 168) dX11_isDone_168 (cM_drop Z _) kM_319 rfl rfl (Nat.le_of_ble_eq_true rfl) (by decide) (by decide) ?_
  refine V_eqi (mdR S) rfl ?_
  refine V_eqS (mdS S) rfl ?_
  refine V_if_lt (pc := 171) (tgt := 178) dX11_isDone_171 (by decide) (fun h171 => ?_) (fun h171 => ?_)
  · skip
    refine V_iconst (v := 0) (pc := 178) dX11_isDone_178 (by decide) ?_
    exact V_zret (pc := 179) dX11_isDone_179 (Nat.le_of_ble_eq_true rfl) (Nat.le_of_ble_eq_true rfl) (Or.inl rfl) (hB _ _ ⟨congrArg (fun z => some (Value.int z)) (by unfold dnA; rw [if_neg h26_0, if_neg h26_1, if_neg h26_2, if_neg h26_3, if_neg h26_4]; first | exact (if_pos h171).symm | exact (if_neg h171).symm), by unfold dnS; rw [if_neg h26_0, if_neg h26_1, if_neg h26_2, if_neg h26_3, if_neg h26_4]⟩)
  · skip
    refine V_iconst (v := 1) (pc := 174) dX11_isDone_174 (by decide) ?_
    refine V_goto (pc := 175) (tgt := 179) dX11_isDone_175 (by decide) ?_
    exact V_zret (pc := 179) dX11_isDone_179 (Nat.le_of_ble_eq_true rfl) (Nat.le_of_ble_eq_true rfl) (Or.inr rfl) (hB _ _ ⟨congrArg (fun z => some (Value.int z)) (by unfold dnA; rw [if_neg h26_0, if_neg h26_1, if_neg h26_2, if_neg h26_3, if_neg h26_4]; first | exact (if_pos h171).symm | exact (if_neg h171).symm), by unfold dnS; rw [if_neg h26_0, if_neg h26_1, if_neg h26_2, if_neg h26_3, if_neg h26_4]⟩)
set_option maxHeartbeats 4000000 in
set_option maxRecDepth 100000 in
theorem cM_text (Z : VZ) (S : MS) (L_ : Nat) (hL : S.1 21 = nI L_) (hL6 : L_ ≤ 60) (hm : mOK S) : CtS MW Z yX11_text cX11_text 5 (some .int) 9 0 0 [.ref (Z.2.2.2 99)] (S) (fun v S' => ∃ (n : Int32) (W' N' : Nat → Int32) (a b k u r : Int32), v = some (.int r) ∧ ((∃ c, pOK (S.2.2 20) L_ c ∧ hldC (S.2.2 20) L_ c W' N' ∧ r = (runM (mF (mTk (mB S n W' N') a b k u) 21 0) W' N' c).2 ∧ S' = (runM (mF (mTk (mB S n W' N') a b k u) 21 0) W' N' c).1) ∨ (∃ f, pNO (S.2.2 20) L_ f ∧ r = -100 - nI (tB (S.2.2 20) L_ f) ∧ S' = mF (mTk (mB S n W' N') a b k u) 21 0))) := by
  refine V_entryS (own := RX11) (by decide +kernel) rfl (Nat.le_of_ble_eq_true rfl) ?_
  intro B hB hst
  refine V_sub (L' := [(0, .ref (Z.2.2.2 99))]) [0] rfl ?_
  refine V_aload_n (pc := 0) dX11_text_0 0 rfl rfl ?_
  refine V_callVS (q0 := 0) (ci := 11) (C := RX11) (T := TX11) (N := 35) (pc := 1) hst dX11_text_1 (cM_takesAll Z _ L_ (by exact hL) (by exact hL6)) kM_321 rfl rfl rfl rfl (Nat.le_of_ble_eq_true rfl) (by decide) (by decide) (Nat.le_of_ble_eq_true rfl) (Nat.le_of_ble_eq_true rfl) (fun v1 S1 hp1 => ?_)
  obtain ⟨o, n, W', N', a, k, u, p, rfl, rfl, hk1, hk2⟩ := hp1
  obtain ⟨b, eb⟩ : ∃ b, b = nI (tB (S.2.2 20) L_ p) := ⟨_, rfl⟩
  refine V_eqS (mTk (mB S n W' N') a b k u) (by rw [eb]) ?_
  refine V_istore_n (pc := 4) (L2 := [(0, .ref (Z.2.2.2 99))]) dX11_text_4 rfl (by decide) rfl (fun x1_4 ex1_4 => ?_)
  subst ex1_4
  refine V_aload_n (pc := 5) dX11_text_5 1 rfl rfl ?_
  refine Mg_begun (pc := 6) (v := b) rfl dX11_text_6 ?_
  refine V_istore_n (pc := 9) (L2 := [(1, .int (bI (o = true))), (0, .ref (Z.2.2.2 99))]) dX11_text_9 rfl (by decide) rfl (fun x2_9 ex2_9 => ?_)
  subst ex2_9
  refine V_aload_n (pc := 10) dX11_text_10 2 rfl rfl ?_
  refine V_iconst (v := 0) (pc := 11) dX11_text_11 (by decide) ?_
  refine Mp_taped (pc := 12) dX11_text_12 ?_
  obtain ⟨S1, eS1⟩ : ∃ S1, S1 = mF (mTk (mB S n W' N') a b k u) 21 0 := ⟨_, rfl⟩
  refine V_eqS S1 eS1.symm ?_
  refine V_iload_n (pc := 15) dX11_text_15 1 rfl rfl ?_
  refine V_if_ne (pc := 16) (tgt := 24) dX11_text_16 (by decide) (fun h16 => ?_) (fun h16 => ?_)
  · skip
    have ho : o = true := by
      by_cases z : o = true
      · exact z
      · exact absurd (bI_f z) h16
    obtain ⟨c, en, hok, hho⟩ := hk1 ho
    have hc13 := pOK_13 hL6 hok
    have hx1 : mOK S1 := by rw [eS1]; exact hm
    have h32 : S1.1 26 = nI c := by rw [eS1]; exact en
    have h33 : S1.2.2 27 = W' := by rw [eS1]; rfl
    have h34 : S1.2.2 28 = N' := by rw [eS1]; rfl
    refine V_eqS (runM S1 W' N' 0).1 rfl ?_
    refine V_iconst (v := 0) (pc := 24) dX11_text_24 (by decide) ?_
    refine V_istore_n (pc := 25) (L2 := [(2, .int b), (1, .int (bI (o = true))), (0, .ref (Z.2.2.2 99))]) dX11_text_25 rfl (by decide) rfl (fun x3_25 ex3_25 => ?_)
    subst ex3_25
    refine V_iconst (v := 0) (pc := 26) dX11_text_26 (by decide) ?_
    refine V_istore (pc := 27) (L2 := [(3, .int 0), (2, .int b), (1, .int (bI (o = true))), (0, .ref (Z.2.2.2 99))]) dX11_text_27 (by decide) rfl (fun x4_27 ex4_27 => ?_)
    subst ex4_27
    refine V_sub (L' := [(4, .int (nI 0)), (3, .int 0), (2, .int b), (1, .int (bI (o = true))), (0, .ref (Z.2.2.2 99))]) [0, 1, 2, 3, 4] rfl ?_
    refine Vloop (σ := Nat × Int32) (fun x => (x.1) ≤ c ∧ (x.2) = (runM S1 W' N' (x.1)).2) (fun x => c - (x.1)) (fun x => V MW Z cX11_text RX11 5 (some .int) 9 0 0 B 0 0 29 [(4, .int (nI (x.1))), (3, .int (x.2)), (2, .int b), (1, .int (bI (o = true))), (0, .ref (Z.2.2.2 99))] [] ((runM S1 W' N' (x.1)).1)) ?_ (0, 0) (by exact ⟨Nat.zero_le _, rfl⟩)
    rintro ⟨j, x⟩ hI29 ih29
    have hI29 : j ≤ c ∧ x = (runM S1 W' N' j).2 := hI29
    show V MW Z cX11_text RX11 5 (some .int) 9 0 0 B 0 0 29 [(4, .int (nI j)), (3, .int x), (2, .int b), (1, .int (bI (o = true))), (0, .ref (Z.2.2.2 99))] [] ((runM S1 W' N' j).1)
    refine V_iload (pc := 29) dX11_text_29 0 rfl ?_
    refine V_aload_n (pc := 31) dX11_text_31 4 rfl rfl ?_
    refine Mg_clauses (pc := 32) (v := (nI c)) ((runM_k S1 W' N' j).2.1 26 (by decide) (by decide) |>.trans h32) dX11_text_32 ?_
    refine V_icmp_ge (pc := 35) (tgt := 56) dX11_text_35 (by decide) (fun h35 => ?_) (fun h35 => ?_)
    · skip
      have hj : j = c := by
        have q := (nI_leI (by omega) (by omega)).mp h35
        omega
      refine V_iload_n (pc := 56) dX11_text_56 1 rfl rfl ?_
      exact V_iret (pc := 57) dX11_text_57 (Nat.le_of_ble_eq_true rfl) (Nat.le_of_ble_eq_true rfl) (hB _ _ (by exact ⟨n, W', N', a, b, k, u, x, rfl, Or.inl ⟨c, hok, hho, by rw [← eS1, ← hj]; exact hI29.2, by rw [← eS1, ← hj]⟩⟩))
    · skip
      have hj : j < c := Nat.not_le.mp (fun q => h35 (nI_le q (by omega)))
      refine V_aload_n (pc := 38) dX11_text_38 4 rfl rfl ?_
      refine V_iload (pc := 39) dX11_text_39 0 rfl ?_
      refine McVi (pc := 41) dX11_text_41 (cM_isDone Z _ j (by exact (runM_k S1 W' N' j).1 hx1) (by omega)) kM_324 rfl rfl (Nat.le_of_ble_eq_true rfl) (by decide) (by decide) ?_
      have e27 := ((runM_k S1 W' N' j).2.2 27 (by decide)).trans h33
      have e28 := ((runM_k S1 W' N' j).2.2 28 (by decide)).trans h34
      refine V_eqi (dnA (runM S1 W' N' j).1 (W' j) (N' (4 * j + 0)) (N' (4 * j + 1)) (N' (4 * j + 2)) (N' (4 * j + 3))) (by rw [e27, e28]) ?_
      refine V_eqS (runM S1 W' N' (j + 1)).1 (by rw [e27, e28]; rfl) ?_
      refine V_if_eq (pc := 44) (tgt := 50) dX11_text_44 (by decide) (fun h44 => ?_) (fun h44 => ?_)
      · skip
        refine V_iinc (pc := 50) (v := 1) (L2 := [(3, .int x), (2, .int b), (1, .int (bI (o = true))), (0, .ref (Z.2.2.2 99))]) dX11_text_50 0 rfl (by decide) (by decide) rfl (fun x4_50 ex4_50 => ?_)
        rw [nI_1] at ex4_50
        subst ex4_50
        refine V_goto (pc := 53) (tgt := 29) dX11_text_53 (by decide) ?_
        refine V_sub (L' := [(4, .int (nI (j + 1))), (3, .int x), (2, .int b), (1, .int (bI (o = true))), (0, .ref (Z.2.2.2 99))]) [0, 1, 2, 3, 4] rfl ?_
        refine ih29 (((j + 1)), _) ?_ ?_
        · refine ⟨hj, ?_⟩
          show _ = (if dnA (runM S1 W' N' j).1 (W' j) (N' (4 * j + 0)) (N' (4 * j + 1)) (N' (4 * j + 2)) (N' (4 * j + 3)) = 0 then (runM S1 W' N' j).2 else (runM S1 W' N' j).2 + 1)
          rw [hI29.2]
          first | exact (if_pos h44).symm | exact (if_neg h44).symm
        · show c - (j + 1) < c - j
          omega
      · skip
        refine V_iinc (pc := 47) (v := 1) (L2 := [(4, .int (nI j)), (2, .int b), (1, .int (bI (o = true))), (0, .ref (Z.2.2.2 99))]) dX11_text_47 1 rfl (by decide) (by decide) rfl (fun x3_47 ex3_47 => ?_)
        subst ex3_47
        refine V_iinc (pc := 50) (v := 1) (L2 := [(3, .int (x + 1)), (2, .int b), (1, .int (bI (o = true))), (0, .ref (Z.2.2.2 99))]) dX11_text_50 1 rfl (by decide) (by decide) rfl (fun x4_50 ex4_50 => ?_)
        rw [nI_1] at ex4_50
        subst ex4_50
        refine V_goto (pc := 53) (tgt := 29) dX11_text_53 (by decide) ?_
        refine V_sub (L' := [(4, .int (nI (j + 1))), (3, .int (x + 1)), (2, .int b), (1, .int (bI (o = true))), (0, .ref (Z.2.2.2 99))]) [0, 1, 2, 3, 4] rfl ?_
        refine ih29 (((j + 1)), _) ?_ ?_
        · refine ⟨hj, ?_⟩
          show _ = (if dnA (runM S1 W' N' j).1 (W' j) (N' (4 * j + 0)) (N' (4 * j + 1)) (N' (4 * j + 2)) (N' (4 * j + 3)) = 0 then (runM S1 W' N' j).2 else (runM S1 W' N' j).2 + 1)
          rw [hI29.2]
          first | exact (if_pos h44).symm | exact (if_neg h44).symm
        · show c - (j + 1) < c - j
          omega
  · skip
    have ho : ¬ o = true := fun z => absurd (h16.symm.trans (bI_t z)) (by decide)
    refine V_bipush (v := (-100)) (pc := 19) dX11_text_19 (by decide) ?_
    refine V_iload_n (pc := 21) dX11_text_21 0 rfl rfl ?_
    refine V_isub (pc := 22) dX11_text_22 ?_
    exact V_iret (pc := 23) dX11_text_23 (Nat.le_of_ble_eq_true rfl) (Nat.le_of_ble_eq_true rfl) (hB _ _ (by exact ⟨n, W', N', a, b, k, u, _, rfl, Or.inr ⟨p, hk2 ho, by rw [← eb], eS1⟩⟩))
