def mchS (T : MS) (k c t s : Int32) : MS := if mV k c t s ∧ ¬ T.1 0 = 4 then mF (mLay T (T.1 0).toNatClampNeg k c t s 0) 0 (T.1 0 + 1) else T
def mchR (T : MS) (k c t s : Int32) : Int32 := if mV k c t s then (if T.1 0 = 4 then -4 else T.1 0 + 1 - 1) else -2
theorem mchS_OK {T : MS} (h : mOK T) (k c t s : Int32) : mOK (mchS T k c t s) := by
  unfold mchS
  split
  · rename_i hc
    obtain ⟨n, hn, e⟩ := h
    have : n ≠ 4 := fun z => hc.2 (by rw [e, z]; rfl)
    refine ⟨n + 1, by omega, ?_⟩
    show va_up (mLay T (T.1 0).toNatClampNeg k c t s 0).1 0 (T.1 0 + 1) 0 = _
    rw [va_up_self, e, nI_1]
  · exact h
theorem mchS_a {T : MS} (k c t s : Int32) {j : Nat} (h : 5 < j) : (mchS T k c t s).2.2 j = T.2.2 j := by
  unfold mchS
  split
  · show va_up (va_up (va_up (va_up (va_up T.2.2 1 _) 2 _) 3 _) 4 _) 5 _ j = _
    rw [va_up_ne _ _ (by omega), va_up_ne _ _ (by omega), va_up_ne _ _ (by omega), va_up_ne _ _ (by omega), va_up_ne _ _ (by omega)]
  · rfl
def ldS (S : MS) (p j : Nat) : MS := it (fun i T => mchS T (S.2.2 34 (p + 4 * i)) (S.2.2 34 (p + 4 * i + 1)) (S.2.2 34 (p + 4 * i + 2)) (S.2.2 34 (p + 4 * i + 3))) j S
def ldC (S : MS) (p j : Nat) : Int32 := it (fun i c => if mchR (ldS S p i) (S.2.2 34 (p + 4 * i)) (S.2.2 34 (p + 4 * i + 1)) (S.2.2 34 (p + 4 * i + 2)) (S.2.2 34 (p + 4 * i + 3)) < 0 then c else c + 1) j 0
theorem ldS_OK {S : MS} (h : mOK S) (p j : Nat) : mOK (ldS S p j) := by
  induction j with
  | zero => exact h
  | succ j ih => exact mchS_OK ih _ _ _ _
theorem ldS_a (S : MS) (p j : Nat) {k : Nat} (h : 5 < k) : (ldS S p j).2.2 k = S.2.2 k := by
  induction j with
  | zero => rfl
  | succ j ih => exact (mchS_a _ _ _ _ h).trans ih
abbrev wiM (S : MS) (a : Nat) (f : Int32) (j : Nat) : Prop := ¬ f < 0 ∧ ¬ 4 * nI j + 4 < 0 ∧ ¬ S.2.2 33 a - (4 * nI j + 4) < f
theorem e4 (j : Nat) : 4 * nI j + 4 = nI (4 * j + 4) := by rw [show (4 : Int32) = nI 4 from rfl, pk_mul, nI_add]
theorem wi_ix {S : MS} (hs : sOK2 S) {a f : Int32} (ha : vp_in a 4) {j : Nat} (hj : j < 4) (h : wiM S a.toNatClampNeg f j) : f.toNatClampNeg + 4 * j + 4 ≤ 40 ∧ (40 * a + f) + 4 * nI j = nI (40 * a.toNatClampNeg + f.toNatClampNeg + 4 * j) ∧ a.toNatClampNeg ≤ 3 := by
  have w := inW hs ha h
  rw [e4, nI_clamp (n := 4 * j + 4) (by omega)] at w
  have c := cpIx ha ⟨w.1, by omega⟩
  rw [c.1, show (4 : Int32) = nI 4 from rfl, pk_mul, nI_add]
  exact ⟨by omega, rfl, c.2.2⟩
/-- what load answers, and makes of the reference -/
def loadM (S : MS) (a_ b_ f_ n_ : Int32) (v : Option Value) (S' : MS) : Prop := (¬ ((0 ≤ a_ ∧ a_ ≤ 3) ∧ (0 ≤ b_ ∧ b_ ≤ 1) ∧ (0 ≤ n_ ∧ n_ ≤ 4)) ∧ v = some (.int (-2)) ∧ S' = S) ∨ (((0 ≤ a_ ∧ a_ ≤ 3) ∧ (0 ≤ b_ ∧ b_ ≤ 1) ∧ (0 ≤ n_ ∧ n_ ≤ 4)) ∧ ¬ 0 ≤ S.2.2 32 a_.toNatClampNeg ∧ v = some (.int (-11)) ∧ S' = S) ∨ (((0 ≤ a_ ∧ a_ ≤ 3) ∧ (0 ≤ b_ ∧ b_ ≤ 1) ∧ (0 ≤ n_ ∧ n_ ≤ 4)) ∧ 0 ≤ S.2.2 32 a_.toNatClampNeg ∧ ¬ S.2.2 32 a_.toNatClampNeg = b_ ∧ v = some (.int (-13)) ∧ S' = S) ∨ (((0 ≤ a_ ∧ a_ ≤ 3) ∧ (0 ≤ b_ ∧ b_ ≤ 1) ∧ (0 ≤ n_ ∧ n_ ≤ 4)) ∧ 0 ≤ S.2.2 32 a_.toNatClampNeg ∧ S.2.2 32 a_.toNatClampNeg = b_ ∧ ((S' = ldS S (40 * a_.toNatClampNeg + f_.toNatClampNeg) n_.toNatClampNeg ∧ v = some (.int (ldC S (40 * a_.toNatClampNeg + f_.toNatClampNeg) n_.toNatClampNeg)) ∧ ∀ i, i < n_.toNatClampNeg → wiM S a_.toNatClampNeg f_ i) ∨ (∃ j, j < n_.toNatClampNeg ∧ S' = ldS S (40 * a_.toNatClampNeg + f_.toNatClampNeg) j ∧ v = some (.int (-12)) ∧ (∀ i, i < j → wiM S a_.toNatClampNeg f_ i) ∧ ¬ wiM S a_.toNatClampNeg f_ j)))
set_option maxHeartbeats 4000000 in
set_option maxRecDepth 100000 in
theorem cM_load (Z : VZ) (S : MS) (a_ : Int32) (b_ : Int32) (f_ : Int32) (n_ : Int32) (hm : mOK S) (hs : sOK2 S) : Ct MW Z yX11_load cX11_load 8 (some .int) 3 0 0 [.ref (Z.2.2.2 99), .int a_, .int b_, .int f_, .int n_] (S) (fun v S' => loadM S a_ b_ f_ n_ v S') := by
  refine V_entry (own := RX11) (by decide) rfl (Nat.le_of_ble_eq_true rfl) ?_
  intro B hB
  refine V_sub (L' := [(0, .ref (Z.2.2.2 99)), (1, .int a_), (2, .int b_), (3, .int f_), (4, .int n_)]) [0, 1, 2, 3, 4] rfl ?_
  refine V_iload_n (pc := 0) dX11_load_0 1 rfl rfl ?_
  refine McSi (pc := 1) dX11_load_1 (cM_isSheet Z _ _) kM_150 rfl (Nat.le_of_ble_eq_true rfl) (by decide) (by decide) ?_
  refine V_bif_eq (pc := 4) (tgt := 26) dX11_load_4 (by decide) (fun h4 => ?_) (fun h4 => ?_)
  · skip
    refine V_bipush (v := (-2)) (pc := 26) dX11_load_26 (by decide) ?_
    exact V_iret (pc := 28) dX11_load_28 (Nat.le_of_ble_eq_true rfl) (Nat.le_of_ble_eq_true rfl) (hB _ _ (by exact Or.inl ⟨fun h => h4 h.1, rfl, rfl⟩))
  · skip
    refine V_iload_n (pc := 7) dX11_load_7 2 rfl rfl ?_
    refine V_iconst (v := 0) (pc := 8) dX11_load_8 (by decide) ?_
    refine V_iconst (v := 1) (pc := 9) dX11_load_9 (by decide) ?_
    refine McSi (pc := 10) dX11_load_10 (cM_in Z _ _ _ _) kM_70 rfl (Nat.le_of_ble_eq_true rfl) (by decide) (by decide) ?_
    refine V_bif_eq (pc := 13) (tgt := 26) dX11_load_13 (by decide) (fun h13 => ?_) (fun h13 => ?_)
    · skip
      refine V_bipush (v := (-2)) (pc := 26) dX11_load_26 (by decide) ?_
      exact V_iret (pc := 28) dX11_load_28 (Nat.le_of_ble_eq_true rfl) (Nat.le_of_ble_eq_true rfl) (hB _ _ (by exact Or.inl ⟨fun h => h13 h.2.1, rfl, rfl⟩))
    · skip
      refine V_iload (pc := 16) dX11_load_16 4 rfl ?_
      refine V_iconst (v := 0) (pc := 18) dX11_load_18 (by decide) ?_
      refine V_iconst (v := 4) (pc := 19) dX11_load_19 (by decide) ?_
      refine McSi (pc := 20) dX11_load_20 (cM_in Z _ _ _ _) kM_70 rfl (Nat.le_of_ble_eq_true rfl) (by decide) (by decide) ?_
      refine V_bif_ne (pc := 23) (tgt := 29) dX11_load_23 (by decide) (fun h23 => ?_) (fun h23 => ?_)
      · skip
        refine V_aload_n (pc := 29) dX11_load_29 0 rfl rfl ?_
        refine Mg_sorts (pc := 30) dX11_load_30 ?_
        refine V_iload_n (pc := 33) dX11_load_33 1 rfl rfl ?_
        refine Ml_sorts (pc := 34) dX11_load_34 (by exact inSh h4) ?_
        refine V_if_ge (pc := 35) (tgt := 41) dX11_load_35 (by decide) (fun h35 => ?_) (fun h35 => ?_)
        · skip
          refine V_aload_n (pc := 41) dX11_load_41 0 rfl rfl ?_
          refine Mg_sorts (pc := 42) dX11_load_42 ?_
          refine V_iload_n (pc := 45) dX11_load_45 1 rfl rfl ?_
          refine Ml_sorts (pc := 46) dX11_load_46 (by exact inSh h4) ?_
          refine V_iload_n (pc := 47) dX11_load_47 2 rfl rfl ?_
          refine V_icmp_eq (pc := 48) (tgt := 54) dX11_load_48 (by decide) (fun h48 => ?_) (fun h48 => ?_)
          · skip
            refine V_iconst (v := 0) (pc := 54) dX11_load_54 (by decide) ?_
            refine V_istore (pc := 55) (L2 := [(0, .ref (Z.2.2.2 99)), (1, .int a_), (2, .int b_), (3, .int f_), (4, .int n_)]) dX11_load_55 (by decide) rfl (fun x5_55 ex5_55 => ?_)
            subst ex5_55
            refine V_iconst (v := 0) (pc := 57) dX11_load_57 (by decide) ?_
            refine V_istore (pc := 58) (L2 := [(5, .int 0), (0, .ref (Z.2.2.2 99)), (1, .int a_), (2, .int b_), (3, .int f_), (4, .int n_)]) dX11_load_58 (by decide) rfl (fun x6_58 ex6_58 => ?_)
            subst ex6_58
            refine V_sub (L' := [(6, .int (nI 0)), (5, .int 0), (0, .ref (Z.2.2.2 99)), (1, .int a_), (2, .int b_), (3, .int f_), (4, .int n_)]) [0, 1, 2, 3, 4, 5, 6] rfl ?_
            refine Vloop (σ := Nat × Int32) (fun x => (x.1) ≤ n_.toNatClampNeg ∧ (x.2) = ldC S (40 * a_.toNatClampNeg + f_.toNatClampNeg) (x.1) ∧ ∀ i, i < (x.1) → wiM S a_.toNatClampNeg f_ i) (fun x => n_.toNatClampNeg - (x.1)) (fun x => V MW Z cX11_load RX11 8 (some .int) 3 0 0 B 0 0 60 [(6, .int (nI (x.1))), (5, .int (x.2)), (0, .ref (Z.2.2.2 99)), (1, .int a_), (2, .int b_), (3, .int f_), (4, .int n_)] [] (ldS S (40 * a_.toNatClampNeg + f_.toNatClampNeg) (x.1))) ?_ (0, 0) (by exact ⟨Nat.zero_le _, rfl, fun i hi => absurd hi (Nat.not_lt_zero _)⟩)
            rintro ⟨j, u⟩ hI60 ih60
            have hI60 : j ≤ n_.toNatClampNeg ∧ u = ldC S (40 * a_.toNatClampNeg + f_.toNatClampNeg) j ∧ ∀ i, i < j → wiM S a_.toNatClampNeg f_ i := hI60
            show V MW Z cX11_load RX11 8 (some .int) 3 0 0 B 0 0 60 [(6, .int (nI j)), (5, .int u), (0, .ref (Z.2.2.2 99)), (1, .int a_), (2, .int b_), (3, .int f_), (4, .int n_)] [] (ldS S (40 * a_.toNatClampNeg + f_.toNatClampNeg) j)
            refine V_iload (pc := 60) dX11_load_60 0 rfl ?_
            refine V_iload (pc := 62) dX11_load_62 6 rfl ?_
            refine V_icmp_ge (pc := 64) (tgt := 152) dX11_load_64 (by decide) (fun h64 => ?_) (fun h64 => ?_)
            · skip
              have hj : n_.toNatClampNeg ≤ j := jge h64 (Nat.lt_of_le_of_lt hI60.1 (clampLt _))
              have ej : j = n_.toNatClampNeg := Nat.le_antisymm hI60.1 hj
              refine V_iload (pc := 152) dX11_load_152 1 rfl ?_
              exact V_iret (pc := 154) dX11_load_154 (Nat.le_of_ble_eq_true rfl) (Nat.le_of_ble_eq_true rfl) (hB _ _ (by exact Or.inr (Or.inr (Or.inr ⟨⟨h4, h13, h23⟩, h35, h48, Or.inl ⟨by rw [← ej], by rw [hI60.2.1, ej], fun i hi => hI60.2.2 i (by omega)⟩⟩))))
            · skip
              have n4 : n_.toNatClampNeg ≤ 4 := by
                obtain ⟨q, hq, e9⟩ := nI_of2 (n := 4) rfl (Int32.not_lt.mpr h23.1) h23.2
                rw [e9, nI_clamp (by omega)]
                exact hq
              have hj : j < n_.toNatClampNeg := jlt h64 (by omega)
              refine V_iload_n (pc := 67) dX11_load_67 5 rfl rfl ?_
              refine V_if_lt (pc := 68) (tgt := 86) dX11_load_68 (by decide) (fun h68 => ?_) (fun h68 => ?_)
              · skip
                have g83 : ¬ wiM S a_.toNatClampNeg f_ j := fun z => z.1 h68
                refine V_bipush (v := (-12)) (pc := 86) dX11_load_86 (by decide) ?_
                exact V_iret (pc := 88) dX11_load_88 (Nat.le_of_ble_eq_true rfl) (Nat.le_of_ble_eq_true rfl) (hB _ _ (by exact Or.inr (Or.inr (Or.inr ⟨⟨h4, h13, h23⟩, h35, h48, Or.inr ⟨j, hj, rfl, rfl, hI60.2.2, g83⟩⟩))))
              · skip
                refine V_aload_n (pc := 71) dX11_load_71 2 rfl rfl ?_
                refine V_iload_n (pc := 72) dX11_load_72 3 rfl rfl ?_
                refine V_iload_n (pc := 73) dX11_load_73 5 rfl rfl ?_
                refine V_iconst (v := 4) (pc := 74) dX11_load_74 (by decide) ?_
                refine V_iload (pc := 75) dX11_load_75 0 rfl ?_
                refine V_imul (pc := 77) dX11_load_77 ?_
                refine V_iconst (v := 4) (pc := 78) dX11_load_78 (by decide) ?_
                refine V_iadd (pc := 79) dX11_load_79 ?_
                refine McVi (pc := 80) dX11_load_80 (cM_isWithin Z _ a_ f_ (4 * nI j + 4) (by exact inSh h4)) kM_337 rfl rfl (Nat.le_of_ble_eq_true rfl) (by decide) (by decide) ?_
                refine V_bif_ne (pc := 83) (tgt := 89) dX11_load_83 (by decide) (fun h83 => ?_) (fun h83 => ?_)
                · skip
                  have g83 : wiM S a_.toNatClampNeg f_ j := by
                    have z := h83
                    rw [ldS_a S (40 * a_.toNatClampNeg + f_.toNatClampNeg) j (by decide)] at z
                    exact z
                  obtain ⟨w1, w2, w3⟩ := wi_ix hs (inSh h4) (by omega) g83
                  refine V_bipush (v := 40) (pc := 89) dX11_load_89 (by decide) ?_
                  refine V_iload_n (pc := 91) dX11_load_91 3 rfl rfl ?_
                  refine V_imul (pc := 92) dX11_load_92 ?_
                  refine V_iload_n (pc := 93) dX11_load_93 5 rfl rfl ?_
                  refine V_iadd (pc := 94) dX11_load_94 ?_
                  refine V_iconst (v := 4) (pc := 95) dX11_load_95 (by decide) ?_
                  refine V_iload (pc := 96) dX11_load_96 0 rfl ?_
                  refine V_imul (pc := 98) dX11_load_98 ?_
                  refine V_iadd (pc := 99) dX11_load_99 ?_
                  refine V_eqi (nI ((40 * a_.toNatClampNeg + f_.toNatClampNeg) + 4 * j)) w2 ?_
                  refine V_istore (pc := 100) (L2 := [(6, .int (nI j)), (5, .int u), (0, .ref (Z.2.2.2 99)), (1, .int a_), (2, .int b_), (3, .int f_), (4, .int n_)]) dX11_load_100 (by decide) rfl (fun x7_100 ex7_100 => ?_)
                  subst ex7_100
                  refine V_aload_n (pc := 102) dX11_load_102 3 rfl rfl ?_
                  refine V_aload_n (pc := 103) dX11_load_103 3 rfl rfl ?_
                  refine Mg_items (pc := 104) dX11_load_104 ?_
                  refine V_iload (pc := 107) dX11_load_107 0 rfl ?_
                  refine Ml_items (pc := 109) dX11_load_109 (by exact vp_in_nI (by omega) (by decide)) ?_
                  refine V_eqi (S.2.2 34 ((40 * a_.toNatClampNeg + f_.toNatClampNeg) + 4 * j)) (by rw [ldS_a S (40 * a_.toNatClampNeg + f_.toNatClampNeg) j (by decide), nI_clamp (by omega)]) ?_
                  refine V_aload_n (pc := 110) dX11_load_110 3 rfl rfl ?_
                  refine Mg_items (pc := 111) dX11_load_111 ?_
                  refine V_iload (pc := 114) dX11_load_114 0 rfl ?_
                  refine V_iconst (v := 1) (pc := 116) dX11_load_116 (by decide) ?_
                  refine V_iadd (pc := 117) dX11_load_117 ?_
                  refine Ml_items (pc := 118) dX11_load_118 (by rw [show (1 : Int32) = nI 1 from rfl, nI_add]; exact vp_in_nI (by omega) (by decide)) ?_
                  refine V_eqi (S.2.2 34 ((40 * a_.toNatClampNeg + f_.toNatClampNeg) + 4 * j + 1)) (by rw [ldS_a S (40 * a_.toNatClampNeg + f_.toNatClampNeg) j (by decide), show (1 : Int32) = nI 1 from rfl, nI_add, nI_clamp (by omega)]) ?_
                  refine V_aload_n (pc := 119) dX11_load_119 3 rfl rfl ?_
                  refine Mg_items (pc := 120) dX11_load_120 ?_
                  refine V_iload (pc := 123) dX11_load_123 0 rfl ?_
                  refine V_iconst (v := 2) (pc := 125) dX11_load_125 (by decide) ?_
                  refine V_iadd (pc := 126) dX11_load_126 ?_
                  refine Ml_items (pc := 127) dX11_load_127 (by rw [show (2 : Int32) = nI 2 from rfl, nI_add]; exact vp_in_nI (by omega) (by decide)) ?_
                  refine V_eqi (S.2.2 34 ((40 * a_.toNatClampNeg + f_.toNatClampNeg) + 4 * j + 2)) (by rw [ldS_a S (40 * a_.toNatClampNeg + f_.toNatClampNeg) j (by decide), show (2 : Int32) = nI 2 from rfl, nI_add, nI_clamp (by omega)]) ?_
                  refine V_aload_n (pc := 128) dX11_load_128 3 rfl rfl ?_
                  refine Mg_items (pc := 129) dX11_load_129 ?_
                  refine V_iload (pc := 132) dX11_load_132 0 rfl ?_
                  refine V_iconst (v := 3) (pc := 134) dX11_load_134 (by decide) ?_
                  refine V_iadd (pc := 135) dX11_load_135 ?_
                  refine Ml_items (pc := 136) dX11_load_136 (by rw [show (3 : Int32) = nI 3 from rfl, nI_add]; exact vp_in_nI (by omega) (by decide)) ?_
                  refine V_eqi (S.2.2 34 ((40 * a_.toNatClampNeg + f_.toNatClampNeg) + 4 * j + 3)) (by rw [ldS_a S (40 * a_.toNatClampNeg + f_.toNatClampNeg) j (by decide), show (3 : Int32) = nI 3 from rfl, nI_add, nI_clamp (by omega)]) ?_
                  refine McVi (pc := 137) dX11_load_137 (cM_machine Z _ _ _ _ _ (by exact ldS_OK hm _ _)) kM_311 rfl rfl (Nat.le_of_ble_eq_true rfl) (by decide) (by decide) ?_
                  refine V_eqS (ldS S (40 * a_.toNatClampNeg + f_.toNatClampNeg) (j + 1)) rfl ?_
                  refine V_eqi (mchR (ldS S (40 * a_.toNatClampNeg + f_.toNatClampNeg) j) (S.2.2 34 ((40 * a_.toNatClampNeg + f_.toNatClampNeg) + 4 * j)) (S.2.2 34 ((40 * a_.toNatClampNeg + f_.toNatClampNeg) + 4 * j + 1)) (S.2.2 34 ((40 * a_.toNatClampNeg + f_.toNatClampNeg) + 4 * j + 2)) (S.2.2 34 ((40 * a_.toNatClampNeg + f_.toNatClampNeg) + 4 * j + 3))) rfl ?_
                  refine V_if_lt (pc := 140) (tgt := 146) dX11_load_140 (by decide) (fun h140 => ?_) (fun h140 => ?_)
                  · skip
                    refine V_iinc (pc := 146) (v := 1) (L2 := [(7, .int (nI ((40 * a_.toNatClampNeg + f_.toNatClampNeg) + 4 * j))), (5, .int u), (0, .ref (Z.2.2.2 99)), (1, .int a_), (2, .int b_), (3, .int f_), (4, .int n_)]) dX11_load_146 1 rfl (by decide) (by decide) rfl (fun x6_146 ex6_146 => ?_)
                    rw [nI_1] at ex6_146
                    subst ex6_146
                    refine V_goto (pc := 149) (tgt := 60) dX11_load_149 (by decide) ?_
                    refine V_sub (L' := [(6, .int (nI (j + 1))), (5, .int u), (0, .ref (Z.2.2.2 99)), (1, .int a_), (2, .int b_), (3, .int f_), (4, .int n_)]) [0, 2, 3, 4, 5, 6, 7] rfl ?_
                    refine ih60 (((j + 1)), _) ?_ ?_
                    · refine ⟨hj, ?_, ?_⟩
                      · show _ = ldC S (40 * a_.toNatClampNeg + f_.toNatClampNeg) (j + 1)
                        simp only [hI60.2.1]
                        first | exact (if_pos h140).symm | exact (if_neg h140).symm
                      · intro i hi
                        by_cases e : i = j
                        · rw [e]; exact g83
                        · exact hI60.2.2 i (by have : i < j + 1 := hi; omega)
                    · show n_.toNatClampNeg - (j + 1) < n_.toNatClampNeg - j
                      omega
                  · skip
                    refine V_iinc (pc := 143) (v := 1) (L2 := [(7, .int (nI ((40 * a_.toNatClampNeg + f_.toNatClampNeg) + 4 * j))), (6, .int (nI j)), (0, .ref (Z.2.2.2 99)), (1, .int a_), (2, .int b_), (3, .int f_), (4, .int n_)]) dX11_load_143 2 rfl (by decide) (by decide) rfl (fun x5_143 ex5_143 => ?_)
                    subst ex5_143
                    refine V_iinc (pc := 146) (v := 1) (L2 := [(5, .int (u + 1)), (7, .int (nI ((40 * a_.toNatClampNeg + f_.toNatClampNeg) + 4 * j))), (0, .ref (Z.2.2.2 99)), (1, .int a_), (2, .int b_), (3, .int f_), (4, .int n_)]) dX11_load_146 2 rfl (by decide) (by decide) rfl (fun x6_146 ex6_146 => ?_)
                    rw [nI_1] at ex6_146
                    subst ex6_146
                    refine V_goto (pc := 149) (tgt := 60) dX11_load_149 (by decide) ?_
                    refine V_sub (L' := [(6, .int (nI (j + 1))), (5, .int (u + 1)), (0, .ref (Z.2.2.2 99)), (1, .int a_), (2, .int b_), (3, .int f_), (4, .int n_)]) [0, 1, 3, 4, 5, 6, 7] rfl ?_
                    refine ih60 (((j + 1)), _) ?_ ?_
                    · refine ⟨hj, ?_, ?_⟩
                      · show _ = ldC S (40 * a_.toNatClampNeg + f_.toNatClampNeg) (j + 1)
                        simp only [hI60.2.1]
                        first | exact (if_pos h140).symm | exact (if_neg h140).symm
                      · intro i hi
                        by_cases e : i = j
                        · rw [e]; exact g83
                        · exact hI60.2.2 i (by have : i < j + 1 := hi; omega)
                    · show n_.toNatClampNeg - (j + 1) < n_.toNatClampNeg - j
                      omega
                · skip
                  have g83 : ¬ wiM S a_.toNatClampNeg f_ j := by
                    have z := h83
                    rw [ldS_a S (40 * a_.toNatClampNeg + f_.toNatClampNeg) j (by decide)] at z
                    exact z
                  refine V_bipush (v := (-12)) (pc := 86) dX11_load_86 (by decide) ?_
                  exact V_iret (pc := 88) dX11_load_88 (Nat.le_of_ble_eq_true rfl) (Nat.le_of_ble_eq_true rfl) (hB _ _ (by exact Or.inr (Or.inr (Or.inr ⟨⟨h4, h13, h23⟩, h35, h48, Or.inr ⟨j, hj, rfl, rfl, hI60.2.2, g83⟩⟩))))
          · skip
            refine V_bipush (v := (-13)) (pc := 51) dX11_load_51 (by decide) ?_
            exact V_iret (pc := 53) dX11_load_53 (Nat.le_of_ble_eq_true rfl) (Nat.le_of_ble_eq_true rfl) (hB _ _ (by exact Or.inr (Or.inr (Or.inl ⟨⟨h4, h13, h23⟩, h35, h48, rfl, rfl⟩))))
        · skip
          refine V_bipush (v := (-11)) (pc := 38) dX11_load_38 (by decide) ?_
          exact V_iret (pc := 40) dX11_load_40 (Nat.le_of_ble_eq_true rfl) (Nat.le_of_ble_eq_true rfl) (hB _ _ (by exact Or.inr (Or.inl ⟨⟨h4, h13, h23⟩, h35, rfl, rfl⟩)))
      · skip
        refine V_bipush (v := (-2)) (pc := 26) dX11_load_26 (by decide) ?_
        exact V_iret (pc := 28) dX11_load_28 (Nat.le_of_ble_eq_true rfl) (Nat.le_of_ble_eq_true rfl) (hB _ _ (by exact Or.inl ⟨fun h => h23 h.2.2, rfl, rfl⟩))
