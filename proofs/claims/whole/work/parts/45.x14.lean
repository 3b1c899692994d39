def mchV (S : XS) (k_ c_ t_ s_ : Int32) : Int32 := if ((0 ≤ k_ ∧ k_ ≤ 5) ∧ (1 ≤ c_ ∧ c_ ≤ 6) ∧ (1 ≤ t_ ∧ t_ ≤ 1 <<< (c_ &&& 31) - 1) ∧ (0 ≤ s_ ∧ s_ ≤ 1 <<< (c_ &&& 31) - 1)) then (if S.1 1 < 4 then S.1 1 + 1 - 1 else -4) else -2
/-- what a machine that is made makes of the class -/
def mchX (S : XS) (k_ c_ t_ s_ : Int32) (S' : XS) : Prop := (¬ ((0 ≤ k_ ∧ k_ ≤ 5) ∧ (1 ≤ c_ ∧ c_ ≤ 6) ∧ (1 ≤ t_ ∧ t_ ≤ 1 <<< (c_ &&& 31) - 1) ∧ (0 ≤ s_ ∧ s_ ≤ 1 <<< (c_ &&& 31) - 1)) ∧ S' = S) ∨ (((0 ≤ k_ ∧ k_ ≤ 5) ∧ (1 ≤ c_ ∧ c_ ≤ 6) ∧ (1 ≤ t_ ∧ t_ ≤ 1 <<< (c_ &&& 31) - 1) ∧ (0 ≤ s_ ∧ s_ ≤ 1 <<< (c_ &&& 31) - 1)) ∧ ∃ q, q ∉ xL S ∧ S' = if S.1 1 < 4 then xJ (xN S q (kc k_) (gM k_ c_ t_ s_ 0)) q else xN S q (kc k_) (gM k_ c_ t_ s_ 0))
theorem xOK_J {S : XS} (h : xOK S) {q c : Nat} {g : Nat → Int32} (hc : mcl c) (hq : q ∉ xL S) (h4 : S.1 1 < 4) : xOK (xJ (xN S q c g) q) := by
  obtain ⟨n, hn, e, f⟩ := h
  rw [e] at h4
  have h4 : n < 4 := (nI_ltI (b := 4) (by omega) (by decide)).mp h4
  refine ⟨n + 1, by omega, ?_, fun i hi => ?_⟩
  · show va_up S.1 1 (S.1 1 + 1) 1 = _
    rw [va_up_self, e, nI_1]
  · show ∃ a, va_up S.2.2.2.2.1 (S.1 1).toNatClampNeg (some q) i = some a ∧ a ∈ xL S ++ [q] ∧ mcl (va_up S.2.2.2.2.2.2.1 q c a)
    rw [e, nI_clamp (by omega)]
    by_cases ei : i = n
    · subst ei
      exact ⟨q, va_up_self _ _ _, List.mem_append_right _ (List.mem_singleton.mpr rfl), by rw [va_up_self]; exact hc⟩
    · obtain ⟨a, a1, a2, a3⟩ := f i (by omega)
      have hne : a ≠ q := fun z => hq (z ▸ a2)
      exact ⟨a, (va_up_ne _ _ ei).trans a1, List.mem_append_left _ a2, by rw [va_up_ne _ _ hne]; exact a3⟩
theorem mch_OK {S S' : XS} {k c t s : Int32} (h : xOK S) (m : mchX S k c t s S') : xOK S' := by
  rcases m with ⟨_, rfl⟩ | ⟨_, q, hq, e⟩
  · exact h
  · by_cases h4 : S.1 1 < 4
    · rw [if_pos h4] at e
      subst e
      exact xOK_J h (mcl_kc _) hq h4
    · rw [if_neg h4] at e
      subst e
      exact xOK_xN h _ hq
theorem mch_keep {S S' : XS} {k c t s : Int32} (m : mchX S k c t s S') : (∀ i, i ≠ 1 → S'.1 i = S.1 i) ∧ S'.2.1 = S.2.1 ∧ S'.2.2.1 = S.2.2.1 ∧ S'.2.2.2.1 = S.2.2.2.1 := by
  rcases m with ⟨_, rfl⟩ | ⟨_, q, hq, e⟩
  · exact ⟨fun _ _ => rfl, rfl, rfl, rfl⟩
  · by_cases h4 : S.1 1 < 4
    · rw [if_pos h4] at e
      subst e
      exact ⟨fun i hi => va_up_ne _ _ hi, rfl, rfl, rfl⟩
    · rw [if_neg h4] at e
      subst e
      exact ⟨fun _ _ => rfl, rfl, rfl, rfl⟩
/-- some machines of a sheet have been made: how many came, and what the class is then -/
def ldX (f : Nat → Int32) (p : Nat) (S : XS) : Nat → Int32 → XS → Prop
  | 0, r, U => r = 0 ∧ U = S
  | j + 1, r, U => ∃ (r' : Int32) (U' : XS), ldX f p S j r' U' ∧ mchX U' (f (p + 4 * j)) (f (p + 4 * j + 1)) (f (p + 4 * j + 2)) (f (p + 4 * j + 3)) U ∧ r = if mchV U' (f (p + 4 * j)) (f (p + 4 * j + 1)) (f (p + 4 * j + 2)) (f (p + 4 * j + 3)) < 0 then r' else r' + 1
abbrev hasL (f z : Int32) (j : Nat) : Prop := ¬ lg_cmp (Int32.toInt64 f + Int32.toInt64 (nI j * 4)) 0 < 0 ∧ ¬ lg_cmp 4 0 < 0 ∧ ¬ 0 < lg_cmp (Int32.toInt64 f + Int32.toInt64 (nI j * 4) + 4) (Int32.toInt64 z) ∧ ¬ 40 < z
theorem nI4 (j : Nat) : nI j * 4 = nI (4 * j) := by
  rw [show (4 : Int32) = nI 4 from rfl, pk_mul, Nat.mul_comm]
theorem ldIn {f z : Int32} {j : Nat} (hj : j < 4) (h0 : 0 < j → ¬ f < 0) (h : hasL f z j) : ¬ f < 0 ∧ f = nI f.toNatClampNeg ∧ f.toNatClampNeg + 4 * j + 4 ≤ 40 ∧ (Int32.toInt64 f + Int32.toInt64 (nI j * 4)).toInt32 = nI (f.toNatClampNeg + 4 * j) := by
  obtain ⟨h1, _, h2, h3⟩ := h
  rw [lg_cmp_lt] at h1
  rw [lg_cmp_gt] at h2
  have h1 := Int64.le_iff_toInt_le.mp (Int64.not_lt.mp h1)
  have h2 := Int64.le_iff_toInt_le.mp (Int64.not_lt.mp h2)
  have h3 := Int32.le_iff_toInt_le.mp (Int32.not_lt.mp h3)
  have e0 : (0 : Int64).toInt = 0 := rfl
  have e4 : (40 : Int32).toInt = 40 := rfl
  have e5 : (4 : Int64).toInt = 4 := rfl
  have b1 := f.toInt_lt
  have b2 := f.le_toInt
  rw [nI4] at h1 h2 ⊢
  have en : (nI (4 * j)).toInt = ((4 * j : Nat) : Int) := nI_toInt (by omega)
  have ea : (Int32.toInt64 f + Int32.toInt64 (nI (4 * j))).toInt = f.toInt + (4 * j : Nat) := by
    rw [Int64.toInt_add, Int32.toInt_toInt64, Int32.toInt_toInt64, en, Int.bmod_eq_of_le (by omega) (by omega)]
  rw [e0, ea] at h1
  rw [Int64.toInt_add, ea, e5, Int32.toInt_toInt64, Int.bmod_eq_of_le (by omega) (by omega)] at h2
  rw [e4] at h3
  have k1 : ¬ f < 0 := by
    rcases Nat.eq_zero_or_pos j with hz | hp
    · refine Int32.not_lt.mpr (Int32.le_iff_toInt_le.mpr ?_)
      rw [show (0 : Int32).toInt = 0 from rfl]
      omega
    · exact h0 hp
  obtain ⟨q, hq, rfl⟩ := nI_of k1
  rw [nI_clamp hq]
  rw [nI_toInt hq] at h2
  refine ⟨k1, rfl, by omega, ?_⟩
  rw [Int64.toInt32_add, Int32.toInt32_toInt64, Int32.toInt32_toInt64, nI_add]
/-- what load answers, and makes of the class -/
def loadX (S : XS) (a_ b_ f_ n_ : Int32) (v : Option Value) (S' : XS) : Prop := (¬ ((0 ≤ a_ ∧ a_ ≤ 3) ∧ (0 ≤ b_ ∧ b_ ≤ 1) ∧ (0 ≤ n_ ∧ n_ ≤ 4)) ∧ v = some (.int (-2)) ∧ S' = S) ∨ (((0 ≤ a_ ∧ a_ ≤ 3) ∧ (0 ≤ b_ ∧ b_ ≤ 1) ∧ (0 ≤ n_ ∧ n_ ≤ 4)) ∧ (S.1 (10 + a_.toNatClampNeg) = -1) ∧ v = some (.int (-11)) ∧ S' = S) ∨ (((0 ≤ a_ ∧ a_ ≤ 3) ∧ (0 ≤ b_ ∧ b_ ≤ 1) ∧ (0 ≤ n_ ∧ n_ ≤ 4)) ∧ ¬ (S.1 (10 + a_.toNatClampNeg) = -1) ∧ ¬ (S.1 (10 + a_.toNatClampNeg) = b_) ∧ v = some (.int (-13)) ∧ S' = S) ∨ (((0 ≤ a_ ∧ a_ ≤ 3) ∧ (0 ≤ b_ ∧ b_ ≤ 1) ∧ (0 ≤ n_ ∧ n_ ≤ 4)) ∧ ¬ (S.1 (10 + a_.toNatClampNeg) = -1) ∧ (S.1 (10 + a_.toNatClampNeg) = b_) ∧ ((∃ r, ldX (S.2.2.1 (20 + a_.toNatClampNeg)) f_.toNatClampNeg S n_.toNatClampNeg r S' ∧ (∀ i, i < n_.toNatClampNeg → hasL f_ (S.1 (20 + a_.toNatClampNeg)) i) ∧ v = some (.int r)) ∨ (∃ j r, j < n_.toNatClampNeg ∧ ldX (S.2.2.1 (20 + a_.toNatClampNeg)) f_.toNatClampNeg S j r S' ∧ (∀ i, i < j → hasL f_ (S.1 (20 + a_.toNatClampNeg)) i) ∧ ¬ hasL f_ (S.1 (20 + a_.toNatClampNeg)) j ∧ v = some (.int (-12)))))
set_option maxHeartbeats 4000000 in
set_option maxRecDepth 100000 in
theorem c_X10_load (Z : VZ) (S : XS) (a_ : Int32) (b_ : Int32) (f_ : Int32) (n_ : Int32) (hx : xOK S) : Ct XW Z yX10_load cX10_load 11 (some .int) 7 4 24 [.ref (Z.2.2.2 99), .int a_, .int b_, .int f_, .int n_] (S) (fun v S' => loadX S a_ b_ f_ n_ v S') := by
  refine V_entry (own := RX10) (by decide) rfl (Nat.le_of_ble_eq_true rfl) ?_
  intro B hB
  refine V_sub (L' := [(0, .ref (Z.2.2.2 99)), (1, .int a_), (2, .int b_), (3, .int f_), (4, .int n_)]) [0, 1, 2, 3, 4] rfl ?_
  refine V_aload_n (pc := 0) dX10_load_0 0 rfl rfl ?_
  refine V_iload_n (pc := 1) dX10_load_1 1 rfl rfl ?_
  refine V_callV (q0 := 0) (ci := 10) (C := RX10) (T := TX10) (N := 9) (pc := 2) dX10_load_2 (c_X10_sheetAt Z _ _) kX10_118 rfl rfl rfl rfl (Nat.le_of_ble_eq_true rfl) (by decide) (by decide) (Nat.le_of_ble_eq_true rfl) (Nat.le_of_ble_eq_true rfl) (fun v2 S2 hp2 => ?_)
  refine V_widen (n' := 0) (k' := 0) (Nat.le_refl _) (Nat.le_refl _) ?_
  obtain ⟨rfl, ⟨hv2, hs2, hi2, rfl⟩ | ⟨hno2, rfl⟩⟩ := hp2
  · skip
    refine V_astore (pc := 5) (L2 := [(0, .ref (Z.2.2.2 99)), (1, .int a_), (2, .int b_), (3, .int f_), (4, .int n_)]) dX10_load_5 (by decide) rfl (fun x5_5 ex5_5 => ?_)
    subst ex5_5
    refine V_aload (pc := 7) dX10_load_7 0 rfl ?_
    refine V_ifnull (pc := 9) dX10_load_9 ?_
    refine V_iload_n (pc := 12) dX10_load_12 3 rfl rfl ?_
    refine V_iconst (v := 0) (pc := 13) dX10_load_13 (by decide) ?_
    refine V_iconst (v := 1) (pc := 14) dX10_load_14 (by decide) ?_
    refine V_callSi (pc := 15) dX10_load_15 (c_X10_between Z _ _ _ _) kX10_60 rfl (Nat.le_of_ble_eq_true rfl) (by decide) (by decide) (Nat.le_of_ble_eq_true rfl) (Nat.le_of_ble_eq_true rfl) ?_
    refine V_bif_eq (pc := 18) (tgt := 31) dX10_load_18 (by decide) (fun h18 => ?_) (fun h18 => ?_)
    · skip
      refine V_bipush (v := (-2)) (pc := 31) dX10_load_31 (by decide) ?_
      exact V_iret (pc := 33) dX10_load_33 (Nat.le_of_ble_eq_true rfl) (Nat.le_of_ble_eq_true rfl) (hB _ _ (by first | exact Or.inl ⟨fun h => hno2 h.1, rfl, rfl⟩ | exact Or.inl ⟨fun h => h18 h.2.1, rfl, rfl⟩ | exact Or.inl ⟨fun h => h28 h.2.2, rfl, rfl⟩))
    · skip
      refine V_iload (pc := 21) dX10_load_21 5 rfl ?_
      refine V_iconst (v := 0) (pc := 23) dX10_load_23 (by decide) ?_
      refine V_iconst (v := 4) (pc := 24) dX10_load_24 (by decide) ?_
      refine V_callSi (pc := 25) dX10_load_25 (c_X10_between Z _ _ _ _) kX10_60 rfl (Nat.le_of_ble_eq_true rfl) (by decide) (by decide) (Nat.le_of_ble_eq_true rfl) (Nat.le_of_ble_eq_true rfl) ?_
      refine V_bif_ne (pc := 28) (tgt := 34) dX10_load_28 (by decide) (fun h28 => ?_) (fun h28 => ?_)
      · skip
        refine V_aload (pc := 34) dX10_load_34 0 rfl ?_
        refine V_callVi (ci := 8) (C := RX8) (T := TX8) (N := 3) (pc := 36) dX10_load_36 (c_X8_isMissing Z _ _ (by exact hs2)) kX10_134 (x_sh Z _ (by exact hs2)) rfl rfl rfl (Nat.le_of_ble_eq_true rfl) (by decide) (by decide) (Nat.le_of_ble_eq_true rfl) (Nat.le_of_ble_eq_true rfl) ?_
        refine V_bif_eq (pc := 39) (tgt := 45) dX10_load_39 (by decide) (fun h39 => ?_) (fun h39 => ?_)
        · skip
          refine V_aload (pc := 45) dX10_load_45 0 rfl ?_
          refine Xg_X10_262 (pc := 47) (v := (S.1 (10 + (a_).toNatClampNeg))) (by exact hs2) rfl dX10_load_47 ?_
          refine V_iload_n (pc := 50) dX10_load_50 3 rfl rfl ?_
          refine V_icmp_eq (pc := 51) (tgt := 57) dX10_load_51 (by decide) (fun h51 => ?_) (fun h51 => ?_)
          · skip
            refine V_iconst (v := 0) (pc := 57) dX10_load_57 (by decide) ?_
            refine V_istore (pc := 58) (L2 := [(5, .ref (Z.2.2.2 (10 + (a_).toNatClampNeg))), (0, .ref (Z.2.2.2 99)), (1, .int a_), (2, .int b_), (3, .int f_), (4, .int n_)]) dX10_load_58 (by decide) rfl (fun x6_58 ex6_58 => ?_)
            subst ex6_58
            refine V_iconst (v := 0) (pc := 60) dX10_load_60 (by decide) ?_
            refine V_istore (pc := 61) (L2 := [(6, .int 0), (5, .ref (Z.2.2.2 (10 + (a_).toNatClampNeg))), (0, .ref (Z.2.2.2 99)), (1, .int a_), (2, .int b_), (3, .int f_), (4, .int n_)]) dX10_load_61 (by decide) rfl (fun x7_61 ex7_61 => ?_)
            subst ex7_61
            refine V_sub (L' := [(7, .int (nI 0)), (6, .int 0), (5, .ref (Z.2.2.2 (10 + (a_).toNatClampNeg))), (0, .ref (Z.2.2.2 99)), (1, .int a_), (2, .int b_), (3, .int f_), (4, .int n_)]) [0, 1, 2, 3, 4, 5, 6, 7] rfl ?_
            refine V_widen (n' := ((0))) (k' := (6 * (0))) (by omega) (by omega) ?_
            refine Vloop (σ := Nat × Int32 × XS) (fun x => (x.1) ≤ n_.toNatClampNeg ∧ ldX (S.2.2.1 (20 + a_.toNatClampNeg)) f_.toNatClampNeg S (x.1) (x.2.1) (x.2.2) ∧ (∀ i, i < (x.1) → hasL f_ (S.1 (20 + a_.toNatClampNeg)) i) ∧ (xOK (x.2.2) ∧ (∀ i, i ≠ 1 → (x.2.2).1 i = S.1 i) ∧ (x.2.2).2.2.1 = S.2.2.1)) (fun x => n_.toNatClampNeg - (x.1)) (fun x => V XW Z cX10_load RX10 11 (some .int) 7 4 24 B ((x.1)) (6 * (x.1)) 63 [(7, .int (nI (x.1))), (6, .int (x.2.1)), (5, .ref (Z.2.2.2 (10 + (a_).toNatClampNeg))), (0, .ref (Z.2.2.2 99)), (1, .int a_), (2, .int b_), (3, .int f_), (4, .int n_)] [] ((x.2.2))) ?_ (0, 0, _) (by exact ⟨Nat.zero_le _, ⟨rfl, rfl⟩, fun i hi => absurd hi (Nat.not_lt_zero _), hx, fun _ _ => rfl, rfl⟩)
            rintro ⟨j, u, U_⟩ hI63 ih63
            have hI63 : j ≤ n_.toNatClampNeg ∧ ldX (S.2.2.1 (20 + a_.toNatClampNeg)) f_.toNatClampNeg S j u U_ ∧ (∀ i, i < j → hasL f_ (S.1 (20 + a_.toNatClampNeg)) i) ∧ (xOK U_ ∧ (∀ i, i ≠ 1 → U_.1 i = S.1 i) ∧ U_.2.2.1 = S.2.2.1) := hI63
            show V XW Z cX10_load RX10 11 (some .int) 7 4 24 B (j) (6 * j) 63 [(7, .int (nI j)), (6, .int u), (5, .ref (Z.2.2.2 (10 + (a_).toNatClampNeg))), (0, .ref (Z.2.2.2 99)), (1, .int a_), (2, .int b_), (3, .int f_), (4, .int n_)] [] (U_)
            refine V_iload (pc := 63) dX10_load_63 0 rfl ?_
            refine V_iload (pc := 65) dX10_load_65 7 rfl ?_
            refine V_icmp_ge (pc := 67) (tgt := 155) dX10_load_67 (by decide) (fun h67 => ?_) (fun h67 => ?_)
            · skip
              have hj : n_.toNatClampNeg ≤ j := jge h67 (Nat.lt_of_le_of_lt hI63.1 (clampLt _))
              have ej : j = n_.toNatClampNeg := Nat.le_antisymm hI63.1 hj
              have n4 : n_.toNatClampNeg ≤ 4 := by
                obtain ⟨q, hq, e9⟩ := nI_of2 (n := 4) rfl (Int32.not_lt.mpr h28.1) h28.2
                rw [e9, nI_clamp (by omega)]
                exact hq
              refine V_iload (pc := 155) dX10_load_155 1 rfl ?_
              exact V_iret (pc := 157) dX10_load_157 (by omega) (by omega) (hB _ _ (by exact Or.inr (Or.inr (Or.inr ⟨⟨hi2, h18, h28⟩, h39, h51, Or.inl ⟨u, ej ▸ hI63.2.1, fun i hi => hI63.2.2.1 i (by omega), rfl⟩⟩))))
            · skip
              have n4 : n_.toNatClampNeg ≤ 4 := by
                obtain ⟨q, hq, e9⟩ := nI_of2 (n := 4) rfl (Int32.not_lt.mpr h28.1) h28.2
                rw [e9, nI_clamp (by omega)]
                exact hq
              have hj : j < n_.toNatClampNeg := jlt h67 (by omega)
              refine V_iload_n (pc := 70) dX10_load_70 6 rfl rfl ?_
              refine V_i2l (pc := 71) dX10_load_71 rfl ?_
              refine V_iload (pc := 72) dX10_load_72 0 rfl ?_
              refine V_iconst (v := 4) (pc := 74) dX10_load_74 (by decide) ?_
              refine V_imul (pc := 75) dX10_load_75 ?_
              refine V_i2l (pc := 76) dX10_load_76 rfl ?_
              refine V_ladd (pc := 77) dX10_load_77 ?_
              refine V_lstore (pc := 78) (L2 := [(7, .int (nI j)), (6, .int u), (5, .ref (Z.2.2.2 (10 + (a_).toNatClampNeg))), (0, .ref (Z.2.2.2 99)), (1, .int a_), (2, .int b_), (3, .int f_), (4, .int n_)]) dX10_load_78 (by decide) rfl (fun x8_78 ex8_78 => ?_)
              subst ex8_78
              refine V_aload (pc := 80) dX10_load_80 3 rfl ?_
              refine V_lload (pc := 82) dX10_load_82 0 rfl ?_
              refine V_ldc2 (pc := 84) dX10_load_84 tw_824 ?_
              refine V_callVi (ci := 8) (C := RX8) (T := TX8) (N := 3) (pc := 87) dX10_load_87 (c_X8_has Z _ _ _ _ (by exact hs2)) kX10_267 (x_sh Z _ (by exact hs2)) rfl rfl rfl (Nat.le_of_ble_eq_true rfl) (by decide) (by decide) (by omega) (by omega) ?_
              refine V_bif_ne (pc := 90) (tgt := 96) dX10_load_90 (by decide) (fun h90 => ?_) (fun h90 => ?_)
              · skip
                have g90 : hasL f_ (S.1 (20 + a_.toNatClampNeg)) j := (hI63.2.2.2.2.1 (20 + a_.toNatClampNeg) (by omega)) ▸ h90
                obtain ⟨w1, w2, w3, w4⟩ := ldIn (by omega) (fun z => (ldIn (j := 0) (by omega) (fun z => absurd z (Nat.lt_irrefl 0)) (hI63.2.2.1 0 z)).1) g90
                refine V_lload (pc := 96) dX10_load_96 0 rfl ?_
                refine V_l2i (pc := 98) dX10_load_98 rfl ?_
                refine V_eqi (nI (f_.toNatClampNeg + 4 * j)) w4 ?_
                refine V_istore (pc := 99) (L2 := [(8, .long ((Int32.toInt64 f_) + (Int32.toInt64 ((nI j) * 4)))), (7, .int (nI j)), (6, .int u), (5, .ref (Z.2.2.2 (10 + (a_).toNatClampNeg))), (0, .ref (Z.2.2.2 99)), (1, .int a_), (2, .int b_), (3, .int f_), (4, .int n_)]) dX10_load_99 (by decide) rfl (fun x10_99 ex10_99 => ?_)
                refine V_aload_n (pc := 101) dX10_load_101 5 rfl rfl ?_
                refine V_aload (pc := 102) dX10_load_102 4 rfl ?_
                refine Xg_X10_271 (pc := 104) (by exact hs2) dX10_load_104 ?_
                refine V_iload (pc := 107) dX10_load_107 0 rfl ?_
                refine Xl_it (pc := 109) (by exact hs2) dX10_load_109 (by rw [← ex10_99]; exact vp_in_nI (by omega) (by decide)) ?_
                refine V_aload (pc := 110) dX10_load_110 4 rfl ?_
                refine Xg_X10_271 (pc := 112) (by exact hs2) dX10_load_112 ?_
                refine V_iload (pc := 115) dX10_load_115 0 rfl ?_
                refine V_iconst (v := 1) (pc := 117) dX10_load_117 (by decide) ?_
                refine V_iadd (pc := 118) dX10_load_118 ?_
                refine Xl_it (pc := 119) (by exact hs2) dX10_load_119 (by rw [← ex10_99, show (1 : Int32) = nI 1 from rfl, nI_add]; exact vp_in_nI (by omega) (by decide)) ?_
                refine V_aload (pc := 120) dX10_load_120 4 rfl ?_
                refine Xg_X10_271 (pc := 122) (by exact hs2) dX10_load_122 ?_
                refine V_iload (pc := 125) dX10_load_125 0 rfl ?_
                refine V_iconst (v := 2) (pc := 127) dX10_load_127 (by decide) ?_
                refine V_iadd (pc := 128) dX10_load_128 ?_
                refine Xl_it (pc := 129) (by exact hs2) dX10_load_129 (by rw [← ex10_99, show (2 : Int32) = nI 2 from rfl, nI_add]; exact vp_in_nI (by omega) (by decide)) ?_
                refine V_aload (pc := 130) dX10_load_130 4 rfl ?_
                refine Xg_X10_271 (pc := 132) (by exact hs2) dX10_load_132 ?_
                refine V_iload (pc := 135) dX10_load_135 0 rfl ?_
                refine V_iconst (v := 3) (pc := 137) dX10_load_137 (by decide) ?_
                refine V_iadd (pc := 138) dX10_load_138 ?_
                refine Xl_it (pc := 139) (by exact hs2) dX10_load_139 (by rw [← ex10_99, show (3 : Int32) = nI 3 from rfl, nI_add]; exact vp_in_nI (by omega) (by decide)) ?_
                refine V_callV (q0 := 0) (ci := 10) (C := RX10) (T := TX10) (N := 9) (pc := 140) dX10_load_140 (c_X10_machine Z _ _ _ _ _ (by exact hI63.2.2.2.1)) kX10_274 rfl rfl rfl rfl (Nat.le_of_ble_eq_true rfl) (by decide) (by decide) (by omega) (by omega) (fun v140 S140 hp140 => ?_)
                refine V_widen (n' := ((j) + 1)) (k' := ((6 * j) + 6)) (Nat.le_refl _) (Nat.le_refl _) ?_
                obtain ⟨rfl, hp8⟩ := hp140
                rw [show (x10_99).toNatClampNeg = f_.toNatClampNeg + 4 * j from by rw [← ex10_99]; exact nI_clamp (by omega), show (x10_99 + 1).toNatClampNeg = f_.toNatClampNeg + 4 * j + 1 from by rw [← ex10_99, show (1 : Int32) = nI 1 from rfl, nI_add]; exact nI_clamp (by omega), show (x10_99 + 2).toNatClampNeg = f_.toNatClampNeg + 4 * j + 2 from by rw [← ex10_99, show (2 : Int32) = nI 2 from rfl, nI_add]; exact nI_clamp (by omega), show (x10_99 + 3).toNatClampNeg = f_.toNatClampNeg + 4 * j + 3 from by rw [← ex10_99, show (3 : Int32) = nI 3 from rfl, nI_add]; exact nI_clamp (by omega), hI63.2.2.2.2.2] at hp8
                have hp9 : mchX U_ ((S.2.2.1 (20 + a_.toNatClampNeg)) (f_.toNatClampNeg + 4 * j)) ((S.2.2.1 (20 + a_.toNatClampNeg)) (f_.toNatClampNeg + 4 * j + 1)) ((S.2.2.1 (20 + a_.toNatClampNeg)) (f_.toNatClampNeg + 4 * j + 2)) ((S.2.2.1 (20 + a_.toNatClampNeg)) (f_.toNatClampNeg + 4 * j + 3)) S140 := hp8
                have k9 := mch_keep hp9
                refine V_eqi (mchV U_ ((S.2.2.1 (20 + a_.toNatClampNeg)) (f_.toNatClampNeg + 4 * j)) ((S.2.2.1 (20 + a_.toNatClampNeg)) (f_.toNatClampNeg + 4 * j + 1)) ((S.2.2.1 (20 + a_.toNatClampNeg)) (f_.toNatClampNeg + 4 * j + 2)) ((S.2.2.1 (20 + a_.toNatClampNeg)) (f_.toNatClampNeg + 4 * j + 3))) (by
                  rw [show (x10_99).toNatClampNeg = f_.toNatClampNeg + 4 * j from by rw [← ex10_99]; exact nI_clamp (by omega), show (x10_99 + 1).toNatClampNeg = f_.toNatClampNeg + 4 * j + 1 from by rw [← ex10_99, show (1 : Int32) = nI 1 from rfl, nI_add]; exact nI_clamp (by omega), show (x10_99 + 2).toNatClampNeg = f_.toNatClampNeg + 4 * j + 2 from by rw [← ex10_99, show (2 : Int32) = nI 2 from rfl, nI_add]; exact nI_clamp (by omega), show (x10_99 + 3).toNatClampNeg = f_.toNatClampNeg + 4 * j + 3 from by rw [← ex10_99, show (3 : Int32) = nI 3 from rfl, nI_add]; exact nI_clamp (by omega), hI63.2.2.2.2.2]
                  rfl) ?_
                refine V_if_lt (pc := 143) (tgt := 149) dX10_load_143 (by decide) (fun h143 => ?_) (fun h143 => ?_)
                · skip
                  refine V_iinc (pc := 149) (v := 1) (L2 := [(10, .int x10_99), (8, .long ((Int32.toInt64 f_) + (Int32.toInt64 ((nI j) * 4)))), (6, .int u), (5, .ref (Z.2.2.2 (10 + (a_).toNatClampNeg))), (0, .ref (Z.2.2.2 99)), (1, .int a_), (2, .int b_), (3, .int f_), (4, .int n_)]) dX10_load_149 2 rfl (by decide) (by decide) rfl (fun x7_149 ex7_149 => ?_)
                  rw [nI_1] at ex7_149
                  subst ex7_149
                  refine V_goto (pc := 152) (tgt := 63) dX10_load_152 (by decide) ?_
                  refine V_sub (L' := [(7, .int (nI (j + 1))), (6, .int u), (5, .ref (Z.2.2.2 (10 + (a_).toNatClampNeg))), (0, .ref (Z.2.2.2 99)), (1, .int a_), (2, .int b_), (3, .int f_), (4, .int n_)]) [0, 3, 4, 5, 6, 7, 8, 9] rfl ?_
                  refine V_widen (n' := (((j + 1)))) (k' := (6 * ((j + 1)))) (by omega) (by omega) ?_
                  refine ih63 (((j + 1)), _, _) ?_ ?_
                  · refine ⟨hj, ⟨u, U_, hI63.2.1, hp9, ?_⟩, fun i hi => ?_, mch_OK hI63.2.2.2.1 hp9, fun i hi => (k9.1 i hi).trans (hI63.2.2.2.2.1 i hi), k9.2.2.1.trans hI63.2.2.2.2.2⟩
                    · first | exact (if_pos h143).symm | exact (if_neg h143).symm
                    · by_cases e : i = j
                      · rw [e]; exact g90
                      · exact hI63.2.2.1 i (by omega)
                  · show _ - (j + 1) < _ - j
                    omega
                · skip
                  refine V_iinc (pc := 146) (v := 1) (L2 := [(10, .int x10_99), (8, .long ((Int32.toInt64 f_) + (Int32.toInt64 ((nI j) * 4)))), (7, .int (nI j)), (5, .ref (Z.2.2.2 (10 + (a_).toNatClampNeg))), (0, .ref (Z.2.2.2 99)), (1, .int a_), (2, .int b_), (3, .int f_), (4, .int n_)]) dX10_load_146 3 rfl (by decide) (by decide) rfl (fun x6_146 ex6_146 => ?_)
                  subst ex6_146
                  refine V_iinc (pc := 149) (v := 1) (L2 := [(6, .int (u + 1)), (10, .int x10_99), (8, .long ((Int32.toInt64 f_) + (Int32.toInt64 ((nI j) * 4)))), (5, .ref (Z.2.2.2 (10 + (a_).toNatClampNeg))), (0, .ref (Z.2.2.2 99)), (1, .int a_), (2, .int b_), (3, .int f_), (4, .int n_)]) dX10_load_149 3 rfl (by decide) (by decide) rfl (fun x7_149 ex7_149 => ?_)
                  rw [nI_1] at ex7_149
                  subst ex7_149
                  refine V_goto (pc := 152) (tgt := 63) dX10_load_152 (by decide) ?_
                  refine V_sub (L' := [(7, .int (nI (j + 1))), (6, .int (u + 1)), (5, .ref (Z.2.2.2 (10 + (a_).toNatClampNeg))), (0, .ref (Z.2.2.2 99)), (1, .int a_), (2, .int b_), (3, .int f_), (4, .int n_)]) [0, 1, 4, 5, 6, 7, 8, 9] rfl ?_
                  refine V_widen (n' := (((j + 1)))) (k' := (6 * ((j + 1)))) (by omega) (by omega) ?_
                  refine ih63 (((j + 1)), _, _) ?_ ?_
                  · refine ⟨hj, ⟨u, U_, hI63.2.1, hp9, ?_⟩, fun i hi => ?_, mch_OK hI63.2.2.2.1 hp9, fun i hi => (k9.1 i hi).trans (hI63.2.2.2.2.1 i hi), k9.2.2.1.trans hI63.2.2.2.2.2⟩
                    · first | exact (if_pos h143).symm | exact (if_neg h143).symm
                    · by_cases e : i = j
                      · rw [e]; exact g90
                      · exact hI63.2.2.1 i (by omega)
                  · show _ - (j + 1) < _ - j
                    omega
              · skip
                have g90 : ¬ hasL f_ (S.1 (20 + a_.toNatClampNeg)) j := (hI63.2.2.2.2.1 (20 + a_.toNatClampNeg) (by omega)) ▸ h90
                refine V_bipush (v := (-12)) (pc := 93) dX10_load_93 (by decide) ?_
                exact V_iret (pc := 95) dX10_load_95 (by omega) (by omega) (hB _ _ (by exact Or.inr (Or.inr (Or.inr ⟨⟨hi2, h18, h28⟩, h39, h51, Or.inr ⟨j, u, hj, hI63.2.1, hI63.2.2.1, g90, rfl⟩⟩))))
          · skip
            refine V_bipush (v := (-13)) (pc := 54) dX10_load_54 (by decide) ?_
            exact V_iret (pc := 56) dX10_load_56 (Nat.le_of_ble_eq_true rfl) (Nat.le_of_ble_eq_true rfl) (hB _ _ (by exact Or.inr (Or.inr (Or.inl ⟨⟨hi2, h18, h28⟩, h39, h51, rfl, rfl⟩))))
        · skip
          refine V_bipush (v := (-11)) (pc := 42) dX10_load_42 (by decide) ?_
          exact V_iret (pc := 44) dX10_load_44 (Nat.le_of_ble_eq_true rfl) (Nat.le_of_ble_eq_true rfl) (hB _ _ (by exact Or.inr (Or.inl ⟨⟨hi2, h18, h28⟩, h39, rfl, rfl⟩)))
      · skip
        refine V_bipush (v := (-2)) (pc := 31) dX10_load_31 (by decide) ?_
        exact V_iret (pc := 33) dX10_load_33 (Nat.le_of_ble_eq_true rfl) (Nat.le_of_ble_eq_true rfl) (hB _ _ (by first | exact Or.inl ⟨fun h => hno2 h.1, rfl, rfl⟩ | exact Or.inl ⟨fun h => h18 h.2.1, rfl, rfl⟩ | exact Or.inl ⟨fun h => h28 h.2.2, rfl, rfl⟩))
  · skip
    refine V_astoreN (L2 := [(0, .ref (Z.2.2.2 99)), (1, .int a_), (2, .int b_), (3, .int f_), (4, .int n_)]) (pc := 5) dX10_load_5  (by decide) rfl ?_
    refine V_aloadN (pc := 7) dX10_load_7 0 rfl ?_
    refine V_ifnullN (pc := 9) (tgt := 31) dX10_load_9 (by decide) ?_
    refine V_bipush (v := (-2)) (pc := 31) dX10_load_31 (by decide) ?_
    exact V_iret (pc := 33) dX10_load_33 (Nat.le_of_ble_eq_true rfl) (Nat.le_of_ble_eq_true rfl) (hB _ _ (by first | exact Or.inl ⟨fun h => hno2 h.1, rfl, rfl⟩ | exact Or.inl ⟨fun h => h18 h.2.1, rfl, rfl⟩ | exact Or.inl ⟨fun h => h28 h.2.2, rfl, rfl⟩))
