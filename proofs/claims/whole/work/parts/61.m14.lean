theorem rem_i {x m : Int} (hx : 0 ≤ x ∧ x ≤ 2 ^ 60) (hm : 0 < m ∧ m ≤ 2 ^ 60) : iL x - iL x / iL m * iL m = iL (x % m) := by
  rw [tdiv_i (by omega) (by omega), iL_mul, iL_sub, Int.tdiv_eq_ediv_of_nonneg hx.1, Int.emod_def, Int.mul_comm]
theorem szO_i {p q : Int} (hp : smQ p) (hq : smQ q) : szO (iL p) (iL q) = iL (szQ p q) := by
  unfold szO
  rw [abs_i (by omega)]
  rw [← max_i (x := q) (y := (p.natAbs : Int)) (by omega) (by omega)]
def mL (S : MS) (A B : Int) : MS := mG (mG S 14 (iL A)) 15 (iL B)
theorem mL_A (S : MS) (A B x : Int) : mG (mL S A B) 14 (iL x) = mL S x B := by
  refine Prod.ext rfl (Prod.ext (funext fun j => ?_) rfl)
  simp only [mL, mG, va_up]
  repeat' split
  all_goals first | rfl | omega
theorem mL_B (S : MS) (A B x : Int) : mG (mL S A B) 15 (iL x) = mL S A x := by
  refine Prod.ext rfl (Prod.ext (funext fun j => ?_) rfl)
  simp only [mL, mG, va_up]
  repeat' split
  all_goals first | rfl | omega
theorem mCor_L {S T : MS} (h : mCor S T) (A B : Int) : mCor S (mL T A B) := h
/-- the one above the line that is nearest to nothing -/
def ctQ (N M q : Int) : Int := if 2 * ((N * q) % M) < M then (N * q) % M else (N * q) % M - M
theorem ct_lt {N M : Int} (q : Int) : ltQ N M (ctQ N M q) q := by
  unfold ctQ ltQ
  have e := Int.mul_ediv_add_emod (N * q) M
  split
  · exact ⟨N * q / M, by omega⟩
  · refine ⟨N * q / M + 1, ?_⟩
    rw [Int.mul_add]
    omega
theorem ct_bd {N M q : Int} (hM : 0 < M) : -M ≤ 2 * ctQ N M q ∧ 2 * ctQ N M q < M := by
  unfold ctQ
  have a := Int.emod_nonneg (N * q) (show M ≠ 0 by omega)
  have b := Int.emod_lt_of_pos (N * q) hM
  split <;> omega
theorem ct_min {N M q x : Int} (hM : 0 < M) (h : ltQ N M x q) : ∃ k, x = ctQ N M q + M * k := by
  obtain ⟨k1, e1⟩ := h
  obtain ⟨k2, e2⟩ := ct_lt (N := N) (M := M) q
  refine ⟨k2 - k1, ?_⟩
  rw [Int.mul_sub]
  omega
theorem mulM {M k : Int} (hM : 0 < M) : k = 0 ∨ M ≤ M * k ∨ M * k ≤ -M := by
  rcases (show k = 0 ∨ 1 ≤ k ∨ k ≤ -1 by omega) with h | h | h
  · exact Or.inl h
  · have := Int.mul_nonneg (show 0 ≤ M by omega) (show 0 ≤ k - 1 by omega)
    rw [Int.mul_sub] at this
    exact Or.inr (Or.inl (by omega))
  · have := Int.mul_nonneg (show 0 ≤ M by omega) (show 0 ≤ -k - 1 by omega)
    rw [Int.mul_sub, Int.mul_neg] at this
    exact Or.inr (Or.inr (by omega))
/-- all that stand below q are tried: A over B is the least of them -/
def llI (N M A B bs q : Int) : Prop := (q % 2 = 1 ∧ 1 ≤ q ∧ q ≤ M + 1) ∧ ((bs = M ∧ q = 1) ∨ (B % 2 = 1 ∧ 0 < B ∧ B < q ∧ ltQ N M A B ∧ bs = szQ A B ∧ 2 * bs ≤ M ∧ ∀ x y, y % 2 = 1 → 0 < y → y < q → ltQ N M x y → ¬ lsQ x y A B))
theorem ll_skip {N M A B bs q : Int} (hM : 2 ≤ M) (h : llI N M A B bs q) (hq : q < bs) (hs : bs ≤ szQ (ctQ N M q) q) : llI N M A B bs (q + 2) := by
  obtain ⟨⟨h1, h2, h3⟩, h4⟩ := h
  have cb := ct_bd (N := N) (q := q) (show 0 < M by omega)
  rcases h4 with ⟨h5, h6⟩ | ⟨k1, k2, k3, k4, k5, k6, k7⟩
  · exfalso
    unfold szQ at hs
    omega
  · refine ⟨⟨by omega, by omega, by omega⟩, Or.inr ⟨k1, k2, by omega, k4, k5, k6, ?_⟩⟩
    intro x y y1 y2 y3 y4 hl
    rcases (show y < q ∨ y = q by omega) with z | z
    · exact k7 x y y1 y2 z y4 hl
    · subst z
      obtain ⟨k, e⟩ := ct_min (show 0 < M by omega) y4
      have mk := mulM (k := k) (show 0 < M by omega)
      unfold lsQ at hl
      unfold szQ at *
      rcases mk with rfl | mk | mk
      · rw [Int.mul_zero] at e
        omega
      · omega
      · omega
theorem ll_take {N M A B bs q : Int} (hM : 2 ≤ M) (h2M : M % 2 = 0) (h : llI N M A B bs q) (hq : q < bs) (hs : szQ (ctQ N M q) q < bs) : llI N M (ctQ N M q) q (szQ (ctQ N M q) q) (q + 2) := by
  obtain ⟨⟨h1, h2, h3⟩, h4⟩ := h
  have cb := ct_bd (N := N) (q := q) (show 0 < M by omega)
  have hb : 2 * szQ (ctQ N M q) q ≤ M := by
    unfold szQ at *
    rcases h4 with ⟨h5, h6⟩ | ⟨k1, k2, k3, k4, k5, k6, k7⟩ <;> omega
  refine ⟨⟨by omega, by omega, by rcases h4 with ⟨h5, h6⟩ | ⟨k1, k2, k3, k4, k5, k6, k7⟩ <;> omega⟩, Or.inr ⟨h1, by omega, by omega, ct_lt q, rfl, hb, ?_⟩⟩
  intro x y y1 y2 y3 y4 hl
  rcases (show y < q ∨ y = q by omega) with z | z
  · rcases h4 with ⟨h5, h6⟩ | ⟨k1, k2, k3, k4, k5, k6, k7⟩
    · omega
    · exact k7 x y y1 y2 z y4 (ls_tr hl (Or.inl (by rw [← k5]; exact hs)))
  · subst z
    obtain ⟨k, e⟩ := ct_min (show 0 < M by omega) y4
    have mk := mulM (k := k) (show 0 < M by omega)
    unfold lsQ at hl
    unfold szQ at *
    rcases mk with rfl | mk | mk
    · rw [Int.mul_zero] at e
      omega
    · omega
    · omega
theorem ll_end {N M A B bs q : Int} (hM : 2 ≤ M) (h : llI N M A B bs q) (hq : bs ≤ q) : leaQ N M A B := by
  obtain ⟨⟨h1, h2, h3⟩, h4⟩ := h
  rcases h4 with ⟨h5, h6⟩ | ⟨k1, k2, k3, k4, k5, k6, k7⟩
  · omega
  · refine ⟨⟨k1, k2, k4⟩, ?_⟩
    intro x y y1 y2 y4 hl
    rcases Int.lt_or_le y q with z | z
    · exact k7 x y y1 y2 z y4 hl
    · unfold lsQ at hl
      unfold szQ at *
      omega
theorem ll_sm {N M A B bs q : Int} (hM : 2 ≤ M ∧ M ≤ 16777216) (h : llI N M A B bs q) : 1 ≤ q ∧ q ≤ 16777217 ∧ 0 ≤ bs ∧ bs ≤ 16777216 := by
  obtain ⟨⟨h1, h2, h3⟩, h4⟩ := h
  rcases h4 with ⟨h5, h6⟩ | ⟨k1, k2, k3, k4, k5, k6, k7⟩
  · omega
  · unfold szQ at *
    omega
set_option maxHeartbeats 4000000 in
set_option maxRecDepth 100000 in
theorem cM_layLeast (Z : VZ) (S : MS) (n_ : Nat) (hl : S.1 12 = nI n_) (hn : n_ ≤ 24) (hN : 0 ≤ (nbI (S.2.2 11) n_).toInt ∧ (nbI (S.2.2 11) n_).toInt < ((2 ^ n_ : Nat) : Int)) : Ct MW Z yX11_layLeast cX11_layLeast 11 none 2 0 0 [.ref (Z.2.2.2 99)] (S) (fun v S' => v = none ∧ ∃ A B, S' = mL S A B ∧ leaX (nbI (S.2.2 11) n_).toInt n_ A B ∧ smQ A ∧ smQ B) := by
  refine V_entry (own := RX11) (by decide) rfl (Nat.le_of_ble_eq_true rfl) ?_
  intro B hB
  refine V_sub (L' := [(0, .ref (Z.2.2.2 99))]) [0] rfl ?_
  refine V_aload_n (pc := 0) dX11_layLeast_0 0 rfl rfl ?_
  refine V_ldc2 (pc := 1) dX11_layLeast_1 tw_1114 ?_
  refine Mp_above (pc := 4) dX11_layLeast_4 ?_
  refine V_eqS (mG S 14 (iL (-1))) rfl ?_
  refine V_aload_n (pc := 7) dX11_layLeast_7 0 rfl rfl ?_
  refine V_lconst (v := 1) (pc := 8) dX11_layLeast_8 (by decide) ?_
  refine Mp_below (pc := 9) dX11_layLeast_9 ?_
  refine V_eqS (mL S (-1) 1) rfl ?_
  refine V_aload_n (pc := 12) dX11_layLeast_12 0 rfl rfl ?_
  refine Mg_length (pc := 13) (v := (S.1 12)) rfl dX11_layLeast_13 ?_
  refine V_if_ne (pc := 16) (tgt := 20) dX11_layLeast_16 (by decide) (fun h16 => ?_) (fun h16 => ?_)
  · skip
    rw [hl] at h16
    have n0 : 1 ≤ n_ := by
      rcases Nat.eq_zero_or_pos n_ with z | z
      · rw [z] at h16; exact absurd rfl h16
      · exact z
    refine V_lconst (v := 1) (pc := 20) dX11_layLeast_20 (by decide) ?_
    refine V_aload_n (pc := 21) dX11_layLeast_21 0 rfl rfl ?_
    refine Mg_length (pc := 22) (v := (nI n_)) hl dX11_layLeast_22 ?_
    refine V_lshl (pc := 25) dX11_layLeast_25 rfl ?_
    refine V_eql (iL ((2 ^ n_ : Nat) : Int)) (sh_i (by omega)) ?_
    obtain ⟨M_, eM⟩ : ∃ M_ : Int, ((2 ^ n_ : Nat) : Int) = M_ := ⟨_, rfl⟩
    rw [eM] at hN ⊢
    have hM : 2 ≤ M_ ∧ M_ ≤ 16777216 := by
      have a := p24 hn
      have b : 2 ^ 1 ≤ 2 ^ n_ := Nat.pow_le_pow_right (by decide) n0
      omega
    have hM3 : M_ % 2 = 0 := by
      rw [← eM]
      obtain ⟨k, rfl⟩ : ∃ k, n_ = k + 1 := ⟨n_ - 1, by omega⟩
      rw [Nat.pow_succ]
      omega
    refine V_lstore_n (pc := 26) (L2 := [(0, .ref (Z.2.2.2 99))]) dX11_layLeast_26 rfl (by decide) rfl (fun x1_26 ex1_26 => ?_)
    subst ex1_26
    refine V_aload_n (pc := 27) dX11_layLeast_27 1 rfl rfl ?_
    refine McVl (pc := 28) dX11_layLeast_28 (cM_numberNow Z _ (by rw [show (mL S (-1) 1).1 12 = nI n_ from hl, nI_clamp (by omega)]; omega)) kM_168 rfl rfl (Nat.le_of_ble_eq_true rfl) (by decide) (by decide) ?_
    refine V_eql (iL (nbI (S.2.2 11) n_).toInt) (by rw [show (mL S (-1) 1).1 12 = nI n_ from hl, nI_clamp (by omega)]; exact iL_of _) ?_
    obtain ⟨N_, eN⟩ : ∃ N_ : Int, (nbI (S.2.2 11) n_).toInt = N_ := ⟨_, rfl⟩
    rw [eN] at hN ⊢
    refine V_lstore_n (pc := 31) (L2 := [(1, .long (iL M_)), (0, .ref (Z.2.2.2 99))]) dX11_layLeast_31 rfl (by decide) rfl (fun x3_31 ex3_31 => ?_)
    subst ex3_31
    refine V_lload_n (pc := 32) dX11_layLeast_32 1 rfl rfl ?_
    refine V_lstore (pc := 33) (L2 := [(3, .long (iL N_)), (1, .long (iL M_)), (0, .ref (Z.2.2.2 99))]) dX11_layLeast_33 (by decide) rfl (fun x5_33 ex5_33 => ?_)
    subst ex5_33
    refine V_lconst (v := 1) (pc := 35) dX11_layLeast_35 (by decide) ?_
    refine V_lstore (pc := 36) (L2 := [(5, .long (iL M_)), (3, .long (iL N_)), (1, .long (iL M_)), (0, .ref (Z.2.2.2 99))]) dX11_layLeast_36 (by decide) rfl (fun x7_36 ex7_36 => ?_)
    subst ex7_36
    refine Vloop (σ := Int × Int × Int × Int × Int64 × Int64) (fun x => (x.2.2.2.2.2) = iL (x.2.2.1) ∧ (x.2.2.2.2.1) = iL (x.2.2.2.1) ∧ llI N_ M_ (x.1) (x.2.1) (x.2.2.1) (x.2.2.2.1) ∧ smQ (x.1) ∧ smQ (x.2.1)) (fun x => (M_ + 2 - (x.2.2.2.1)).toNat) (fun x => V MW Z cX11_layLeast RX11 11 none 2 0 0 B 0 0 38 [(7, .long (x.2.2.2.2.1)), (5, .long (x.2.2.2.2.2)), (3, .long (iL N_)), (1, .long (iL M_)), (0, .ref (Z.2.2.2 99))] [] (mL S (x.1) (x.2.1))) ?_ (-1, 1, M_, 1, 1, (iL M_)) (by exact ⟨rfl, rfl, ⟨⟨rfl, by show (1 : Int) ≤ 1; decide, by show (1 : Int) ≤ M_ + 1; omega⟩, Or.inl ⟨rfl, rfl⟩⟩, by show smQ (-1); decide, by show smQ 1; decide⟩)
    rintro ⟨A_, B_, bs_, q_, v_, u⟩ hI38 ih38
    have hI38 : u = iL bs_ ∧ v_ = iL q_ ∧ llI N_ M_ A_ B_ bs_ q_ ∧ smQ A_ ∧ smQ B_ := hI38
    show V MW Z cX11_layLeast RX11 11 none 2 0 0 B 0 0 38 [(7, .long v_), (5, .long u), (3, .long (iL N_)), (1, .long (iL M_)), (0, .ref (Z.2.2.2 99))] [] (mL S A_ B_)
    refine V_lload (pc := 38) dX11_layLeast_38 0 rfl ?_
    refine V_lload (pc := 40) dX11_layLeast_40 1 rfl ?_
    refine V_lcmp (pc := 42) dX11_layLeast_42 ?_
    refine V_if_ge (pc := 43) (tgt := 121) dX11_layLeast_43 (by decide) (fun h43 => ?_) (fun h43 => ?_)
    · skip
      have lsm := ll_sm hM hI38.2.2.1
      rw [hI38.1, hI38.2.1, lg_cmp_ge, iL_le (by omega) (by omega)] at h43
      exact V_vret (pc := 121) dX11_layLeast_121 (Nat.le_of_ble_eq_true rfl) (Nat.le_of_ble_eq_true rfl) (hB _ _ (by exact ⟨rfl, A_, B_, rfl, Or.inr ⟨n0, by rw [eN, eM]; exact ll_end hM.1 hI38.2.2.1 h43⟩, hI38.2.2.2⟩))
    · skip
      have lsm := ll_sm hM hI38.2.2.1
      rw [hI38.1, hI38.2.1, lg_cmp_ge, iL_le (by omega) (by omega), Int.not_le] at h43
      have cb := ct_bd (N := N_) (q := q_) (show 0 < M_ by omega)
      have pb := mul_bd (a := N_) (b := q_) (A := 16777216) (B := 16777217) (by omega) (by omega)
      have pn : 0 ≤ N_ * q_ := Int.mul_nonneg hN.1 (by omega)
      have em0 := Int.emod_nonneg (N_ * q_) (show M_ ≠ 0 by omega)
      have em1 := Int.emod_lt_of_pos (N_ * q_) (show 0 < M_ by omega)
      refine V_lload_n (pc := 46) dX11_layLeast_46 2 rfl rfl ?_
      refine V_lload (pc := 47) dX11_layLeast_47 0 rfl ?_
      refine V_lmul (pc := 49) dX11_layLeast_49 ?_
      refine V_lload_n (pc := 50) dX11_layLeast_50 3 rfl rfl ?_
      refine V_lrem (pc := 51) dX11_layLeast_51 (by intro z; have z2 := (iL_eq (b := 0) (by omega) (by omega)).mp z; omega) ?_
      refine V_eql (iL (N_ * q_ % M_)) (by rw [hI38.2.1, iL_mul]; exact rem_i (by omega) (by omega)) ?_
      refine V_lstore (pc := 52) (L2 := [(7, .long v_), (5, .long u), (3, .long (iL N_)), (1, .long (iL M_)), (0, .ref (Z.2.2.2 99))]) dX11_layLeast_52 (by decide) rfl (fun x9_52 ex9_52 => ?_)
      subst ex9_52
      refine V_ldc2 (pc := 54) dX11_layLeast_54 tw_1115 ?_
      refine V_lload (pc := 57) dX11_layLeast_57 0 rfl ?_
      refine V_lmul (pc := 59) dX11_layLeast_59 ?_
      refine V_lload_n (pc := 60) dX11_layLeast_60 4 rfl rfl ?_
      refine V_lcmp (pc := 61) dX11_layLeast_61 ?_
      refine V_if_lt (pc := 62) (tgt := 71) dX11_layLeast_62 (by decide) (fun h62 => ?_) (fun h62 => ?_)
      · skip
        rw [show (2 : Int64) = iL 2 from rfl, iL_mul, lg_cmp_lt, iL_lt (by omega) (by omega)] at h62
        have ect : (iL (N_ * q_ % M_)) = iL (ctQ N_ M_ q_) := by unfold ctQ; rw [if_pos h62]
        refine V_aload_n (pc := 71) dX11_layLeast_71 5 rfl rfl ?_
        refine V_lload (pc := 72) dX11_layLeast_72 0 rfl ?_
        refine V_lload (pc := 74) dX11_layLeast_74 1 rfl ?_
        refine McVl (pc := 76) dX11_layLeast_76 (cM_sizeOf Z _ _ _) kM_197 rfl rfl (Nat.le_of_ble_eq_true rfl) (by decide) (by decide) ?_
        refine V_eql (iL (szQ (ctQ N_ M_ q_) q_)) (by rw [hI38.2.1, ect, szO_i (by omega) (by omega)]) ?_
        refine V_lload (pc := 79) dX11_layLeast_79 2 rfl ?_
        refine V_lcmp (pc := 81) dX11_layLeast_81 ?_
        refine V_if_lt (pc := 82) (tgt := 88) dX11_layLeast_82 (by decide) (fun h82 => ?_) (fun h82 => ?_)
        · skip
          rw [hI38.1, lg_cmp_lt, iL_lt (by unfold szQ; omega) (by omega)] at h82
          refine V_aload_n (pc := 88) dX11_layLeast_88 5 rfl rfl ?_
          refine V_lload (pc := 89) dX11_layLeast_89 0 rfl ?_
          refine V_lload (pc := 91) dX11_layLeast_91 1 rfl ?_
          refine McVl (pc := 93) dX11_layLeast_93 (cM_sizeOf Z _ _ _) kM_197 rfl rfl (Nat.le_of_ble_eq_true rfl) (by decide) (by decide) ?_
          refine V_eql (iL (szQ (ctQ N_ M_ q_) q_)) (by rw [hI38.2.1, ect, szO_i (by omega) (by omega)]) ?_
          refine V_lstore (pc := 96) (L2 := [(9, .long (iL (N_ * q_ % M_))), (7, .long v_), (3, .long (iL N_)), (1, .long (iL M_)), (0, .ref (Z.2.2.2 99))]) dX11_layLeast_96 (by decide) rfl (fun x5_96 ex5_96 => ?_)
          subst ex5_96
          refine V_aload_n (pc := 98) dX11_layLeast_98 5 rfl rfl ?_
          refine V_lload (pc := 99) dX11_layLeast_99 1 rfl ?_
          refine Mp_above (pc := 101) dX11_layLeast_101 ?_
          refine V_eqS (mL S (ctQ N_ M_ q_) B_) (by rw [ect]; exact mL_A S A_ B_ (ctQ N_ M_ q_)) ?_
          refine V_aload_n (pc := 104) dX11_layLeast_104 5 rfl rfl ?_
          refine V_lload (pc := 105) dX11_layLeast_105 2 rfl ?_
          refine Mp_below (pc := 107) dX11_layLeast_107 ?_
          refine V_eqS (mL S (ctQ N_ M_ q_) q_) (by rw [hI38.2.1]; exact mL_B S (ctQ N_ M_ q_) B_ q_) ?_
          refine V_lload (pc := 110) dX11_layLeast_110 2 rfl ?_
          refine V_ldc2 (pc := 112) dX11_layLeast_112 tw_1115 ?_
          refine V_ladd (pc := 115) dX11_layLeast_115 ?_
          refine V_lstore (pc := 116) (L2 := [(5, .long (iL (szQ (ctQ N_ M_ q_) q_))), (9, .long (iL (N_ * q_ % M_))), (3, .long (iL N_)), (1, .long (iL M_)), (0, .ref (Z.2.2.2 99))]) dX11_layLeast_116 (by decide) rfl (fun x7_116 ex7_116 => ?_)
          subst ex7_116
          refine V_goto (pc := 118) (tgt := 38) dX11_layLeast_118 (by decide) ?_
          refine V_sub (L' := [(7, .long (v_ + (2))), (5, .long (iL (szQ (ctQ N_ M_ q_) q_))), (3, .long (iL N_)), (1, .long (iL M_)), (0, .ref (Z.2.2.2 99))]) [0, 1, 3, 4, 5] rfl ?_
          refine ih38 ((ctQ N_ M_ q_), q_, (szQ (ctQ N_ M_ q_) q_), (q_ + 2), _, _) ?_ ?_
          · exact ⟨rfl, by rw [hI38.2.1]; exact iL_add _ 2, ll_take hM.1 hM3 hI38.2.2.1 h43 h82, by show smQ (ctQ N_ M_ q_); omega, by show smQ q_; omega⟩
          · show (M_ + 2 - (q_ + 2)).toNat < (M_ + 2 - q_).toNat
            have := hI38.2.2.1.1.2.2
            omega
        · skip
          rw [hI38.1, lg_cmp_lt, iL_lt (by unfold szQ; omega) (by omega), Int.not_lt] at h82
          refine V_goto (pc := 85) (tgt := 110) dX11_layLeast_85 (by decide) ?_
          refine V_lload (pc := 110) dX11_layLeast_110 1 rfl ?_
          refine V_ldc2 (pc := 112) dX11_layLeast_112 tw_1115 ?_
          refine V_ladd (pc := 115) dX11_layLeast_115 ?_
          refine V_lstore (pc := 116) (L2 := [(9, .long (iL (N_ * q_ % M_))), (5, .long u), (3, .long (iL N_)), (1, .long (iL M_)), (0, .ref (Z.2.2.2 99))]) dX11_layLeast_116 (by decide) rfl (fun x7_116 ex7_116 => ?_)
          subst ex7_116
          refine V_goto (pc := 118) (tgt := 38) dX11_layLeast_118 (by decide) ?_
          refine V_sub (L' := [(7, .long (v_ + (2))), (5, .long u), (3, .long (iL N_)), (1, .long (iL M_)), (0, .ref (Z.2.2.2 99))]) [0, 2, 3, 4, 5] rfl ?_
          refine ih38 (A_, B_, bs_, (q_ + 2), _, _) ?_ ?_
          · exact ⟨hI38.1, by rw [hI38.2.1]; exact iL_add _ 2, ll_skip hM.1 hI38.2.2.1 h43 h82, hI38.2.2.2⟩
          · show (M_ + 2 - (q_ + 2)).toNat < (M_ + 2 - q_).toNat
            have := hI38.2.2.1.1.2.2
            omega
      · skip
        rw [show (2 : Int64) = iL 2 from rfl, iL_mul, lg_cmp_lt, iL_lt (by omega) (by omega)] at h62
        have ect : iL (N_ * q_ % M_) - iL M_ = iL (ctQ N_ M_ q_) := by unfold ctQ; rw [if_neg h62, iL_sub]
        refine V_lload (pc := 65) dX11_layLeast_65 0 rfl ?_
        refine V_lload_n (pc := 67) dX11_layLeast_67 4 rfl rfl ?_
        refine V_lsub (pc := 68) dX11_layLeast_68 ?_
        refine V_lstore (pc := 69) (L2 := [(7, .long v_), (5, .long u), (3, .long (iL N_)), (1, .long (iL M_)), (0, .ref (Z.2.2.2 99))]) dX11_layLeast_69 (by decide) rfl (fun x9_69 ex9_69 => ?_)
        subst ex9_69
        refine V_aload_n (pc := 71) dX11_layLeast_71 5 rfl rfl ?_
        refine V_lload (pc := 72) dX11_layLeast_72 0 rfl ?_
        refine V_lload (pc := 74) dX11_layLeast_74 1 rfl ?_
        refine McVl (pc := 76) dX11_layLeast_76 (cM_sizeOf Z _ _ _) kM_197 rfl rfl (Nat.le_of_ble_eq_true rfl) (by decide) (by decide) ?_
        refine V_eql (iL (szQ (ctQ N_ M_ q_) q_)) (by rw [hI38.2.1, ect, szO_i (by omega) (by omega)]) ?_
        refine V_lload (pc := 79) dX11_layLeast_79 2 rfl ?_
        refine V_lcmp (pc := 81) dX11_layLeast_81 ?_
        refine V_if_lt (pc := 82) (tgt := 88) dX11_layLeast_82 (by decide) (fun h82 => ?_) (fun h82 => ?_)
        · skip
          rw [hI38.1, lg_cmp_lt, iL_lt (by unfold szQ; omega) (by omega)] at h82
          refine V_aload_n (pc := 88) dX11_layLeast_88 5 rfl rfl ?_
          refine V_lload (pc := 89) dX11_layLeast_89 0 rfl ?_
          refine V_lload (pc := 91) dX11_layLeast_91 1 rfl ?_
          refine McVl (pc := 93) dX11_layLeast_93 (cM_sizeOf Z _ _ _) kM_197 rfl rfl (Nat.le_of_ble_eq_true rfl) (by decide) (by decide) ?_
          refine V_eql (iL (szQ (ctQ N_ M_ q_) q_)) (by rw [hI38.2.1, ect, szO_i (by omega) (by omega)]) ?_
          refine V_lstore (pc := 96) (L2 := [(9, .long ((iL (N_ * q_ % M_)) - (iL M_))), (7, .long v_), (3, .long (iL N_)), (1, .long (iL M_)), (0, .ref (Z.2.2.2 99))]) dX11_layLeast_96 (by decide) rfl (fun x5_96 ex5_96 => ?_)
          subst ex5_96
          refine V_aload_n (pc := 98) dX11_layLeast_98 5 rfl rfl ?_
          refine V_lload (pc := 99) dX11_layLeast_99 1 rfl ?_
          refine Mp_above (pc := 101) dX11_layLeast_101 ?_
          refine V_eqS (mL S (ctQ N_ M_ q_) B_) (by rw [ect]; exact mL_A S A_ B_ (ctQ N_ M_ q_)) ?_
          refine V_aload_n (pc := 104) dX11_layLeast_104 5 rfl rfl ?_
          refine V_lload (pc := 105) dX11_layLeast_105 2 rfl ?_
          refine Mp_below (pc := 107) dX11_layLeast_107 ?_
          refine V_eqS (mL S (ctQ N_ M_ q_) q_) (by rw [hI38.2.1]; exact mL_B S (ctQ N_ M_ q_) B_ q_) ?_
          refine V_lload (pc := 110) dX11_layLeast_110 2 rfl ?_
          refine V_ldc2 (pc := 112) dX11_layLeast_112 tw_1115 ?_
          refine V_ladd (pc := 115) dX11_layLeast_115 ?_
          refine V_lstore (pc := 116) (L2 := [(5, .long (iL (szQ (ctQ N_ M_ q_) q_))), (9, .long ((iL (N_ * q_ % M_)) - (iL M_))), (3, .long (iL N_)), (1, .long (iL M_)), (0, .ref (Z.2.2.2 99))]) dX11_layLeast_116 (by decide) rfl (fun x7_116 ex7_116 => ?_)
          subst ex7_116
          refine V_goto (pc := 118) (tgt := 38) dX11_layLeast_118 (by decide) ?_
          refine V_sub (L' := [(7, .long (v_ + (2))), (5, .long (iL (szQ (ctQ N_ M_ q_) q_))), (3, .long (iL N_)), (1, .long (iL M_)), (0, .ref (Z.2.2.2 99))]) [0, 1, 3, 4, 5] rfl ?_
          refine ih38 ((ctQ N_ M_ q_), q_, (szQ (ctQ N_ M_ q_) q_), (q_ + 2), _, _) ?_ ?_
          · exact ⟨rfl, by rw [hI38.2.1]; exact iL_add _ 2, ll_take hM.1 hM3 hI38.2.2.1 h43 h82, by show smQ (ctQ N_ M_ q_); omega, by show smQ q_; omega⟩
          · show (M_ + 2 - (q_ + 2)).toNat < (M_ + 2 - q_).toNat
            have := hI38.2.2.1.1.2.2
            omega
        · skip
          rw [hI38.1, lg_cmp_lt, iL_lt (by unfold szQ; omega) (by omega), Int.not_lt] at h82
          refine V_goto (pc := 85) (tgt := 110) dX11_layLeast_85 (by decide) ?_
          refine V_lload (pc := 110) dX11_layLeast_110 1 rfl ?_
          refine V_ldc2 (pc := 112) dX11_layLeast_112 tw_1115 ?_
          refine V_ladd (pc := 115) dX11_layLeast_115 ?_
          refine V_lstore (pc := 116) (L2 := [(9, .long ((iL (N_ * q_ % M_)) - (iL M_))), (5, .long u), (3, .long (iL N_)), (1, .long (iL M_)), (0, .ref (Z.2.2.2 99))]) dX11_layLeast_116 (by decide) rfl (fun x7_116 ex7_116 => ?_)
          subst ex7_116
          refine V_goto (pc := 118) (tgt := 38) dX11_layLeast_118 (by decide) ?_
          refine V_sub (L' := [(7, .long (v_ + (2))), (5, .long u), (3, .long (iL N_)), (1, .long (iL M_)), (0, .ref (Z.2.2.2 99))]) [0, 2, 3, 4, 5] rfl ?_
          refine ih38 (A_, B_, bs_, (q_ + 2), _, _) ?_ ?_
          · exact ⟨hI38.1, by rw [hI38.2.1]; exact iL_add _ 2, ll_skip hM.1 hI38.2.2.1 h43 h82, hI38.2.2.2⟩
          · show (M_ + 2 - (q_ + 2)).toNat < (M_ + 2 - q_).toNat
            have := hI38.2.2.1.1.2.2
            omega
  · skip
    rw [hl] at h16
    have n0 : n_ = 0 := by
      rcases Nat.eq_zero_or_pos n_ with z | z
      · exact z
      · exact absurd h16 (nI_ne0 z (by omega))
    exact V_vret (pc := 19) dX11_layLeast_19 (Nat.le_of_ble_eq_true rfl) (Nat.le_of_ble_eq_true rfl) (hB _ _ (by exact ⟨rfl, -1, 1, rfl, Or.inl ⟨n0, rfl, rfl⟩, by decide, by decide⟩))
