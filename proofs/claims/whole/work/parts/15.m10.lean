/-- the first place of g from j on with P -/
def ff (P : Nat → Bool) : Nat → Nat → Option Nat
  | 0, _ => none
  | g + 1, j => if P j then some j else ff P g (j + 1)
def srP (T : MS) (k c f : Int32) (t jc : Nat) : Bool := !(decide (owT T k c (nI t) f (nI jc - 9) < LN T))
def srI (T : MS) (k c f : Int32) (t : Nat) : Option Nat := ff (srP T k c f t) 19 0
def srO (T : MS) (k c f : Int32) : Nat → Nat → Int32
  | 0, _ => -1
  | g + 1, t => match srI T k c f t with
    | some jc => 100 * nI t + (nI jc - 9) + 9
    | none => srO T k c f g (t + 1)
theorem srO_s {T : MS} {k c f : Int32} {g t jc : Nat} (h : srI T k c f t = some jc) : srO T k c f (g + 1) t = 100 * nI t + (nI jc - 9) + 9 := by simp only [srO, h]
theorem srO_n {T : MS} {k c f : Int32} {g t : Nat} (h : srI T k c f t = none) : srO T k c f (g + 1) t = srO T k c f g (t + 1) := by simp only [srO, h]
theorem ff_t {P : Nat → Bool} {g j : Nat} (h : P j = true) : ff P (g + 1) j = some j := if_pos h
theorem ff_f {P : Nat → Bool} {g j : Nat} (h : ¬ P j = true) : ff P (g + 1) j = ff P g (j + 1) := if_neg h
theorem mThP (S : MS) (gk gc gt gs gy k c t s y : Int32) : (va_up (va_up (va_up (va_up (va_up (mTh S gk gc gt gs gy).1 6 k) 7 c) 8 t) 9 s) 10 y, (mTh S gk gc gt gs gy).2) = mTh S k c t s y := by
  refine Prod.ext (funext fun j => ?_) rfl
  simp only [mTh, va_up]
  repeat' split
  all_goals first | rfl | omega
theorem j9 (j : Nat) : nI j - 9 + 1 = nI (j + 1) - 9 := by
  rw [← nI_1]
  apply Int32.toBitVec_inj.mp
  simp only [Int32.toBitVec_add, Int32.toBitVec_sub]
  rw [BitVec.sub_eq_add_neg, BitVec.sub_eq_add_neg]
  ac_rfl
theorem le9 {j : Nat} (hj : j ≤ 19) (h : ¬ (9 : Int32) < nI j - 9) : j ≤ 18 := by
  rcases Nat.lt_or_ge j 19 with q | q
  · omega
  · have e : j = 19 := by omega
    subst e
    exact absurd (by decide) h
theorem gt9 {j : Nat} (hj : j ≤ 19) (h : (9 : Int32) < nI j - 9) : j = 19 := by
  rcases Nat.lt_or_ge j 19 with q | q
  · exfalso
    have h1 := Int32.lt_iff_toInt_lt.mp h
    rw [show (9 : Int32) = nI 9 from rfl, pk_sub_toInt (by omega) (by omega), nI_toInt (by omega)] at h1
    omega
  · omega
theorem sh1_le {c : Int32} (h : 1 ≤ c ∧ c ≤ 6) : (1 <<< (c &&& 31) : Int32).toNatClampNeg ≤ 64 := by
  have h1 := Int32.le_iff_toInt_le.mp h.1
  have h2 := Int32.le_iff_toInt_le.mp h.2
  have e1 : (1 : Int32).toInt = 1 := rfl
  have e6 : (6 : Int32).toInt = 6 := rfl
  obtain ⟨k, hk, e⟩ := nI_of (x := c) (fun q => by have := Int32.lt_iff_toInt_lt.mp q; have e0 : (0 : Int32).toInt = 0 := rfl; omega)
  subst e
  rw [nI_toInt hk] at h1 h2
  obtain rfl | rfl | rfl | rfl | rfl | rfl : k = 1 ∨ k = 2 ∨ k = 3 ∨ k = 4 ∨ k = 5 ∨ k = 6 := by omega
  all_goals decide
theorem sz_cl {S : MS} (hs : sOK2 S) {a : Int32} (ha : vp_in a 4) {c : Int32} (hc : c ≤ S.2.2 33 a.toNatClampNeg) : c.toNatClampNeg ≤ (S.2.2 33 a.toNatClampNeg).toNatClampNeg := by
  have h := Int32.le_iff_toInt_le.mp hc
  have e1 : c.toNatClampNeg = c.toInt.toNat := rfl
  have e2 : (S.2.2 33 a.toNatClampNeg).toNatClampNeg = (S.2.2 33 a.toNatClampNeg).toInt.toNat := rfl
  omega
def fdV (a b c d e : Int32) (i : Nat) : Int32 := if nI i = 0 then a else if nI i = 1 then b else if nI i = 2 then c else if nI i = 3 then d else e
def fdT (S : MS) (tp : Nat) (a b c d e : Int32) (j : Nat) : Nat → Int32 := it (fun i g => upd g (tp + i) (fdV a b c d e i)) j (S.2.2 20)
theorem mTh_self (S : MS) : S = mTh S (S.1 6) (S.1 7) (S.1 8) (S.1 9) (S.1 10) := by
  refine Prod.ext (funext fun j => ?_) rfl
  simp only [mTh]
  repeat' split
  all_goals first | rfl | (subst_vars; rfl)
set_option maxHeartbeats 4000000 in
set_option maxRecDepth 100000 in
theorem cM_replays (Z : VZ) (S : MS) (a_ : Int32) (b_ : Int32) (w_ : Int32) (hm : mOK S) (hs : sOK2 S) : Ct MW Z yX11_replays cX11_replays 7 (some .int) 4 0 0 [.ref (Z.2.2.2 99), .int a_, .int b_, .int w_] (S) (fun v S' => v = some (.int (if ((0 ≤ a_ ∧ a_ ≤ S.1 0 - 1) ∧ (0 ≤ b_ ∧ b_ ≤ 3) ∧ (0 ≤ w_ ∧ w_ ≤ 2)) then (if 0 ≤ S.2.2 32 b_.toNatClampNeg then rpR S (mRd S b_.toNatClampNeg) a_.toNatClampNeg w_ else -11) else -2)) ∧ mCor S S') := by
  refine V_entry (own := RX11) (by decide) rfl (Nat.le_of_ble_eq_true rfl) ?_
  intro B hB
  refine V_sub (L' := [(0, .ref (Z.2.2.2 99)), (1, .int a_), (2, .int b_), (3, .int w_)]) [0, 1, 2, 3] rfl ?_
  refine V_aload_n (pc := 0) dX11_replays_0 0 rfl rfl ?_
  refine V_iload_n (pc := 1) dX11_replays_1 1 rfl rfl ?_
  refine McVi (pc := 2) dX11_replays_2 (cM_isMachine Z _ _) kM_86 rfl rfl (Nat.le_of_ble_eq_true rfl) (by decide) (by decide) ?_
  refine V_bif_eq (pc := 5) (tgt := 24) dX11_replays_5 (by decide) (fun h5 => ?_) (fun h5 => ?_)
  · skip
    refine V_bipush (v := (-2)) (pc := 24) dX11_replays_24 (by decide) ?_
    exact V_iret (pc := 26) dX11_replays_26 (Nat.le_of_ble_eq_true rfl) (Nat.le_of_ble_eq_true rfl) (hB _ _ ⟨congrArg (fun z => some (Value.int z)) (by exact (if_neg (fun h => h5 h.1)).symm), by exact mCor_rfl S⟩)
  · skip
    refine V_iload_n (pc := 8) dX11_replays_8 2 rfl rfl ?_
    refine McSi (pc := 9) dX11_replays_9 (cM_isSheet Z _ _) kM_150 rfl (Nat.le_of_ble_eq_true rfl) (by decide) (by decide) ?_
    refine V_bif_eq (pc := 12) (tgt := 24) dX11_replays_12 (by decide) (fun h12 => ?_) (fun h12 => ?_)
    · skip
      refine V_bipush (v := (-2)) (pc := 24) dX11_replays_24 (by decide) ?_
      exact V_iret (pc := 26) dX11_replays_26 (Nat.le_of_ble_eq_true rfl) (Nat.le_of_ble_eq_true rfl) (hB _ _ ⟨congrArg (fun z => some (Value.int z)) (by exact (if_neg (fun h => h12 h.2.1)).symm), by exact mCor_rfl S⟩)
    · skip
      refine V_iload_n (pc := 15) dX11_replays_15 3 rfl rfl ?_
      refine V_iconst (v := 0) (pc := 16) dX11_replays_16 (by decide) ?_
      refine V_iconst (v := 2) (pc := 17) dX11_replays_17 (by decide) ?_
      refine McSi (pc := 18) dX11_replays_18 (cM_in Z _ _ _ _) kM_70 rfl (Nat.le_of_ble_eq_true rfl) (by decide) (by decide) ?_
      refine V_bif_ne (pc := 21) (tgt := 27) dX11_replays_21 (by decide) (fun h21 => ?_) (fun h21 => ?_)
      · skip
        refine V_aload_n (pc := 27) dX11_replays_27 0 rfl rfl ?_
        refine Mg_sorts (pc := 28) dX11_replays_28 ?_
        refine V_iload_n (pc := 31) dX11_replays_31 2 rfl rfl ?_
        refine Ml_sorts (pc := 32) dX11_replays_32 (by exact inSh h12) ?_
        refine V_if_ge (pc := 33) (tgt := 39) dX11_replays_33 (by decide) (fun h33 => ?_) (fun h33 => ?_)
        · skip
          refine V_aload_n (pc := 39) dX11_replays_39 0 rfl rfl ?_
          refine V_iload_n (pc := 40) dX11_replays_40 2 rfl rfl ?_
          refine McVv (pc := 41) dX11_replays_41 (cM_reads Z _ _ (by exact inSh h12) (by exact sz_le hs (inSh h12))) kM_165 rfl rfl (Nat.le_of_ble_eq_true rfl) (by decide) (by decide) ?_
          refine V_aload_n (pc := 44) dX11_replays_44 0 rfl rfl ?_
          refine V_iload_n (pc := 45) dX11_replays_45 1 rfl rfl ?_
          refine McVv (pc := 46) dX11_replays_46 (cM_thinks Z _ _ (by exact inMach hm h5)) kM_140 rfl rfl (Nat.le_of_ble_eq_true rfl) (by decide) (by decide) ?_
          refine V_iload_n (pc := 49) dX11_replays_49 3 rfl rfl ?_
          refine V_if_ne (pc := 50) (tgt := 58) dX11_replays_50 (by decide) (fun h50 => ?_) (fun h50 => ?_)
          · skip
            refine V_iconst (v := 0) (pc := 58) dX11_replays_58 (by decide) ?_
            refine V_istore (pc := 59) (L2 := [(0, .ref (Z.2.2.2 99)), (1, .int a_), (2, .int b_), (3, .int w_)]) dX11_replays_59 (by decide) rfl (fun x4_59 ex4_59 => ?_)
            subst ex4_59
            refine V_iload_n (pc := 61) dX11_replays_61 4 rfl rfl ?_
            refine V_iconst (v := 1) (pc := 62) dX11_replays_62 (by decide) ?_
            refine V_icmp_ne (pc := 63) (tgt := 71) dX11_replays_63 (by decide) (fun h63 => ?_) (fun h63 => ?_)
            · skip
              refine V_bipush (v := 19) (pc := 71) dX11_replays_71 (by decide) ?_
              refine V_istore (pc := 73) (L2 := [(4, .int 0), (0, .ref (Z.2.2.2 99)), (1, .int a_), (2, .int b_), (3, .int w_)]) dX11_replays_73 (by decide) rfl (fun x5_73 ex5_73 => ?_)
              subst ex5_73
              refine V_iconst (v := 0) (pc := 75) dX11_replays_75 (by decide) ?_
              refine V_istore (pc := 76) (L2 := [(5, .int 19), (4, .int 0), (0, .ref (Z.2.2.2 99)), (1, .int a_), (2, .int b_), (3, .int w_)]) dX11_replays_76 (by decide) rfl (fun x6_76 ex6_76 => ?_)
              subst ex6_76
              refine V_sub (L' := [(6, .int (nI 0)), (5, .int 19), (4, .int 0), (0, .ref (Z.2.2.2 99)), (1, .int a_), (2, .int b_), (3, .int w_)]) [0, 1, 2, 3, 4, 5, 6] rfl ?_
              refine Vloop (σ := Int32 × Int32 × Int32 × Int32 × Int32 × Nat × Int32) (fun x => (x.2.2.2.2.2.1) ≤ 19 ∧ (x.2.2.2.2.2.2) = rpC (mRd S b_.toNatClampNeg) (S.2.2 1 a_.toNatClampNeg) (S.2.2 2 a_.toNatClampNeg) (S.2.2 3 a_.toNatClampNeg) (S.2.2 4 a_.toNatClampNeg) (x.2.2.2.2.2.1)) (fun x => 19 - (x.2.2.2.2.2.1)) (fun x => V MW Z cX11_replays RX11 7 (some .int) 4 0 0 B 0 0 78 [(6, .int (nI (x.2.2.2.2.2.1))), (5, .int 19), (4, .int (x.2.2.2.2.2.2)), (0, .ref (Z.2.2.2 99)), (1, .int a_), (2, .int b_), (3, .int w_)] [] (mTh (mRd S b_.toNatClampNeg) (x.1) (x.2.1) (x.2.2.1) (x.2.2.2.1) (x.2.2.2.2.1))) ?_ (_, _, _, _, _, 0, 0) (by exact ⟨Nat.zero_le _, rfl⟩)
              rintro ⟨gk, gc, gt, gs, gy, j, u⟩ hI78 ih78
              have hI78 : j ≤ 19 ∧ u = rpC (mRd S b_.toNatClampNeg) (S.2.2 1 a_.toNatClampNeg) (S.2.2 2 a_.toNatClampNeg) (S.2.2 3 a_.toNatClampNeg) (S.2.2 4 a_.toNatClampNeg) j := hI78
              show V MW Z cX11_replays RX11 7 (some .int) 4 0 0 B 0 0 78 [(6, .int (nI j)), (5, .int 19), (4, .int u), (0, .ref (Z.2.2.2 99)), (1, .int a_), (2, .int b_), (3, .int w_)] [] (mTh (mRd S b_.toNatClampNeg) gk gc gt gs gy)
              refine V_iload (pc := 78) dX11_replays_78 0 rfl ?_
              refine V_iload (pc := 80) dX11_replays_80 1 rfl ?_
              refine V_icmp_ge (pc := 82) (tgt := 136) dX11_replays_82 (by decide) (fun h82 => ?_) (fun h82 => ?_)
              · skip
                have hj : 19 ≤ j := jge h82 (by omega)
                have ej : j = 19 := by omega
                refine V_iload (pc := 136) dX11_replays_136 2 rfl ?_
                exact V_iret (pc := 138) dX11_replays_138 (Nat.le_of_ble_eq_true rfl) (Nat.le_of_ble_eq_true rfl) (hB _ _ ⟨congrArg (fun z => some (Value.int z)) (by rw [hI78.2, ej, if_pos ⟨h5, h12, h21⟩, if_pos h33]; simp only [rpR]; rw [if_neg h50]; first | (rw [if_pos h63]; done) | (rw [if_neg h63])), by exact mCor_th (mCor_rd S _) _ _ _ _ _⟩)
              · skip
                have hj : j < 19 := jlt h82 (by omega)
                refine V_aload_n (pc := 85) dX11_replays_85 3 rfl rfl ?_
                refine V_iload_n (pc := 86) dX11_replays_86 4 rfl rfl ?_
                refine McVv (pc := 87) dX11_replays_87 (cM_thinks Z _ _ (by exact inMach hm h5)) kM_140 rfl rfl (Nat.le_of_ble_eq_true rfl) (by decide) (by decide) ?_
                refine V_eqS (mTh (mRd S b_.toNatClampNeg) (S.2.2 1 a_.toNatClampNeg) (S.2.2 2 a_.toNatClampNeg) (S.2.2 3 a_.toNatClampNeg) (S.2.2 4 a_.toNatClampNeg) (S.2.2 5 a_.toNatClampNeg)) (mTh_mTh _ _ _ _ _ _ _ _ _ _ _) ?_
                refine V_iload_n (pc := 90) dX11_replays_90 6 rfl rfl ?_
                refine V_iconst (v := 1) (pc := 91) dX11_replays_91 (by decide) ?_
                refine V_icmp_ne (pc := 92) (tgt := 104) dX11_replays_92 (by decide) (fun h92 => ?_) (fun h92 => ?_)
                · skip
                  refine V_aload_n (pc := 104) dX11_replays_104 3 rfl rfl ?_
                  refine V_iload (pc := 105) dX11_replays_105 0 rfl ?_
                  refine V_bipush (v := 9) (pc := 107) dX11_replays_107 (by decide) ?_
                  refine V_isub (pc := 109) dX11_replays_109 ?_
                  refine Mp_carry (pc := 110) dX11_replays_110 ?_
                  refine V_eqS _ (mTh10 _ _ _ _ _ _ _) ?_
                  refine V_aload_n (pc := 113) dX11_replays_113 3 rfl rfl ?_
                  refine McVi (pc := 114) dX11_replays_114 (cM_otherwise Z _ _ _ _ _ _ (by exact sz_le hs (inSh h12))) kM_245 rfl rfl (Nat.le_of_ble_eq_true rfl) (by decide) (by decide) ?_
                  refine V_iconst (v := (-1)) (pc := 117) dX11_replays_117 (by decide) ?_
                  refine V_icmp_ne (pc := 118) (tgt := 130) dX11_replays_118 (by decide) (fun h118 => ?_) (fun h118 => ?_)
                  · skip
                    rw [ow_eq (owT_lt (mRd S b_.toNatClampNeg) _ _ _ _ _ (sz_le hs (inSh h12))), Classical.not_not] at h118
                    refine V_iinc (pc := 130) (v := 1) (L2 := [(5, .int 19), (4, .int u), (0, .ref (Z.2.2.2 99)), (1, .int a_), (2, .int b_), (3, .int w_)]) dX11_replays_130 0 rfl (by decide) (by decide) rfl (fun x6_130 ex6_130 => ?_)
                    rw [nI_1] at ex6_130
                    subst ex6_130
                    refine V_goto (pc := 133) (tgt := 78) dX11_replays_133 (by decide) ?_
                    refine V_sub (L' := [(6, .int (nI (j + 1))), (5, .int 19), (4, .int u), (0, .ref (Z.2.2.2 99)), (1, .int a_), (2, .int b_), (3, .int w_)]) [0, 1, 2, 3, 4, 5, 6] rfl ?_
                    refine ih78 (_, _, _, _, _, ((j + 1)), _) ?_ ?_
                    · show ((j + 1)) ≤ 19 ∧ (u) = rpC (mRd S b_.toNatClampNeg) (S.2.2 1 a_.toNatClampNeg) (S.2.2 2 a_.toNatClampNeg) (S.2.2 3 a_.toNatClampNeg) (S.2.2 4 a_.toNatClampNeg) ((j + 1))
                      refine ⟨hj, ?_⟩
                      show _ = rpC (mRd S b_.toNatClampNeg) (S.2.2 1 a_.toNatClampNeg) (S.2.2 2 a_.toNatClampNeg) (S.2.2 3 a_.toNatClampNeg) (S.2.2 4 a_.toNatClampNeg) (j + 1)
                      rw [hI78.2]
                      simp only [rpC, it]
                      first | (rw [if_neg h118]; done) | (rw [if_pos h118])
                    · show 19 - (j + 1) < 19 - j
                      omega
                  · skip
                    rw [ow_eq (owT_lt (mRd S b_.toNatClampNeg) _ _ _ _ _ (sz_le hs (inSh h12)))] at h118
                    refine V_iload (pc := 121) dX11_replays_121 2 rfl ?_
                    refine V_iconst (v := 1) (pc := 123) dX11_replays_123 (by decide) ?_
                    refine V_iload (pc := 124) dX11_replays_124 0 rfl ?_
                    refine V_ishl (pc := 126) dX11_replays_126 ?_
                    refine V_ior (pc := 127) dX11_replays_127 ?_
                    refine V_istore (pc := 128) (L2 := [(6, .int (nI j)), (5, .int 19), (0, .ref (Z.2.2.2 99)), (1, .int a_), (2, .int b_), (3, .int w_)]) dX11_replays_128 (by decide) rfl (fun x4_128 ex4_128 => ?_)
                    subst ex4_128
                    refine V_iinc (pc := 130) (v := 1) (L2 := [(4, .int (u ||| (1 <<< ((nI j) &&& 31)))), (5, .int 19), (0, .ref (Z.2.2.2 99)), (1, .int a_), (2, .int b_), (3, .int w_)]) dX11_replays_130 1 rfl (by decide) (by decide) rfl (fun x6_130 ex6_130 => ?_)
                    rw [nI_1] at ex6_130
                    subst ex6_130
                    refine V_goto (pc := 133) (tgt := 78) dX11_replays_133 (by decide) ?_
                    refine V_sub (L' := [(6, .int (nI (j + 1))), (5, .int 19), (4, .int (u ||| (1 <<< ((nI j) &&& 31)))), (0, .ref (Z.2.2.2 99)), (1, .int a_), (2, .int b_), (3, .int w_)]) [0, 2, 1, 3, 4, 5, 6] rfl ?_
                    refine ih78 (_, _, _, _, _, ((j + 1)), _) ?_ ?_
                    · show ((j + 1)) ≤ 19 ∧ ((u ||| (1 <<< ((nI j) &&& 31)))) = rpC (mRd S b_.toNatClampNeg) (S.2.2 1 a_.toNatClampNeg) (S.2.2 2 a_.toNatClampNeg) (S.2.2 3 a_.toNatClampNeg) (S.2.2 4 a_.toNatClampNeg) ((j + 1))
                      refine ⟨hj, ?_⟩
                      show _ = rpC (mRd S b_.toNatClampNeg) (S.2.2 1 a_.toNatClampNeg) (S.2.2 2 a_.toNatClampNeg) (S.2.2 3 a_.toNatClampNeg) (S.2.2 4 a_.toNatClampNeg) (j + 1)
                      rw [hI78.2]
                      simp only [rpC, it]
                      first | (rw [if_neg h118]; done) | (rw [if_pos h118])
                    · show 19 - (j + 1) < 19 - j
                      omega
                · skip
                  exact absurd h92 h63
            · skip
              refine V_bipush (v := 6) (pc := 66) dX11_replays_66 (by decide) ?_
              refine V_goto (pc := 68) (tgt := 73) dX11_replays_68 (by decide) ?_
              refine V_istore (pc := 73) (L2 := [(4, .int 0), (0, .ref (Z.2.2.2 99)), (1, .int a_), (2, .int b_), (3, .int w_)]) dX11_replays_73 (by decide) rfl (fun x5_73 ex5_73 => ?_)
              subst ex5_73
              refine V_iconst (v := 0) (pc := 75) dX11_replays_75 (by decide) ?_
              refine V_istore (pc := 76) (L2 := [(5, .int 6), (4, .int 0), (0, .ref (Z.2.2.2 99)), (1, .int a_), (2, .int b_), (3, .int w_)]) dX11_replays_76 (by decide) rfl (fun x6_76 ex6_76 => ?_)
              subst ex6_76
              refine V_sub (L' := [(6, .int (nI 0)), (5, .int 6), (4, .int 0), (0, .ref (Z.2.2.2 99)), (1, .int a_), (2, .int b_), (3, .int w_)]) [0, 1, 2, 3, 4, 5, 6] rfl ?_
              refine Vloop (σ := Int32 × Int32 × Int32 × Int32 × Int32 × Nat × Int32) (fun x => (x.2.2.2.2.2.1) ≤ 6 ∧ (x.2.2.2.2.2.2) = rpK (mRd S b_.toNatClampNeg) (S.2.2 2 a_.toNatClampNeg) (S.2.2 3 a_.toNatClampNeg) (S.2.2 4 a_.toNatClampNeg) (S.2.2 5 a_.toNatClampNeg) (x.2.2.2.2.2.1)) (fun x => 6 - (x.2.2.2.2.2.1)) (fun x => V MW Z cX11_replays RX11 7 (some .int) 4 0 0 B 0 0 78 [(6, .int (nI (x.2.2.2.2.2.1))), (5, .int 6), (4, .int (x.2.2.2.2.2.2)), (0, .ref (Z.2.2.2 99)), (1, .int a_), (2, .int b_), (3, .int w_)] [] (mTh (mRd S b_.toNatClampNeg) (x.1) (x.2.1) (x.2.2.1) (x.2.2.2.1) (x.2.2.2.2.1))) ?_ (_, _, _, _, _, 0, 0) (by exact ⟨Nat.zero_le _, rfl⟩)
              rintro ⟨gk, gc, gt, gs, gy, j, u⟩ hI78 ih78
              have hI78 : j ≤ 6 ∧ u = rpK (mRd S b_.toNatClampNeg) (S.2.2 2 a_.toNatClampNeg) (S.2.2 3 a_.toNatClampNeg) (S.2.2 4 a_.toNatClampNeg) (S.2.2 5 a_.toNatClampNeg) j := hI78
              show V MW Z cX11_replays RX11 7 (some .int) 4 0 0 B 0 0 78 [(6, .int (nI j)), (5, .int 6), (4, .int u), (0, .ref (Z.2.2.2 99)), (1, .int a_), (2, .int b_), (3, .int w_)] [] (mTh (mRd S b_.toNatClampNeg) gk gc gt gs gy)
              refine V_iload (pc := 78) dX11_replays_78 0 rfl ?_
              refine V_iload (pc := 80) dX11_replays_80 1 rfl ?_
              refine V_icmp_ge (pc := 82) (tgt := 136) dX11_replays_82 (by decide) (fun h82 => ?_) (fun h82 => ?_)
              · skip
                have hj : 6 ≤ j := jge h82 (by omega)
                have ej : j = 6 := by omega
                refine V_iload (pc := 136) dX11_replays_136 2 rfl ?_
                exact V_iret (pc := 138) dX11_replays_138 (Nat.le_of_ble_eq_true rfl) (Nat.le_of_ble_eq_true rfl) (hB _ _ ⟨congrArg (fun z => some (Value.int z)) (by rw [hI78.2, ej, if_pos ⟨h5, h12, h21⟩, if_pos h33]; simp only [rpR]; rw [if_neg h50]; first | (rw [if_pos h63]; done) | (rw [if_neg h63])), by exact mCor_th (mCor_rd S _) _ _ _ _ _⟩)
              · skip
                have hj : j < 6 := jlt h82 (by omega)
                refine V_aload_n (pc := 85) dX11_replays_85 3 rfl rfl ?_
                refine V_iload_n (pc := 86) dX11_replays_86 4 rfl rfl ?_
                refine McVv (pc := 87) dX11_replays_87 (cM_thinks Z _ _ (by exact inMach hm h5)) kM_140 rfl rfl (Nat.le_of_ble_eq_true rfl) (by decide) (by decide) ?_
                refine V_eqS (mTh (mRd S b_.toNatClampNeg) (S.2.2 1 a_.toNatClampNeg) (S.2.2 2 a_.toNatClampNeg) (S.2.2 3 a_.toNatClampNeg) (S.2.2 4 a_.toNatClampNeg) (S.2.2 5 a_.toNatClampNeg)) (mTh_mTh _ _ _ _ _ _ _ _ _ _ _) ?_
                refine V_iload_n (pc := 90) dX11_replays_90 6 rfl rfl ?_
                refine V_iconst (v := 1) (pc := 91) dX11_replays_91 (by decide) ?_
                refine V_icmp_ne (pc := 92) (tgt := 104) dX11_replays_92 (by decide) (fun h92 => ?_) (fun h92 => ?_)
                · skip
                  exact absurd h63 h92
                · skip
                  refine V_aload_n (pc := 95) dX11_replays_95 3 rfl rfl ?_
                  refine V_iload (pc := 96) dX11_replays_96 0 rfl ?_
                  refine Mp_kind (pc := 98) dX11_replays_98 ?_
                  refine V_eqS _ (mTh6 _ _ _ _ _ _ _) ?_
                  refine V_goto (pc := 101) (tgt := 113) dX11_replays_101 (by decide) ?_
                  refine V_aload_n (pc := 113) dX11_replays_113 3 rfl rfl ?_
                  refine McVi (pc := 114) dX11_replays_114 (cM_otherwise Z _ _ _ _ _ _ (by exact sz_le hs (inSh h12))) kM_245 rfl rfl (Nat.le_of_ble_eq_true rfl) (by decide) (by decide) ?_
                  refine V_iconst (v := (-1)) (pc := 117) dX11_replays_117 (by decide) ?_
                  refine V_icmp_ne (pc := 118) (tgt := 130) dX11_replays_118 (by decide) (fun h118 => ?_) (fun h118 => ?_)
                  · skip
                    rw [ow_eq (owT_lt (mRd S b_.toNatClampNeg) _ _ _ _ _ (sz_le hs (inSh h12))), Classical.not_not] at h118
                    refine V_iinc (pc := 130) (v := 1) (L2 := [(5, .int 6), (4, .int u), (0, .ref (Z.2.2.2 99)), (1, .int a_), (2, .int b_), (3, .int w_)]) dX11_replays_130 0 rfl (by decide) (by decide) rfl (fun x6_130 ex6_130 => ?_)
                    rw [nI_1] at ex6_130
                    subst ex6_130
                    refine V_goto (pc := 133) (tgt := 78) dX11_replays_133 (by decide) ?_
                    refine V_sub (L' := [(6, .int (nI (j + 1))), (5, .int 6), (4, .int u), (0, .ref (Z.2.2.2 99)), (1, .int a_), (2, .int b_), (3, .int w_)]) [0, 1, 2, 3, 4, 5, 6] rfl ?_
                    refine ih78 (_, _, _, _, _, ((j + 1)), _) ?_ ?_
                    · show ((j + 1)) ≤ 6 ∧ (u) = rpK (mRd S b_.toNatClampNeg) (S.2.2 2 a_.toNatClampNeg) (S.2.2 3 a_.toNatClampNeg) (S.2.2 4 a_.toNatClampNeg) (S.2.2 5 a_.toNatClampNeg) ((j + 1))
                      refine ⟨hj, ?_⟩
                      show _ = rpK (mRd S b_.toNatClampNeg) (S.2.2 2 a_.toNatClampNeg) (S.2.2 3 a_.toNatClampNeg) (S.2.2 4 a_.toNatClampNeg) (S.2.2 5 a_.toNatClampNeg) (j + 1)
                      rw [hI78.2]
                      simp only [rpK, it]
                      first | (rw [if_neg h118]; done) | (rw [if_pos h118])
                    · show 6 - (j + 1) < 6 - j
                      omega
                  · skip
                    rw [ow_eq (owT_lt (mRd S b_.toNatClampNeg) _ _ _ _ _ (sz_le hs (inSh h12)))] at h118
                    refine V_iload (pc := 121) dX11_replays_121 2 rfl ?_
                    refine V_iconst (v := 1) (pc := 123) dX11_replays_123 (by decide) ?_
                    refine V_iload (pc := 124) dX11_replays_124 0 rfl ?_
                    refine V_ishl (pc := 126) dX11_replays_126 ?_
                    refine V_ior (pc := 127) dX11_replays_127 ?_
                    refine V_istore (pc := 128) (L2 := [(6, .int (nI j)), (5, .int 6), (0, .ref (Z.2.2.2 99)), (1, .int a_), (2, .int b_), (3, .int w_)]) dX11_replays_128 (by decide) rfl (fun x4_128 ex4_128 => ?_)
                    subst ex4_128
                    refine V_iinc (pc := 130) (v := 1) (L2 := [(4, .int (u ||| (1 <<< ((nI j) &&& 31)))), (5, .int 6), (0, .ref (Z.2.2.2 99)), (1, .int a_), (2, .int b_), (3, .int w_)]) dX11_replays_130 1 rfl (by decide) (by decide) rfl (fun x6_130 ex6_130 => ?_)
                    rw [nI_1] at ex6_130
                    subst ex6_130
                    refine V_goto (pc := 133) (tgt := 78) dX11_replays_133 (by decide) ?_
                    refine V_sub (L' := [(6, .int (nI (j + 1))), (5, .int 6), (4, .int (u ||| (1 <<< ((nI j) &&& 31)))), (0, .ref (Z.2.2.2 99)), (1, .int a_), (2, .int b_), (3, .int w_)]) [0, 2, 1, 3, 4, 5, 6] rfl ?_
                    refine ih78 (_, _, _, _, _, ((j + 1)), _) ?_ ?_
                    · show ((j + 1)) ≤ 6 ∧ ((u ||| (1 <<< ((nI j) &&& 31)))) = rpK (mRd S b_.toNatClampNeg) (S.2.2 2 a_.toNatClampNeg) (S.2.2 3 a_.toNatClampNeg) (S.2.2 4 a_.toNatClampNeg) (S.2.2 5 a_.toNatClampNeg) ((j + 1))
                      refine ⟨hj, ?_⟩
                      show _ = rpK (mRd S b_.toNatClampNeg) (S.2.2 2 a_.toNatClampNeg) (S.2.2 3 a_.toNatClampNeg) (S.2.2 4 a_.toNatClampNeg) (S.2.2 5 a_.toNatClampNeg) (j + 1)
                      rw [hI78.2]
                      simp only [rpK, it]
                      first | (rw [if_neg h118]; done) | (rw [if_pos h118])
                    · show 6 - (j + 1) < 6 - j
                      omega
          · skip
            refine V_aload_n (pc := 53) dX11_replays_53 0 rfl rfl ?_
            refine McVi (pc := 54) dX11_replays_54 (cM_otherwise Z _ _ _ _ _ _ (by exact sz_le hs (inSh h12))) kM_245 rfl rfl (Nat.le_of_ble_eq_true rfl) (by decide) (by decide) ?_
            exact V_iret (pc := 57) dX11_replays_57 (Nat.le_of_ble_eq_true rfl) (Nat.le_of_ble_eq_true rfl) (hB _ _ ⟨congrArg (fun z => some (Value.int z)) (by refine Eq.symm ?_; rw [if_pos ⟨h5, h12, h21⟩, if_pos h33]; simp only [rpR]; rw [if_pos h50]; rfl), by exact mCor_th (mCor_rd S _) _ _ _ _ _⟩)
        · skip
          refine V_bipush (v := (-11)) (pc := 36) dX11_replays_36 (by decide) ?_
          exact V_iret (pc := 38) dX11_replays_38 (Nat.le_of_ble_eq_true rfl) (Nat.le_of_ble_eq_true rfl) (hB _ _ ⟨congrArg (fun z => some (Value.int z)) (by rw [if_pos ⟨h5, h12, h21⟩, if_neg h33]), by exact mCor_rfl S⟩)
      · skip
        refine V_bipush (v := (-2)) (pc := 24) dX11_replays_24 (by decide) ?_
        exact V_iret (pc := 26) dX11_replays_26 (Nat.le_of_ble_eq_true rfl) (Nat.le_of_ble_eq_true rfl) (hB _ _ ⟨congrArg (fun z => some (Value.int z)) (by exact (if_neg (fun h => h21 h.2.2)).symm), by exact mCor_rfl S⟩)
set_option maxHeartbeats 4000000 in
set_option maxRecDepth 100000 in
theorem cM_search (Z : VZ) (S : MS) (a_ : Int32) (k_ : Int32) (c_ : Int32) (hs : sOK2 S) : Ct MW Z yX11_search cX11_search 7 (some .int) 4 0 0 [.ref (Z.2.2.2 99), .int a_, .int k_, .int c_] (S) (fun v S' => v = some (.int (if ((0 ≤ a_ ∧ a_ ≤ 3) ∧ (0 ≤ k_ ∧ k_ ≤ 5) ∧ (1 ≤ c_ ∧ c_ ≤ 6)) then (if 0 ≤ S.2.2 32 a_.toNatClampNeg then (if c_ ≤ S.2.2 33 a_.toNatClampNeg then srO (mRd S a_.toNatClampNeg) k_ c_ (wdA (rdI S a_.toNatClampNeg (S.2.2 33 a_.toNatClampNeg).toNatClampNeg) 0 c_.toNatClampNeg) ((1 <<< (c_ &&& 31) : Int32).toNatClampNeg - 1) 1 else -3) else -11) else -2)) ∧ mCor S S') := by
  refine V_entry (own := RX11) (by decide) rfl (Nat.le_of_ble_eq_true rfl) ?_
  intro B hB
  refine V_sub (L' := [(0, .ref (Z.2.2.2 99)), (1, .int a_), (2, .int k_), (3, .int c_)]) [0, 1, 2, 3] rfl ?_
  refine V_iload_n (pc := 0) dX11_search_0 1 rfl rfl ?_
  refine McSi (pc := 1) dX11_search_1 (cM_isSheet Z _ _) kM_150 rfl (Nat.le_of_ble_eq_true rfl) (by decide) (by decide) ?_
  refine V_bif_eq (pc := 4) (tgt := 24) dX11_search_4 (by decide) (fun h4 => ?_) (fun h4 => ?_)
  · skip
    refine V_bipush (v := (-2)) (pc := 24) dX11_search_24 (by decide) ?_
    exact V_iret (pc := 26) dX11_search_26 (Nat.le_of_ble_eq_true rfl) (Nat.le_of_ble_eq_true rfl) (hB _ _ ⟨congrArg (fun z => some (Value.int z)) (by exact (if_neg (fun h => h4 h.1)).symm), by exact mCor_rfl S⟩)
  · skip
    refine V_iload_n (pc := 7) dX11_search_7 2 rfl rfl ?_
    refine McSi (pc := 8) dX11_search_8 (cM_isKind Z _ _) kM_74 rfl (Nat.le_of_ble_eq_true rfl) (by decide) (by decide) ?_
    refine V_bif_eq (pc := 11) (tgt := 24) dX11_search_11 (by decide) (fun h11 => ?_) (fun h11 => ?_)
    · skip
      refine V_bipush (v := (-2)) (pc := 24) dX11_search_24 (by decide) ?_
      exact V_iret (pc := 26) dX11_search_26 (Nat.le_of_ble_eq_true rfl) (Nat.le_of_ble_eq_true rfl) (hB _ _ ⟨congrArg (fun z => some (Value.int z)) (by exact (if_neg (fun h => h11 h.2.1)).symm), by exact mCor_rfl S⟩)
    · skip
      refine V_iload_n (pc := 14) dX11_search_14 3 rfl rfl ?_
      refine V_iconst (v := 1) (pc := 15) dX11_search_15 (by decide) ?_
      refine V_bipush (v := 6) (pc := 16) dX11_search_16 (by decide) ?_
      refine McSi (pc := 18) dX11_search_18 (cM_in Z _ _ _ _) kM_70 rfl (Nat.le_of_ble_eq_true rfl) (by decide) (by decide) ?_
      refine V_bif_ne (pc := 21) (tgt := 27) dX11_search_21 (by decide) (fun h21 => ?_) (fun h21 => ?_)
      · skip
        refine V_aload_n (pc := 27) dX11_search_27 0 rfl rfl ?_
        refine Mg_sorts (pc := 28) dX11_search_28 ?_
        refine V_iload_n (pc := 31) dX11_search_31 1 rfl rfl ?_
        refine Ml_sorts (pc := 32) dX11_search_32 (by exact inSh h4) ?_
        refine V_if_ge (pc := 33) (tgt := 39) dX11_search_33 (by decide) (fun h33 => ?_) (fun h33 => ?_)
        · skip
          refine V_aload_n (pc := 39) dX11_search_39 0 rfl rfl ?_
          refine V_iload_n (pc := 40) dX11_search_40 1 rfl rfl ?_
          refine McVv (pc := 41) dX11_search_41 (cM_reads Z _ _ (by exact inSh h4) (by exact sz_le hs (inSh h4))) kM_165 rfl rfl (Nat.le_of_ble_eq_true rfl) (by decide) (by decide) ?_
          refine V_aload_n (pc := 44) dX11_search_44 0 rfl rfl ?_
          refine Mg_length (pc := 45) (v := (S.2.2 33 a_.toNatClampNeg)) rfl dX11_search_45 ?_
          refine V_iload_n (pc := 48) dX11_search_48 3 rfl rfl ?_
          refine V_icmp_ge (pc := 49) (tgt := 55) dX11_search_49 (by decide) (fun h49 => ?_) (fun h49 => ?_)
          · skip
            have hsz := sz_le hs (inSh h4)
            have hcz := sz_cl hs (inSh h4) h49
            have h64 := sh1_le h21
            have h1b : 1 ≤ (1 <<< (c_ &&& 31) : Int32).toNatClampNeg := by
              have q := h21
              have h1 := Int32.le_iff_toInt_le.mp q.1
              have h2 := Int32.le_iff_toInt_le.mp q.2
              have e1 : (1 : Int32).toInt = 1 := rfl
              have e6 : (6 : Int32).toInt = 6 := rfl
              obtain ⟨k9, hk9, e⟩ := nI_of (x := c_) (fun q => by have h3 := Int32.lt_iff_toInt_lt.mp q; have e0 : (0 : Int32).toInt = 0 := rfl; omega)
              rw [e, nI_toInt hk9] at h1 h2
              rw [e]
              obtain rfl | rfl | rfl | rfl | rfl | rfl : k9 = 1 ∨ k9 = 2 ∨ k9 = 3 ∨ k9 = 4 ∨ k9 = 5 ∨ k9 = 6 := by omega
              all_goals decide
            refine V_aload_n (pc := 55) dX11_search_55 0 rfl rfl ?_
            refine V_iconst (v := 0) (pc := 56) dX11_search_56 (by decide) ?_
            refine V_iload_n (pc := 57) dX11_search_57 3 rfl rfl ?_
            refine McVi (pc := 58) dX11_search_58 (cM_wordAt Z _ 0 _ (by omega)) kM_236 rfl rfl (Nat.le_of_ble_eq_true rfl) (by decide) (by decide) ?_
            refine V_istore (pc := 61) (L2 := [(0, .ref (Z.2.2.2 99)), (1, .int a_), (2, .int k_), (3, .int c_)]) dX11_search_61 (by decide) rfl (fun x4_61 ex4_61 => ?_)
            subst ex4_61
            refine V_iconst (v := 1) (pc := 63) dX11_search_63 (by decide) ?_
            refine V_istore (pc := 64) (L2 := [(4, .int (wdA (rdI S a_.toNatClampNeg (S.2.2 33 a_.toNatClampNeg).toNatClampNeg) 0 c_.toNatClampNeg)), (0, .ref (Z.2.2.2 99)), (1, .int a_), (2, .int k_), (3, .int c_)]) dX11_search_64 (by decide) rfl (fun x5_64 ex5_64 => ?_)
            subst ex5_64
            refine V_eqS _ (mTh_self (mRd S a_.toNatClampNeg)) ?_
            refine V_sub (L' := [(5, .int (nI 1)), (4, .int (wdA (rdI S a_.toNatClampNeg (S.2.2 33 a_.toNatClampNeg).toNatClampNeg) 0 c_.toNatClampNeg)), (0, .ref (Z.2.2.2 99)), (1, .int a_), (2, .int k_), (3, .int c_)]) [0, 1, 2, 3, 4, 5] rfl ?_
            refine Vloop (σ := Int32 × Int32 × Int32 × Int32 × Int32 × Nat) (fun x => 1 ≤ (x.2.2.2.2.2) ∧ (x.2.2.2.2.2) ≤ (1 <<< (c_ &&& 31) : Int32).toNatClampNeg ∧ srO (mRd S a_.toNatClampNeg) k_ c_ (wdA (rdI S a_.toNatClampNeg (S.2.2 33 a_.toNatClampNeg).toNatClampNeg) 0 c_.toNatClampNeg) ((1 <<< (c_ &&& 31) : Int32).toNatClampNeg - (x.2.2.2.2.2)) (x.2.2.2.2.2) = srO (mRd S a_.toNatClampNeg) k_ c_ (wdA (rdI S a_.toNatClampNeg (S.2.2 33 a_.toNatClampNeg).toNatClampNeg) 0 c_.toNatClampNeg) ((1 <<< (c_ &&& 31) : Int32).toNatClampNeg - 1) 1) (fun x => (1 <<< (c_ &&& 31) : Int32).toNatClampNeg - (x.2.2.2.2.2)) (fun x => V MW Z cX11_search RX11 7 (some .int) 4 0 0 B 0 0 66 [(5, .int (nI (x.2.2.2.2.2))), (4, .int (wdA (rdI S a_.toNatClampNeg (S.2.2 33 a_.toNatClampNeg).toNatClampNeg) 0 c_.toNatClampNeg)), (0, .ref (Z.2.2.2 99)), (1, .int a_), (2, .int k_), (3, .int c_)] [] (mTh (mRd S a_.toNatClampNeg) (x.1) (x.2.1) (x.2.2.1) (x.2.2.2.1) (x.2.2.2.2.1))) ?_ (_, _, _, _, _, 1) (by exact ⟨Nat.le_refl _, h1b, rfl⟩)
            rintro ⟨gk, gc, gt, gs, gy, jt⟩ hI66 ih66
            have hI66 : 1 ≤ jt ∧ jt ≤ (1 <<< (c_ &&& 31) : Int32).toNatClampNeg ∧ srO (mRd S a_.toNatClampNeg) k_ c_ (wdA (rdI S a_.toNatClampNeg (S.2.2 33 a_.toNatClampNeg).toNatClampNeg) 0 c_.toNatClampNeg) ((1 <<< (c_ &&& 31) : Int32).toNatClampNeg - jt) jt = srO (mRd S a_.toNatClampNeg) k_ c_ (wdA (rdI S a_.toNatClampNeg (S.2.2 33 a_.toNatClampNeg).toNatClampNeg) 0 c_.toNatClampNeg) ((1 <<< (c_ &&& 31) : Int32).toNatClampNeg - 1) 1 := hI66
            show V MW Z cX11_search RX11 7 (some .int) 4 0 0 B 0 0 66 [(5, .int (nI jt)), (4, .int (wdA (rdI S a_.toNatClampNeg (S.2.2 33 a_.toNatClampNeg).toNatClampNeg) 0 c_.toNatClampNeg)), (0, .ref (Z.2.2.2 99)), (1, .int a_), (2, .int k_), (3, .int c_)] [] (mTh (mRd S a_.toNatClampNeg) gk gc gt gs gy)
            refine V_iload (pc := 66) dX11_search_66 0 rfl ?_
            refine V_iconst (v := 1) (pc := 68) dX11_search_68 (by decide) ?_
            refine V_iload_n (pc := 69) dX11_search_69 5 rfl rfl ?_
            refine V_ishl (pc := 70) dX11_search_70 ?_
            refine V_icmp_ge (pc := 71) (tgt := 145) dX11_search_71 (by decide) (fun h71 => ?_) (fun h71 => ?_)
            · skip
              have hjt : (1 <<< (c_ &&& 31) : Int32).toNatClampNeg ≤ jt := jge h71 (by omega)
              refine V_iconst (v := (-1)) (pc := 145) dX11_search_145 (by decide) ?_
              exact V_iret (pc := 146) dX11_search_146 (Nat.le_of_ble_eq_true rfl) (Nat.le_of_ble_eq_true rfl) (hB _ _ ⟨congrArg (fun z => some (Value.int z)) (by rw [if_pos ⟨h4, h11, h21⟩, if_pos h33, if_pos h49, ← hI66.2.2, show (1 <<< (c_ &&& 31) : Int32).toNatClampNeg - jt = 0 by omega]; rfl), by exact mCor_th (mCor_rd S _) _ _ _ _ _⟩)
            · skip
              have hjt : jt < (1 <<< (c_ &&& 31) : Int32).toNatClampNeg := jlt h71 (by omega)
              refine V_bipush (v := (-9)) (pc := 74) dX11_search_74 (by decide) ?_
              refine V_istore (pc := 76) (L2 := [(5, .int (nI jt)), (4, .int (wdA (rdI S a_.toNatClampNeg (S.2.2 33 a_.toNatClampNeg).toNatClampNeg) 0 c_.toNatClampNeg)), (0, .ref (Z.2.2.2 99)), (1, .int a_), (2, .int k_), (3, .int c_)]) dX11_search_76 (by decide) rfl (fun x6_76 ex6_76 => ?_)
              subst ex6_76
              refine Vloop (σ := Nat × Int32 × Int32 × Int32 × Int32 × Int32 × Int32) (fun x => (x.1) ≤ 19 ∧ (x.2.2.2.2.2.2) = nI (x.1) - 9 ∧ ff (srP (mRd S a_.toNatClampNeg) k_ c_ (wdA (rdI S a_.toNatClampNeg (S.2.2 33 a_.toNatClampNeg).toNatClampNeg) 0 c_.toNatClampNeg) jt) (19 - (x.1)) (x.1) = srI (mRd S a_.toNatClampNeg) k_ c_ (wdA (rdI S a_.toNatClampNeg (S.2.2 33 a_.toNatClampNeg).toNatClampNeg) 0 c_.toNatClampNeg) jt) (fun x => 19 - (x.1)) (fun x => V MW Z cX11_search RX11 7 (some .int) 4 0 0 B 0 0 78 [(6, .int (x.2.2.2.2.2.2)), (5, .int (nI jt)), (4, .int (wdA (rdI S a_.toNatClampNeg (S.2.2 33 a_.toNatClampNeg).toNatClampNeg) 0 c_.toNatClampNeg)), (0, .ref (Z.2.2.2 99)), (1, .int a_), (2, .int k_), (3, .int c_)] [] (mTh (mRd S a_.toNatClampNeg) (x.2.1) (x.2.2.1) (x.2.2.2.1) (x.2.2.2.2.1) (x.2.2.2.2.2.1))) ?_ (0, _, _, _, _, _, (-9)) (by exact ⟨Nat.zero_le _, by show (-9 : Int32) = nI 0 - 9; decide, rfl⟩)
              rintro ⟨jc, gk2, gc2, gt2, gs2, gy2, xc⟩ hI78 ih78
              have hI78 : jc ≤ 19 ∧ xc = nI jc - 9 ∧ ff (srP (mRd S a_.toNatClampNeg) k_ c_ (wdA (rdI S a_.toNatClampNeg (S.2.2 33 a_.toNatClampNeg).toNatClampNeg) 0 c_.toNatClampNeg) jt) (19 - jc) jc = srI (mRd S a_.toNatClampNeg) k_ c_ (wdA (rdI S a_.toNatClampNeg (S.2.2 33 a_.toNatClampNeg).toNatClampNeg) 0 c_.toNatClampNeg) jt := hI78
              show V MW Z cX11_search RX11 7 (some .int) 4 0 0 B 0 0 78 [(6, .int xc), (5, .int (nI jt)), (4, .int (wdA (rdI S a_.toNatClampNeg (S.2.2 33 a_.toNatClampNeg).toNatClampNeg) 0 c_.toNatClampNeg)), (0, .ref (Z.2.2.2 99)), (1, .int a_), (2, .int k_), (3, .int c_)] [] (mTh (mRd S a_.toNatClampNeg) gk2 gc2 gt2 gs2 gy2)
              refine V_iload (pc := 78) dX11_search_78 0 rfl ?_
              refine V_bipush (v := 9) (pc := 80) dX11_search_80 (by decide) ?_
              refine V_icmp_gt (pc := 82) (tgt := 139) dX11_search_82 (by decide) (fun h82 => ?_) (fun h82 => ?_)
              · skip
                have hjc : jc = 19 := gt9 hI78.1 (by rw [← hI78.2.1]; exact h82)
                have hnone : srI (mRd S a_.toNatClampNeg) k_ c_ (wdA (rdI S a_.toNatClampNeg (S.2.2 33 a_.toNatClampNeg).toNatClampNeg) 0 c_.toNatClampNeg) jt = none := by rw [← hI78.2.2, hjc]; rfl
                refine V_iinc (pc := 139) (v := 1) (L2 := [(6, .int xc), (4, .int (wdA (rdI S a_.toNatClampNeg (S.2.2 33 a_.toNatClampNeg).toNatClampNeg) 0 c_.toNatClampNeg)), (0, .ref (Z.2.2.2 99)), (1, .int a_), (2, .int k_), (3, .int c_)]) dX11_search_139 1 rfl (by decide) (by decide) rfl (fun x5_139 ex5_139 => ?_)
                rw [nI_1] at ex5_139
                subst ex5_139
                refine V_goto (pc := 142) (tgt := 66) dX11_search_142 (by decide) ?_
                refine V_sub (L' := [(5, .int (nI (jt + 1))), (4, .int (wdA (rdI S a_.toNatClampNeg (S.2.2 33 a_.toNatClampNeg).toNatClampNeg) 0 c_.toNatClampNeg)), (0, .ref (Z.2.2.2 99)), (1, .int a_), (2, .int k_), (3, .int c_)]) [0, 2, 3, 4, 5, 6] rfl ?_
                refine ih66 (_, _, _, _, _, ((jt + 1))) ?_ ?_
                · show 1 ≤ ((jt + 1)) ∧ ((jt + 1)) ≤ (1 <<< (c_ &&& 31) : Int32).toNatClampNeg ∧ srO (mRd S a_.toNatClampNeg) k_ c_ (wdA (rdI S a_.toNatClampNeg (S.2.2 33 a_.toNatClampNeg).toNatClampNeg) 0 c_.toNatClampNeg) ((1 <<< (c_ &&& 31) : Int32).toNatClampNeg - ((jt + 1))) ((jt + 1)) = srO (mRd S a_.toNatClampNeg) k_ c_ (wdA (rdI S a_.toNatClampNeg (S.2.2 33 a_.toNatClampNeg).toNatClampNeg) 0 c_.toNatClampNeg) ((1 <<< (c_ &&& 31) : Int32).toNatClampNeg - 1) 1
                  refine ⟨Nat.succ_le_succ (Nat.zero_le _), hjt, ?_⟩
                  show srO _ _ _ _ ((1 <<< (c_ &&& 31) : Int32).toNatClampNeg - (jt + 1)) (jt + 1) = _
                  rw [← hI66.2.2, show (1 <<< (c_ &&& 31) : Int32).toNatClampNeg - jt = (1 <<< (c_ &&& 31) : Int32).toNatClampNeg - (jt + 1) + 1 by omega, srO_n]
                  exact hnone
                · show (1 <<< (c_ &&& 31) : Int32).toNatClampNeg - (jt + 1) < (1 <<< (c_ &&& 31) : Int32).toNatClampNeg - jt
                  omega
              · skip
                have hjc : jc ≤ 18 := le9 hI78.1 (by rw [← hI78.2.1]; exact h82)
                refine V_aload_n (pc := 85) dX11_search_85 3 rfl rfl ?_
                refine V_iload_n (pc := 86) dX11_search_86 5 rfl rfl ?_
                refine Mp_kind (pc := 87) dX11_search_87 ?_
                refine V_aload_n (pc := 90) dX11_search_90 3 rfl rfl ?_
                refine V_iload_n (pc := 91) dX11_search_91 6 rfl rfl ?_
                refine Mp_size (pc := 92) dX11_search_92 ?_
                refine V_aload_n (pc := 95) dX11_search_95 3 rfl rfl ?_
                refine V_iload (pc := 96) dX11_search_96 1 rfl ?_
                refine Mp_tapped (pc := 98) dX11_search_98 ?_
                refine V_aload_n (pc := 101) dX11_search_101 3 rfl rfl ?_
                refine V_iload (pc := 102) dX11_search_102 2 rfl ?_
                refine Mp_state (pc := 104) dX11_search_104 ?_
                refine V_aload_n (pc := 107) dX11_search_107 3 rfl rfl ?_
                refine V_iload (pc := 108) dX11_search_108 0 rfl ?_
                refine Mp_carry (pc := 110) dX11_search_110 ?_
                refine V_eqS _ (mThP _ _ _ _ _ _ _ _ _ _ _) ?_
                refine V_aload_n (pc := 113) dX11_search_113 3 rfl rfl ?_
                refine McVi (pc := 114) dX11_search_114 (cM_otherwise Z _ _ _ _ _ _ (by exact hsz)) kM_245 rfl rfl (Nat.le_of_ble_eq_true rfl) (by decide) (by decide) ?_
                refine V_iconst (v := (-1)) (pc := 117) dX11_search_117 (by decide) ?_
                refine V_icmp_ne (pc := 118) (tgt := 133) dX11_search_118 (by decide) (fun h118 => ?_) (fun h118 => ?_)
                · skip
                  rw [ow_eq (owT_lt (mRd S a_.toNatClampNeg) _ _ _ _ _ hsz), Classical.not_not] at h118
                  refine V_iinc (pc := 133) (v := 1) (L2 := [(5, .int (nI jt)), (4, .int (wdA (rdI S a_.toNatClampNeg (S.2.2 33 a_.toNatClampNeg).toNatClampNeg) 0 c_.toNatClampNeg)), (0, .ref (Z.2.2.2 99)), (1, .int a_), (2, .int k_), (3, .int c_)]) dX11_search_133 0 rfl (by decide) (by decide) rfl (fun x6_133 ex6_133 => ?_)
                  subst ex6_133
                  refine V_goto (pc := 136) (tgt := 78) dX11_search_136 (by decide) ?_
                  refine V_sub (L' := [(6, .int (xc + 1)), (5, .int (nI jt)), (4, .int (wdA (rdI S a_.toNatClampNeg (S.2.2 33 a_.toNatClampNeg).toNatClampNeg) 0 c_.toNatClampNeg)), (0, .ref (Z.2.2.2 99)), (1, .int a_), (2, .int k_), (3, .int c_)]) [0, 1, 2, 3, 4, 5, 6] rfl ?_
                  refine ih78 ((jc + 1), _, _, _, _, _, _) ?_ ?_
                  · show (jc + 1) ≤ 19 ∧ ((xc + 1)) = nI (jc + 1) - 9 ∧ ff (srP (mRd S a_.toNatClampNeg) k_ c_ (wdA (rdI S a_.toNatClampNeg (S.2.2 33 a_.toNatClampNeg).toNatClampNeg) 0 c_.toNatClampNeg) jt) (19 - (jc + 1)) (jc + 1) = srI (mRd S a_.toNatClampNeg) k_ c_ (wdA (rdI S a_.toNatClampNeg (S.2.2 33 a_.toNatClampNeg).toNatClampNeg) 0 c_.toNatClampNeg) jt
                    refine ⟨by omega, ?_, ?_⟩
                    · show xc + 1 = _
                      rw [hI78.2.1, j9]
                    · show ff _ (19 - (jc + 1)) (jc + 1) = _
                      rw [← hI78.2.2, show 19 - jc = 19 - (jc + 1) + 1 by omega, ff_f (by simp only [srP]; rw [← hI78.2.1]; simpa using h118)]
                  · show 19 - (jc + 1) < 19 - jc
                    omega
                · skip
                  rw [ow_eq (owT_lt (mRd S a_.toNatClampNeg) _ _ _ _ _ hsz)] at h118
                  refine V_bipush (v := 100) (pc := 121) dX11_search_121 (by decide) ?_
                  refine V_iload (pc := 123) dX11_search_123 1 rfl ?_
                  refine V_imul (pc := 125) dX11_search_125 ?_
                  refine V_iload (pc := 126) dX11_search_126 0 rfl ?_
                  refine V_iadd (pc := 128) dX11_search_128 ?_
                  refine V_bipush (v := 9) (pc := 129) dX11_search_129 (by decide) ?_
                  refine V_iadd (pc := 131) dX11_search_131 ?_
                  exact V_iret (pc := 132) dX11_search_132 (Nat.le_of_ble_eq_true rfl) (Nat.le_of_ble_eq_true rfl) (hB _ _ ⟨congrArg (fun z => some (Value.int z)) (by rw [if_pos ⟨h4, h11, h21⟩, if_pos h33, if_pos h49, ← hI66.2.2, show (1 <<< (c_ &&& 31) : Int32).toNatClampNeg - jt = (1 <<< (c_ &&& 31) : Int32).toNatClampNeg - (jt + 1) + 1 by omega, srO_s (jc := jc) (by rw [← hI78.2.2, show 19 - jc = 18 - jc + 1 by omega, ff_t (by simp only [srP]; rw [← hI78.2.1]; simpa using h118)]), hI78.2.1]), by exact mCor_th (mCor_rd S _) _ _ _ _ _⟩)
          · skip
            refine V_bipush (v := (-3)) (pc := 52) dX11_search_52 (by decide) ?_
            exact V_iret (pc := 54) dX11_search_54 (Nat.le_of_ble_eq_true rfl) (Nat.le_of_ble_eq_true rfl) (hB _ _ ⟨congrArg (fun z => some (Value.int z)) (by rw [if_pos ⟨h4, h11, h21⟩, if_pos h33, if_neg h49]), by exact mCor_rd S _⟩)
        · skip
          refine V_bipush (v := (-11)) (pc := 36) dX11_search_36 (by decide) ?_
          exact V_iret (pc := 38) dX11_search_38 (Nat.le_of_ble_eq_true rfl) (Nat.le_of_ble_eq_true rfl) (hB _ _ ⟨congrArg (fun z => some (Value.int z)) (by rw [if_pos ⟨h4, h11, h21⟩, if_neg h33]), by exact mCor_rfl S⟩)
      · skip
        refine V_bipush (v := (-2)) (pc := 24) dX11_search_24 (by decide) ?_
        exact V_iret (pc := 26) dX11_search_26 (Nat.le_of_ble_eq_true rfl) (Nat.le_of_ble_eq_true rfl) (hB _ _ ⟨congrArg (fun z => some (Value.int z)) (by exact (if_neg (fun h => h21 h.2.2)).symm), by exact mCor_rfl S⟩)
