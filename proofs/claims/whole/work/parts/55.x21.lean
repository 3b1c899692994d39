def xQ (S : XS) (a b p q r s : Int) : XS := (S.1, fun j => if j = 0 then iL a else if j = 1 then iL b else if j = 2 then iL p else if j = 3 then iL q else if j = 4 then iL r else if j = 5 then iL s else S.2.1 j, S.2.2)
theorem xQ0 (S : XS) (a b p q r s x : Int) : xG (xQ S a b p q r s) 0 (iL x) = xQ S x b p q r s := by
  refine Prod.ext rfl (Prod.ext (funext fun j => ?_) rfl)
  simp only [xQ, xG, va_up]
  repeat' split
  all_goals first | rfl | omega
theorem xQ1 (S : XS) (a b p q r s x : Int) : xG (xQ S a b p q r s) 1 (iL x) = xQ S a x p q r s := by
  refine Prod.ext rfl (Prod.ext (funext fun j => ?_) rfl)
  simp only [xQ, xG, va_up]
  repeat' split
  all_goals first | rfl | omega
theorem xQ2 (S : XS) (a b p q r s x : Int) : xG (xQ S a b p q r s) 2 (iL x) = xQ S a b x q r s := by
  refine Prod.ext rfl (Prod.ext (funext fun j => ?_) rfl)
  simp only [xQ, xG, va_up]
  repeat' split
  all_goals first | rfl | omega
theorem xQ3 (S : XS) (a b p q r s x : Int) : xG (xQ S a b p q r s) 3 (iL x) = xQ S a b p x r s := by
  refine Prod.ext rfl (Prod.ext (funext fun j => ?_) rfl)
  simp only [xQ, xG, va_up]
  repeat' split
  all_goals first | rfl | omega
theorem xQ4 (S : XS) (a b p q r s x : Int) : xG (xQ S a b p q r s) 4 (iL x) = xQ S a b p q x s := by
  refine Prod.ext rfl (Prod.ext (funext fun j => ?_) rfl)
  simp only [xQ, xG, va_up]
  repeat' split
  all_goals first | rfl | omega
theorem xQ5 (S : XS) (a b p q r s x : Int) : xG (xQ S a b p q r s) 5 (iL x) = xQ S a b p q r x := by
  refine Prod.ext rfl (Prod.ext (funext fun j => ?_) rfl)
  simp only [xQ, xG, va_up]
  repeat' split
  all_goals first | rfl | omega
theorem xQ_self (S : XS) : S = xQ S (S.2.1 0).toInt (S.2.1 1).toInt (S.2.1 2).toInt (S.2.1 3).toInt (S.2.1 4).toInt (S.2.1 5).toInt := by
  refine Prod.ext rfl (Prod.ext (funext fun j => ?_) rfl)
  simp only [xQ]
  repeat' split
  all_goals first | rfl | (subst_vars; exact iL_of _)
theorem xQ_xQ (S : XS) (a b p q r s a' b' p' q' r' s' : Int) : xQ (xQ S a b p q r s) a' b' p' q' r' s' = xQ S a' b' p' q' r' s' := by
  refine Prod.ext rfl (Prod.ext (funext fun j => ?_) rfl)
  simp only [xQ]
  repeat' split
  all_goals first | rfl | omega
theorem xCor_Q (S : XS) (a b p q r s : Int) : xCor S (xQ S a b p q r s) := ⟨⟨rfl, rfl, rfl, fun _ _ => ⟨rfl, rfl⟩⟩, ⟨rfl, rfl, fun _ _ => rfl⟩, rfl, fun _ h => ⟨h, rfl, rfl⟩⟩
theorem tdiv_i {x y : Int} (hx : -(2 ^ 60) ≤ x ∧ x ≤ 2 ^ 60) (hy : -(2 ^ 60) ≤ y ∧ y ≤ 2 ^ 60) : iL x / iL y = iL (x.tdiv y) := by
  apply Int64.toInt_inj.mp
  have b := Int.natAbs_tdiv_le_natAbs x y
  rw [Int64.toInt_div, iL_t (by omega), iL_t (by omega), iL_t (by omega), Int.bmod_eq_of_le (by omega) (by omega)]
theorem xor_sg (a b : Int64) : (a ^^^ b).toInt < 0 ↔ ¬ (a.toInt < 0 ↔ b.toInt < 0) := by
  have h : (a ^^^ b).toBitVec.msb = (a.toBitVec.msb ^^ b.toBitVec.msb) := BitVec.msb_xor
  rw [BitVec.msb_eq_toInt, BitVec.msb_eq_toInt, BitVec.msb_eq_toInt] at h
  have e1 : (a ^^^ b).toBitVec.toInt = (a ^^^ b).toInt := rfl
  have e2 : a.toBitVec.toInt = a.toInt := rfl
  have e3 : b.toBitVec.toInt = b.toInt := rfl
  rw [e1, e2, e3] at h
  by_cases x : (a ^^^ b).toInt < 0 <;> by_cases y : a.toInt < 0 <;> by_cases z : b.toInt < 0 <;> simp [x, y, z] at h ⊢
theorem flD_i {x y : Int} (hx : -(2 ^ 60) ≤ x ∧ x ≤ 2 ^ 60) (hy : -(2 ^ 60) ≤ y ∧ y ≤ 2 ^ 60) (h0 : y ≠ 0) : flD (iL x) (iL y) = iL (x.fdiv y) := by
  unfold flD
  have z0 : (0 : Int64).toInt = 0 := rfl
  have b := Int.natAbs_tdiv_le_natAbs x y
  have xs := xor_sg (iL x) (iL y)
  rw [iL_t (by omega), iL_t (by omega)] at xs
  have e := Int.mul_tdiv_add_tmod x y
  rw [tdiv_i hx hy, Int.fdiv_eq_tdiv]
  have ge : (0 ≤ lg_cmp (iL x ^^^ iL y) 0) ↔ ¬ (iL x ^^^ iL y).toInt < 0 := by
    rw [← Int32.not_lt, lg_cmp_lt, Int64.lt_iff_toInt_lt, z0]
  by_cases hs : (x < 0 ↔ y < 0)
  · rw [if_pos (ge.mpr (fun h => xs.mp h hs))]
    split
    · rw [Int.sub_zero]
    · split
      · rw [if_pos (by omega), Int.sub_zero]
      · rw [if_neg (by omega), Int.sign_eq_neg_one_of_neg (by omega), show x.tdiv y - (1 + -1) = x.tdiv y by omega]
  · rw [if_neg (fun h => ge.mp h (xs.mpr hs)), iL_mul]
    have dv : y ∣ x ↔ x.tdiv y * y = x := by
      constructor
      · intro h
        exact Int.tdiv_mul_cancel h
      · intro h
        exact ⟨x.tdiv y, by rw [Int.mul_comm]; exact h.symm⟩
    have bd : (x.tdiv y * y).natAbs ≤ x.natAbs := by
      rw [Int.natAbs_mul, Int.natAbs_tdiv]
      exact Nat.div_mul_le_self _ _
    by_cases hd : y ∣ x
    · rw [if_pos hd, Int.sub_zero, if_pos ((lg_cmp_eq _ _).mpr (by rw [dv.mp hd]))]
    · rw [if_neg hd, if_neg (fun z => hd (dv.mpr ((iL_eq (by omega) (by omega)).mp ((lg_cmp_eq _ _).mp z)))), show (1 : Int64) = iL 1 from rfl, iL_sub]
      split
      · rw [if_neg (by omega)]
      · rw [if_pos (by omega), Int.sign_eq_one_of_pos (by omega)]
theorem abs_i {x : Int} (h : -(2 ^ 62) ≤ x ∧ x ≤ 2 ^ 62) : (if 0 < iL x then iL x else -iL x) = iL (x.natAbs : Int) := by
  rw [show (0 : Int64) = iL 0 from rfl, iL_neg]
  split
  · rename_i z
    rw [iL_lt (by omega) h] at z
    congr 1
    omega
  · rename_i z
    rw [iL_lt (by omega) h] at z
    congr 1
    omega
theorem max_i {x y : Int} (hx : -(2 ^ 62) ≤ x ∧ x ≤ 2 ^ 62) (hy : -(2 ^ 62) ≤ y ∧ y ≤ 2 ^ 62) : (if iL y < iL x then iL x else iL y) = iL (max x y) := by
  split
  · rename_i z
    rw [iL_lt hy hx] at z
    congr 1
    omega
  · rename_i z
    rw [iL_lt hy hx] at z
    congr 1
    omega
abbrev smQ (x : Int) : Prop := -(2 ^ 60) ≤ x ∧ x ≤ 2 ^ 60
theorem sz_bd {a b : Int} (ha : smQ a) (hb : smQ b) : smQ (szQ a b) := by
  unfold szQ
  omega
set_option maxHeartbeats 4000000 in
set_option maxRecDepth 100000 in
theorem c_X4_greater (Z : VZ) (S : XS) (a b p q r s : Int) (ha : smQ a) (hb : smQ b) : CtF XW Z yX4_greater cX4_greater 1 (some .long) 1 0 0 [.ref (Z.2.2.2 6)] (xQ S a b p q r s) (some (.long (iL (szQ a b)))) (xQ S a b p q r s) := by
  refine V_entry (own := RX4) (by decide) rfl (Nat.le_of_ble_eq_true rfl) ?_
  intro B hB
  refine V_sub (L' := [(0, .ref (Z.2.2.2 6))]) [0] rfl ?_
  refine V_aload_n (pc := 0) dX4_greater_0 0 rfl rfl ?_
  refine Xg_X4_15 (pc := 1) (v := (iL b)) rfl dX4_greater_1 ?_
  refine V_aload_n (pc := 4) dX4_greater_4 0 rfl rfl ?_
  refine Xg_X4_9 (pc := 5) (v := (iL a)) rfl dX4_greater_5 ?_
  refine V_mabsl (pc := 8) dX4_greater_8 tw_503 tw_504 tw_14 tw_505 (by decide) (Nat.le_of_ble_eq_true rfl) (Nat.le_refl _) (Nat.le_refl _) ?_
  refine V_eql (iL (a.natAbs : Int)) (abs_i (by omega)) ?_
  refine V_mmaxl (pc := 11) dX4_greater_11 tw_506 tw_507 tw_14 tw_508 (by decide) (Nat.le_of_ble_eq_true rfl) (Nat.le_refl _) (Nat.le_refl _) ?_
  refine V_eql (iL (szQ a b)) (max_i (by omega) (by omega)) ?_
  exact V_lret (pc := 14) dX4_greater_14 (Nat.le_of_ble_eq_true rfl) (Nat.le_of_ble_eq_true rfl) (hB _ _ ⟨congrArg (fun z => some (Value.long z)) (by first | rfl | assumption | (simp_all; done)), by rfl⟩)
set_option maxHeartbeats 4000000 in
set_option maxRecDepth 100000 in
theorem c_X4_isLess (Z : VZ) (S : XS) (a b p q r s : Int) (x y : Int) (ha : smQ a) (hb : smQ b) (hx : smQ x) (hy : smQ y) : CtF XW Z yX4_isLess cX4_isLess 7 (some .boolean) 2 0 0 [.ref (Z.2.2.2 6), .long (iL x), .long (iL y)] (xQ S a b p q r s) (some (.int (bI (lsQ x y a b)))) (xQ S a b p q r s) := by
  refine V_entry (own := RX4) (by decide) rfl (Nat.le_of_ble_eq_true rfl) ?_
  intro B hB
  have zA := sz_bd ha hb
  have zX := sz_bd hx hy
  refine V_sub (L' := [(0, .ref (Z.2.2.2 6)), (1, .long (iL x)), (3, .long (iL y))]) [0, 1, 2] rfl ?_
  refine V_lload_n (pc := 0) dX4_isLess_0 2 rfl rfl ?_
  refine V_lload_n (pc := 1) dX4_isLess_1 1 rfl rfl ?_
  refine V_mabsl (pc := 2) dX4_isLess_2 tw_503 tw_504 tw_14 tw_505 (by decide) (Nat.le_of_ble_eq_true rfl) (Nat.le_refl _) (Nat.le_refl _) ?_
  refine V_eql (iL (x.natAbs : Int)) (abs_i (by omega)) ?_
  refine V_mmaxl (pc := 5) dX4_isLess_5 tw_506 tw_507 tw_14 tw_508 (by decide) (Nat.le_of_ble_eq_true rfl) (Nat.le_refl _) (Nat.le_refl _) ?_
  refine V_eql (iL (szQ x y)) (max_i (by omega) (by omega)) ?_
  refine V_lstore (pc := 8) (L2 := [(0, .ref (Z.2.2.2 6)), (1, .long (iL x)), (3, .long (iL y))]) dX4_isLess_8 (by decide) rfl (fun x5_8 ex5_8 => ?_)
  subst ex5_8
  refine V_lload (pc := 10) dX4_isLess_10 0 rfl ?_
  refine V_aload_n (pc := 12) dX4_isLess_12 1 rfl rfl ?_
  refine V_callVl (q0 := 17) (ci := 4) (C := RX4) (T := TX4) (N := 6) (pc := 13) dX4_isLess_13 (c_X4_greater Z _ _ _ _ _ _ _ (by exact ha) (by exact hb)) kX4_66 rfl rfl rfl rfl (Nat.le_of_ble_eq_true rfl) (by decide) (by decide) (Nat.le_of_ble_eq_true rfl) (Nat.le_of_ble_eq_true rfl) ?_
  refine V_lcmp (pc := 16) dX4_isLess_16 ?_
  refine V_if_eq (pc := 17) (tgt := 36) dX4_isLess_17 (by decide) (fun h17 => ?_) (fun h17 => ?_)
  · skip
    rw [lg_cmp_eq, iL_eq (by omega) (by omega)] at h17
    refine V_lload_n (pc := 36) dX4_isLess_36 3 rfl rfl ?_
    refine V_aload_n (pc := 37) dX4_isLess_37 1 rfl rfl ?_
    refine Xg_X4_15 (pc := 38) (v := (iL b)) rfl dX4_isLess_38 ?_
    refine V_lcmp (pc := 41) dX4_isLess_41 ?_
    refine V_if_eq (pc := 42) (tgt := 62) dX4_isLess_42 (by decide) (fun h42 => ?_) (fun h42 => ?_)
    · skip
      rw [lg_cmp_eq, iL_eq (by omega) (by omega)] at h42
      refine V_lload_n (pc := 62) dX4_isLess_62 2 rfl rfl ?_
      refine V_aload_n (pc := 63) dX4_isLess_63 1 rfl rfl ?_
      refine Xg_X4_9 (pc := 64) (v := (iL a)) rfl dX4_isLess_64 ?_
      refine V_lcmp (pc := 67) dX4_isLess_67 ?_
      refine V_if_ge (pc := 68) (tgt := 75) dX4_isLess_68 (by decide) (fun h68 => ?_) (fun h68 => ?_)
      · skip
        rw [lg_cmp_ge, iL_le (by omega) (by omega)] at h68
        refine V_iconst (v := 0) (pc := 75) dX4_isLess_75 (by decide) ?_
        exact V_zret (pc := 76) dX4_isLess_76 (Nat.le_of_ble_eq_true rfl) (Nat.le_of_ble_eq_true rfl) (Or.inl rfl) (hB _ _ ⟨congrArg (fun z => some (Value.int z)) (by first | exact (bI_t (by unfold lsQ; omega)).symm | exact (bI_f (by unfold lsQ; omega)).symm), by rfl⟩)
      · skip
        rw [lg_cmp_ge, iL_le (by omega) (by omega)] at h68
        refine V_iconst (v := 1) (pc := 71) dX4_isLess_71 (by decide) ?_
        refine V_goto (pc := 72) (tgt := 76) dX4_isLess_72 (by decide) ?_
        exact V_zret (pc := 76) dX4_isLess_76 (Nat.le_of_ble_eq_true rfl) (Nat.le_of_ble_eq_true rfl) (Or.inr rfl) (hB _ _ ⟨congrArg (fun z => some (Value.int z)) (by first | exact (bI_t (by unfold lsQ; omega)).symm | exact (bI_f (by unfold lsQ; omega)).symm), by rfl⟩)
    · skip
      rw [lg_cmp_eq, iL_eq (by omega) (by omega)] at h42
      refine V_lload_n (pc := 45) dX4_isLess_45 3 rfl rfl ?_
      refine V_aload_n (pc := 46) dX4_isLess_46 1 rfl rfl ?_
      refine Xg_X4_15 (pc := 47) (v := (iL b)) rfl dX4_isLess_47 ?_
      refine V_lcmp (pc := 50) dX4_isLess_50 ?_
      refine V_if_ge (pc := 51) (tgt := 58) dX4_isLess_51 (by decide) (fun h51 => ?_) (fun h51 => ?_)
      · skip
        rw [lg_cmp_ge, iL_le (by omega) (by omega)] at h51
        refine V_iconst (v := 0) (pc := 58) dX4_isLess_58 (by decide) ?_
        refine V_goto (pc := 59) (tgt := 76) dX4_isLess_59 (by decide) ?_
        exact V_zret (pc := 76) dX4_isLess_76 (Nat.le_of_ble_eq_true rfl) (Nat.le_of_ble_eq_true rfl) (Or.inl rfl) (hB _ _ ⟨congrArg (fun z => some (Value.int z)) (by first | exact (bI_t (by unfold lsQ; omega)).symm | exact (bI_f (by unfold lsQ; omega)).symm), by rfl⟩)
      · skip
        rw [lg_cmp_ge, iL_le (by omega) (by omega)] at h51
        refine V_iconst (v := 1) (pc := 54) dX4_isLess_54 (by decide) ?_
        refine V_goto (pc := 55) (tgt := 76) dX4_isLess_55 (by decide) ?_
        exact V_zret (pc := 76) dX4_isLess_76 (Nat.le_of_ble_eq_true rfl) (Nat.le_of_ble_eq_true rfl) (Or.inr rfl) (hB _ _ ⟨congrArg (fun z => some (Value.int z)) (by first | exact (bI_t (by unfold lsQ; omega)).symm | exact (bI_f (by unfold lsQ; omega)).symm), by rfl⟩)
  · skip
    rw [lg_cmp_eq, iL_eq (by omega) (by omega)] at h17
    refine V_lload (pc := 20) dX4_isLess_20 0 rfl ?_
    refine V_aload_n (pc := 22) dX4_isLess_22 1 rfl rfl ?_
    refine V_callVl (q0 := 17) (ci := 4) (C := RX4) (T := TX4) (N := 6) (pc := 23) dX4_isLess_23 (c_X4_greater Z _ _ _ _ _ _ _ (by exact ha) (by exact hb)) kX4_66 rfl rfl rfl rfl (Nat.le_of_ble_eq_true rfl) (by decide) (by decide) (Nat.le_of_ble_eq_true rfl) (Nat.le_of_ble_eq_true rfl) ?_
    refine V_lcmp (pc := 26) dX4_isLess_26 ?_
    refine V_if_ge (pc := 27) (tgt := 34) dX4_isLess_27 (by decide) (fun h27 => ?_) (fun h27 => ?_)
    · skip
      rw [lg_cmp_ge, iL_le (by omega) (by omega)] at h27
      refine V_iconst (v := 0) (pc := 34) dX4_isLess_34 (by decide) ?_
      exact V_zret (pc := 35) dX4_isLess_35 (Nat.le_of_ble_eq_true rfl) (Nat.le_of_ble_eq_true rfl) (Or.inl rfl) (hB _ _ ⟨congrArg (fun z => some (Value.int z)) (by first | exact (bI_t (by unfold lsQ; omega)).symm | exact (bI_f (by unfold lsQ; omega)).symm), by rfl⟩)
    · skip
      rw [lg_cmp_ge, iL_le (by omega) (by omega)] at h27
      refine V_iconst (v := 1) (pc := 30) dX4_isLess_30 (by decide) ?_
      refine V_goto (pc := 31) (tgt := 35) dX4_isLess_31 (by decide) ?_
      exact V_zret (pc := 35) dX4_isLess_35 (Nat.le_of_ble_eq_true rfl) (Nat.le_of_ble_eq_true rfl) (Or.inr rfl) (hB _ _ ⟨congrArg (fun z => some (Value.int z)) (by first | exact (bI_t (by unfold lsQ; omega)).symm | exact (bI_f (by unfold lsQ; omega)).symm), by rfl⟩)
/-- what an offer makes of the best -/
def ofQ (u : Int × Int) (x y : Int) : Int × Int := if y % 2 = 0 then u else if u.2 = 0 ∨ lsQ (nrP x y) (nrB y) u.1 u.2 then (nrP x y, nrB y) else u
theorem ev_i {y : Int} (h : smQ y) : (iL y &&& 1 = 0) ↔ y % 2 = 0 := by
  rw [← Int64.toInt_inj, and1_l, iL_t (by omega)]
  rfl
set_option maxHeartbeats 4000000 in
set_option maxRecDepth 100000 in
theorem c_X4_offer (Z : VZ) (S : XS) (a b p q r s : Int) (x y : Int) (ha : smQ a) (hb : smQ b) (hx : smQ x) (hy : smQ y) : CtF XW Z yX4_offer cX4_offer 9 none 3 0 0 [.ref (Z.2.2.2 6), .long (iL x), .long (iL y)] (xQ S a b p q r s) none (xQ S (ofQ (a, b) x y).1 (ofQ (a, b) x y).2 p q r s) := by
  refine V_entry (own := RX4) (by decide) rfl (Nat.le_of_ble_eq_true rfl) ?_
  intro B hB
  refine V_sub (L' := [(0, .ref (Z.2.2.2 6)), (1, .long (iL x)), (3, .long (iL y))]) [0, 1, 2] rfl ?_
  refine V_lload_n (pc := 0) dX4_offer_0 2 rfl rfl ?_
  refine V_lconst (v := 1) (pc := 1) dX4_offer_1 (by decide) ?_
  refine V_land (pc := 2) dX4_offer_2 ?_
  refine V_lconst (v := 0) (pc := 3) dX4_offer_3 (by decide) ?_
  refine V_lcmp (pc := 4) dX4_offer_4 ?_
  refine V_if_ne (pc := 5) (tgt := 9) dX4_offer_5 (by decide) (fun h5 => ?_) (fun h5 => ?_)
  · skip
    rw [lg_cmp_eq, ev_i hy] at h5
    refine V_lload_n (pc := 9) dX4_offer_9 2 rfl rfl ?_
    refine V_lconst (v := 0) (pc := 10) dX4_offer_10 (by decide) ?_
    refine V_lcmp (pc := 11) dX4_offer_11 ?_
    refine V_if_ge (pc := 12) (tgt := 20) dX4_offer_12 (by decide) (fun h12 => ?_) (fun h12 => ?_)
    · skip
      rw [lg_cmp_ge, show (0 : Int64) = iL 0 from rfl, iL_le (by omega) (by omega)] at h12
      refine V_lload_n (pc := 20) dX4_offer_20 1 rfl rfl ?_
      refine V_lstore (pc := 21) (L2 := [(0, .ref (Z.2.2.2 6)), (1, .long (iL x)), (3, .long (iL y))]) dX4_offer_21 (by decide) rfl (fun x5_21 ex5_21 => ?_)
      have enP : x5_21 = iL (nrP x y) := by rw [← ex5_21]; unfold nrP; first | (rw [if_pos (by omega), iL_neg]; done) | rw [if_neg (by omega)]
      clear ex5_21
      subst enP
      refine V_lload_n (pc := 23) dX4_offer_23 3 rfl rfl ?_
      refine V_lconst (v := 0) (pc := 24) dX4_offer_24 (by decide) ?_
      refine V_lcmp (pc := 25) dX4_offer_25 ?_
      refine V_if_ge (pc := 26) (tgt := 34) dX4_offer_26 (by decide) (fun h26 => ?_) (fun h26 => ?_)
      · skip
        rw [lg_cmp_ge, show (0 : Int64) = iL 0 from rfl, iL_le (by omega) (by omega)] at h26
        refine V_lload_n (pc := 34) dX4_offer_34 3 rfl rfl ?_
        refine V_lstore (pc := 35) (L2 := [(5, .long (iL (nrP x y))), (0, .ref (Z.2.2.2 6)), (1, .long (iL x)), (3, .long (iL y))]) dX4_offer_35 (by decide) rfl (fun x7_35 ex7_35 => ?_)
        have enB : x7_35 = iL (nrB y) := by rw [← ex7_35]; unfold nrB; first | (rw [if_pos (by omega), iL_neg]; done) | rw [if_neg (by omega)]
        clear ex7_35
        subst enB
        refine V_aload_n (pc := 37) dX4_offer_37 2 rfl rfl ?_
        refine Xg_X4_15 (pc := 38) (v := (iL b)) rfl dX4_offer_38 ?_
        refine V_lconst (v := 0) (pc := 41) dX4_offer_41 (by decide) ?_
        refine V_lcmp (pc := 42) dX4_offer_42 ?_
        refine V_if_eq (pc := 43) (tgt := 57) dX4_offer_43 (by decide) (fun h43 => ?_) (fun h43 => ?_)
        · skip
          rw [lg_cmp_eq, show (0 : Int64) = iL 0 from rfl, iL_eq (by omega) (by omega)] at h43
          have eo : ofQ (a, b) x y = (nrP x y, nrB y) := by unfold ofQ; rw [if_neg h5, if_pos (Or.inl h43)]
          refine V_aload_n (pc := 57) dX4_offer_57 2 rfl rfl ?_
          refine V_lload (pc := 58) dX4_offer_58 1 rfl ?_
          refine Xp_X4_9 (pc := 60) dX4_offer_60 ?_
          refine V_eqS _ (xQ0 S a b p q r s (nrP x y)) ?_
          refine V_aload_n (pc := 63) dX4_offer_63 2 rfl rfl ?_
          refine V_lload (pc := 64) dX4_offer_64 0 rfl ?_
          refine Xp_X4_15 (pc := 66) dX4_offer_66 ?_
          refine V_eqS _ (xQ1 S (nrP x y) b p q r s (nrB y)) ?_
          exact V_vret (pc := 69) dX4_offer_69 (Nat.le_of_ble_eq_true rfl) (Nat.le_of_ble_eq_true rfl) (hB _ _ ⟨rfl, by rw [eo]⟩)
        · skip
          rw [lg_cmp_eq, show (0 : Int64) = iL 0 from rfl, iL_eq (by omega) (by omega)] at h43
          refine V_aload_n (pc := 46) dX4_offer_46 2 rfl rfl ?_
          refine V_lload (pc := 47) dX4_offer_47 1 rfl ?_
          refine V_lload (pc := 49) dX4_offer_49 0 rfl ?_
          refine V_callVi (q0 := 17) (ci := 4) (C := RX4) (T := TX4) (N := 6) (pc := 51) dX4_offer_51 (c_X4_isLess Z _ _ _ _ _ _ _ _ _ (by exact ha) (by exact hb) (by unfold nrP; split <;> omega) (by unfold nrB; split <;> omega)) kX4_62 rfl rfl rfl rfl (Nat.le_of_ble_eq_true rfl) (by decide) (by decide) (Nat.le_of_ble_eq_true rfl) (Nat.le_of_ble_eq_true rfl) ?_
          refine V_bif_eq (pc := 54) (tgt := 69) dX4_offer_54 (by decide) (fun h54 => ?_) (fun h54 => ?_)
          · skip
            have eo : ofQ (a, b) x y = (a, b) := by unfold ofQ; rw [if_neg h5, if_neg (fun h => h.elim h43 h54)]
            exact V_vret (pc := 69) dX4_offer_69 (Nat.le_of_ble_eq_true rfl) (Nat.le_of_ble_eq_true rfl) (hB _ _ ⟨rfl, by rw [eo]⟩)
          · skip
            have eo : ofQ (a, b) x y = (nrP x y, nrB y) := by unfold ofQ; rw [if_neg h5, if_pos (Or.inr h54)]
            refine V_aload_n (pc := 57) dX4_offer_57 2 rfl rfl ?_
            refine V_lload (pc := 58) dX4_offer_58 1 rfl ?_
            refine Xp_X4_9 (pc := 60) dX4_offer_60 ?_
            refine V_eqS _ (xQ0 S a b p q r s (nrP x y)) ?_
            refine V_aload_n (pc := 63) dX4_offer_63 2 rfl rfl ?_
            refine V_lload (pc := 64) dX4_offer_64 0 rfl ?_
            refine Xp_X4_15 (pc := 66) dX4_offer_66 ?_
            refine V_eqS _ (xQ1 S (nrP x y) b p q r s (nrB y)) ?_
            exact V_vret (pc := 69) dX4_offer_69 (Nat.le_of_ble_eq_true rfl) (Nat.le_of_ble_eq_true rfl) (hB _ _ ⟨rfl, by rw [eo]⟩)
      · skip
        rw [lg_cmp_ge, show (0 : Int64) = iL 0 from rfl, iL_le (by omega) (by omega)] at h26
        refine V_lload_n (pc := 29) dX4_offer_29 3 rfl rfl ?_
        refine V_lneg (pc := 30) dX4_offer_30 ?_
        refine V_goto (pc := 31) (tgt := 35) dX4_offer_31 (by decide) ?_
        refine V_lstore (pc := 35) (L2 := [(5, .long (iL (nrP x y))), (0, .ref (Z.2.2.2 6)), (1, .long (iL x)), (3, .long (iL y))]) dX4_offer_35 (by decide) rfl (fun x7_35 ex7_35 => ?_)
        have enB : x7_35 = iL (nrB y) := by rw [← ex7_35]; unfold nrB; first | (rw [if_pos (by omega), iL_neg]; done) | rw [if_neg (by omega)]
        clear ex7_35
        subst enB
        refine V_aload_n (pc := 37) dX4_offer_37 2 rfl rfl ?_
        refine Xg_X4_15 (pc := 38) (v := (iL b)) rfl dX4_offer_38 ?_
        refine V_lconst (v := 0) (pc := 41) dX4_offer_41 (by decide) ?_
        refine V_lcmp (pc := 42) dX4_offer_42 ?_
        refine V_if_eq (pc := 43) (tgt := 57) dX4_offer_43 (by decide) (fun h43 => ?_) (fun h43 => ?_)
        · skip
          rw [lg_cmp_eq, show (0 : Int64) = iL 0 from rfl, iL_eq (by omega) (by omega)] at h43
          have eo : ofQ (a, b) x y = (nrP x y, nrB y) := by unfold ofQ; rw [if_neg h5, if_pos (Or.inl h43)]
          refine V_aload_n (pc := 57) dX4_offer_57 2 rfl rfl ?_
          refine V_lload (pc := 58) dX4_offer_58 1 rfl ?_
          refine Xp_X4_9 (pc := 60) dX4_offer_60 ?_
          refine V_eqS _ (xQ0 S a b p q r s (nrP x y)) ?_
          refine V_aload_n (pc := 63) dX4_offer_63 2 rfl rfl ?_
          refine V_lload (pc := 64) dX4_offer_64 0 rfl ?_
          refine Xp_X4_15 (pc := 66) dX4_offer_66 ?_
          refine V_eqS _ (xQ1 S (nrP x y) b p q r s (nrB y)) ?_
          exact V_vret (pc := 69) dX4_offer_69 (Nat.le_of_ble_eq_true rfl) (Nat.le_of_ble_eq_true rfl) (hB _ _ ⟨rfl, by rw [eo]⟩)
        · skip
          rw [lg_cmp_eq, show (0 : Int64) = iL 0 from rfl, iL_eq (by omega) (by omega)] at h43
          refine V_aload_n (pc := 46) dX4_offer_46 2 rfl rfl ?_
          refine V_lload (pc := 47) dX4_offer_47 1 rfl ?_
          refine V_lload (pc := 49) dX4_offer_49 0 rfl ?_
          refine V_callVi (q0 := 17) (ci := 4) (C := RX4) (T := TX4) (N := 6) (pc := 51) dX4_offer_51 (c_X4_isLess Z _ _ _ _ _ _ _ _ _ (by exact ha) (by exact hb) (by unfold nrP; split <;> omega) (by unfold nrB; split <;> omega)) kX4_62 rfl rfl rfl rfl (Nat.le_of_ble_eq_true rfl) (by decide) (by decide) (Nat.le_of_ble_eq_true rfl) (Nat.le_of_ble_eq_true rfl) ?_
          refine V_bif_eq (pc := 54) (tgt := 69) dX4_offer_54 (by decide) (fun h54 => ?_) (fun h54 => ?_)
          · skip
            have eo : ofQ (a, b) x y = (a, b) := by unfold ofQ; rw [if_neg h5, if_neg (fun h => h.elim h43 h54)]
            exact V_vret (pc := 69) dX4_offer_69 (Nat.le_of_ble_eq_true rfl) (Nat.le_of_ble_eq_true rfl) (hB _ _ ⟨rfl, by rw [eo]⟩)
          · skip
            have eo : ofQ (a, b) x y = (nrP x y, nrB y) := by unfold ofQ; rw [if_neg h5, if_pos (Or.inr h54)]
            refine V_aload_n (pc := 57) dX4_offer_57 2 rfl rfl ?_
            refine V_lload (pc := 58) dX4_offer_58 1 rfl ?_
            refine Xp_X4_9 (pc := 60) dX4_offer_60 ?_
            refine V_eqS _ (xQ0 S a b p q r s (nrP x y)) ?_
            refine V_aload_n (pc := 63) dX4_offer_63 2 rfl rfl ?_
            refine V_lload (pc := 64) dX4_offer_64 0 rfl ?_
            refine Xp_X4_15 (pc := 66) dX4_offer_66 ?_
            refine V_eqS _ (xQ1 S (nrP x y) b p q r s (nrB y)) ?_
            exact V_vret (pc := 69) dX4_offer_69 (Nat.le_of_ble_eq_true rfl) (Nat.le_of_ble_eq_true rfl) (hB _ _ ⟨rfl, by rw [eo]⟩)
    · skip
      rw [lg_cmp_ge, show (0 : Int64) = iL 0 from rfl, iL_le (by omega) (by omega)] at h12
      refine V_lload_n (pc := 15) dX4_offer_15 1 rfl rfl ?_
      refine V_lneg (pc := 16) dX4_offer_16 ?_
      refine V_goto (pc := 17) (tgt := 21) dX4_offer_17 (by decide) ?_
      refine V_lstore (pc := 21) (L2 := [(0, .ref (Z.2.2.2 6)), (1, .long (iL x)), (3, .long (iL y))]) dX4_offer_21 (by decide) rfl (fun x5_21 ex5_21 => ?_)
      have enP : x5_21 = iL (nrP x y) := by rw [← ex5_21]; unfold nrP; first | (rw [if_pos (by omega), iL_neg]; done) | rw [if_neg (by omega)]
      clear ex5_21
      subst enP
      refine V_lload_n (pc := 23) dX4_offer_23 3 rfl rfl ?_
      refine V_lconst (v := 0) (pc := 24) dX4_offer_24 (by decide) ?_
      refine V_lcmp (pc := 25) dX4_offer_25 ?_
      refine V_if_ge (pc := 26) (tgt := 34) dX4_offer_26 (by decide) (fun h26 => ?_) (fun h26 => ?_)
      · skip
        rw [lg_cmp_ge, show (0 : Int64) = iL 0 from rfl, iL_le (by omega) (by omega)] at h26
        refine V_lload_n (pc := 34) dX4_offer_34 3 rfl rfl ?_
        refine V_lstore (pc := 35) (L2 := [(5, .long (iL (nrP x y))), (0, .ref (Z.2.2.2 6)), (1, .long (iL x)), (3, .long (iL y))]) dX4_offer_35 (by decide) rfl (fun x7_35 ex7_35 => ?_)
        have enB : x7_35 = iL (nrB y) := by rw [← ex7_35]; unfold nrB; first | (rw [if_pos (by omega), iL_neg]; done) | rw [if_neg (by omega)]
        clear ex7_35
        subst enB
        refine V_aload_n (pc := 37) dX4_offer_37 2 rfl rfl ?_
        refine Xg_X4_15 (pc := 38) (v := (iL b)) rfl dX4_offer_38 ?_
        refine V_lconst (v := 0) (pc := 41) dX4_offer_41 (by decide) ?_
        refine V_lcmp (pc := 42) dX4_offer_42 ?_
        refine V_if_eq (pc := 43) (tgt := 57) dX4_offer_43 (by decide) (fun h43 => ?_) (fun h43 => ?_)
        · skip
          rw [lg_cmp_eq, show (0 : Int64) = iL 0 from rfl, iL_eq (by omega) (by omega)] at h43
          have eo : ofQ (a, b) x y = (nrP x y, nrB y) := by unfold ofQ; rw [if_neg h5, if_pos (Or.inl h43)]
          refine V_aload_n (pc := 57) dX4_offer_57 2 rfl rfl ?_
          refine V_lload (pc := 58) dX4_offer_58 1 rfl ?_
          refine Xp_X4_9 (pc := 60) dX4_offer_60 ?_
          refine V_eqS _ (xQ0 S a b p q r s (nrP x y)) ?_
          refine V_aload_n (pc := 63) dX4_offer_63 2 rfl rfl ?_
          refine V_lload (pc := 64) dX4_offer_64 0 rfl ?_
          refine Xp_X4_15 (pc := 66) dX4_offer_66 ?_
          refine V_eqS _ (xQ1 S (nrP x y) b p q r s (nrB y)) ?_
          exact V_vret (pc := 69) dX4_offer_69 (Nat.le_of_ble_eq_true rfl) (Nat.le_of_ble_eq_true rfl) (hB _ _ ⟨rfl, by rw [eo]⟩)
        · skip
          rw [lg_cmp_eq, show (0 : Int64) = iL 0 from rfl, iL_eq (by omega) (by omega)] at h43
          refine V_aload_n (pc := 46) dX4_offer_46 2 rfl rfl ?_
          refine V_lload (pc := 47) dX4_offer_47 1 rfl ?_
          refine V_lload (pc := 49) dX4_offer_49 0 rfl ?_
          refine V_callVi (q0 := 17) (ci := 4) (C := RX4) (T := TX4) (N := 6) (pc := 51) dX4_offer_51 (c_X4_isLess Z _ _ _ _ _ _ _ _ _ (by exact ha) (by exact hb) (by unfold nrP; split <;> omega) (by unfold nrB; split <;> omega)) kX4_62 rfl rfl rfl rfl (Nat.le_of_ble_eq_true rfl) (by decide) (by decide) (Nat.le_of_ble_eq_true rfl) (Nat.le_of_ble_eq_true rfl) ?_
          refine V_bif_eq (pc := 54) (tgt := 69) dX4_offer_54 (by decide) (fun h54 => ?_) (fun h54 => ?_)
          · skip
            have eo : ofQ (a, b) x y = (a, b) := by unfold ofQ; rw [if_neg h5, if_neg (fun h => h.elim h43 h54)]
            exact V_vret (pc := 69) dX4_offer_69 (Nat.le_of_ble_eq_true rfl) (Nat.le_of_ble_eq_true rfl) (hB _ _ ⟨rfl, by rw [eo]⟩)
          · skip
            have eo : ofQ (a, b) x y = (nrP x y, nrB y) := by unfold ofQ; rw [if_neg h5, if_pos (Or.inr h54)]
            refine V_aload_n (pc := 57) dX4_offer_57 2 rfl rfl ?_
            refine V_lload (pc := 58) dX4_offer_58 1 rfl ?_
            refine Xp_X4_9 (pc := 60) dX4_offer_60 ?_
            refine V_eqS _ (xQ0 S a b p q r s (nrP x y)) ?_
            refine V_aload_n (pc := 63) dX4_offer_63 2 rfl rfl ?_
            refine V_lload (pc := 64) dX4_offer_64 0 rfl ?_
            refine Xp_X4_15 (pc := 66) dX4_offer_66 ?_
            refine V_eqS _ (xQ1 S (nrP x y) b p q r s (nrB y)) ?_
            exact V_vret (pc := 69) dX4_offer_69 (Nat.le_of_ble_eq_true rfl) (Nat.le_of_ble_eq_true rfl) (hB _ _ ⟨rfl, by rw [eo]⟩)
      · skip
        rw [lg_cmp_ge, show (0 : Int64) = iL 0 from rfl, iL_le (by omega) (by omega)] at h26
        refine V_lload_n (pc := 29) dX4_offer_29 3 rfl rfl ?_
        refine V_lneg (pc := 30) dX4_offer_30 ?_
        refine V_goto (pc := 31) (tgt := 35) dX4_offer_31 (by decide) ?_
        refine V_lstore (pc := 35) (L2 := [(5, .long (iL (nrP x y))), (0, .ref (Z.2.2.2 6)), (1, .long (iL x)), (3, .long (iL y))]) dX4_offer_35 (by decide) rfl (fun x7_35 ex7_35 => ?_)
        have enB : x7_35 = iL (nrB y) := by rw [← ex7_35]; unfold nrB; first | (rw [if_pos (by omega), iL_neg]; done) | rw [if_neg (by omega)]
        clear ex7_35
        subst enB
        refine V_aload_n (pc := 37) dX4_offer_37 2 rfl rfl ?_
        refine Xg_X4_15 (pc := 38) (v := (iL b)) rfl dX4_offer_38 ?_
        refine V_lconst (v := 0) (pc := 41) dX4_offer_41 (by decide) ?_
        refine V_lcmp (pc := 42) dX4_offer_42 ?_
        refine V_if_eq (pc := 43) (tgt := 57) dX4_offer_43 (by decide) (fun h43 => ?_) (fun h43 => ?_)
        · skip
          rw [lg_cmp_eq, show (0 : Int64) = iL 0 from rfl, iL_eq (by omega) (by omega)] at h43
          have eo : ofQ (a, b) x y = (nrP x y, nrB y) := by unfold ofQ; rw [if_neg h5, if_pos (Or.inl h43)]
          refine V_aload_n (pc := 57) dX4_offer_57 2 rfl rfl ?_
          refine V_lload (pc := 58) dX4_offer_58 1 rfl ?_
          refine Xp_X4_9 (pc := 60) dX4_offer_60 ?_
          refine V_eqS _ (xQ0 S a b p q r s (nrP x y)) ?_
          refine V_aload_n (pc := 63) dX4_offer_63 2 rfl rfl ?_
          refine V_lload (pc := 64) dX4_offer_64 0 rfl ?_
          refine Xp_X4_15 (pc := 66) dX4_offer_66 ?_
          refine V_eqS _ (xQ1 S (nrP x y) b p q r s (nrB y)) ?_
          exact V_vret (pc := 69) dX4_offer_69 (Nat.le_of_ble_eq_true rfl) (Nat.le_of_ble_eq_true rfl) (hB _ _ ⟨rfl, by rw [eo]⟩)
        · skip
          rw [lg_cmp_eq, show (0 : Int64) = iL 0 from rfl, iL_eq (by omega) (by omega)] at h43
          refine V_aload_n (pc := 46) dX4_offer_46 2 rfl rfl ?_
          refine V_lload (pc := 47) dX4_offer_47 1 rfl ?_
          refine V_lload (pc := 49) dX4_offer_49 0 rfl ?_
          refine V_callVi (q0 := 17) (ci := 4) (C := RX4) (T := TX4) (N := 6) (pc := 51) dX4_offer_51 (c_X4_isLess Z _ _ _ _ _ _ _ _ _ (by exact ha) (by exact hb) (by unfold nrP; split <;> omega) (by unfold nrB; split <;> omega)) kX4_62 rfl rfl rfl rfl (Nat.le_of_ble_eq_true rfl) (by decide) (by decide) (Nat.le_of_ble_eq_true rfl) (Nat.le_of_ble_eq_true rfl) ?_
          refine V_bif_eq (pc := 54) (tgt := 69) dX4_offer_54 (by decide) (fun h54 => ?_) (fun h54 => ?_)
          · skip
            have eo : ofQ (a, b) x y = (a, b) := by unfold ofQ; rw [if_neg h5, if_neg (fun h => h.elim h43 h54)]
            exact V_vret (pc := 69) dX4_offer_69 (Nat.le_of_ble_eq_true rfl) (Nat.le_of_ble_eq_true rfl) (hB _ _ ⟨rfl, by rw [eo]⟩)
          · skip
            have eo : ofQ (a, b) x y = (nrP x y, nrB y) := by unfold ofQ; rw [if_neg h5, if_pos (Or.inr h54)]
            refine V_aload_n (pc := 57) dX4_offer_57 2 rfl rfl ?_
            refine V_lload (pc := 58) dX4_offer_58 1 rfl ?_
            refine Xp_X4_9 (pc := 60) dX4_offer_60 ?_
            refine V_eqS _ (xQ0 S a b p q r s (nrP x y)) ?_
            refine V_aload_n (pc := 63) dX4_offer_63 2 rfl rfl ?_
            refine V_lload (pc := 64) dX4_offer_64 0 rfl ?_
            refine Xp_X4_15 (pc := 66) dX4_offer_66 ?_
            refine V_eqS _ (xQ1 S (nrP x y) b p q r s (nrB y)) ?_
            exact V_vret (pc := 69) dX4_offer_69 (Nat.le_of_ble_eq_true rfl) (Nat.le_of_ble_eq_true rfl) (hB _ _ ⟨rfl, by rw [eo]⟩)
  · skip
    rw [lg_cmp_eq, ev_i hy] at h5
    exact V_vret (pc := 8) dX4_offer_8 (Nat.le_of_ble_eq_true rfl) (Nat.le_of_ble_eq_true rfl) (hB _ _ ⟨rfl, by unfold ofQ; rw [if_pos h5]⟩)
