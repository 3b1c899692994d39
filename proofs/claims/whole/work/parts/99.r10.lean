theorem lN_i2 (m : Nat) : (lN m).toInt32 = nI m := by
  apply Int32.toBitVec_inj.mp
  apply BitVec.eq_of_toNat_eq
  show ((BitVec.ofNat 64 m).signExtend 32).toNat = (BitVec.ofNat 32 m).toNat
  rw [BitVec.signExtend_eq_setWidth_of_le _ (by decide), BitVec.toNat_setWidth, BitVec.toNat_ofNat, BitVec.toNat_ofNat]
  omega
theorem nlz_c : ∀ d, d ≤ 32 → (64 - (32 + (32 - nI d)) = nI d ∧ 64 - (32 - nI d) = nI (d + 32)) := by decide +kernel
theorem nlz_N {N : Nat} (h : N < 2 ^ 62) : 64 - nlzL (lN N) = nI (dgl N) := by
  unfold nlzL
  have e : us64 (lN N) 32 = lN (N / 2 ^ 32) := us_N (by omega) (by decide)
  have e0 : (nI (N / 2 ^ 32) = 0) ↔ N / 2 ^ 32 = 0 := nI_eq (b := 0) (by omega) (by decide)
  rw [e, lN_i2, lN_i2]
  by_cases z : N / 2 ^ 32 = 0
  · rw [if_pos (e0.mpr z)]
    have hN : N < 2 ^ 32 := by omega
    unfold nlzI
    by_cases y : N < 2 ^ 31
    · by_cases x : N = 0
      · rw [x, dgl_0]; decide
      · have l : (0 : Int32) < nI N := nI_lt (a := 0) (by omega) y
        rw [if_pos l, lz1_N (by omega) y]
        exact (nlz_c _ (dgl_lt 32 _ hN)).1
    · have ei : (nI N).toInt = (N : Int) - 2 ^ 32 := by
        show (BitVec.ofNat 32 N).toInt = _
        rw [BitVec.toInt_eq_toNat_bmod, BitVec.toNat_ofNat, Nat.mod_eq_of_lt (by omega), Int.bmod_def]
        omega
      have l : ¬ (0 : Int32) < nI N := by
        rw [Int32.lt_iff_toInt_lt, ei, show (0 : Int32).toInt = 0 from rfl]; omega
      have l2 : ¬ nI N = 0 := fun q => by
        have q := congrArg Int32.toInt q
        rw [ei, show (0 : Int32).toInt = 0 from rfl] at q; omega
      rw [if_neg l, if_neg l2, dgl_sh 31 N (by omega), show N / 2 ^ 31 = 1 by omega, dgl_pos (by decide), show 1 / 2 = 0 from rfl, dgl_0]
      decide
  · rw [if_neg (fun q => z (e0.mp q))]
    unfold nlzI
    have q : N / 2 ^ 32 < 2 ^ 31 := by omega
    have l : (0 : Int32) < nI (N / 2 ^ 32) := nI_lt (a := 0) (by omega) q
    rw [if_pos l, lz1_N (by omega) q, dgl_sh 32 N (by omega)]
    exact (nlz_c _ (dgl_lt 32 _ (by omega))).2
