def dgF : Nat → Nat → Nat
  | 0, _ => 0
  | f + 1, n => if n = 0 then 0 else dgF f (n / 2) + 1
theorem dgF_eq : ∀ f n, n < 2 ^ f → dgF f n = dgl n
  | 0, n, h => by
    rw [show n = 0 by rw [Nat.pow_zero] at h; omega, dgl_0]
    rfl
  | f + 1, n, h => by
    rw [Nat.pow_succ] at h
    show (if n = 0 then 0 else dgF f (n / 2) + 1) = _
    by_cases z : n = 0
    · rw [if_pos z, z, dgl_0]
    · rw [if_neg z, dgF_eq f (n / 2) (by omega), dgl_pos (n := n) (by omega)]
theorem dgl_sh : ∀ k n, 2 ^ k ≤ n → dgl n = dgl (n / 2 ^ k) + k
  | 0, n, _ => by rw [Nat.pow_zero, Nat.div_one, Nat.add_zero]
  | k + 1, n, h => by
    have p : 0 < 2 ^ k := Nat.two_pow_pos k
    rw [Nat.pow_succ] at h ⊢
    rw [dgl_sh k n (by omega), dgl_pos (n := n / 2 ^ k) (Nat.div_pos (by omega) p), Nat.div_div_eq_div_mul]
    omega
theorem lz3_N : ∀ y, y < 256 → 0 < y → lz3 31 (nI y) = 32 - nI (dgF 8 y) ∧ lz3 23 (nI y) = 24 - nI (dgF 8 y) ∧ lz3 15 (nI y) = 16 - nI (dgF 8 y) ∧ lz3 7 (nI y) = 8 - nI (dgF 8 y) := by decide +kernel
theorem us32_c : ∀ k, k < 32 → (Int32.toUInt32 (nI k) &&& Int32.toUInt32 31) = UInt32.ofNat k := by decide +kernel
theorem us32_N {n k : Nat} (hn : n < 2 ^ 31) (hk : k < 32) : us32 (nI n) (nI k) = nI (n / 2 ^ k) := by
  unfold us32
  rw [us32_c k hk]
  apply Int32.toBitVec_inj.mp
  apply BitVec.eq_of_toNat_eq
  show ((nI n).toUInt32 >>> UInt32.ofNat k).toNat = (BitVec.ofNat 32 (n / 2 ^ k)).toNat
  have h1 : (UInt32.ofNat k).toNat = k := by
    show (BitVec.ofNat 32 k).toNat = k
    rw [BitVec.toNat_ofNat, Nat.mod_eq_of_lt (by omega)]
  have h2 : (nI n).toUInt32.toNat = n := by
    show (BitVec.ofNat 32 n).toNat = n
    rw [BitVec.toNat_ofNat, Nat.mod_eq_of_lt (by omega)]
  have h3 : n / 2 ^ k ≤ n := Nat.div_le_self _ _
  rw [UInt32.toNat_shiftRight, h1, h2, Nat.mod_eq_of_lt hk, Nat.shiftRight_eq_div_pow, BitVec.toNat_ofNat, Nat.mod_eq_of_lt (by omega)]
