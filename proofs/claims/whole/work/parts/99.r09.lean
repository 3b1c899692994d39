theorem lz_c : ∀ d, d ≤ 8 → (24 - nI d = 32 - nI (d + 8) ∧ 16 - nI d = 32 - nI (d + 16) ∧ 8 - nI d = 32 - nI (d + 8 + 16)) := by decide +kernel
theorem lz1_N {n : Nat} (h0 : 0 < n) (hn : n < 2 ^ 31) : lz1 31 (nI n) = 32 - nI (dgl n) := by
  have l1 : nI n < 65536 ↔ n < 65536 := nI_ltI (b := 65536) hn (by decide)
  have l2 : nI n < 256 ↔ n < 256 := nI_ltI (b := 256) hn (by decide)
  unfold lz1
  by_cases z : n < 65536
  · rw [if_pos (l1.mpr z)]
    unfold lz2
    by_cases y : n < 256
    · rw [if_pos (l2.mpr y), (lz3_N n y h0).1, dgF_eq 8 n y]
    · rw [if_neg (fun q => y (l2.mp q)), show (31 + -8 : Int32) = 23 from by decide, show us32 (nI n) 8 = nI (n / 2 ^ 8) from us32_N hn (by decide)]
      have q : n / 2 ^ 8 < 256 := by omega
      rw [(lz3_N _ q (by omega)).2.1, dgF_eq 8 _ q, dgl_sh 8 n (by omega)]
      exact (lz_c _ (dgl_lt 8 _ q)).1
  · rw [if_neg (fun q => z (l1.mp q)), show (31 + -16 : Int32) = 15 from by decide, show us32 (nI n) 16 = nI (n / 2 ^ 16) from us32_N hn (by decide)]
    obtain ⟨m, em⟩ : ∃ m, m = n / 2 ^ 16 := ⟨_, rfl⟩
    rw [dgl_sh 16 n (by omega), ← em]
    have hm : m < 32768 := by omega
    have m0 : 0 < m := by omega
    have l3 : nI m < 256 ↔ m < 256 := nI_ltI (b := 256) (by omega) (by decide)
    unfold lz2
    by_cases y : m < 256
    · rw [if_pos (l3.mpr y), (lz3_N m y m0).2.2.1, dgF_eq 8 m y]
      exact (lz_c _ (dgl_lt 8 _ y)).2.1
    · rw [if_neg (fun q => y (l3.mp q)), show (15 + -8 : Int32) = 7 from by decide, show us32 (nI m) 8 = nI (m / 2 ^ 8) from us32_N (by omega) (by decide)]
      have q : m / 2 ^ 8 < 256 := by omega
      rw [(lz3_N _ q (by omega)).2.2.2, dgF_eq 8 _ q, dgl_sh 8 m (by omega)]
      exact (lz_c _ (dgl_lt 8 _ q)).2.2
