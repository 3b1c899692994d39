theorem tb_ext {x y : Nat} (h : ∀ i, tb x i = tb y i) : x = y := by
  refine Nat.eq_of_testBit_eq (fun i => ?_)
  have q := h i
  rw [tb_t, tb_t] at q
  cases a : x.testBit i <;> cases b : y.testBit i <;> rw [a, b] at q <;> first | rfl | exact absurd q (by decide)
theorem bt1_n {x : Nat} (h : x < 2) : bt1 (nI x) = x := by
  rcases (show x = 0 ∨ x = 1 by omega) with rfl | rfl <;> decide
theorem nI_and1 {x : Nat} (h : x < 2) : nI x &&& 1 = nI x := by
  rcases (show x = 0 ∨ x = 1 by omega) with rfl | rfl <;> decide
theorem lwB_us {law : Nat → Int32} {a n : Nat} (hn : n ≤ 40) (ha : a < 2 ^ 41) (hl : ∀ i, i ≤ 40 → law i = nI (tb a i)) (h0 : ∀ i, n < i → tb a i = 0) : lwB law n = us64 (lN a) 1 := by
  have e1 : lwB law n = btL (fun i => law (i + 1)) n := by
    unfold lwB btL
    refine it_cg (fun i hi => funext fun b => ?_) _
    show b ||| (law (i + 1)).toInt64 <<< ((nI (i + 1) - 1).toInt64 &&& 63) = b ||| (law (i + 1) &&& 1).toInt64 <<< ((nI i).toInt64 &&& 63)
    rw [← nI_1, Int32.add_sub_cancel, hl (i + 1) (by omega), nI_and1 (tb_lt _ _)]
  have e2 : rwN (fun i => bt1 (law (i + 1))) n = a / 2 := by
    refine tb_ext (fun i => ?_)
    rw [rw_tb (fun i => bt1_lt _)]
    have q : tb (a / 2) i = tb a (i + 1) := by
      unfold tb
      rw [Nat.div_div_eq_div_mul, Nat.pow_succ, Nat.mul_comm 2]
    rw [q]
    by_cases z : i < n
    · rw [if_pos z, hl (i + 1) (by omega), bt1_n (tb_lt _ _)]
    · rw [if_neg z, h0 (i + 1) (by omega)]
  rw [e1, btL_N _ (by omega), e2]
  have q := us_N (n := a) (k := 1) (by omega) (by decide)
  rw [Nat.pow_one] at q
  exact q.symm
theorem ln_eq {M2 : MS} {g : Nat → Nat} {b : Int64} {N : Nat} (hN : N ≤ 40) (e12 : M2.1 12 = nI N) (h : bmR g N (mBm M2 N) (lfX b N)) (w : Int32) : laX b (nI N) w = lnR M2 w := by
  obtain ⟨a, w', s, e, ⟨ha, _, _⟩, hl, _, _, h0, _, _, _, hq⟩ := h
  unfold laX lnR
  rw [e12, nI_clamp (by omega), e]
  refine ite_c Iff.rfl (fun _ => rfl) (fun _ => ite_c Iff.rfl (fun _ => ?_) (fun _ => rfl))
  exact (lwB_us (by omega) ha hl h0).symm
theorem bits_g (F : Nat → Int32) {n : Nat} (hn : n ≤ 40) : (∀ i, i < n → F i &&& 1 = nI (tb (rwX F n) i) ∧ tb (rwX F n) i < 2) ∧ ∀ i, i < n → lbt (btL F n) (nI i) = lN (tb (rwX F n) i) := ⟨fun i hi => ⟨rwX_at F hi, tb_lt _ _⟩, fun i hi => rwX_l F hn (by omega)⟩
theorem r_linear {S S' : XS} {M : MS} (h : Rel S M) (hx : xCor S S') (a_ w_ : Int32) : (if ((0 ≤ a_ ∧ a_ ≤ 3) ∧ (0 ≤ w_ ∧ w_ ≤ 1) ∧ ¬ (S.1 (10 + a_.toNatClampNeg) = -1)) then laX (btL (S.2.2.1 (20 + a_.toNatClampNeg)) (S.1 (20 + a_.toNatClampNeg)).toNatClampNeg) (S.1 (20 + a_.toNatClampNeg)) w_ else -9223372036854775808) = (if (((0 ≤ a_ ∧ a_ ≤ 3) ∧ ¬ M.2.2 32 a_.toNatClampNeg < 0) ∧ (0 ≤ w_ ∧ w_ ≤ 1)) then lnR (mRd M a_.toNatClampNeg) w_ else -9223372036854775808) ∧ Rel S' (if (((0 ≤ a_ ∧ a_ ≤ 3) ∧ ¬ M.2.2 32 a_.toNatClampNeg < 0) ∧ (0 ≤ w_ ∧ w_ ≤ 1)) then mLaw (mRd M a_.toNatClampNeg) else M) := by
  constructor
  · refine ite_c ⟨fun q => ?_, fun q => ?_⟩ (fun q => ?_) (fun _ => rfl)
    · obtain ⟨j, n, ej, hj, hn, s1, s2, s3, s4, s5, s6⟩ := sheet_of h q.1
      rw [ej, s3] at q
      rw [ej]
      exact ⟨⟨q.1, s5.mp q.2.2⟩, q.2.1⟩
    · obtain ⟨j, n, ej, hj, hn, s1, s2, s3, s4, s5, s6⟩ := sheet_of h q.1.1
      rw [ej] at q
      rw [ej, s3]
      exact ⟨q.1.1, q.2, s5.mpr q.1.2⟩
    · obtain ⟨j, n, ej, hj, hn, s1, s2, s3, s4, s5, s6⟩ := sheet_of h q.1.1
      rw [ej, s1, nI_clamp (by omega), s6]
      obtain ⟨g1, g2⟩ := bits_g (fun i => M.2.2 34 (40 * j + i)) hn
      refine ln_eq hn s2 (mBm_law hn (fun i hi => ?_) g2) w_
      obtain ⟨g3, g4⟩ := g1 i hi
      refine ⟨?_, g4⟩
      show rdI M j (M.2.2 33 j).toNatClampNeg i = _
      rw [s2, nI_clamp (by omega), rdI_at, if_pos hi]
      exact g3
  · split
    · exact Rel_cor h hx (mCor_law (mCor_rd M _))
    · exact Rel_cor h hx (mCor_rfl M)
theorem r_twin {S S' : XS} {M : MS} (h : Rel S M) (hx : xCor S S') (m_ n_ w_ : Int32) : (if ((0 ≤ m_ ∧ m_ < S.1 1) ∧ (0 ≤ n_ ∧ n_ ≤ 40) ∧ (0 ≤ w_ ∧ w_ ≤ 1)) then laX (tlL (kc (mfo S (xAd S m_) 0)) (gT S (xAd S m_)) n_.toNatClampNeg) n_ w_ else -9223372036854775808) = (if ((0 ≤ m_ ∧ m_ ≤ M.1 0 - 1) ∧ (0 ≤ n_ ∧ n_ ≤ 40) ∧ (0 ≤ w_ ∧ w_ ≤ 1)) then lnR (mTells M m_.toNatClampNeg n_ n_.toNatClampNeg) w_ else -9223372036854775808) ∧ Rel S' (if ((0 ≤ m_ ∧ m_ ≤ M.1 0 - 1) ∧ (0 ≤ n_ ∧ n_ ≤ 40) ∧ (0 ≤ w_ ∧ w_ ≤ 1)) then mLaw (mTells M m_.toNatClampNeg n_ n_.toNatClampNeg) else M) := by
  constructor
  · refine ite_c ⟨fun q => ⟨(grd h m_).mp q.1, q.2⟩, fun q => ⟨(grd h m_).mpr q.1, q.2⟩⟩ (fun g => ?_) (fun _ => rfl)
    obtain ⟨_, j, _, _, _, _, _, ec, _, _, _, k, c, t, s, z, hv, q1, q2, q3, q4, q5, q6⟩ := rel_at h ((grd h m_).mpr g.1)
    obtain ⟨n', rfl, _, hn⟩ := nI_rng (a := 0) (b := 40) (by decide) g.2.1.1 g.2.1.2 (by decide)
    rw [nI_clamp (by omega), tell_eq hv q1 q2 q3 q4 q5 q6, ec]
    obtain ⟨g1, g2⟩ := bits_g (fun i => (mRn M j i).1) hn
    refine ln_eq hn rfl (mBm_law hn (fun i hi => ?_) g2) w_
    obtain ⟨g3, g4⟩ := g1 i hi
    refine ⟨?_, g4⟩
    show rowF M j n' i = _
    rw [rowF_at, if_pos hi]
    exact g3
  · split
    · exact Rel_cor h hx (mCor_law (mCor_tells M _ _ _))
    · exact Rel_cor h hx (mCor_rfl M)
