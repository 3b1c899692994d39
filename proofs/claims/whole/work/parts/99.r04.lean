theorem Rel_zOK {S : XS} {M : MS} (h : Rel S M) : zOK S := fun i hi => by
  obtain ⟨_, h2, _, ⟨n, hn, e⟩, _⟩ := h.2.2.1 i hi
  exact ⟨n, hn, h2.trans e⟩
theorem Rel_sOK2 {S : XS} {M : MS} (h : Rel S M) : sOK2 M := fun i hi => (h.2.2.1 i hi).2.2.2.1
theorem Rel_sOK {S : XS} {M : MS} (h : Rel S M) : sOK M := fun i hi => by
  obtain ⟨_, _, _, ⟨n, hn, e⟩, _⟩ := h.2.2.1 i hi
  rw [e, nI_clamp (by omega)]
  exact hn
theorem row_eq {S : XS} {M : MS} (h : Rel S M) {a n : Nat} (ha : a < 4) (hn : n ≤ 40) : btL (S.2.2.1 (20 + a)) n = rwM M a n := by
  obtain ⟨_, _, _, _, h5⟩ := h.2.2.1 a ha
  unfold rwM btL
  refine it_cg (fun i hi => funext fun b => ?_) _
  rw [h5 i (by omega)]
/-- a sheet's row: its length, and its bits as both hold them -/
theorem sheet_of {S : XS} {M : MS} (h : Rel S M) {a : Int32} (ha : 0 ≤ a ∧ a ≤ 3) : ∃ j n, a.toNatClampNeg = j ∧ j < 4 ∧ n ≤ 40 ∧ S.1 (20 + j) = nI n ∧ M.2.2 33 j = nI n ∧ S.1 (10 + j) = M.2.2 32 j ∧ (¬ M.2.2 32 j = -1 ↔ 0 ≤ M.2.2 32 j) ∧ (¬ M.2.2 32 j = -1 ↔ ¬ M.2.2 32 j < 0) ∧ btL (S.2.2.1 (20 + j)) n = rwM M j n := by
  obtain ⟨j, _, e, hj⟩ := sh4 ha
  obtain ⟨h1, h2, h3, ⟨n, hn, h4⟩, _⟩ := h.2.2.1 j hj
  exact ⟨j, n, e, hj, hn, h2.trans h4, h4, h1, (so_m h3).1, (so_m h3).2, row_eq h hj hn⟩
theorem r_number {S : XS} {M : MS} (h : Rel S M) (a : Int32) : (if (0 ≤ a ∧ a ≤ 3) ∧ ¬ S.1 (10 + a.toNatClampNeg) = -1 then btL (S.2.2.1 (20 + a.toNatClampNeg)) (S.1 (20 + a.toNatClampNeg)).toNatClampNeg else -9223372036854775808) = (if (0 ≤ a ∧ a ≤ 3) ∧ ¬ M.2.2 32 a.toNatClampNeg < 0 then nbI (rdI M a.toNatClampNeg (M.2.2 33 a.toNatClampNeg).toNatClampNeg) (M.2.2 33 a.toNatClampNeg).toNatClampNeg else -9223372036854775808) ∧ Rel S (if (0 ≤ a ∧ a ≤ 3) ∧ ¬ M.2.2 32 a.toNatClampNeg < 0 then mRd M a.toNatClampNeg else M) := by
  constructor
  · refine ite_c ⟨fun q => ?_, fun q => ?_⟩ (fun q => ?_) (fun _ => rfl)
    · obtain ⟨j, n, ej, hj, hn, s1, s2, s3, s4, s5, s6⟩ := sheet_of h q.1
      rw [ej, s3] at q
      rw [ej]
      exact ⟨q.1, s5.mp q.2⟩
    · obtain ⟨j, n, ej, hj, hn, s1, s2, s3, s4, s5, s6⟩ := sheet_of h q.1
      rw [ej] at q
      rw [ej, s3]
      exact ⟨q.1, s5.mpr q.2⟩
    · obtain ⟨j, n, ej, hj, hn, s1, s2, s3, s4, s5, s6⟩ := sheet_of h q.1
      rw [ej, s1, s2, nI_clamp (by omega), nbI_bt]
      exact s6
  · split
    · exact Rel_cor h (xCor_rfl S) (mCor_rd M _)
    · exact h
