theorem r_drawn {S S' : XS} {M : MS} (h : Rel S M) (hx : xCor S S') (a_ z_ n_ : Int32) : (if ((0 ≤ a_ ∧ a_ ≤ 3) ∧ (0 ≤ n_ ∧ n_ ≤ 8)) then (if (S.1 (10 + a_.toNatClampNeg) = -1) then -11 else if (S.1 (20 + a_.toNatClampNeg)) < 1 then -3 else (lfX (slX (btL (S.2.2.1 (20 + a_.toNatClampNeg)) (S.1 (20 + a_.toNatClampNeg)).toNatClampNeg) z_ (S.1 (20 + a_.toNatClampNeg)).toNatClampNeg n_.toNatClampNeg) (S.1 (20 + a_.toNatClampNeg)).toNatClampNeg).2.2.2.2) else -2) = (if ((0 ≤ a_ ∧ a_ ≤ 3) ∧ (0 ≤ n_ ∧ n_ ≤ 8)) then (if 0 ≤ M.2.2 32 a_.toNatClampNeg then (if M.2.2 33 a_.toNatClampNeg = 0 then -3 else nI (mBm (spS M a_.toNatClampNeg z_ n_.toNatClampNeg) (M.2.2 33 a_.toNatClampNeg).toNatClampNeg).1) else -11) else -2) ∧ Rel S' (if ((0 ≤ a_ ∧ a_ ≤ 3) ∧ (0 ≤ n_ ∧ n_ ≤ 8)) ∧ 0 ≤ M.2.2 32 a_.toNatClampNeg ∧ ¬ M.2.2 33 a_.toNatClampNeg = 0 then mLaw (spS M a_.toNatClampNeg z_ n_.toNatClampNeg) else M) := by
  constructor
  · refine ite_c Iff.rfl (fun q => ?_) (fun _ => rfl)
    obtain ⟨j, n, ej, hj, hn, s1, s2, s3, s4, s5, s6⟩ := sheet_of h q.1
    rw [ej, s1, s2, s3, nI_clamp (by omega), s6]
    by_cases s : M.2.2 32 j = -1
    · rw [if_pos s, if_neg (fun q => absurd s (s4.mpr q))]
    · rw [if_neg s, if_pos (s4.mp s)]
      have e0 : nI n < 1 ↔ nI n = 0 := by
        rw [show (1 : Int32) = nI 1 from rfl, show (0 : Int32) = nI 0 from rfl, nI_ltI (by omega) (by decide), nI_eq (by omega) (by decide)]
        omega
      refine ite_c e0 (fun _ => rfl) (fun z => ?_)
      have hn0 : 0 < n := Nat.pos_of_ne_zero (fun q => z (by rw [q]; rfl))
      exact (sp_law (mCor_rfl M) z_ n_.toNatClampNeg s2 hn0 hn).symm
  · split
    · exact Rel_cor h hx (mCor_law (mCor_sp M _ _ _))
    · exact Rel_cor h hx (mCor_rfl M)
