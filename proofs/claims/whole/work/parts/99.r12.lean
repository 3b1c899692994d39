theorem r_fraction {S S' : XS} {M M' : MS} {a_ w_ : Int32} {v v' : Option Value} (h : Rel S M) (hx : ((¬ ((0 ≤ a_ ∧ a_ ≤ 3) ∧ (0 ≤ w_ ∧ w_ ≤ 3) ∧ ¬ (S.1 (10 + a_.toNatClampNeg) = -1) ∧ (S.1 (20 + a_.toNatClampNeg)) ≤ 24) ∧ v = some (.long (-9223372036854775808))) ∨ (((0 ≤ a_ ∧ a_ ≤ 3) ∧ (0 ≤ w_ ∧ w_ ≤ 3) ∧ ¬ (S.1 (10 + a_.toNatClampNeg) = -1) ∧ (S.1 (20 + a_.toNatClampNeg)) ≤ 24) ∧ ∃ A B, leaX ((btL (S.2.2.1 (20 + a_.toNatClampNeg)) (S.1 (20 + a_.toNatClampNeg)).toNatClampNeg)).toInt (S.1 (20 + a_.toNatClampNeg)).toNatClampNeg A B ∧ smQ A ∧ smQ B ∧ v = some (.long (frV A B w_)))) ∧ xCor S S') (hm : ((¬ (((0 ≤ a_ ∧ a_ ≤ 3) ∧ ¬ M.2.2 32 a_.toNatClampNeg < 0) ∧ (0 ≤ w_ ∧ w_ ≤ 3) ∧ M.2.2 33 a_.toNatClampNeg ≤ 24) ∧ v' = some (.long (-9223372036854775808))) ∨ ((((0 ≤ a_ ∧ a_ ≤ 3) ∧ ¬ M.2.2 32 a_.toNatClampNeg < 0) ∧ (0 ≤ w_ ∧ w_ ≤ 3) ∧ M.2.2 33 a_.toNatClampNeg ≤ 24) ∧ ∃ A B, leaX (rwM M a_.toNatClampNeg (M.2.2 33 a_.toNatClampNeg).toNatClampNeg).toInt (M.2.2 33 a_.toNatClampNeg).toNatClampNeg A B ∧ smQ A ∧ smQ B ∧ v' = some (.long (frM A B w_)))) ∧ mCor M M') : v = v' ∧ Rel S' M' := by
  refine ⟨?_, Rel_cor h hx.2 hm.2⟩
  have hx := hx.1
  have hm := hm.1
  by_cases g : 0 ≤ a_ ∧ a_ ≤ 3
  · obtain ⟨j, n, ej, hj, hn, s1, s2, s3, s4, s5, s6⟩ := sheet_of h g
    rw [ej, s1, s3, nI_clamp (by omega), s6] at hx
    rw [ej, s2, nI_clamp (by omega)] at hm
    rcases hx with ⟨q, rfl⟩ | ⟨q, A, B, l, ha, hb, rfl⟩
    · rcases hm with ⟨_, rfl⟩ | ⟨p, _⟩
      · rfl
      · exact absurd ⟨g, p.2.1, s5.mpr p.1.2, p.2.2⟩ q
    · rcases hm with ⟨p, _⟩ | ⟨_, A', B', l', _, _, rfl⟩
      · exact absurd ⟨⟨g, s5.mp q.2.2.1⟩, q.2.1, q.2.2.2⟩ p
      · obtain ⟨rfl, rfl⟩ := leaX_uni l l'
        rw [fr_eq ha hb]
  · rcases hx with ⟨_, rfl⟩ | ⟨q, _⟩
    · rcases hm with ⟨_, rfl⟩ | ⟨p, _⟩
      · rfl
      · exact absurd p.1.1 g
    · exact absurd q.1 g
