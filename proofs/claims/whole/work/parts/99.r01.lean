theorem gT_eq {S : XS} {a k c t s z : Nat} (hk : k ≤ 5) (q : mfo S a = gM (nI k) (nI c) (nI t) (nI s) (yz z)) : gT S a = gM (nI k) (nI c) (nI t) (nI s) (yz z) ∧ mfo S a 0 = nI k := by
  have e0 : mfo S a 0 = nI k := by rw [q]; exact gM_0 k hk
  refine ⟨?_, e0⟩
  unfold gT
  rw [e0, q, gM_1, gM_2, gM_3, gM_4]
theorem rn_rep {k c t s z : Nat} (h : vldN k c t s z) : ∃ i d, 1 ≤ d ∧ i + d ≤ 5000 ∧ rn (nI k) (nI c) (nI t) (i + d) (nI s, yz z) = rn (nI k) (nI c) (nI t) i (nI s, yz z) := by
  have zz : ∀ z, z < 73 → zy (yz z) = z := by decide +kernel
  have code : ∀ n, ∃ s' z', rn (nI k) (nI c) (nI t) n (nI s, yz z) = (nI s', yz z') ∧ s' < 64 ∧ z' < 73 ∧ (rn (nI k) (nI c) (nI t) n (nI s, yz z)).1.toNatClampNeg * 73 + zy (rn (nI k) (nI c) (nI t) n (nI s, yz z)).2 = s' * 73 + z' := fun n => by
    obtain ⟨s', z', e, hv, _⟩ := run_eq h n
    have h6 := pw6 hv.2.2.1 hv.2.2.2.2.2.1
    refine ⟨s', z', e, h6, hv.2.2.2.2.2.2, ?_⟩
    rw [e]
    show (nI s').toNatClampNeg * 73 + zy (yz z') = _
    rw [nI_clamp (by omega), zz z' hv.2.2.2.2.2.2]
  obtain ⟨i, j, h1, h2, h3⟩ := pigeon 4672 (fun n => (rn (nI k) (nI c) (nI t) n (nI s, yz z)).1.toNatClampNeg * 73 + zy (rn (nI k) (nI c) (nI t) n (nI s, yz z)).2) (fun n _ => by
    obtain ⟨s', z', _, a1, a2, a3⟩ := code n
    show _ * 73 + _ < 4672
    omega)
  refine ⟨i, j - i, by omega, by omega, ?_⟩
  rw [show i + (j - i) = j by omega]
  obtain ⟨s1, z1, e1, b1, b2, b3⟩ := code i
  obtain ⟨s2, z2, e2, d1, d2, d3⟩ := code j
  have h3 : (rn (nI k) (nI c) (nI t) i (nI s, yz z)).1.toNatClampNeg * 73 + zy (rn (nI k) (nI c) (nI t) i (nI s, yz z)).2 = (rn (nI k) (nI c) (nI t) j (nI s, yz z)).1.toNatClampNeg * 73 + zy (rn (nI k) (nI c) (nI t) j (nI s, yz z)).2 := h3
  rw [b3, d3] at h3
  rw [e1, e2, show s1 = s2 by omega, show z1 = z2 by omega]
theorem orbX_v {k c t s z : Nat} (h : vldN k c t s z) : orbX (kc (nI k)) (gM (nI k) (nI c) (nI t) (nI s) (yz z)) := by
  obtain ⟨i, d, h1, h2, e⟩ := rn_rep h
  exact ⟨i, d, h1, h2, by rw [rn_adv h, rn_adv h, e]⟩
theorem orbM_v {M : MS} {j k c t s z : Nat} (hv : vldN k c t s z) (q1 : M.2.2 1 j = nI k) (q2 : M.2.2 2 j = nI c) (q3 : M.2.2 3 j = nI t) (q4 : M.2.2 4 j = nI s) (q5 : M.2.2 5 j = yz z) : orbM M j := by
  obtain ⟨i, d, h1, h2, e⟩ := rn_rep hv
  refine ⟨i, d, h1, h2, ?_⟩
  unfold mRn
  rw [q1, q2, q3, q4, q5]
  exact e
theorem r_then {S S' : XS} {M : MS} (h : Rel S M) (hx : xCor S S') (i_ n_ w_ : Int32) : (if ((0 ≤ i_ ∧ i_ < S.1 1) ∧ (0 ≤ n_ ∧ n_ ≤ 40) ∧ (0 ≤ w_ ∧ w_ ≤ 2)) then (if w_ = 0 then (advN (kc (mfo S (xAd S i_) 0)) n_.toNatClampNeg (gM (mfo S (xAd S i_) 0) (mfo S (xAd S i_) 1) (mfo S (xAd S i_) 2) (mfo S (xAd S i_) 3) (mfo S (xAd S i_) 4))) 3 &&& 1 else if w_ = 1 then (advN (kc (mfo S (xAd S i_) 0)) n_.toNatClampNeg (gM (mfo S (xAd S i_) 0) (mfo S (xAd S i_) 1) (mfo S (xAd S i_) 2) (mfo S (xAd S i_) 3) (mfo S (xAd S i_) 4))) 3 else (advN (kc (mfo S (xAd S i_) 0)) n_.toNatClampNeg (gM (mfo S (xAd S i_) 0) (mfo S (xAd S i_) 1) (mfo S (xAd S i_) 2) (mfo S (xAd S i_) 3) (mfo S (xAd S i_) 4))) 4) else -1000) = (if (0 ≤ i_ ∧ i_ ≤ M.1 0 - 1) ∧ (0 ≤ n_ ∧ n_ ≤ 40) ∧ (0 ≤ w_ ∧ w_ ≤ 2) then (if w_ = 0 then (mRn M i_.toNatClampNeg n_.toNatClampNeg).1 &&& 1 else if w_ = 1 then (mRn M i_.toNatClampNeg n_.toNatClampNeg).1 else (mRn M i_.toNatClampNeg n_.toNatClampNeg).2) else -1000) ∧ Rel S' (if (0 ≤ i_ ∧ i_ ≤ M.1 0 - 1) ∧ (0 ≤ n_ ∧ n_ ≤ 40) ∧ (0 ≤ w_ ∧ w_ ≤ 2) then mThN M i_.toNatClampNeg n_.toNatClampNeg else M) := by
  refine ⟨ite_c ⟨fun q => ⟨(grd h i_).mp q.1, q.2⟩, fun q => ⟨(grd h i_).mpr q.1, q.2⟩⟩ (fun g => ?_) (fun _ => rfl), ?_⟩
  · obtain ⟨_, j, _, _, _, _, _, ec, _, _, _, k, c, t, s, z, hv, q1, q2, q3, q4, q5, q6⟩ := rel_at h ((grd h i_).mpr g.1)
    obtain ⟨e1, e2⟩ := gT_eq hv.1 q6
    unfold gT at e1
    rw [e1, e2, rn_adv hv, gM_3, gM_4, ec]
    unfold mRn
    rw [q1, q2, q3, q4, q5]
  · split
    · exact Rel_cor h hx (mCor_thN M _ _)
    · exact Rel_cor h hx (mCor_rfl M)
