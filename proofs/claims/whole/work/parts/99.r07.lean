theorem fmis_iff (f g : Nat → Int32) : ∀ k x, fmis f g k x < x + k ↔ ¬ ∀ i, i < k → g (x + i) = f (x + i)
  | 0, x => ⟨fun h => absurd h (Nat.lt_irrefl _), fun h => absurd (fun i hi => absurd hi (Nat.not_lt_zero _)) h⟩
  | k + 1, x => by
    have ih := fmis_iff f g k (x + 1)
    simp only [fmis]
    by_cases z : g x = f x
    · rw [if_pos z, show x + (k + 1) = x + 1 + k by omega, ih]
      constructor
      · intro q w
        refine q (fun i hi => ?_)
        rw [show x + 1 + i = x + (i + 1) by omega]
        exact w (i + 1) (by omega)
      · intro q w
        refine q (fun i hi => ?_)
        rcases Nat.eq_zero_or_pos i with e | e
        · rw [e]; exact z
        · have := w (i - 1) (by omega)
          rw [show x + 1 + (i - 1) = x + i by omega] at this
          exact this
    · rw [if_neg z]
      exact ⟨fun _ w => z (w 0 (by omega)), fun _ => by omega⟩
theorem btL_inj {F G : Nat → Int32} {n : Nat} (hn : n ≤ 40) : btL F n = btL G n ↔ ∀ i, i < n → F i &&& 1 = G i &&& 1 := by
  constructor
  · intro h i hi
    rw [← lbt_bt F hn hi, ← lbt_bt G hn hi, h]
  · intro h
    unfold btL
    refine it_cg (fun i hi => funext fun b => ?_) _
    rw [h i hi]
theorem r_alike {S S' : XS} {M M' : MS} (h : Rel S M) (hx : xCor S S') (hm : mCor M M') (m_ n_ : Int32) : (if ((0 ≤ m_ ∧ m_ < S.1 1) ∧ (0 ≤ n_ ∧ n_ ≤ 40)) then alX (tvX S n_.toNatClampNeg) (tlL (kc (mfo S (xAd S m_) 0)) (gT S (xAd S m_)) n_.toNatClampNeg) (S.1 1).toNatClampNeg else -2) = (if ((0 ≤ m_ ∧ m_ ≤ M.1 0 - 1) ∧ (0 ≤ n_ ∧ n_ ≤ 40)) then alS M (mTells M m_.toNatClampNeg n_ n_.toNatClampNeg) (M.1 0).toNatClampNeg else -2) ∧ Rel S' M' := by
  refine ⟨ite_c ⟨fun q => ⟨(grd h m_).mp q.1, q.2⟩, fun q => ⟨(grd h m_).mpr q.1, q.2⟩⟩ (fun g => ?_) (fun _ => rfl), Rel_cor h hx hm⟩
  obtain ⟨N, j, hN, _, e1, e2, _, ec, _, _, _, k, c, t, s, z, hv, q1, q2, q3, q4, q5, q6⟩ := rel_at h ((grd h m_).mpr g.1)
  obtain ⟨n', rfl, _, hn⟩ := nI_rng (a := 0) (b := 40) (by decide) g.2.1 g.2.2 (by decide)
  have eN : (nI N).toNatClampNeg = N := nI_clamp (by omega)
  have en : (nI n').toNatClampNeg = n' := nI_clamp (by omega)
  rw [en, tell_eq hv q1 q2 q3 q4 q5 q6, ec, e1, e2, eN]
  unfold alX alS
  refine it_cg (fun i hi => funext fun b => ?_) _
  obtain ⟨_, _, _, k', c', t', s', z', hv', p1, p2, p3, p4, p5, p6⟩ := mach_i h e1 hN hi
  have et : tvX S n' i = btL (fun q => (mRn M i q).1) n' := by
    unfold tvX
    rw [e1, eN, if_pos hi, tell_eq hv' p1 p2 p3 p4 p5 p6]
  rw [et]
  have eo : owT (mTells M j (nI n') n') (M.2.2 1 i) (M.2.2 2 i) (M.2.2 3 i) (M.2.2 4 i) (M.2.2 5 i) < LN (mTells M j (nI n') n') ↔ ¬ btL (fun q => (mRn M i q).1) n' = btL (fun q => (mRn M j q).1) n' := by
    rw [btL_inj hn]
    have q := fmis_iff (rowF M j n') (fun q => (mRn M i q).1 &&& 1) n' 0
    rw [Nat.zero_add] at q
    have e3 : LN (mTells M j (nI n') n') = n' := en
    have e4 : owT (mTells M j (nI n') n') (M.2.2 1 i) (M.2.2 2 i) (M.2.2 3 i) (M.2.2 4 i) (M.2.2 5 i) = fmis (rowF M j n') (fun q => (mRn M i q).1 &&& 1) n' 0 := by
      show fmis (rowF M j n') (fun q => (mRn M i q).1 &&& 1) (nI n').toNatClampNeg 0 = _
      rw [en]
    rw [e3, e4, q]
    refine not_congr ⟨fun w q hq => ?_, fun w q hq => ?_⟩
    · have := w q hq
      rw [Nat.zero_add, rowF_at, if_pos hq] at this
      exact this
    · rw [Nat.zero_add, rowF_at, if_pos hq]
      exact w q hq
  by_cases u : btL (fun q => (mRn M i q).1) n' = btL (fun q => (mRn M j q).1) n'
  · rw [if_pos u, if_neg (fun w => eo.mp w u)]
  · rw [if_neg u, if_pos (eo.mpr u)]
