theorem rwL_at (f : Nat → Int32) (b : Int64) (n i : Nat) : rwL f b n i = if i < n then (lbt b (nI i)).toInt32 else f i := by
  induction n with
  | zero => rfl
  | succ n ih =>
    show (if i = n then (lbt b (nI n)).toInt32 else rwL f b n i) = _
    by_cases z : i = n
    · rw [if_pos z, if_pos (by omega), z]
    · rw [if_neg z, ih]
      exact ite_c ⟨fun _ => by omega, fun _ => by omega⟩ (fun _ => rfl) (fun _ => rfl)
theorem cmI_at (M : MS) (a : Nat) : ∀ n i, i < n → cmI M a n (40 * a + i) = if M.1 12 ≤ nI i then 0 else M.2.2 11 i
  | 0, i, h => absurd h (Nat.not_lt_zero _)
  | n + 1, i, h => by
    show (if 40 * a + i = 40 * a + n then (if M.1 12 ≤ nI n then 0 else M.2.2 11 n) else cmI M a n (40 * a + i)) = _
    by_cases z : i = n
    · rw [if_pos (by omega), z]
    · rw [if_neg (by omega)]; exact cmI_at M a n i (by omega)
theorem cmI_o (M : MS) (a q : Nat) : ∀ n, (q < 40 * a ∨ 40 * a + n ≤ q) → cmI M a n q = M.2.2 34 q
  | 0, _ => rfl
  | n + 1, h => by
    show (if q = 40 * a + n then _ else cmI M a n q) = _
    rw [if_neg (by omega)]
    exact cmI_o M a q n (by omega)
/-- a row laid into a sheet -/
theorem r_row {S : XS} {M M2 : MS} (h : Rel S M) (hm : mCor M M2) {a n : Nat} (ha : a < 4) (hn : n ≤ 40) (e12 : M2.1 12 = nI n) {b : Int64} (hb : ∀ i, i < n → (lbt b (nI i)).toInt32 = M2.2.2 11 i) : Rel (rowX S a b (nI n)) (mCm M2 a) := by
  have h2 : Rel S M2 := Rel_cor h (xCor_rfl S) hm
  unfold rowX mCm
  obtain ⟨r1, r2, r3⟩ := RMIT_s h2 ha 0 (nI n) (rwL (xZr (S.2.2.1 (20 + a)) 40) b (nI n).toNatClampNeg) (upd (M2.2.2 32) a 0) (upd (M2.2.2 33) a (M2.1 12)) (cmI M2 a 40)
  refine RS_up h2 ha r1 r2 r3 ?_ ?_
  · have q : ∀ j, j < 40 → rwL (xZr (S.2.2.1 (20 + a)) 40) b (nI n).toNatClampNeg j = cmI M2 a 40 (40 * a + j) := fun j hj => by
      rw [cmI_at M2 a 40 j hj, rwL_at, nI_clamp (by omega), e12]
      by_cases z : j < n
      · rw [if_pos z, if_neg (fun q => absurd ((nI_leI (by omega) (by omega)).mp q) (by omega))]
        exact hb j z
      · rw [if_neg z, if_pos (nI_le (by omega) (by omega))]
        exact xZr_at _ 40 j hj
    have e3 : upd (M2.2.2 33) a (M2.1 12) a = nI n := (if_pos rfl).trans e12
    rcases l4 ha with rfl | rfl | rfl | rfl <;> exact ⟨rfl, e3.symm, Or.inr (Or.inl rfl), ⟨n, hn, e3⟩, q⟩
  · intro b' hb' ne
    refine ⟨?_, ?_, if_neg ne, if_neg ne, ?_, fun j hj => cmI_o M2 a _ 40 (by omega)⟩
    · show (if 10 + b' = 20 + a then _ else if 10 + b' = 10 + a then _ else S.1 (10 + b')) = _
      rw [if_neg (by omega), if_neg (by omega)]
    · show (if 20 + b' = 20 + a then _ else if 20 + b' = 10 + a then _ else S.1 (20 + b')) = _
      rw [if_neg (by omega), if_neg (by omega)]
    · show (if 20 + b' = 20 + a then _ else S.2.2.1 (20 + b')) = _
      rw [if_neg (by omega)]
theorem lN_01 : ∀ x, x < 2 → (lN x).toInt32 = nI x := by decide +kernel
theorem lbt_bt (F : Nat → Int32) {n i : Nat} (hn : n ≤ 40) (hi : i < n) : (lbt (btL F n) (nI i)).toInt32 = F i &&& 1 := by
  rw [rwX_l F hn (by omega), rwX_at F hi]
  refine lN_01 _ ?_
  unfold tb
  omega
theorem r_film {S S' : XS} {M : MS} (h : Rel S M) (a_ m_ n_ : Int32) (hx : xCor (if ((0 ≤ a_ ∧ a_ ≤ 3) ∧ (0 ≤ m_ ∧ m_ < S.1 1) ∧ (0 ≤ n_ ∧ n_ ≤ 40)) then rowX S a_.toNatClampNeg (tlL (kc (mfo S (xAd S m_) 0)) (gT S (xAd S m_)) n_.toNatClampNeg) n_ else S) S') : (if ((0 ≤ a_ ∧ a_ ≤ 3) ∧ (0 ≤ m_ ∧ m_ < S.1 1) ∧ (0 ≤ n_ ∧ n_ ≤ 40)) then n_ else -2) = (if ((0 ≤ a_ ∧ a_ ≤ 3) ∧ (0 ≤ m_ ∧ m_ ≤ M.1 0 - 1) ∧ (0 ≤ n_ ∧ n_ ≤ 40)) then n_ else -2) ∧ Rel S' (if ((0 ≤ a_ ∧ a_ ≤ 3) ∧ (0 ≤ m_ ∧ m_ ≤ M.1 0 - 1) ∧ (0 ≤ n_ ∧ n_ ≤ 40)) then mCm (mTells M m_.toNatClampNeg n_ n_.toNatClampNeg) a_.toNatClampNeg else M) := by
  have iff1 : ((0 ≤ a_ ∧ a_ ≤ 3) ∧ (0 ≤ m_ ∧ m_ < S.1 1) ∧ (0 ≤ n_ ∧ n_ ≤ 40)) ↔ ((0 ≤ a_ ∧ a_ ≤ 3) ∧ (0 ≤ m_ ∧ m_ ≤ M.1 0 - 1) ∧ (0 ≤ n_ ∧ n_ ≤ 40)) := ⟨fun q => ⟨q.1, (grd h m_).mp q.2.1, q.2.2⟩, fun q => ⟨q.1, (grd h m_).mpr q.2.1, q.2.2⟩⟩
  refine ⟨ite_c iff1 (fun _ => rfl) (fun _ => rfl), ?_⟩
  refine Rel_cor (Rel_ite iff1 (fun g => ?_) (fun _ => h)) hx (mCor_rfl _)
  obtain ⟨_, j, _, _, _, _, _, ec, _, _, _, k, c, t, s, z, hv, q1, q2, q3, q4, q5, q6⟩ := rel_at h ((grd h m_).mpr g.2.1)
  obtain ⟨n', rfl, _, hn⟩ := nI_rng (a := 0) (b := 40) (by decide) g.2.2.1 g.2.2.2 (by decide)
  rw [nI_clamp (by omega), tell_eq hv q1 q2 q3 q4 q5 q6, ec]
  refine r_row h (mCor_tells M j _ _) (sh_lt g.1) hn rfl (fun i hi => ?_)
  rw [lbt_bt _ hn hi]
  show _ = rowF M j n' i
  rw [rowF_at, if_pos hi]
