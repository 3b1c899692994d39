/-! mixes -/
theorem mCor_mx (M : MS) (e n : Int32) (j : Nat) : mCor M (mxS M e n j) := by
  induction j with
  | zero => exact ⟨rfl, rfl, rfl, rfl, ⟨rfl, rfl, rfl, rfl, rfl⟩, rfl, rfl, rfl, rfl, rfl⟩
  | succ j ih =>
    show mCor M (if e >>> (nI j &&& 31) &&& 1 = 1 then mA (mTells (mxS M e n j) j n n.toNatClampNeg) 13 (smA (mTells (mxS M e n j) j n n.toNatClampNeg) n.toNatClampNeg) else mxS M e n j)
    split
    · exact mCor_tr ih ⟨rfl, rfl, rfl, rfl, ⟨rfl, rfl, rfl, rfl, rfl⟩, rfl, rfl, rfl, rfl, rfl⟩
    · exact ih
theorem smA_at (T : MS) (j i : Nat) : smA T j i = if i < j then T.2.2 13 i + T.2.2 11 i else T.2.2 13 i := by
  induction j with
  | zero => rfl
  | succ j ih =>
    show (if i = j then smA T j j + T.2.2 11 j else smA T j i) = _
    by_cases z : i = j
    · subst z
      rw [if_pos rfl, if_pos (by omega), ih, if_neg (by omega)]
    · rw [if_neg z, ih]
      exact ite_c ⟨fun _ => by omega, fun _ => by omega⟩ (fun _ => rfl) (fun _ => rfl)
theorem smZ_at (M : MS) (j i : Nat) (h : i < j) : smZ M j i = 0 := by
  induction j with
  | zero => omega
  | succ j ih =>
    show (if i = j then 0 else smZ M j i) = 0
    by_cases z : i = j
    · rw [if_pos z]
    · rw [if_neg z]; exact ih (by omega)
theorem mRn_cor {M T : MS} (h : mCor M T) (j i : Nat) : mRn T j i = mRn M j i := by
  obtain ⟨_, _, _, _, ⟨e1, e2, e3, e4, e5⟩, _⟩ := h
  unfold mRn
  rw [e1, e2, e3, e4, e5]
theorem mx_s1 (M : MS) (e : Int32) {n i : Nat} (hn : n ≤ 40) (hi : i < n) (j : Nat) : (mxS M e (nI n) (j + 1)).2.2 13 i = if e >>> (nI j &&& 31) &&& 1 = 1 then (mxS M e (nI n) j).2.2 13 i + ((mRn M j i).1 &&& 1) else (mxS M e (nI n) j).2.2 13 i := by
  show (if e >>> (nI j &&& 31) &&& 1 = 1 then mA (mTells (mxS M e (nI n) j) j (nI n) (nI n).toNatClampNeg) 13 (smA (mTells (mxS M e (nI n) j) j (nI n) (nI n).toNatClampNeg) (nI n).toNatClampNeg) else mxS M e (nI n) j).2.2 13 i = _
  by_cases c : e >>> (nI j &&& 31) &&& 1 = 1
  · rw [if_pos c, if_pos c]
    show smA (mTells (mxS M e (nI n) j) j (nI n) (nI n).toNatClampNeg) (nI n).toNatClampNeg i = _
    rw [smA_at, nI_clamp (by omega), if_pos hi]
    show (mxS M e (nI n) j).2.2 13 i + rowF (mxS M e (nI n) j) j n i = _
    rw [rowF_at, if_pos hi, mRn_cor (mCor_mx M e (nI n) j)]
  · rw [if_neg c, if_neg c]
theorem tt_s (f : Nat → Int64) (e x : Int32) (j : Nat) : ttG f e x (j + 1) = if e >>> (nI j &&& 31) &&& 1 = 1 then ttG f e x j + (lbt (f j) x).toInt32 else ttG f e x j := rfl
theorem and1_N (x : Int32) : ∃ u, u < 2 ∧ x &&& 1 = nI u := by
  rcases and1 x with z | z
  · exact ⟨0, by decide, z⟩
  · exact ⟨1, by decide, z⟩
theorem mx_sum {S : XS} {M : MS} (h : Rel S M) (e : Int32) {n i N : Nat} (hn : n ≤ 40) (hi : i < n) (hN : N ≤ 4) (e1 : S.1 1 = nI N) : ∀ m, m ≤ N → ∃ s, s ≤ m ∧ (mxS M e (nI n) m).2.2 13 i = nI s ∧ ttG (tvX S n) e (nI i) m = nI s
  | 0, _ => ⟨0, Nat.le_refl _, by show smZ M (nI n).toNatClampNeg i = 0; rw [nI_clamp (by omega)]; exact smZ_at M n i hi, rfl⟩
  | m + 1, hm => by
    obtain ⟨s, hs, d1, d2⟩ := mx_sum h e hn hi hN e1 m (by omega)
    rw [mx_s1 M e hn hi, tt_s, d1, d2]
    obtain ⟨_, _, _, k, c, t, s', z, hv, q1, q2, q3, q4, q5, q6⟩ := mach_i h e1 hN (show m < N by omega)
    have et : (lbt (tvX S n m) (nI i)).toInt32 = (mRn M m i).1 &&& 1 := by
      unfold tvX
      rw [e1, nI_clamp (by omega), if_pos (by omega), tell_eq hv q1 q2 q3 q4 q5 q6, lbt_bt _ hn hi]
    rw [et]
    by_cases c1 : e >>> (nI m &&& 31) &&& 1 = 1
    · obtain ⟨u, hu, eu⟩ := and1_N (mRn M m i).1
      rw [if_pos c1, eu, nI_add]
      exact ⟨s + u, by omega, rfl, rfl⟩
    · rw [if_neg c1]
      exact ⟨s, by omega, rfl, rfl⟩
theorem tt_more {S : XS} {e : Int32} {n i N : Nat} (hi : i < 64) (hN : N ≤ 4) (e1 : S.1 1 = nI N) : ∀ d, ttG (tvX S n) e (nI i) (N + d) = ttG (tvX S n) e (nI i) N
  | 0 => rfl
  | d + 1 => by
    have t0 : tvX S n (N + d) = 0 := by
      unfold tvX
      rw [e1, nI_clamp (by omega), if_neg (by omega)]
    have z : (lbt 0 (nI i)).toInt32 = 0 := by
      show (us64 (lN 0) (nI i) &&& 1).toInt32 = 0
      rw [us_N (by decide) hi, Nat.zero_div]
      decide
    show ttG (tvX S n) e (nI i) (N + d + 1) = _
    rw [tt_s, t0, z, tt_more hi hN e1 d, Int32.add_zero]
    split <;> rfl
theorem hv_N : ∀ x, x < 9 → nI x >>> (1 &&& 31) = nI (x / 2) ∧ nI x / 2 = nI (x / 2) ∧ nI x - nI x / 2 * 2 = nI x &&& 1 := by decide +kernel
theorem mx_c {T : MS} {f : Nat → Int64} {e w : Int32} {n : Nat} (hs : ∀ i, i < n → ∃ s, s ≤ 4 ∧ T.2.2 13 i = nI s ∧ ttG f e (nI i) 4 = nI s) : ∀ j, j ≤ n → ∃ c, c ≤ 4 ∧ crr T w j = nI c ∧ mxC f e w j = nI c
  | 0, _ => ⟨0, by decide, rfl, rfl⟩
  | j + 1, hj => by
    obtain ⟨c, hc, d1, d2⟩ := mx_c (w := w) hs j (by omega)
    obtain ⟨s, h1, h2, h3⟩ := hs j (by omega)
    have a1 : crr T w (j + 1) = if w = 1 then (T.2.2 13 j + crr T w j) / 2 else 0 := rfl
    have a2 : mxC f e w (j + 1) = if w = 1 then (ttG f e (nI j) 4 + mxC f e w j) >>> (1 &&& 31) else 0 := rfl
    obtain ⟨b1, b2, _⟩ := hv_N (s + c) (by omega)
    rw [a1, a2, d1, d2, h2, h3, nI_add, b1, b2]
    by_cases c1 : w = 1
    · rw [if_pos c1]; exact ⟨(s + c) / 2, by omega, rfl, rfl⟩
    · rw [if_neg c1]; exact ⟨0, by decide, rfl, rfl⟩
theorem mxR_at (T : MS) (w : Int32) (n i : Nat) (h : i < n) : mxR T w n i = (T.2.2 13 i + crr T w i) - (T.2.2 13 i + crr T w i) / 2 * 2 := by
  induction n with
  | zero => omega
  | succ n ih =>
    show (if i = n then (T.2.2 13 n + crr T w n) - (T.2.2 13 n + crr T w n) / 2 * 2 else mxR T w n i) = _
    by_cases z : i = n
    · rw [if_pos z, z]
    · rw [if_neg z]; exact ih (by omega)
theorem mx_row {S : XS} {M : MS} (h : Rel S M) {a n N : Nat} (ha : a < 4) (hn : n ≤ 40) (hN : N ≤ 4) (e1 : S.1 1 = nI N) (e w : Int32) : Rel (rowX S a (mxB (tvX S n) e w n) (nI n)) (mCm (mF (mA (mxS M e (nI n) N) 11 (mxR (mxS M e (nI n) N) w n)) 12 (nI n)) a) := by
  have hs : ∀ i, i < n → ∃ s, s ≤ 4 ∧ (mxS M e (nI n) N).2.2 13 i = nI s ∧ ttG (tvX S n) e (nI i) 4 = nI s := fun i hi => by
    obtain ⟨s, h1, h2, h3⟩ := mx_sum h e hn hi hN e1 N (Nat.le_refl _)
    refine ⟨s, by omega, h2, ?_⟩
    have := tt_more (S := S) (e := e) (n := n) (i := i) (by omega) hN e1 (4 - N)
    rw [show N + (4 - N) = 4 by omega] at this
    rw [this]; exact h3
  have hc : mCor M (mxS M e (nI n) N) := mCor_mx M e (nI n) N
  revert hs hc
  generalize mxS M e (nI n) N = T
  intro hs hc
  have hc2 : mCor M (mF (mA T 11 (mxR T w n)) 12 (nI n)) := mCor_tr hc ⟨rfl, rfl, rfl, rfl, ⟨rfl, rfl, rfl, rfl, rfl⟩, rfl, rfl, rfl, rfl, rfl⟩
  refine r_row h hc2 ha hn rfl (fun i hi => ?_)
  have eb : mxB (tvX S n) e w n = btL (fun i => ttG (tvX S n) e (nI i) 4 + mxC (tvX S n) e w i) n := rfl
  rw [eb, lbt_bt _ hn hi]
  show _ = mxR T w n i
  obtain ⟨c, hc, d1, d2⟩ := mx_c (w := w) hs i (by omega)
  obtain ⟨s, h1, h2, h3⟩ := hs i hi
  rw [mxR_at _ _ _ _ hi, d1, d2, h2, h3, nI_add]
  exact (hv_N (s + c) (by omega)).2.2.symm
theorem r_mix {S S' : XS} {M M' : MS} {a_ e_ n_ w_ : Int32} {v v' : Option Value} (h : Rel S M) (hx : (v = some (.int (if ((0 ≤ a_ ∧ a_ ≤ 3) ∧ (0 ≤ e_ ∧ e_ ≤ 1 <<< (S.1 1 &&& 31) - 1) ∧ (0 ≤ n_ ∧ n_ ≤ 40) ∧ (0 ≤ w_ ∧ w_ ≤ 1)) then n_ else -2)) ∧ xCor (if ((0 ≤ a_ ∧ a_ ≤ 3) ∧ (0 ≤ e_ ∧ e_ ≤ 1 <<< (S.1 1 &&& 31) - 1) ∧ (0 ≤ n_ ∧ n_ ≤ 40) ∧ (0 ≤ w_ ∧ w_ ≤ 1)) then rowX S a_.toNatClampNeg (mxB (tvX S n_.toNatClampNeg) e_ w_ n_.toNatClampNeg) n_ else S) S')) (hm : (v' = (some (.int (if ((0 ≤ a_ ∧ a_ ≤ 3) ∧ (0 ≤ e_ ∧ e_ ≤ (1 <<< (M.1 0 &&& 31)) - 1) ∧ (0 ≤ n_ ∧ n_ ≤ 40) ∧ (0 ≤ w_ ∧ w_ ≤ 1)) then n_ else -2))) ∧ M' = (if ((0 ≤ a_ ∧ a_ ≤ 3) ∧ (0 ≤ e_ ∧ e_ ≤ (1 <<< (M.1 0 &&& 31)) - 1) ∧ (0 ≤ n_ ∧ n_ ≤ 40) ∧ (0 ≤ w_ ∧ w_ ≤ 1)) then mCm (mF (mA (mxS M e_ n_ (M.1 0).toNatClampNeg) 11 (mxR (mxS M e_ n_ (M.1 0).toNatClampNeg) w_ n_.toNatClampNeg)) 12 n_) a_.toNatClampNeg else M))) : v = v' ∧ Rel S' M' := by
  obtain ⟨N, hN, e1, e2, _⟩ := h.1
  have e3 : (M.1 0).toNatClampNeg = N := by rw [e2, nI_clamp (by omega)]
  have e4 : S.1 1 = M.1 0 := by rw [e1, e2]
  rw [e4] at hx
  rw [e3] at hm
  obtain ⟨hm1, hm2⟩ := hm
  obtain ⟨hx1, hx2⟩ := hx
  refine ⟨hx1.trans hm1.symm, ?_⟩
  rw [hm2]
  refine Rel_cor ?_ hx2 (mCor_rfl _)
  refine Rel_ite Iff.rfl (fun g => ?_) (fun _ => h)
  obtain ⟨n, rfl, _, hn⟩ := nI_rng (a := 0) (b := 40) (by decide) g.2.2.1.1 g.2.2.1.2 (by decide)
  rw [nI_clamp (by omega)]
  exact mx_row h (sh_lt g.1) hn hN e1 e_ w_
