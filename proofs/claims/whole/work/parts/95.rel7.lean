theorem bk_at (M : MS) : ∀ i, i < 4 → (bkS M 5).2.2 1 i = M.2.2 31 i ∧ (bkS M 5).2.2 2 i = M.2.2 31 (4 + i) ∧ (bkS M 5).2.2 3 i = M.2.2 31 (8 + i) ∧ (bkS M 5).2.2 4 i = M.2.2 31 (12 + i) ∧ (bkS M 5).2.2 5 i = M.2.2 31 (16 + i) := by
  intro i hi
  rcases l4 hi with rfl | rfl | rfl | rfl <;> exact ⟨rfl, rfl, rfl, rfl, rfl⟩
theorem bk_k (M : MS) : (∀ i, i ≠ 0 → (bkS M 5).1 i = M.1 i) ∧ (bkS M 5).1 0 = M.1 30 ∧ ∀ j, 5 < j → (bkS M 5).2.2 j = M.2.2 j := by
  refine ⟨fun i hi => if_neg hi, rfl, fun j hj => ?_⟩
  show (if j = 5 then _ else if j = 4 then _ else if j = 3 then _ else if j = 2 then _ else if j = 1 then _ else M.2.2 j) = _
  rw [if_neg (by omega), if_neg (by omega), if_neg (by omega), if_neg (by omega), if_neg (by omega)]
theorem r_back {S S' : XS} {M : MS} (h : Rel S M) (hb : (S.1 3 = -1 ∧ S' = S) ∨ (¬ S.1 3 = -1 ∧ backX S S')) : (if S.1 3 = -1 then -3 else S.1 3) = (if M.1 29 = 0 then -3 else M.1 30) ∧ Rel S' (if M.1 29 = 0 then M else bkS M 5) := by
  rcases h.2.1 with ⟨i1, i2⟩ | ⟨i1, n, hn, i2, i3, i4⟩
  · rw [if_pos i1, if_pos i2, if_pos i2]
    rcases hb with ⟨_, rfl⟩ | ⟨q, _⟩
    · exact ⟨rfl, h⟩
    · exact absurd i1 q
  · have ne : ¬ S.1 3 = -1 := by rw [i2]; exact nI_m1 (by omega)
    rw [if_neg ne, if_neg i1, if_neg i1]
    rcases hb with ⟨q, _⟩ | ⟨_, U, ⟨⟨u1, u2, u3, u4⟩, u5, u6⟩, rfl⟩
    · exact absurd q ne
    · refine ⟨i2.trans i3.symm, Rel_of h ?_ (fun i hi => (if_neg hi).trans (congrFun u1 i)) u3 (fun i hi _ => (bk_k M).1 i hi) (bk_k M).2.2⟩
      have hlt : ∀ i, i < n → nI i < S.1 3 := fun i hi => by rw [i2]; exact nI_lt hi (by omega)
      refine ⟨n, hn, i2, (bk_k M).2.1.trans i3, fun i => (U.2.2.2.2.1 i).getD 0, fun i hi => ?_, fun i hi j hj e => ?_⟩
      · obtain ⟨q, r1, r2, r3, r4⟩ := (u5 i (by omega)).1 (hlt i hi)
        obtain ⟨k, c, t, s, z, hv, a1, a2, a3, a4, a5, b1, b2, b3, b4, b5⟩ := i4 i hi
        obtain ⟨d1, d2, d3, d4, d5⟩ := bk_at M i (by omega)
        show machR _ _ i ((U.2.2.2.2.1 i).getD 0)
        rw [r1]
        refine ⟨r1, r2, ?_, k, c, t, s, z, hv, d1.trans b1, d2.trans b2, d3.trans b3, d4.trans b4, d5.trans b5, ?_⟩
        · rw [d1, b1]
          exact r3.trans (by unfold igC; rw [a1])
        · exact r4.trans (by unfold igG; rw [a1, a2, a3, a4, a5])
      · by_cases z : i = j
        · exact z
        · obtain ⟨q, r1, _⟩ := (u5 i (by omega)).1 (hlt i hi)
          obtain ⟨q', r1', _⟩ := (u5 j (by omega)).1 (hlt j hj)
          have e : (U.2.2.2.2.1 i).getD 0 = (U.2.2.2.2.1 j).getD 0 := e
          rw [r1, r1'] at e
          have e : q = q' := e
          exact absurd (by rw [r1, r1', e]) (u6 i j (by omega) (by omega) (hlt i hi) (hlt j hj) z)
theorem xZr_at (f : Nat → Int32) : ∀ n j, j < n → xZr f n j = 0
  | 0, j, h => absurd h (Nat.not_lt_zero _)
  | n + 1, j, h => by
    show (if j = n then 0 else xZr f n j) = 0
    by_cases z : j = n
    · exact if_pos z
    · rw [if_neg z]; exact xZr_at f n j (by omega)
theorem shZ_at (M : MS) (a : Nat) : ∀ n j, j < n → shZ M a n (40 * a + j) = 0
  | 0, j, h => absurd h (Nat.not_lt_zero _)
  | n + 1, j, h => by
    show (if 40 * a + j = 40 * a + n then 0 else shZ M a n (40 * a + j)) = 0
    by_cases z : j = n
    · exact if_pos (by rw [z])
    · rw [if_neg (by omega)]; exact shZ_at M a n j (by omega)
theorem shZ_o (M : MS) (a q : Nat) : ∀ n, (q < 40 * a ∨ 40 * a + n ≤ q) → shZ M a n q = M.2.2 34 q
  | 0, _ => rfl
  | n + 1, h => by
    show (if q = 40 * a + n then 0 else shZ M a n q) = _
    rw [if_neg (by omega)]
    exact shZ_o M a q n (by omega)
/-- a sheet changed in its place -/
theorem RS_up {S S' : XS} {M M' : MS} (h : Rel S M) {a : Nat} (ha : a < 4) (hM : RM S' M') (hI : RI S' M') (hT : RT S' M') (hs : S'.1 (10 + a) = M'.2.2 32 a ∧ S'.1 (20 + a) = M'.2.2 33 a ∧ (M'.2.2 32 a = -1 ∨ M'.2.2 32 a = 0 ∨ M'.2.2 32 a = 1) ∧ (∃ n, n ≤ 40 ∧ M'.2.2 33 a = nI n) ∧ ∀ j, j < 40 → S'.2.2.1 (20 + a) j = M'.2.2 34 (40 * a + j)) (ho : ∀ b, b < 4 → b ≠ a → S'.1 (10 + b) = S.1 (10 + b) ∧ S'.1 (20 + b) = S.1 (20 + b) ∧ M'.2.2 32 b = M.2.2 32 b ∧ M'.2.2 33 b = M.2.2 33 b ∧ S'.2.2.1 (20 + b) = S.2.2.1 (20 + b) ∧ ∀ j, j < 40 → M'.2.2 34 (40 * b + j) = M.2.2 34 (40 * b + j)) : Rel S' M' := by
  refine ⟨hM, hI, fun b hb => ?_, hT⟩
  by_cases z : b = a
  · subst z; exact hs
  · obtain ⟨o1, o2, o3, o4, o5, o6⟩ := ho b hb z
    obtain ⟨h1, h2, h3, h4, h5⟩ := h.2.2.1 b hb
    rw [o1, o2, o3, o4, o5]
    exact ⟨h1, h2, h3, h4, fun j hj => (h5 j hj).trans (o6 j hj).symm⟩
theorem RMIT_s {S : XS} {M : MS} (h : Rel S M) {a : Nat} (ha : a < 4) (x y : Int32) (f : Nat → Int32) (g1 g2 g3 : Nat → Int32) : RM (xA (xF (xF S (10 + a) x) (20 + a) y) (20 + a) f) (mA (mA (mA M 32 g1) 33 g2) 34 g3) ∧ RI (xA (xF (xF S (10 + a) x) (20 + a) y) (20 + a) f) (mA (mA (mA M 32 g1) 33 g2) 34 g3) ∧ RT (xA (xF (xF S (10 + a) x) (20 + a) y) (20 + a) f) (mA (mA (mA M 32 g1) 33 g2) 34 g3) := by
  rcases l4 ha with rfl | rfl | rfl | rfl <;> exact ⟨h.1, h.2.1, h.2.2.2⟩
