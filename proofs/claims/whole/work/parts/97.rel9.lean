theorem RMIT_1 {S : XS} {M : MS} (h : Rel S M) {a : Nat} (ha : a < 4) (f g : Nat → Int32) : RM (xA S (20 + a) f) (mA M 34 g) ∧ RI (xA S (20 + a) f) (mA M 34 g) ∧ RT (xA S (20 + a) f) (mA M 34 g) := by
  rcases l4 ha with rfl | rfl | rfl | rfl <;> exact ⟨h.1, h.2.1, h.2.2.2⟩
/-- the numbers of a sheet changed -/
theorem RS_it {S : XS} {M : MS} (h : Rel S M) {a : Nat} (ha : a < 4) {f g : Nat → Int32} (hs : ∀ j, j < 40 → f j = g (40 * a + j)) (ho : ∀ b, b < 4 → b ≠ a → ∀ j, j < 40 → g (40 * b + j) = M.2.2 34 (40 * b + j)) : Rel (xA S (20 + a) f) (mA M 34 g) := by
  obtain ⟨r1, r2, r3⟩ := RMIT_1 h ha f g
  obtain ⟨h1, h2, h3, h4, h5⟩ := h.2.2.1 a ha
  refine RS_up h ha r1 r2 r3 ⟨h1, h2, h3, h4, ?_⟩ ?_
  · intro j hj
    rw [show (xA S (20 + a) f).2.2.1 (20 + a) = f from if_pos rfl]
    exact hs j hj
  · intro b hb ne
    exact ⟨rfl, rfl, rfl, rfl, if_neg (by omega), ho b hb ne⟩
theorem so_iff {x : Int32} (h : x = -1 ∨ x = 0 ∨ x = 1) : ¬ 0 ≤ x ↔ x = -1 := by
  rcases h with rfl | rfl | rfl <;> decide
theorem r_put {S : XS} {M : MS} (h : Rel S M) (a i v : Int32) : (if (0 ≤ a ∧ a ≤ 3) then (if S.1 (10 + a.toNatClampNeg) = -1 then -11 else if (¬ lg_cmp (Int32.toInt64 i) 0 < 0 ∧ ¬ lg_cmp 1 0 < 0 ∧ ¬ 0 < lg_cmp (Int32.toInt64 i + 1) (Int32.toInt64 (S.1 (20 + a.toNatClampNeg))) ∧ ¬ 40 < (S.1 (20 + a.toNatClampNeg))) then 1 else -12) else -2 : Int32) = (if (0 ≤ a ∧ a ≤ 3) then (if ¬ 0 ≤ M.2.2 32 a.toNatClampNeg then -11 else if (0 ≤ i ∧ i ≤ M.2.2 33 a.toNatClampNeg - 1) then 1 else -12) else -2) ∧ Rel (if (0 ≤ a ∧ a ≤ 3) ∧ ¬ S.1 (10 + a.toNatClampNeg) = -1 ∧ (¬ lg_cmp (Int32.toInt64 i) 0 < 0 ∧ ¬ lg_cmp 1 0 < 0 ∧ ¬ 0 < lg_cmp (Int32.toInt64 i + 1) (Int32.toInt64 (S.1 (20 + a.toNatClampNeg))) ∧ ¬ 40 < (S.1 (20 + a.toNatClampNeg))) then xA S (20 + a.toNatClampNeg) (upd (S.2.2.1 (20 + a.toNatClampNeg)) i.toNatClampNeg (if S.1 (10 + a.toNatClampNeg) = 0 then (Int32.toInt16 v).toInt32 else v)) else S) (if (0 ≤ a ∧ a ≤ 3) ∧ 0 ≤ M.2.2 32 a.toNatClampNeg ∧ (0 ≤ i ∧ i ≤ M.2.2 33 a.toNatClampNeg - 1) then mA M 34 (upd (M.2.2 34) (40 * a.toNatClampNeg + i.toNatClampNeg) (if M.2.2 32 a.toNatClampNeg = 0 then v.toInt16.toInt32 else v)) else M) := by
  by_cases g : 0 ≤ a ∧ a ≤ 3
  · obtain ⟨j, _, ej, hj⟩ := sh4 g
    obtain ⟨h1, h2, h3, ⟨m, hm, h4⟩, h5⟩ := h.2.2.1 j hj
    have hs := so_iff h3
    have hh : (¬ lg_cmp (Int32.toInt64 i) 0 < 0 ∧ ¬ lg_cmp 1 0 < 0 ∧ ¬ 0 < lg_cmp (Int32.toInt64 i + 1) (Int32.toInt64 (nI m)) ∧ ¬ 40 < nI m) ↔ (0 ≤ i ∧ i ≤ nI m - 1) := by
      have q := has_n (i := i) (n := 1) hm
      exact ⟨fun z => ⟨Int32.not_lt.mp (q.mp z).1, Int32.not_lt.mp (q.mp z).2.2⟩, fun z => q.mpr ⟨Int32.not_lt.mpr z.1, by decide, Int32.not_lt.mpr z.2⟩⟩
    rw [if_pos g, if_pos g, ej, h1, h2, h4]
    by_cases s : M.2.2 32 j = -1
    · have s' := hs.mpr s
      have o1 : ¬ ((0 ≤ a ∧ a ≤ 3) ∧ ¬ M.2.2 32 j = -1 ∧ (¬ lg_cmp (Int32.toInt64 i) 0 < 0 ∧ ¬ lg_cmp 1 0 < 0 ∧ ¬ 0 < lg_cmp (Int32.toInt64 i + 1) (Int32.toInt64 (nI m)) ∧ ¬ 40 < nI m)) := fun q => q.2.1 s
      have o2 : ¬ ((0 ≤ a ∧ a ≤ 3) ∧ 0 ≤ M.2.2 32 j ∧ (0 ≤ i ∧ i ≤ nI m - 1)) := fun q => s' q.2.1
      rw [if_pos s, if_pos s', if_neg o1, if_neg o2]
      exact ⟨rfl, h⟩
    · have s' : ¬ ¬ 0 ≤ M.2.2 32 j := fun q => s (hs.mp q)
      rw [if_neg s, if_neg s']
      by_cases o : 0 ≤ i ∧ i ≤ nI m - 1
      · have o' := hh.mpr o
        rw [if_pos o', if_pos o, if_pos (And.intro g (And.intro s o')), if_pos (And.intro g (And.intro (Decidable.not_not.mp s') o))]
        refine ⟨rfl, RS_it h hj (fun q hq => ?_) (fun b hb ne q hq => ?_)⟩
        · show (if q = i.toNatClampNeg then _ else S.2.2.1 (20 + j) q) = (if 40 * j + q = 40 * j + i.toNatClampNeg then _ else M.2.2 34 (40 * j + q))
          by_cases e : q = i.toNatClampNeg
          · rw [if_pos e, if_pos (show 40 * j + q = 40 * j + i.toNatClampNeg by rw [e])]
          · rw [if_neg e, if_neg (by omega)]
            exact h5 q hq
        · show (if 40 * b + q = 40 * j + i.toNatClampNeg then _ else M.2.2 34 (40 * b + q)) = _
          have hi : i.toNatClampNeg < 40 := by
            obtain ⟨z, hz, rfl⟩ := nI_of (Int32.not_lt.mpr o.1)
            have q2 := (has_n (i := nI z) (n := 1) hm).mp o'
            rw [nI_clamp (by omega)]
            have q3 := o.2
            rw [Int32.le_iff_toInt_le, nI_toInt (by omega), Int32.toInt_sub, nI_toInt (by omega), show (1 : Int32).toInt = 1 from rfl, Int.bmod_eq_of_le (by omega) (by omega)] at q3
            omega
          rw [if_neg (by omega)]
      · have o' := fun q => o (hh.mp q)
        have o1 : ¬ ((0 ≤ a ∧ a ≤ 3) ∧ ¬ M.2.2 32 j = -1 ∧ (¬ lg_cmp (Int32.toInt64 i) 0 < 0 ∧ ¬ lg_cmp 1 0 < 0 ∧ ¬ 0 < lg_cmp (Int32.toInt64 i + 1) (Int32.toInt64 (nI m)) ∧ ¬ 40 < nI m)) := fun q => o' q.2.2
        have o2 : ¬ ((0 ≤ a ∧ a ≤ 3) ∧ 0 ≤ M.2.2 32 j ∧ (0 ≤ i ∧ i ≤ nI m - 1)) := fun q => o q.2.2
        rw [if_neg o', if_neg o, if_neg o1, if_neg o2]
        exact ⟨rfl, h⟩
  · have o1 : ¬ ((0 ≤ a ∧ a ≤ 3) ∧ ¬ S.1 (10 + a.toNatClampNeg) = -1 ∧ (¬ lg_cmp (Int32.toInt64 i) 0 < 0 ∧ ¬ lg_cmp 1 0 < 0 ∧ ¬ 0 < lg_cmp (Int32.toInt64 i + 1) (Int32.toInt64 (S.1 (20 + a.toNatClampNeg))) ∧ ¬ 40 < (S.1 (20 + a.toNatClampNeg)))) := fun q => g q.1
    have o2 : ¬ ((0 ≤ a ∧ a ≤ 3) ∧ 0 ≤ M.2.2 32 a.toNatClampNeg ∧ (0 ≤ i ∧ i ≤ M.2.2 33 a.toNatClampNeg - 1)) := fun q => g q.1
    rw [if_neg g, if_neg g, if_neg o1, if_neg o2]
    exact ⟨rfl, h⟩
