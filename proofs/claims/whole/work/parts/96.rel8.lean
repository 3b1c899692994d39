theorem b3_of {b : Int32} (h : -1 ≤ b ∧ b ≤ 1) : b = -1 ∨ b = 0 ∨ b = 1 := by
  have h1 := Int32.le_iff_toInt_le.mp h.1
  have h2 := Int32.le_iff_toInt_le.mp h.2
  rw [show (-1 : Int32).toInt = -1 from rfl] at h1
  rw [show (1 : Int32).toInt = 1 from rfl] at h2
  rcases (show b.toInt = -1 ∨ b.toInt = 0 ∨ b.toInt = 1 by omega) with e | e | e
  · exact Or.inl (Int32.toInt_inj.mp e)
  · exact Or.inr (Or.inl (Int32.toInt_inj.mp e))
  · exact Or.inr (Or.inr (Int32.toInt_inj.mp e))
theorem sh4 {a : Int32} (h : 0 ≤ a ∧ a ≤ 3) : ∃ j, a = nI j ∧ a.toNatClampNeg = j ∧ j < 4 := by
  obtain ⟨j, rfl, _, hj⟩ := nI_rng (a := 0) (b := 3) (by decide) h.1 h.2 (by decide)
  exact ⟨j, rfl, nI_clamp (by omega), by omega⟩
theorem r_sh1 {S : XS} {M : MS} (h : Rel S M) {a z : Nat} (ha : a < 4) (hz : z ≤ 40) {b : Int32} (hb : b = -1 ∨ b = 0 ∨ b = 1) : Rel (xA (xF (xF S (10 + a) b) (20 + a) (nI z)) (20 + a) (xZr (S.2.2.1 (20 + a)) 40)) (mA (mA (mA M 32 (upd (M.2.2 32) a b)) 33 (upd (M.2.2 33) a (nI z))) 34 (shZ M a 40)) := by
  obtain ⟨r1, r2, r3⟩ := RMIT_s h ha b (nI z) (xZr (S.2.2.1 (20 + a)) 40) (upd (M.2.2 32) a b) (upd (M.2.2 33) a (nI z)) (shZ M a 40)
  refine RS_up h ha r1 r2 r3 ?_ ?_
  · have q : ∀ j, j < 40 → xZr (S.2.2.1 (20 + a)) 40 j = shZ M a 40 (40 * a + j) := fun j hj => (xZr_at _ 40 j hj).trans (shZ_at M a 40 j hj).symm
    rcases l4 ha with rfl | rfl | rfl | rfl <;> exact ⟨rfl, rfl, hb, ⟨z, hz, rfl⟩, q⟩
  · intro b' hb' ne
    have q : ∀ j, j < 40 → shZ M a 40 (40 * b' + j) = M.2.2 34 (40 * b' + j) := fun j hj => shZ_o M a _ 40 (by omega)
    refine ⟨?_, ?_, if_neg ne, if_neg ne, ?_, q⟩
    · show (if 10 + b' = 20 + a then _ else if 10 + b' = 10 + a then _ else S.1 (10 + b')) = _
      rw [if_neg (by omega), if_neg (by omega)]
    · show (if 20 + b' = 20 + a then _ else if 20 + b' = 10 + a then _ else S.1 (20 + b')) = _
      rw [if_neg (by omega), if_neg (by omega)]
    · show (if 20 + b' = 20 + a then _ else S.2.2.1 (20 + b')) = _
      rw [if_neg (by omega)]
theorem r_sheet {S : XS} {M : MS} (h : Rel S M) (a b n : Int32) : (if ((0 ≤ a ∧ a ≤ 3) ∧ (-1 ≤ b ∧ b ≤ 1)) then (if b = -1 then 1 else if n ≤ 40 then (if 0 ≤ n then 1 else -14) else -2) else -2 : Int32) = (if ((0 ≤ a ∧ a ≤ 3) ∧ (-1 ≤ b ∧ b ≤ 1) ∧ (b < 0 ∨ n ≤ 40)) then (if b < 0 ∨ 0 ≤ n then 1 else -14) else -2) ∧ Rel (if ((0 ≤ a ∧ a ≤ 3) ∧ (-1 ≤ b ∧ b ≤ 1)) then (if b = -1 then xA (xF (xF S (10 + a.toNatClampNeg) (-1)) (20 + a.toNatClampNeg) (if 40 < (0 : Int32) then 40 else 0)) (20 + a.toNatClampNeg) (xZr (S.2.2.1 (20 + a.toNatClampNeg)) 40) else if n ≤ 40 ∧ 0 ≤ n then xA (xF (xF S (10 + a.toNatClampNeg) b) (20 + a.toNatClampNeg) (if 40 < n then 40 else n)) (20 + a.toNatClampNeg) (xZr (S.2.2.1 (20 + a.toNatClampNeg)) 40) else S) else S) (if ((0 ≤ a ∧ a ≤ 3) ∧ (-1 ≤ b ∧ b ≤ 1) ∧ (b < 0 ∨ n ≤ 40)) ∧ (b < 0 ∨ 0 ≤ n) then mA (mA (mA M 32 (upd (M.2.2 32) a.toNatClampNeg b)) 33 (upd (M.2.2 33) a.toNatClampNeg (if 0 ≤ b then n else 0))) 34 (shZ M a.toNatClampNeg 40) else M) := by
  by_cases g : (0 ≤ a ∧ a ≤ 3) ∧ (-1 ≤ b ∧ b ≤ 1)
  · obtain ⟨j, _, ej, hj⟩ := sh4 g.1
    rw [if_pos g, if_pos g, ej]
    by_cases bm : b = -1
    · have b0 : b < 0 := by rw [bm]; decide
      have G3 : (0 ≤ a ∧ a ≤ 3) ∧ (-1 ≤ b ∧ b ≤ 1) ∧ (b < 0 ∨ n ≤ 40) := ⟨g.1, g.2, Or.inl b0⟩
      have O1 : b < 0 ∨ 0 ≤ n := Or.inl b0
      have nb : ¬ 0 ≤ b := by rw [bm]; decide
      have z4 : ¬ (40 : Int32) < 0 := by decide
      rw [if_pos bm, if_pos bm, if_pos G3, if_pos O1, if_pos (And.intro G3 O1), if_neg nb, if_neg z4, bm]
      exact ⟨rfl, r_sh1 h hj (Nat.zero_le 40) (Or.inl rfl)⟩
    · have b0 : ¬ b < 0 := by
        rcases b3_of g.2 with e | e | e
        · exact absurd e bm
        · rw [e]; decide
        · rw [e]; decide
      have nb : 0 ≤ b := Int32.not_lt.mp b0
      rw [if_neg bm, if_neg bm, if_pos nb]
      by_cases n4 : n ≤ 40
      · have G3 : (0 ≤ a ∧ a ≤ 3) ∧ (-1 ≤ b ∧ b ≤ 1) ∧ (b < 0 ∨ n ≤ 40) := ⟨g.1, g.2, Or.inr n4⟩
        rw [if_pos n4, if_pos G3]
        by_cases n0 : 0 ≤ n
        · have O1 : b < 0 ∨ 0 ≤ n := Or.inr n0
          have n5' : ¬ 40 < n := Int32.not_lt.mpr n4
          rw [if_pos n0, if_pos O1, if_pos (And.intro n4 n0), if_pos (And.intro G3 O1), if_neg n5']
          obtain ⟨z, rfl, _, hz⟩ := nI_rng (a := 0) (b := 40) (by decide) n0 n4 (by decide)
          exact ⟨rfl, r_sh1 h hj hz (b3_of g.2)⟩
        · have O1 : ¬ (b < 0 ∨ 0 ≤ n) := fun q => q.elim b0 n0
          have O2 : ¬ (n ≤ 40 ∧ 0 ≤ n) := fun q => n0 q.2
          have O3 : ¬ (((0 ≤ a ∧ a ≤ 3) ∧ (-1 ≤ b ∧ b ≤ 1) ∧ (b < 0 ∨ n ≤ 40)) ∧ (b < 0 ∨ 0 ≤ n)) := fun q => O1 q.2
          rw [if_neg n0, if_neg O1, if_neg O2, if_neg O3]
          exact ⟨rfl, h⟩
      · have G3 : ¬ ((0 ≤ a ∧ a ≤ 3) ∧ (-1 ≤ b ∧ b ≤ 1) ∧ (b < 0 ∨ n ≤ 40)) := fun q => q.2.2.elim b0 n4
        have O2 : ¬ (n ≤ 40 ∧ 0 ≤ n) := fun q => n4 q.1
        have O3 : ¬ (((0 ≤ a ∧ a ≤ 3) ∧ (-1 ≤ b ∧ b ≤ 1) ∧ (b < 0 ∨ n ≤ 40)) ∧ (b < 0 ∨ 0 ≤ n)) := fun q => G3 q.1
        rw [if_neg n4, if_neg G3, if_neg O2, if_neg O3]
        exact ⟨rfl, h⟩
  · rw [if_neg g, if_neg g, if_neg (fun q => g ⟨q.1, q.2.1⟩), if_neg (fun q => g ⟨q.1.1, q.1.2.1⟩)]
    exact ⟨rfl, h⟩
theorem has_n {i n : Int32} {m : Nat} (hm : m ≤ 40) : (¬ lg_cmp (Int32.toInt64 i) 0 < 0 ∧ ¬ lg_cmp (Int32.toInt64 n) 0 < 0 ∧ ¬ 0 < lg_cmp (Int32.toInt64 i + Int32.toInt64 n) (Int32.toInt64 (nI m)) ∧ ¬ 40 < nI m) ↔ (¬ i < 0 ∧ ¬ n < 0 ∧ ¬ nI m - n < i) := by
  have b1 := i.toInt_lt
  have b2 := i.le_toInt
  have b3 := n.toInt_lt
  have b4 := n.le_toInt
  have em : (nI m).toInt = (m : Int) := nI_toInt (by omega)
  have A1 : ∀ x : Int32, lg_cmp (Int32.toInt64 x) 0 < 0 ↔ x.toInt < 0 := fun x => by
    rw [lg_cmp_lt, Int64.lt_iff_toInt_lt, Int32.toInt_toInt64]; exact Iff.rfl
  have A3 : 0 < lg_cmp (Int32.toInt64 i + Int32.toInt64 n) (Int32.toInt64 (nI m)) ↔ (m : Int) < i.toInt + n.toInt := by
    rw [lg_cmp_gt, Int64.lt_iff_toInt_lt, Int64.toInt_add, Int32.toInt_toInt64, Int32.toInt_toInt64, Int32.toInt_toInt64, em, Int.bmod_eq_of_le (by omega) (by omega)]
  have A4 : ¬ (40 : Int32) < nI m := by
    rw [Int32.lt_iff_toInt_lt, em, show (40 : Int32).toInt = 40 from rfl]; omega
  have B1 : ∀ x : Int32, x < 0 ↔ x.toInt < 0 := fun x => by rw [Int32.lt_iff_toInt_lt]; exact Iff.rfl
  rw [A1, A1, A3, B1, B1]
  by_cases z : n.toInt < 0
  · exact ⟨fun q => absurd z q.2.1, fun q => absurd z q.2.1⟩
  · have B3 : nI m - n < i ↔ (m : Int) - n.toInt < i.toInt := by
      rw [Int32.lt_iff_toInt_lt, Int32.toInt_sub, em, Int.bmod_eq_of_le (by omega) (by omega)]
    rw [B3]
    exact ⟨fun q => ⟨q.1, q.2.1, by omega⟩, fun q => ⟨q.1, q.2.1, by omega, A4⟩⟩
