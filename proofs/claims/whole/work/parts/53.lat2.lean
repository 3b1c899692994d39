/-! lattices -/
def ltQ (N M p q : Int) : Prop := M ∣ N * q - p
def basQ (N M p q r s : Int) : Prop := ltQ N M p q ∧ ltQ N M r s ∧ (p * s - q * r = M ∨ p * s - q * r = -M)
theorem bas_comb {N M p q r s x y : Int} (hM : 0 < M) (h : basQ N M p q r s) (hx : ltQ N M x y) : ∃ a b, x = a * p + b * r ∧ y = a * q + b * s := by
  obtain ⟨⟨k3, e3⟩, ⟨k2, e2⟩, hd⟩ := h
  obtain ⟨k1, e1⟩ := hx
  have hM0 : M ≠ 0 := by omega
  rcases hd with hd | hd
  · refine ⟨y * k2 - k1 * s, q * k1 - k3 * y, ?_, ?_⟩
    · refine Int.eq_of_mul_eq_mul_left hM0 ?_
      grind
    · refine Int.eq_of_mul_eq_mul_left hM0 ?_
      grind
  · refine ⟨-(y * k2 - k1 * s), -(q * k1 - k3 * y), ?_, ?_⟩
    · refine Int.eq_of_mul_eq_mul_left hM0 ?_
      grind
    · refine Int.eq_of_mul_eq_mul_left hM0 ?_
      grind
theorem sq_le {x m : Int} (h1 : -m ≤ x) (h2 : x ≤ m) : x * x ≤ m * m := by
  have := Int.mul_nonneg (show 0 ≤ m - x by omega) (show 0 ≤ m + x by omega)
  grind
theorem sq_nn (x : Int) : 0 ≤ x * x := by
  rcases Int.le_total 0 x with h | h
  · exact Int.mul_nonneg h h
  · have := Int.mul_nonneg (show 0 ≤ -x by omega) (show 0 ≤ -x by omega)
    grind
theorem big_b {S L D a b : Int} (h0 : 0 ≤ S) (h1 : S ≤ L) (h2 : -S ≤ 2 * D) (h3 : 2 * D ≤ S) (hb : 2 ≤ b ∨ b ≤ -2) : 3 * L ≤ a * a * S + 2 * (a * b) * D + b * b * L := by
  have k0 : 4 ≤ b * b := by
    rcases hb with hb | hb
    · have := Int.mul_nonneg (show 0 ≤ b - 2 by omega) (show 0 ≤ b + 2 by omega)
      grind
    · have := Int.mul_nonneg (show 0 ≤ -b - 2 by omega) (show 0 ≤ -b + 2 by omega)
      grind
  have k3 : 0 ≤ (b * b - 4) * (4 * L - S) := Int.mul_nonneg (by omega) (by omega)
  rcases Int.le_total 0 (a * b) with hs | hs
  · have k1 : 0 ≤ (a * b) * (2 * D + S) := Int.mul_nonneg hs (by omega)
    have k2 : 0 ≤ S * ((2 * a - b) * (2 * a - b)) := Int.mul_nonneg h0 (sq_nn _)
    grind
  · have k1 : 0 ≤ (-(a * b)) * (S - 2 * D) := Int.mul_nonneg (by omega) (by omega)
    have k2 : 0 ≤ S * ((2 * a + b) * (2 * a + b)) := Int.mul_nonneg h0 (sq_nn _)
    grind
def redQ (N M p q r s : Int) : Prop := basQ N M p q r s ∧ p * p + q * q ≤ r * r + s * s ∧ (-(p * p + q * q) ≤ 2 * (p * r + q * s) ∧ 2 * (p * r + q * s) ≤ p * p + q * q) ∧ r * r + s * s ≤ M * M
/-- the least of all fractions of a row -/
def leaQ (N M A B : Int) : Prop := (B % 2 = 1 ∧ 0 < B ∧ ltQ N M A B) ∧ ∀ x y, y % 2 = 1 → 0 < y → ltQ N M x y → ¬ lsQ x y A B
theorem lea_uni {N M A B A' B' : Int} (h : leaQ N M A B) (k : leaQ N M A' B') : A = A' ∧ B = B' := by
  refine ls_tot ?_ ?_
  · exact k.2 A B h.1.1 h.1.2.1 h.1.2.2
  · exact h.2 A' B' k.1.1 k.1.2.1 k.1.2.2
abbrev neQ (p q r s i : Int) : Prop := ∃ c, (c = 0 ∨ c = crQ r p ∨ c = crQ s q ∨ c = crQ (r - s) (p - q) ∨ c = crQ (r + s) (p + q)) ∧ c - 1 ≤ i ∧ i ≤ c + 2
theorem far_of {p q r s i c : Int} (h : ¬ neQ p q r s i) (hc : c = 0 ∨ c = crQ r p ∨ c = crQ s q ∨ c = crQ (r - s) (p - q) ∨ c = crQ (r + s) (p + q)) : i ≤ c - 2 ∨ c + 3 ≤ i := by
  rcases Int.lt_or_le i (c - 1) with z | z
  · exact Or.inl (by omega)
  · rcases Int.lt_or_le (c + 2) i with y | y
    · exact Or.inr (by omega)
    · exact absurd ⟨c, hc, z, y⟩ h
theorem line_no {p q r s A B : Int} (hpq : p ≠ 0 ∨ q ≠ 0) (hi : ∀ i, neQ p q r s i → (s + i * q) % 2 = 1 → ¬ lsQ (nrP (r + i * p) (s + i * q)) (nrB (s + i * q)) A B) : ∀ i, (s + i * q) % 2 = 1 → ¬ lsQ (nrP (r + i * p) (s + i * q)) (nrB (s + i * q)) A B := by
  have key : ∀ (a b c : Nat) (i : Int), (szQ (nrP (r + i * p) (s + i * q)) (nrB (s + i * q))).toNat = a → (nrB (s + i * q)).toNat = b → (nrP (r + i * p) (s + i * q) + szQ (nrP (r + i * p) (s + i * q)) (nrB (s + i * q))).toNat = c → (s + i * q) % 2 = 1 → ¬ lsQ (nrP (r + i * p) (s + i * q)) (nrB (s + i * q)) A B := by
    refine lex3 (P := fun a b c => ∀ (i : Int), (szQ (nrP (r + i * p) (s + i * q)) (nrB (s + i * q))).toNat = a → (nrB (s + i * q)).toNat = b → (nrP (r + i * p) (s + i * q) + szQ (nrP (r + i * p) (s + i * q)) (nrB (s + i * q))).toNat = c → (s + i * q) % 2 = 1 → ¬ lsQ (nrP (r + i * p) (s + i * q)) (nrB (s + i * q)) A B) ?_
    intro a b c ih i ea eb ec ho
    by_cases hn : neQ p q r s i
    · exact hi i hn ho
    · intro hl
      have f1 := cr_sgn (far_of hn (c := crQ r p) (by simp))
      have f2 := cr_sgn (far_of hn (c := crQ s q) (by simp))
      have f3 := cr_sgn (far_of hn (c := crQ (r - s) (p - q)) (by simp))
      have f4 := cr_sgn (far_of hn (c := crQ (r + s) (p + q)) (by simp))
      have e1 : r + (i - 2) * p = (r + i * p) - 2 * p := by grind
      have e2 : r + (i + 2) * p = (r + i * p) + 2 * p := by grind
      have e3 : s + (i - 2) * q = (s + i * q) - 2 * q := by grind
      have e4 : s + (i + 2) * q = (s + i * q) + 2 * q := by grind
      have e5 : (r - s) + (i - 2) * (p - q) = ((r + i * p) - (s + i * q)) - 2 * (p - q) := by grind
      have e6 : (r - s) + (i + 2) * (p - q) = ((r + i * p) - (s + i * q)) + 2 * (p - q) := by grind
      have e7 : (r - s) + i * (p - q) = (r + i * p) - (s + i * q) := by grind
      have e8 : (r + s) + (i - 2) * (p + q) = ((r + i * p) + (s + i * q)) - 2 * (p + q) := by grind
      have e9 : (r + s) + (i + 2) * (p + q) = ((r + i * p) + (s + i * q)) + 2 * (p + q) := by grind
      have e10 : (r + s) + i * (p + q) = (r + i * p) + (s + i * q) := by grind
      rw [e1, e2] at f1
      rw [e3, e4] at f2
      rw [e5, e6, e7] at f3
      rw [e8, e9, e10] at f4
      have st := ln_step hpq ho f1 f2 f3 f4
      rcases st with st | st
      · rw [← e1, ← e3] at st
        refine ih _ _ _ ?_ (i - 2) rfl rfl rfl (by rw [e3]; omega) (ls_tr st hl)
        rw [← ea, ← eb, ← ec]
        generalize nrP (r + (i - 2) * p) (s + (i - 2) * q) = x1 at *
        generalize hg : nrB (s + (i - 2) * q) = y1 at *
        generalize nrP (r + i * p) (s + i * q) = x2 at *
        generalize hg2 : nrB (s + i * q) = y2 at *
        have g1 : 0 ≤ y1 := by rw [← hg]; unfold nrB; split <;> omega
        have g2 : 0 ≤ y2 := by rw [← hg2]; unfold nrB; split <;> omega
        unfold lsQ szQ at *
        omega
      · rw [← e2, ← e4] at st
        refine ih _ _ _ ?_ (i + 2) rfl rfl rfl (by rw [e4]; omega) (ls_tr st hl)
        rw [← ea, ← eb, ← ec]
        generalize nrP (r + (i + 2) * p) (s + (i + 2) * q) = x1 at *
        generalize hg : nrB (s + (i + 2) * q) = y1 at *
        generalize nrP (r + i * p) (s + i * q) = x2 at *
        generalize hg2 : nrB (s + i * q) = y2 at *
        have g1 : 0 ≤ y1 := by rw [← hg]; unfold nrB; split <;> omega
        have g2 : 0 ≤ y2 := by rw [← hg2]; unfold nrB; split <;> omega
        unfold lsQ szQ at *
        omega
  intro i ho
  exact key _ _ _ i rfl rfl rfl ho
theorem odd_mul {a b : Int} (h : (a * b) % 2 = 1) : b % 2 = 1 := by
  rw [Int.mul_emod] at h
  rcases Int.emod_two_eq b with e | e
  · rw [e, Int.mul_zero] at h
    exact absurd h (by decide)
  · exact e
theorem sz_sq {x y m : Int} (h : m = szQ x y) (hy : 0 ≤ y) : x * x ≤ m * m ∧ y * y ≤ m * m ∧ m * m ≤ x * x + y * y := by
  unfold szQ at h
  refine ⟨sq_le (by omega) (by omega), sq_le (by omega) (by omega), ?_⟩
  have a := sq_nn x
  have b := sq_nn y
  rcases (show m = y ∨ m = x ∨ m = -x by omega) with e | e | e <;> rw [e] <;> grind
theorem nr_sq (p q : Int) : nrP p q * nrP p q = p * p ∧ nrB q * nrB q = q * q ∧ 0 ≤ nrB q := by
  unfold nrP nrB
  split
  · refine ⟨by grind, by grind, by omega⟩
  · refine ⟨rfl, rfl, by omega⟩
/-- the least of those that the class looks at is the least of all -/
theorem lea_main {N M p q r s A B : Int} (hM : 0 < M) (red : redQ N M p q r s) (hA : B % 2 = 1 ∧ 0 < B ∧ ltQ N M A B) (hs : q % 2 = 1 → ¬ lsQ (nrP p q) (nrB q) A B)
    (hi : ∀ i, neQ p q r s i → (s + i * q) % 2 = 1 → ¬ lsQ (nrP (r + i * p) (s + i * q)) (nrB (s + i * q)) A B) : leaQ N M A B := by
  refine ⟨hA, ?_⟩
  intro x y ho hy hxy hl
  obtain ⟨bas, h1, ⟨h2, h3⟩, h4⟩ := red
  have hd := bas.2.2
  have hpq : p ≠ 0 ∨ q ≠ 0 := by
    rcases Classical.em (p = 0) with e | e
    · refine Or.inr (fun e2 => ?_)
      rw [e, e2, Int.zero_mul, Int.zero_mul] at hd
      omega
    · exact Or.inl e
  have line := line_no hpq hi
  obtain ⟨a, b, ex, ey⟩ := bas_comb hM bas hxy
  have hb : b = 0 ∨ b = 1 ∨ b = -1 ∨ 2 ≤ b ∨ b ≤ -2 := by omega
  rcases hb with rfl | rfl | rfl | hb
  · rw [Int.zero_mul, Int.add_zero] at ex ey
    have hq : q % 2 = 1 := odd_mul (a := a) (by rw [← ey]; exact ho)
    have hn := hs hq
    refine hn ?_
    have ha0 : a ≠ 0 := by
      intro e
      rw [e, Int.zero_mul] at ey
      omega
    rcases (show a = 1 ∨ a = -1 ∨ 2 ≤ a.natAbs by omega) with e | e | e
    · rw [e, Int.one_mul] at ex ey
      unfold nrP nrB
      rw [if_neg (by omega), if_neg (by omega), ← ex, ← ey]
      exact hl
    · have ex : x = -p := by rw [ex, e]; omega
      have ey : y = -q := by rw [ey, e]; omega
      unfold nrP nrB
      rw [if_pos (by omega), if_pos (by omega), ← ex, ← ey]
      exact hl
    · refine ls_tr (Or.inl ?_) hl
      have n1 : x.natAbs = a.natAbs * p.natAbs := by rw [ex, Int.natAbs_mul]
      have n2 : y.natAbs = a.natAbs * q.natAbs := by rw [ey, Int.natAbs_mul]
      have n3 : 2 * p.natAbs ≤ a.natAbs * p.natAbs := Nat.mul_le_mul_right _ e
      have n4 : 2 * q.natAbs ≤ a.natAbs * q.natAbs := Nat.mul_le_mul_right _ e
      rw [← n1] at n3
      rw [← n2] at n4
      unfold szQ nrP nrB
      split <;> omega
  · refine line a ?_ ?_
    · rw [show s + a * q = y by rw [ey]; omega]
      exact ho
    · rw [show s + a * q = y by rw [ey]; omega, show r + a * p = x by rw [ex]; omega]
      unfold nrP nrB
      rw [if_neg (by omega), if_neg (by omega)]
      exact hl
  · have e1 : s + -a * q = -y := by rw [ey, Int.neg_mul]; omega
    have e2 : r + -a * p = -x := by rw [ex, Int.neg_mul]; omega
    refine line (-a) ?_ ?_
    · rw [e1]
      omega
    · rw [e1, e2]
      unfold nrP nrB
      rw [if_pos (by omega), if_pos (by omega), Int.neg_neg, Int.neg_neg]
      exact hl
  · have big := big_b (a := a) (b := b) (S := p * p + q * q) (L := r * r + s * s) (D := p * r + q * s) (by have := sq_nn p; have := sq_nn q; omega) h1 h2 h3 hb
    have e : a * a * (p * p + q * q) + 2 * (a * b) * (p * r + q * s) + b * b * (r * r + s * s) = x * x + y * y := by rw [ex, ey]; grind
    rw [e] at big
    obtain ⟨z1, z2, z3⟩ := sz_sq (x := x) (y := y) rfl (by omega)
    have hL : 0 < r * r + s * s := by
      have a1 := sq_nn r
      have a2 := sq_nn s
      rcases Int.lt_or_le 0 (r * r + s * s) with z | z
      · exact z
      · have := sq_nn p
        have := sq_nn q
        exfalso
        have r0 : r * r = 0 := by omega
        have s0 : s * s = 0 := by omega
        have r1 : r = 0 := by rcases Int.mul_eq_zero.mp r0 with h | h <;> exact h
        have s1 : s = 0 := by rcases Int.mul_eq_zero.mp s0 with h | h <;> exact h
        rw [r1, s1, Int.mul_zero, Int.mul_zero] at hd
        omega
    have fin : ∀ u v : Int, u * u + v * v ≤ r * r + s * s → lsQ (nrP u v) (nrB v) x y := by
      intro u v huv
      refine Or.inl ?_
      obtain ⟨w1, w2, w3⟩ := nr_sq u v
      obtain ⟨z4, z5, z6⟩ := sz_sq (x := nrP u v) (y := nrB v) rfl w3
      rcases Int.lt_or_le (szQ (nrP u v) (nrB v)) (szQ x y) with z | z
      · exact z
      · exfalso
        have hz : 0 ≤ szQ x y := by unfold szQ; omega
        have m := sq_le (x := szQ x y) (m := szQ (nrP u v) (nrB v)) (by omega) z
        omega
    by_cases hq : q % 2 = 1
    · exact hs hq (ls_tr (fin p q h1) hl)
    · have hs1 : s % 2 = 1 := by
        rcases Int.emod_two_eq s with z | z
        · exfalso
          rw [ey, Int.add_emod, Int.mul_emod, Int.mul_emod b s, z] at ho
          rcases Int.emod_two_eq q with z2 | z2
          · rw [z2, Int.mul_zero, Int.mul_zero] at ho
            exact absurd ho (by decide)
          · exact hq z2
        · exact z
      have l0 := line 0 (by rw [Int.zero_mul, Int.add_zero]; exact hs1)
      rw [Int.zero_mul, Int.add_zero, Int.zero_mul, Int.add_zero] at l0
      exact l0 (ls_tr (fin r s (Int.le_refl _)) hl)
