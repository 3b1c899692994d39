/-! lattices -/
def ltQ (N M p q : Int) : Prop := M ∣ N * q - p
def basQ (N M p q r s : Int) : Prop := ltQ N M p q ∧ ltQ N M r s ∧ (p * s - q * r = M ∨ p * s - q * r = -M)
theorem bas_comb {N M p q r s x y : Int} (hM : 0 < M) (h : basQ N M p q r s) (hx : ltQ N M x y) : ∃ a b, x = a * p + b * r ∧ y = a * q + b * s := by
  obtain ⟨⟨k3, e3⟩, ⟨k2, e2⟩, hd⟩ := h
  obtain ⟨k1, e1⟩ := hx
  have hM0 : M ≠ 0 := by omega
  rcases hd with hd | hd
  · refine ⟨y * k2 - k1 * s, q * k1 - k3 * y, ?_, ?_⟩
    · refine Int.eq_of_mul_eq_mul_left hM0 ?_
      grind
    · refine Int.eq_of_mul_eq_mul_left hM0 ?_
      grind
  · refine ⟨-(y * k2 - k1 * s), -(q * k1 - k3 * y), ?_, ?_⟩
    · refine Int.eq_of_mul_eq_mul_left hM0 ?_
      grind
    · refine Int.eq_of_mul_eq_mul_left hM0 ?_
      grind
theorem sq_le {x m : Int} (h1 : -m ≤ x) (h2 : x ≤ m) : x * x ≤ m * m := by
  have := Int.mul_nonneg (show 0 ≤ m - x by omega) (show 0 ≤ m + x by omega)
  grind
theorem sq_nn (x : Int) : 0 ≤ x * x := by
  rcases Int.le_total 0 x with h | h
  · exact Int.mul_nonneg h h
  · have := Int.mul_nonneg (show 0 ≤ -x by omega) (show 0 ≤ -x by omega)
    grind
theorem big_b {S L D a b : Int} (h0 : 0 ≤ S) (h1 : S ≤ L) (h2 : -S ≤ 2 * D) (h3 : 2 * D ≤ S) (hb : 2 ≤ b ∨ b ≤ -2) : 3 * L ≤ a * a * S + 2 * (a * b) * D + b * b * L := by
  have k0 : 4 ≤ b * b := by
    rcases hb with hb | hb
    · have := Int.mul_nonneg (show 0 ≤ b - 2 by omega) (show 0 ≤ b + 2 by omega)
      grind
    · have := Int.mul_nonneg (show 0 ≤ -b - 2 by omega) (show 0 ≤ -b + 2 by omega)
      grind
  have k3 : 0 ≤ (b * b - 4) * (4 * L - S) := Int.mul_nonneg (by omega) (by omega)
  rcases Int.le_total 0 (a * b) with hs | hs
  · have k1 : 0 ≤ (a * b) * (2 * D + S) := Int.mul_nonneg hs (by omega)
    have k2 : 0 ≤ S * ((2 * a - b) * (2 * a - b)) := Int.mul_nonneg h0 (sq_nn _)
    grind
  · have k1 : 0 ≤ (-(a * b)) * (S - 2 * D) := Int.mul_nonneg (by omega) (by omega)
    have k2 : 0 ≤ S * ((2 * a + b) * (2 * a + b)) := Int.mul_nonneg h0 (sq_nn _)
    grind
def redQ (N M p q r s : Int) : Prop := basQ N M p q r s ∧ p * p + q * q ≤ r * r + s * s ∧ (-(p * p + q * q) ≤ 2 * (p * r + q * s) ∧ 2 * (p * r + q * s) < p * p + q * q) ∧ r * r + s * s ≤ M * M
/-- the least of all fractions of a row -/
def leaQ (N M A B : Int) : Prop := (B % 2 = 1 ∧ 0 < B ∧ ltQ N M A B) ∧ ∀ x y, y % 2 = 1 → 0 < y → ltQ N M x y → ¬ lsQ x y A B
theorem lea_uni {N M A B A' B' : Int} (h : leaQ N M A B) (k : leaQ N M A' B') : A = A' ∧ B = B' := by
  refine ls_tot ?_ ?_
  · exact k.2 A B h.1.1 h.1.2.1 h.1.2.2
  · exact h.2 A' B' k.1.1 k.1.2.1 k.1.2.2
theorem bas_pos {N M p q r s : Int} (hM : 0 < M) (h : basQ N M p q r s) : 0 < p * p + q * q := by
  have a1 := sq_nn p
  have a2 := sq_nn q
  rcases Int.lt_or_le 0 (p * p + q * q) with z | z
  · exact z
  · exfalso
    have r1 : p = 0 := by rcases Int.mul_eq_zero.mp (show p * p = 0 by omega) with h | h <;> exact h
    have s1 : q = 0 := by rcases Int.mul_eq_zero.mp (show q * q = 0 by omega) with h | h <;> exact h
    have hd := h.2.2
    rw [r1, s1, Int.zero_mul, Int.zero_mul] at hd
    omega
/-- the places that the class looks at -/
abbrev neQ (p q r s i : Int) : Prop := ∃ c, (c = 0 ∨ c = crQ (r - s) (p - q) ∨ c = crQ (r + s) (p + q)) ∧ c ≤ i ∧ i ≤ c + 1
theorem far_of {p q r s i c : Int} (h : ¬ neQ p q r s i) (hc : c = 0 ∨ c = crQ (r - s) (p - q) ∨ c = crQ (r + s) (p + q)) : i < c ∨ c + 1 < i := by
  rcases Int.lt_or_le i c with z | z
  · exact Or.inl z
  · rcases Int.lt_or_le (c + 1) i with y | y
    · exact Or.inr y
    · exact absurd ⟨c, hc, z, y⟩ h
/-- on the line of the long step, but for its start and the next, all are longer than the short one -/
theorem ln_big {N M p q r s i : Int} (hM : 0 < M) (red : redQ N M p q r s) (h : i < 0 ∨ 0 + 1 < i) : p * p + q * q < (r + i * p) * (r + i * p) + (s + i * q) * (s + i * q) := by
  obtain ⟨bas, h1, ⟨h2, h3⟩, _⟩ := red
  have h0 := bas_pos hM bas
  have e : (r + i * p) * (r + i * p) + (s + i * q) * (s + i * q) = (r * r + s * s) + i * (2 * (p * r + q * s) + i * (p * p + q * q)) := by grind
  rw [e]
  clear e bas
  generalize p * r + q * s = D at *
  generalize p * p + q * q = S at *
  generalize r * r + s * s = L at *
  rcases h with h | h
  · have m : 0 ≤ (-i - 1) * S := Int.mul_nonneg (by omega) (by omega)
    have em : (-i - 1) * S = -(i * S) - S := by grind
    rw [em] at m
    have k : 0 < (-i) * (-(2 * D + i * S)) := Int.mul_pos (by omega) (by omega)
    rw [Int.neg_mul_neg] at k
    generalize i * (2 * D + i * S) = w at *
    omega
  · have m : 0 ≤ (i - 2) * S := Int.mul_nonneg (by omega) (by omega)
    have em : (i - 2) * S = i * S - 2 * S := by grind
    rw [em] at m
    have k : 0 < i * (2 * D + i * S) := Int.mul_pos (by omega) (by omega)
    generalize i * (2 * D + i * S) = w at *
    omega
theorem un_nat {a b : Nat} (h : a * b = 1) : b = 1 := by
  rcases a with _ | a
  · rw [Nat.zero_mul] at h
    omega
  · rcases b with _ | _ | b
    · rw [Nat.mul_zero] at h
      omega
    · rfl
    · exfalso
      have m : 1 * (b + 1 + 1) ≤ (a + 1) * (b + 1 + 1) := Nat.mul_le_mul_right _ (by omega)
      rw [h] at m
      omega
/-- the short step has something below the line -/
theorem sh_ne {N M p r s : Int} (hM : 1 < M) (red : redQ N M p 0 r s) : False := by
  obtain ⟨⟨⟨k, ek⟩, _, hd⟩, h1, ⟨h2, h3⟩, _⟩ := red
  have ep : p = M * -k := by
    rw [Int.mul_neg, ← ek]
    omega
  have hd2 : M * (-k * s) = M ∨ M * (-k * s) = -M := by
    have e : M * (-k * s) = p * s - 0 * r := by rw [ep]; grind
    rw [e]
    exact hd
  have hd3 : -k * s = 1 ∨ -k * s = -1 := by
    rcases hd2 with z | z
    · exact Or.inl (Int.eq_of_mul_eq_mul_left (a := M) (by omega) (by rw [z, Int.mul_one]))
    · exact Or.inr (Int.eq_of_mul_eq_mul_left (a := M) (by omega) (by rw [z, Int.mul_neg, Int.mul_one]))
  have n1 : (-k).natAbs * s.natAbs = 1 := by
    rw [← Int.natAbs_mul]
    rcases hd3 with z | z <;> rw [z] <;> rfl
  have n2 : s.natAbs * (-k).natAbs = 1 := by rw [Nat.mul_comm]; exact n1
  have ns : s.natAbs = 1 := un_nat n1
  have nk : (-k).natAbs = 1 := un_nat n2
  have es : s * s = 1 := by
    rcases (show s = 1 ∨ s = -1 by omega) with z | z <;> rw [z] <;> rfl
  have pp : p = M ∨ p = -M := by
    rcases (show -k = 1 ∨ -k = -1 by omega) with z | z
    · exact Or.inl (by rw [ep, z, Int.mul_one])
    · exact Or.inr (by rw [ep, z, Int.mul_neg, Int.mul_one])
  have g1 : p * p = M * M := by
    rcases pp with z | z <;> rw [z]
    exact Int.neg_mul_neg M M
  have g2 : p * r = M * r ∨ p * r = -(M * r) := by
    rcases pp with z | z <;> rw [z]
    · exact Or.inl rfl
    · exact Or.inr (Int.neg_mul M r)
  rw [g1, Int.zero_mul, Int.zero_mul, Int.add_zero] at h2 h3
  rw [g1, es, Int.zero_mul] at h1
  have b1 : 2 * (M * r) ≤ M * M ∧ -(M * M) ≤ 2 * (M * r) := by
    rcases g2 with z | z <;> rw [z] at h2 h3 <;> omega
  have c1 : 2 * r ≤ M := by
    rcases Int.lt_or_le M (2 * r) with z | z
    · exfalso
      have m := Int.mul_pos (show 0 < M by omega) (show 0 < 2 * r - M by omega)
      have e : M * (2 * r - M) = 2 * (M * r) - M * M := by grind
      omega
    · exact z
  have c2 : -M ≤ 2 * r := by
    rcases Int.lt_or_le (2 * r) (-M) with z | z
    · exfalso
      have m := Int.mul_pos (show 0 < M by omega) (show 0 < -M - 2 * r by omega)
      have e : M * (-M - 2 * r) = -(M * M) - 2 * (M * r) := by grind
      omega
    · exact z
  have d1 := sq_le (x := 2 * r) (m := M) c2 c1
  have e : 2 * r * (2 * r) = 4 * (r * r) := by grind
  have d2 := Int.mul_le_mul (show (2 : Int) ≤ M by omega) (show (2 : Int) ≤ M by omega) (by omega) (by omega)
  omega
/-- where the short one has nothing above the line -/
theorem ls_ax {N M p q r s i : Int} (hM : 1 < M) (red : redQ N M p q r s) (hz : (p - q).natAbs = (p + q).natAbs) (h : i < 0 ∨ 0 + 1 < i) : ∃ j, (0 ≤ j ∧ j ≤ 0 + 1) ∧ lsQ (nrP (r + j * p) (s + j * q)) (nrB (s + j * q)) (nrP (r + i * p) (s + i * q)) (nrB (s + i * q)) := by
  have hq0 : q ≠ 0 := by
    intro e
    subst e
    exact sh_ne hM red
  have hp0 : p = 0 := by
    clear red h
    omega
  subst hp0
  obtain ⟨_, _, ⟨h2, h3⟩, _⟩ := red
  rw [Int.zero_mul, Int.zero_mul, Int.zero_add, Int.zero_add] at h2 h3
  have pos : 0 < q → -q ≤ 2 * s ∧ 2 * s < q := by
    intro hq
    constructor
    · rcases Int.lt_or_le (2 * s) (-q) with z | z
      · exfalso
        have m := Int.mul_pos hq (show 0 < -q - 2 * s by omega)
        have e : q * (-q - 2 * s) = -(q * q) - 2 * (q * s) := by grind
        omega
      · exact z
    · rcases Int.lt_or_le (2 * s) q with z | z
      · exact z
      · exfalso
        have m := Int.mul_nonneg (Int.le_of_lt hq) (show 0 ≤ 2 * s - q by omega)
        have e : q * (2 * s - q) = 2 * (q * s) - q * q := by grind
        omega
  have neg : q < 0 → q < 2 * s ∧ 2 * s ≤ -q := by
    intro hq
    constructor
    · rcases Int.lt_or_le q (2 * s) with z | z
      · exact z
      · exfalso
        have m := Int.mul_nonneg (show 0 ≤ -q by omega) (show 0 ≤ q - 2 * s by omega)
        have e : -q * (q - 2 * s) = 2 * (q * s) - q * q := by grind
        omega
    · rcases Int.lt_or_le (-q) (2 * s) with z | z
      · exfalso
        have m := Int.mul_pos (show 0 < -q by omega) (show 0 < 2 * s + q by omega)
        have e : -q * (2 * s + q) = -(2 * (q * s)) - q * q := by grind
        omega
      · exact z
  clear h2 h3
  rw [Int.mul_zero, Int.add_zero]
  rcases h with h | h
  · refine ⟨0, ⟨by omega, by omega⟩, ?_⟩
    rw [Int.mul_zero, Int.add_zero, Int.zero_mul, Int.add_zero]
    refine ls_flat ?_
    rcases Int.lt_or_gt_of_ne hq0 with hq | hq
    · obtain ⟨a, b⟩ := neg hq
      have m := Int.mul_nonneg (show 0 ≤ -i - 1 by omega) (show 0 ≤ -q by omega)
      have e : (-i - 1) * -q = i * q + q := by grind
      rw [e] at m
      generalize i * q = w at *
      omega
    · obtain ⟨a, b⟩ := pos hq
      have m := Int.mul_nonneg (show 0 ≤ -i - 1 by omega) (show 0 ≤ q by omega)
      have e : (-i - 1) * q = -(i * q) - q := by grind
      rw [e] at m
      generalize i * q = w at *
      omega
  · refine ⟨1, ⟨by omega, by omega⟩, ?_⟩
    rw [Int.mul_zero, Int.add_zero, Int.one_mul]
    refine ls_flat ?_
    rcases Int.lt_or_gt_of_ne hq0 with hq | hq
    · obtain ⟨a, b⟩ := neg hq
      have m := Int.mul_nonneg (show 0 ≤ i - 2 by omega) (show 0 ≤ -q by omega)
      have e : (i - 2) * -q = -(i * q) + 2 * q := by grind
      rw [e] at m
      generalize i * q = w at *
      omega
    · obtain ⟨a, b⟩ := pos hq
      have m := Int.mul_nonneg (show 0 ≤ i - 2 by omega) (show 0 ≤ q by omega)
      have e : (i - 2) * q = i * q - 2 * q := by grind
      rw [e] at m
      generalize i * q = w at *
      omega
theorem line_no {N M p q r s A B : Int} (hM : 1 < M) (red : redQ N M p q r s) (hs : q % 2 = 1 → ¬ lsQ (nrP p q) (nrB q) A B) (hi : ∀ i, neQ p q r s i → (s + i * q) % 2 = 1 → ¬ lsQ (nrP (r + i * p) (s + i * q)) (nrB (s + i * q)) A B) : ∀ i, (s + i * q) % 2 = 1 → ¬ lsQ (nrP (r + i * p) (s + i * q)) (nrB (s + i * q)) A B := by
  intro i ho hl
  by_cases hn : neQ p q r s i
  · exact hi i hn ho hl
  · have f0 := far_of hn (c := 0) (Or.inl rfl)
    have f1 := far_of hn (c := crQ (r - s) (p - q)) (Or.inr (Or.inl rfl))
    have f2 := far_of hn (c := crQ (r + s) (p + q)) (Or.inr (Or.inr rfl))
    have e1 : ∀ j : Int, (r - s) + j * (p - q) = (r + j * p) - (s + j * q) := fun j => by grind
    have e2 : ∀ j : Int, (r + s) + j * (p + q) = (r + j * p) + (s + j * q) := fun j => by grind
    rcases Int.emod_two_eq q with hq | hq
    · have od : ∀ j : Int, (s + j * q) % 2 = 1 := by
        intro j
        obtain ⟨k, ek⟩ : ∃ k, q = 2 * k := ⟨q / 2, by omega⟩
        have a1 : i * q = 2 * (i * k) := by rw [ek]; grind
        have a2 : j * q = 2 * (j * k) := by rw [ek]; grind
        rw [a1] at ho
        rw [a2]
        omega
      rcases Nat.lt_trichotomy (p - q).natAbs (p + q).natAbs with z | z | z
      · obtain ⟨j, hj, hlt⟩ := st_one (u := r + s) (v := p + q) (w := r - s) (z := p - q) z f2
        rw [e1 j, e1 i, e2 j, e2 i] at hlt
        exact hi j ⟨_, Or.inr (Or.inr rfl), hj⟩ (od j) (ls_tr (ls_sz (by rw [Nat.add_comm, Nat.add_comm ((r + i * p) - (s + i * q)).natAbs]; exact hlt)) hl)
      · obtain ⟨j, hj, hlt⟩ := ls_ax hM red z f0
        exact hi j ⟨0, Or.inl rfl, hj⟩ (od j) (ls_tr hlt hl)
      · obtain ⟨j, hj, hlt⟩ := st_one (u := r - s) (v := p - q) (w := r + s) (z := p + q) z f1
        rw [e1 j, e1 i, e2 j, e2 i] at hlt
        exact hi j ⟨_, Or.inr (Or.inl rfl), hj⟩ (od j) (ls_tr (ls_sz hlt) hl)
    · have g1 := cr_out f1
      have g2 := cr_out f2
      rw [e1 i] at g1
      rw [e2 i] at g2
      exact hs hq (ls_tr (ls_sz (nn_lt g1 g2 (ln_big (by omega) red f0))) hl)
theorem odd_mul {a b : Int} (h : (a * b) % 2 = 1) : b % 2 = 1 := by
  rw [Int.mul_emod] at h
  rcases Int.emod_two_eq b with e | e
  · rw [e, Int.mul_zero] at h
    exact absurd h (by decide)
  · exact e
theorem sz_sq {x y m : Int} (h : m = szQ x y) (hy : 0 ≤ y) : x * x ≤ m * m ∧ y * y ≤ m * m ∧ m * m ≤ x * x + y * y := by
  unfold szQ at h
  refine ⟨sq_le (by omega) (by omega), sq_le (by omega) (by omega), ?_⟩
  have a := sq_nn x
  have b := sq_nn y
  rcases (show m = y ∨ m = x ∨ m = -x by omega) with e | e | e <;> rw [e] <;> grind
theorem nr_sq (p q : Int) : nrP p q * nrP p q = p * p ∧ nrB q * nrB q = q * q ∧ 0 ≤ nrB q := by
  unfold nrP nrB
  split
  · refine ⟨by grind, by grind, by omega⟩
  · refine ⟨rfl, rfl, by omega⟩
/-- the least of those that the class looks at is the least of all -/
theorem lea_main {N M p q r s A B : Int} (hM : 1 < M) (red : redQ N M p q r s) (hA : B % 2 = 1 ∧ 0 < B ∧ ltQ N M A B) (hs : q % 2 = 1 → ¬ lsQ (nrP p q) (nrB q) A B)
    (hi : ∀ i, neQ p q r s i → (s + i * q) % 2 = 1 → ¬ lsQ (nrP (r + i * p) (s + i * q)) (nrB (s + i * q)) A B) : leaQ N M A B := by
  refine ⟨hA, ?_⟩
  intro x y ho hy hxy hl
  obtain ⟨bas, h1, ⟨h2, h3⟩, h4⟩ := id red
  have hd := bas.2.2
  have line := line_no hM red hs hi
  obtain ⟨a, b, ex, ey⟩ := bas_comb (by omega) bas hxy
  have hb : b = 0 ∨ b = 1 ∨ b = -1 ∨ 2 ≤ b ∨ b ≤ -2 := by omega
  rcases hb with rfl | rfl | rfl | hb
  · rw [Int.zero_mul, Int.add_zero] at ex ey
    have hq : q % 2 = 1 := odd_mul (a := a) (by rw [← ey]; exact ho)
    have hn := hs hq
    refine hn ?_
    have ha0 : a ≠ 0 := by
      intro e
      rw [e, Int.zero_mul] at ey
      omega
    rcases (show a = 1 ∨ a = -1 ∨ 2 ≤ a.natAbs by omega) with e | e | e
    · rw [e, Int.one_mul] at ex ey
      unfold nrP nrB
      rw [if_neg (by omega), if_neg (by omega), ← ex, ← ey]
      exact hl
    · have ex : x = -p := by rw [ex, e]; omega
      have ey : y = -q := by rw [ey, e]; omega
      unfold nrP nrB
      rw [if_pos (by omega), if_pos (by omega), ← ex, ← ey]
      exact hl
    · refine ls_tr (Or.inl ?_) hl
      have n1 : x.natAbs = a.natAbs * p.natAbs := by rw [ex, Int.natAbs_mul]
      have n2 : y.natAbs = a.natAbs * q.natAbs := by rw [ey, Int.natAbs_mul]
      have n3 : 2 * p.natAbs ≤ a.natAbs * p.natAbs := Nat.mul_le_mul_right _ e
      have n4 : 2 * q.natAbs ≤ a.natAbs * q.natAbs := Nat.mul_le_mul_right _ e
      rw [← n1] at n3
      rw [← n2] at n4
      unfold szQ nrP nrB
      split <;> omega
  · refine line a ?_ ?_
    · rw [show s + a * q = y by rw [ey]; omega]
      exact ho
    · rw [show s + a * q = y by rw [ey]; omega, show r + a * p = x by rw [ex]; omega]
      unfold nrP nrB
      rw [if_neg (by omega), if_neg (by omega)]
      exact hl
  · have e1 : s + -a * q = -y := by rw [ey, Int.neg_mul]; omega
    have e2 : r + -a * p = -x := by rw [ex, Int.neg_mul]; omega
    refine line (-a) ?_ ?_
    · rw [e1]
      omega
    · rw [e1, e2]
      unfold nrP nrB
      rw [if_pos (by omega), if_pos (by omega), Int.neg_neg, Int.neg_neg]
      exact hl
  · have big := big_b (a := a) (b := b) (S := p * p + q * q) (L := r * r + s * s) (D := p * r + q * s) (by have := sq_nn p; have := sq_nn q; omega) h1 h2 (Int.le_of_lt h3) hb
    have e : a * a * (p * p + q * q) + 2 * (a * b) * (p * r + q * s) + b * b * (r * r + s * s) = x * x + y * y := by rw [ex, ey]; grind
    rw [e] at big
    obtain ⟨z1, z2, z3⟩ := sz_sq (x := x) (y := y) rfl (by omega)
    have hL : 0 < r * r + s * s := by
      have a1 := sq_nn r
      have a2 := sq_nn s
      rcases Int.lt_or_le 0 (r * r + s * s) with z | z
      · exact z
      · have := sq_nn p
        have := sq_nn q
        exfalso
        have r0 : r * r = 0 := by omega
        have s0 : s * s = 0 := by omega
        have r1 : r = 0 := by rcases Int.mul_eq_zero.mp r0 with h | h <;> exact h
        have s1 : s = 0 := by rcases Int.mul_eq_zero.mp s0 with h | h <;> exact h
        rw [r1, s1, Int.mul_zero, Int.mul_zero] at hd
        omega
    have fin : ∀ u v : Int, u * u + v * v ≤ r * r + s * s → lsQ (nrP u v) (nrB v) x y := by
      intro u v huv
      refine Or.inl ?_
      obtain ⟨w1, w2, w3⟩ := nr_sq u v
      obtain ⟨z4, z5, z6⟩ := sz_sq (x := nrP u v) (y := nrB v) rfl w3
      rcases Int.lt_or_le (szQ (nrP u v) (nrB v)) (szQ x y) with z | z
      · exact z
      · exfalso
        have hz : 0 ≤ szQ x y := by unfold szQ; omega
        have m := sq_le (x := szQ x y) (m := szQ (nrP u v) (nrB v)) (by omega) z
        omega
    by_cases hq : q % 2 = 1
    · exact hs hq (ls_tr (fin p q h1) hl)
    · have hs1 : s % 2 = 1 := by
        rcases Int.emod_two_eq s with z | z
        · exfalso
          rw [ey, Int.add_emod, Int.mul_emod, Int.mul_emod b s, z] at ho
          rcases Int.emod_two_eq q with z2 | z2
          · rw [z2, Int.mul_zero, Int.mul_zero] at ho
            exact absurd ho (by decide)
          · exact hq z2
        · exact z
      have l0 := line 0 (by rw [Int.zero_mul, Int.add_zero]; exact hs1)
      rw [Int.zero_mul, Int.add_zero, Int.zero_mul, Int.add_zero] at l0
      exact l0 (ls_tr (fin r s (Int.le_refl _)) hl)
