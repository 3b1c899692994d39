/-! shortening a basis -/
def hlfQ (p q r s : Int) : Prop := -(p * p + q * q) ≤ 2 * (p * r + q * s) ∧ 2 * (p * r + q * s) < p * p + q * q
def gsI (N M : Int) (j : Nat) (p q r s : Int) : Prop := basQ N M p q r s ∧ p * p + q * q ≤ M * M ∧ r * r + s * s ≤ M * M ∧ ((j = 0 ∧ p * p + q * q ≤ r * r + s * s) ∨ (1 ≤ j ∧ hlfQ p q r s ∧ ∃ m : Nat, j + m ≤ 40 ∧ (p * p + q * q ≤ r * r + s * s ∨ p * p + q * q < 3 ^ m)))
theorem gs_j {N M : Int} {j : Nat} {p q r s : Int} (h : gsI N M j p q r s) : j ≤ 40 := by
  obtain ⟨_, _, _, h | ⟨_, _, m, h, _⟩⟩ := h <;> omega
theorem gs_0 {N M : Int} (h0 : 0 ≤ N) (h1 : N < M) (hM : M ≤ 16777216) : gsI N M 0 N 1 M 0 := by
  have a : N * N ≤ (M - 1) * (M - 1) := sq_le (by omega) (by omega)
  have b : (M - 1) * (M - 1) = M * M - 2 * M + 1 := by grind
  refine ⟨⟨⟨0, by omega⟩, ⟨-1, by omega⟩, Or.inr (by omega)⟩, by omega, by omega, Or.inl ⟨rfl, by omega⟩⟩
theorem bas_swap {N M p q r s : Int} (h : basQ N M p q r s) : basQ N M r s p q := by
  obtain ⟨h1, h2, h3⟩ := h
  refine ⟨h2, h1, ?_⟩
  have e : r * q - s * p = -(p * s - q * r) := by grind
  rw [e]
  omega
theorem bas_sub {N M p q r s : Int} (t : Int) (h : basQ N M p q r s) : basQ N M p q (r - t * p) (s - t * q) := by
  obtain ⟨⟨k1, e1⟩, ⟨k2, e2⟩, h3⟩ := h
  refine ⟨⟨k1, e1⟩, ⟨k2 - t * k1, by grind⟩, ?_⟩
  have e : p * (s - t * q) - q * (r - t * p) = p * s - q * r := by grind
  rw [e]
  exact h3
theorem fdv {a b : Int} (hb : 0 < b) : a.fdiv b * b ≤ a ∧ a < a.fdiv b * b + b := by
  have e := Int.mul_fdiv_add_fmod a b
  rw [Int.mul_comm] at e
  have x := Int.fmod_nonneg_of_pos a hb
  have y := Int.fmod_lt_of_pos a hb
  omega
/-- how often the short one goes off the long one -/
abbrev tmQ (p q r s : Int) : Int := (2 * (p * r + q * s) + (p * p + q * q)).fdiv (2 * (p * p + q * q))
theorem tm_spec {p q r s : Int} (h : 0 < p * p + q * q) : 2 * (tmQ p q r s * (p * p + q * q)) ≤ 2 * (p * r + q * s) + (p * p + q * q) ∧ 2 * (p * r + q * s) + (p * p + q * q) < 2 * (tmQ p q r s * (p * p + q * q)) + 2 * (p * p + q * q) := by
  have k : tmQ p q r s * (2 * (p * p + q * q)) ≤ 2 * (p * r + q * s) + (p * p + q * q) ∧ 2 * (p * r + q * s) + (p * p + q * q) < tmQ p q r s * (2 * (p * p + q * q)) + 2 * (p * p + q * q) := fdv (by omega)
  generalize tmQ p q r s = t at *
  have e : t * (2 * (p * p + q * q)) = 2 * (t * (p * p + q * q)) := by grind
  rw [e] at k
  exact k
theorem gs_red {N M : Int} {p q r s : Int} (hM : 0 < M) (hb : basQ N M p q r s) (hle : p * p + q * q ≤ r * r + s * s) (hl : r * r + s * s ≤ M * M) (ht : tmQ p q r s = 0) : redQ N M p q r s := by
  have hp := bas_pos hM hb
  have sp := tm_spec (r := r) (s := s) hp
  rw [ht, Int.zero_mul] at sp
  exact ⟨hb, hle, ⟨by omega, by omega⟩, hl⟩
theorem tm_half {p q r s : Int} (hp : 0 < p * p + q * q) : hlfQ p q (r - tmQ p q r s * p) (s - tmQ p q r s * q) := by
  have sp := tm_spec (r := r) (s := s) hp
  generalize tmQ p q r s = t at *
  have e : p * (r - t * p) + q * (s - t * q) = p * r + q * s - t * (p * p + q * q) := by grind
  unfold hlfQ
  rw [e]
  omega
theorem tm_len {p q r s : Int} (hp : 0 < p * p + q * q) : (r - tmQ p q r s * p) * (r - tmQ p q r s * p) + (s - tmQ p q r s * q) * (s - tmQ p q r s * q) ≤ r * r + s * s := by
  have sp := tm_spec (r := r) (s := s) hp
  generalize tmQ p q r s = t at *
  have e : (r - t * p) * (r - t * p) + (s - t * q) * (s - t * q) = r * r + s * s - t * (2 * (p * r + q * s) - t * (p * p + q * q)) := by grind
  rw [e]
  have k : 0 ≤ t * (2 * (p * r + q * s) - t * (p * p + q * q)) := by
    generalize p * r + q * s = D at *
    generalize p * p + q * q = S at *
    rcases (show t = 0 ∨ 1 ≤ t ∨ t ≤ -1 by omega) with z | z | z
    · rw [z, Int.zero_mul]
      exact Int.le_refl _
    · have m : 0 ≤ (t - 1) * S := Int.mul_nonneg (by omega) (by omega)
      rw [Int.sub_mul] at m
      exact Int.mul_nonneg (by omega) (by omega)
    · have m : 0 ≤ (-t - 1) * S := Int.mul_nonneg (by omega) (by omega)
      rw [Int.sub_mul, Int.neg_mul] at m
      have := Int.mul_nonneg (show 0 ≤ -t by omega) (show 0 ≤ -(2 * D - t * S) by omega)
      grind
  omega
theorem gs_next {N M : Int} {j : Nat} {p q r s : Int} (hM : 0 < M) (hM2 : M ≤ 16777216) (h : gsI N M j p q r s) :
    (p * p + q * q ≤ r * r + s * s → tmQ p q r s ≠ 0 → gsI N M (j + 1) p q (r - tmQ p q r s * p) (s - tmQ p q r s * q)) ∧
    (¬ p * p + q * q ≤ r * r + s * s → tmQ r s p q ≠ 0 → gsI N M (j + 1) r s (p - tmQ r s p q * r) (q - tmQ r s p q * s)) := by
  obtain ⟨hb, h1, h2, h3⟩ := h
  have hp := bas_pos hM hb
  have hr := bas_pos hM (bas_swap hb)
  constructor
  · intro hle ht
    rcases h3 with ⟨rfl, _⟩ | ⟨_, hh, _⟩
    · have l1 := tm_len (r := r) (s := s) hp
      refine ⟨bas_sub _ hb, h1, by omega, Or.inr ⟨by omega, tm_half hp, 31, by omega, Or.inr ?_⟩⟩
      have m : M * M ≤ 16777216 * 16777216 := Int.mul_le_mul hM2 hM2 (by omega) (by omega)
      have e : (3 : Int) ^ 31 = 617673396283947 := by decide
      omega
    · exfalso
      have sp := tm_spec (r := r) (s := s) hp
      unfold hlfQ at hh
      generalize tmQ p q r s = t at *
      generalize p * p + q * q = S at *
      rcases (show 1 ≤ t ∨ t ≤ -1 by omega) with z | z
      · have m : 0 ≤ (t - 1) * S := Int.mul_nonneg (by omega) (by omega)
        rw [Int.sub_mul] at m
        omega
      · have m : 0 ≤ (-t - 1) * S := Int.mul_nonneg (by omega) (by omega)
        rw [Int.sub_mul, Int.neg_mul] at m
        omega
  · intro hle ht
    rcases h3 with ⟨_, hc⟩ | ⟨_, hh, m, hm, hc⟩
    · exact absurd hc hle
    · have hc : p * p + q * q < 3 ^ m := by
        rcases hc with hc | hc
        · exact absurd hc hle
        · exact hc
      have hm1 : 1 ≤ m := by
        rcases Nat.eq_zero_or_pos m with z | z
        · rw [z] at hc
          have : (3 : Int) ^ 0 = 1 := rfl
          omega
        · exact z
      have l1 := tm_len (p := r) (q := s) (r := p) (s := q) hr
      refine ⟨bas_sub _ (bas_swap hb), h2, by omega, Or.inr ⟨by omega, tm_half hr, m - 1, by omega, ?_⟩⟩
      have sp := tm_spec (p := r) (q := s) (r := p) (s := q) hr
      have ec : r * p + s * q = p * r + q * s := by grind
      unfold hlfQ at hh
      rw [ec] at sp
      have e3 : (3 : Int) ^ m = 3 * 3 ^ (m - 1) := by
        obtain ⟨k, rfl⟩ : ∃ k, m = k + 1 := ⟨m - 1, by omega⟩
        rw [Nat.add_sub_cancel, Int.pow_succ, Int.mul_comm]
      rw [e3] at hc
      rcases (show tmQ r s p q = 1 ∨ tmQ r s p q = -1 ∨ 2 ≤ tmQ r s p q ∨ tmQ r s p q ≤ -2 by omega) with z | z | z | z
      · left
        rw [z]
        have e : (p - 1 * r) * (p - 1 * r) + (q - 1 * s) * (q - 1 * s) = p * p + q * q - 2 * (p * r + q * s) + (r * r + s * s) := by grind
        rw [e]
        omega
      · left
        rw [z]
        have e : (p - -1 * r) * (p - -1 * r) + (q - -1 * s) * (q - -1 * s) = p * p + q * q + 2 * (p * r + q * s) + (r * r + s * s) := by grind
        rw [e]
        omega
      · right
        generalize tmQ r s p q = t at *
        have m2 : 0 ≤ (t - 2) * (r * r + s * s) := Int.mul_nonneg (by omega) (by omega)
        rw [Int.sub_mul] at m2
        omega
      · right
        generalize tmQ r s p q = t at *
        have m2 : 0 ≤ (-t - 2) * (r * r + s * s) := Int.mul_nonneg (by omega) (by omega)
        rw [Int.sub_mul, Int.neg_mul] at m2
        omega
