/-! the least fraction: sizes, which of two is less, lattices -/
abbrev iL (x : Int) : Int64 := Int64.ofInt x
theorem iL_t {x : Int} (h : -(2 ^ 62) ≤ x ∧ x ≤ 2 ^ 62) : (iL x).toInt = x := Int64.toInt_ofInt_of_le (by omega) (by omega)
theorem iL_add (a b : Int) : iL a + iL b = iL (a + b) := (Int64.ofInt_add a b).symm
theorem iL_sub (a b : Int) : iL a - iL b = iL (a - b) := (Int64.ofInt_sub a b).symm
theorem iL_mul (a b : Int) : iL a * iL b = iL (a * b) := (Int64.ofInt_mul a b).symm
theorem iL_neg (a : Int) : -iL a = iL (-a) := (Int64.ofInt_neg a).symm
theorem iL_of (x : Int64) : x = iL x.toInt := (Int64.ofInt_toInt x).symm
theorem iL_N (n : Nat) : lN n = iL n := rfl
theorem iL_lt {a b : Int} (ha : -(2 ^ 62) ≤ a ∧ a ≤ 2 ^ 62) (hb : -(2 ^ 62) ≤ b ∧ b ≤ 2 ^ 62) : iL a < iL b ↔ a < b := by
  rw [Int64.lt_iff_toInt_lt, iL_t ha, iL_t hb]
theorem iL_le {a b : Int} (ha : -(2 ^ 62) ≤ a ∧ a ≤ 2 ^ 62) (hb : -(2 ^ 62) ≤ b ∧ b ≤ 2 ^ 62) : iL a ≤ iL b ↔ a ≤ b := by
  rw [Int64.le_iff_toInt_le, iL_t ha, iL_t hb]
theorem iL_eq {a b : Int} (ha : -(2 ^ 62) ≤ a ∧ a ≤ 2 ^ 62) (hb : -(2 ^ 62) ≤ b ∧ b ≤ 2 ^ 62) : iL a = iL b ↔ a = b := by
  rw [← Int64.toInt_inj, iL_t ha, iL_t hb]
/-- the size of a fraction -/
abbrev szQ (p q : Int) : Int := max q (p.natAbs : Int)
/-- one is less than another -/
abbrev lsQ (a b A B : Int) : Prop := szQ a b < szQ A B ∨ (szQ a b = szQ A B ∧ (b < B ∨ (b = B ∧ a < A)))
/-- with what is below the line above 0 -/
abbrev nrP (p q : Int) : Int := if q < 0 then -p else p
abbrev nrB (q : Int) : Int := if q < 0 then -q else q
theorem ls_tr {a b c d e f : Int} (h : lsQ a b c d) (k : lsQ c d e f) : lsQ a b e f := by
  unfold lsQ szQ at *
  omega
theorem ls_irr {a b : Int} (h : lsQ a b a b) : False := by
  unfold lsQ szQ at *
  omega
theorem ls_tot {a b c d : Int} (h : ¬ lsQ a b c d) (k : ¬ lsQ c d a b) : a = c ∧ b = d := by
  unfold lsQ szQ at *
  omega
theorem lex3 {P : Nat → Nat → Nat → Prop} (h : ∀ a b c, (∀ a' b' c', (a' < a ∨ (a' = a ∧ (b' < b ∨ (b' = b ∧ c' < c)))) → P a' b' c') → P a b c) : ∀ a b c, P a b c := by
  intro a
  induction a using Nat.strongRecOn with
  | ind a iha =>
    intro b
    induction b using Nat.strongRecOn with
    | ind b ihb =>
      intro c
      induction c using Nat.strongRecOn with
      | ind c ihc =>
        refine h a b c (fun a' b' c' hl => ?_)
        rcases hl with hl | ⟨rfl, hl | ⟨rfl, hl⟩⟩
        · exact iha a' hl b' c'
        · exact ihb b' hl c'
        · exact ihc c' hl
/-- where a line comes to nothing -/
def crQ (u v : Int) : Int := if v = 0 then 0 else (-u).fdiv v
theorem cr_spec {u v : Int} (h : v ≠ 0) : (0 < v → crQ u v * v ≤ -u ∧ -u < crQ u v * v + v) ∧ (v < 0 → -u ≤ crQ u v * v ∧ crQ u v * v + v < -u) := by
  unfold crQ
  rw [if_neg h]
  have e := Int.mul_fdiv_add_fmod (-u) v
  rw [Int.mul_comm] at e
  constructor
  · intro hv
    have a := Int.fmod_nonneg_of_pos (-u) hv
    have b := Int.fmod_lt_of_pos (-u) hv
    omega
  · intro hv
    have a : Int.fmod (-u) v ≤ 0 := by
      have e2 := Int.neg_fmod_neg (-u) v
      have := Int.fmod_nonneg_of_pos (-(-u)) (show 0 < -v by omega)
      omega
    have b : v < Int.fmod (-u) v := by
      have e2 := Int.neg_fmod_neg (-u) v
      have := Int.fmod_lt_of_pos (-(-u)) (show 0 < -v by omega)
      omega
    omega
/-- a line doesn't change its sign near a place that isn't near where it comes to nothing -/
theorem cr_sgn {u v i : Int} (h : i ≤ crQ u v - 2 ∨ crQ u v + 3 ≤ i) : (0 ≤ u + (i - 2) * v ∧ 0 ≤ u + i * v ∧ 0 ≤ u + (i + 2) * v) ∨ (u + (i - 2) * v ≤ 0 ∧ u + i * v ≤ 0 ∧ u + (i + 2) * v ≤ 0) := by
  by_cases hv : v = 0
  · subst hv
    simp only [Int.mul_zero, Int.add_zero]
    omega
  · obtain ⟨s1, s2⟩ := cr_spec (u := u) hv
    generalize crQ u v = c at *
    rw [Int.sub_mul, Int.add_mul]
    rcases Int.lt_or_gt_of_ne hv with hn | hp
    · obtain ⟨t1, t2⟩ := s2 hn
      rcases h with h | h
      · have m : (c - 2 - i) * v ≤ 0 := Int.mul_nonpos_of_nonneg_of_nonpos (by omega) (by omega)
        rw [Int.sub_mul, Int.sub_mul] at m
        omega
      · have m : (i - (c + 3)) * v ≤ 0 := Int.mul_nonpos_of_nonneg_of_nonpos (by omega) (by omega)
        rw [Int.sub_mul, Int.add_mul] at m
        omega
    · obtain ⟨t1, t2⟩ := s1 hp
      rcases h with h | h
      · have m : 0 ≤ (c - 2 - i) * v := Int.mul_nonneg (by omega) (by omega)
        rw [Int.sub_mul, Int.sub_mul] at m
        omega
      · have m : 0 ≤ (i - (c + 3)) * v := Int.mul_nonneg (by omega) (by omega)
        rw [Int.sub_mul, Int.add_mul] at m
        omega
/-- away from all of these a step of two leads to a less one -/
theorem ln_step {x y s t : Int} (hst : s ≠ 0 ∨ t ≠ 0) (ho : y % 2 = 1)
    (h1 : (0 ≤ x - 2 * s ∧ 0 ≤ x ∧ 0 ≤ x + 2 * s) ∨ (x - 2 * s ≤ 0 ∧ x ≤ 0 ∧ x + 2 * s ≤ 0))
    (h2 : (0 ≤ y - 2 * t ∧ 0 ≤ y ∧ 0 ≤ y + 2 * t) ∨ (y - 2 * t ≤ 0 ∧ y ≤ 0 ∧ y + 2 * t ≤ 0))
    (h3 : (0 ≤ (x - y) - 2 * (s - t) ∧ 0 ≤ x - y ∧ 0 ≤ (x - y) + 2 * (s - t)) ∨ ((x - y) - 2 * (s - t) ≤ 0 ∧ x - y ≤ 0 ∧ (x - y) + 2 * (s - t) ≤ 0))
    (h4 : (0 ≤ (x + y) - 2 * (s + t) ∧ 0 ≤ x + y ∧ 0 ≤ (x + y) + 2 * (s + t)) ∨ ((x + y) - 2 * (s + t) ≤ 0 ∧ x + y ≤ 0 ∧ (x + y) + 2 * (s + t) ≤ 0)) :
    lsQ (nrP (x - 2 * s) (y - 2 * t)) (nrB (y - 2 * t)) (nrP x y) (nrB y) ∨ lsQ (nrP (x + 2 * s) (y + 2 * t)) (nrB (y + 2 * t)) (nrP x y) (nrB y) := by
  unfold lsQ szQ nrP nrB
  rcases h2 with h2 | h2
  · rw [if_neg (show ¬ y < 0 by omega), if_neg (show ¬ y < 0 by omega), if_neg (show ¬ y - 2 * t < 0 by omega), if_neg (show ¬ y - 2 * t < 0 by omega), if_neg (show ¬ y + 2 * t < 0 by omega), if_neg (show ¬ y + 2 * t < 0 by omega)]
    rcases h1 with h1 | h1 <;> rcases h3 with h3 | h3 <;> rcases h4 with h4 | h4 <;> omega
  · rw [if_pos (show y < 0 by omega), if_pos (show y < 0 by omega), if_pos (show y - 2 * t < 0 by omega), if_pos (show y - 2 * t < 0 by omega), if_pos (show y + 2 * t < 0 by omega), if_pos (show y + 2 * t < 0 by omega)]
    rcases h1 with h1 | h1 <;> rcases h3 with h3 | h3 <;> rcases h4 with h4 | h4 <;> omega
