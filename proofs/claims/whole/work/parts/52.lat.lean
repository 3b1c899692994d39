/-! the least fraction: sizes, which of two is less, lattices -/
abbrev iL (x : Int) : Int64 := Int64.ofInt x
theorem iL_t {x : Int} (h : -(2 ^ 62) ≤ x ∧ x ≤ 2 ^ 62) : (iL x).toInt = x := Int64.toInt_ofInt_of_le (by omega) (by omega)
theorem iL_add (a b : Int) : iL a + iL b = iL (a + b) := (Int64.ofInt_add a b).symm
theorem iL_sub (a b : Int) : iL a - iL b = iL (a - b) := (Int64.ofInt_sub a b).symm
theorem iL_mul (a b : Int) : iL a * iL b = iL (a * b) := (Int64.ofInt_mul a b).symm
theorem iL_neg (a : Int) : -iL a = iL (-a) := (Int64.ofInt_neg a).symm
theorem iL_of (x : Int64) : x = iL x.toInt := (Int64.ofInt_toInt x).symm
theorem iL_N (n : Nat) : lN n = iL n := rfl
theorem iL_lt {a b : Int} (ha : -(2 ^ 62) ≤ a ∧ a ≤ 2 ^ 62) (hb : -(2 ^ 62) ≤ b ∧ b ≤ 2 ^ 62) : iL a < iL b ↔ a < b := by
  rw [Int64.lt_iff_toInt_lt, iL_t ha, iL_t hb]
theorem iL_le {a b : Int} (ha : -(2 ^ 62) ≤ a ∧ a ≤ 2 ^ 62) (hb : -(2 ^ 62) ≤ b ∧ b ≤ 2 ^ 62) : iL a ≤ iL b ↔ a ≤ b := by
  rw [Int64.le_iff_toInt_le, iL_t ha, iL_t hb]
theorem iL_eq {a b : Int} (ha : -(2 ^ 62) ≤ a ∧ a ≤ 2 ^ 62) (hb : -(2 ^ 62) ≤ b ∧ b ≤ 2 ^ 62) : iL a = iL b ↔ a = b := by
  rw [← Int64.toInt_inj, iL_t ha, iL_t hb]
/-- the size of a fraction -/
abbrev szQ (p q : Int) : Int := max q (p.natAbs : Int)
/-- one is less than another -/
abbrev lsQ (a b A B : Int) : Prop := szQ a b < szQ A B ∨ (szQ a b = szQ A B ∧ (b < B ∨ (b = B ∧ a < A)))
/-- with what is below the line above 0 -/
abbrev nrP (p q : Int) : Int := if q < 0 then -p else p
abbrev nrB (q : Int) : Int := if q < 0 then -q else q
theorem ls_tr {a b c d e f : Int} (h : lsQ a b c d) (k : lsQ c d e f) : lsQ a b e f := by
  unfold lsQ szQ at *
  omega
theorem ls_irr {a b : Int} (h : lsQ a b a b) : False := by
  unfold lsQ szQ at *
  omega
theorem ls_tot {a b c d : Int} (h : ¬ lsQ a b c d) (k : ¬ lsQ c d a b) : a = c ∧ b = d := by
  unfold lsQ szQ at *
  omega
theorem lex3 {P : Nat → Nat → Nat → Prop} (h : ∀ a b c, (∀ a' b' c', (a' < a ∨ (a' = a ∧ (b' < b ∨ (b' = b ∧ c' < c)))) → P a' b' c') → P a b c) : ∀ a b c, P a b c := by
  intro a
  induction a using Nat.strongRecOn with
  | ind a iha =>
    intro b
    induction b using Nat.strongRecOn with
    | ind b ihb =>
      intro c
      induction c using Nat.strongRecOn with
      | ind c ihc =>
        refine h a b c (fun a' b' c' hl => ?_)
        rcases hl with hl | ⟨rfl, hl | ⟨rfl, hl⟩⟩
        · exact iha a' hl b' c'
        · exact ihb b' hl c'
        · exact ihc c' hl
/-- where a line comes to nothing -/
def crQ (u v : Int) : Int := if v = 0 then 0 else (-u).fdiv v
theorem cr_spec {u v : Int} (h : v ≠ 0) : (0 < v → crQ u v * v ≤ -u ∧ -u < crQ u v * v + v) ∧ (v < 0 → -u ≤ crQ u v * v ∧ crQ u v * v + v < -u) := by
  unfold crQ
  rw [if_neg h]
  have e := Int.mul_fdiv_add_fmod (-u) v
  rw [Int.mul_comm] at e
  constructor
  · intro hv
    have a := Int.fmod_nonneg_of_pos (-u) hv
    have b := Int.fmod_lt_of_pos (-u) hv
    omega
  · intro hv
    have a : Int.fmod (-u) v ≤ 0 := by
      have e2 := Int.neg_fmod_neg (-u) v
      have := Int.fmod_nonneg_of_pos (-(-u)) (show 0 < -v by omega)
      omega
    have b : v < Int.fmod (-u) v := by
      have e2 := Int.neg_fmod_neg (-u) v
      have := Int.fmod_lt_of_pos (-(-u)) (show 0 < -v by omega)
      omega
    omega
/-- beyond the place where a line comes to nothing it grows by its slope, step by step -/
theorem cr_hi {u v i : Int} (hv : v ≠ 0) (h : crQ u v + 1 ≤ i) : ∃ k : Nat, i = crQ u v + 1 + (k : Int) ∧ (u + i * v).natAbs = (u + (crQ u v + 1) * v).natAbs + k * v.natAbs := by
  obtain ⟨s1, s2⟩ := cr_spec (u := u) hv
  generalize crQ u v = c at *
  obtain ⟨k, hk⟩ : ∃ k : Nat, i = c + 1 + (k : Int) := ⟨(i - c - 1).toNat, by omega⟩
  refine ⟨k, hk, ?_⟩
  subst hk
  have n1 : ((k : Int) * v).natAbs = k * v.natAbs := by rw [Int.natAbs_mul, Int.natAbs_natCast]
  have e1 : (c + 1 + (k : Int)) * v = c * v + v + (k : Int) * v := by grind
  have e2 : (c + 1) * v = c * v + v := by grind
  rw [← n1, e1, e2]
  rcases Int.lt_or_gt_of_ne hv with hn | hp
  · obtain ⟨t1, t2⟩ := s2 hn
    have m : (k : Int) * v ≤ 0 := Int.mul_nonpos_of_nonneg_of_nonpos (by omega) (by omega)
    generalize (k : Int) * v = w at *
    generalize c * v = x at *
    omega
  · obtain ⟨t1, t2⟩ := s1 hp
    have m : 0 ≤ (k : Int) * v := Int.mul_nonneg (by omega) (by omega)
    generalize (k : Int) * v = w at *
    generalize c * v = x at *
    omega
theorem cr_lo {u v i : Int} (hv : v ≠ 0) (h : i ≤ crQ u v) : ∃ k : Nat, i = crQ u v - (k : Int) ∧ (u + i * v).natAbs = (u + crQ u v * v).natAbs + k * v.natAbs := by
  obtain ⟨s1, s2⟩ := cr_spec (u := u) hv
  generalize crQ u v = c at *
  obtain ⟨k, hk⟩ : ∃ k : Nat, i = c - (k : Int) := ⟨(c - i).toNat, by omega⟩
  refine ⟨k, hk, ?_⟩
  subst hk
  have n1 : ((k : Int) * v).natAbs = k * v.natAbs := by rw [Int.natAbs_mul, Int.natAbs_natCast]
  have e1 : (c - (k : Int)) * v = c * v - (k : Int) * v := by grind
  rw [← n1, e1]
  rcases Int.lt_or_gt_of_ne hv with hn | hp
  · obtain ⟨t1, t2⟩ := s2 hn
    have m : (k : Int) * v ≤ 0 := Int.mul_nonpos_of_nonneg_of_nonpos (by omega) (by omega)
    generalize (k : Int) * v = w at *
    generalize c * v = x at *
    omega
  · obtain ⟨t1, t2⟩ := s1 hp
    have m : 0 ≤ (k : Int) * v := Int.mul_nonneg (by omega) (by omega)
    generalize (k : Int) * v = w at *
    generalize c * v = x at *
    omega
/-- a line that isn't next to that place is as far off as its slope at least -/
theorem cr_out {u v i : Int} (h : i < crQ u v ∨ crQ u v + 1 < i) : v.natAbs ≤ (u + i * v).natAbs := by
  by_cases hv : v = 0
  · rw [hv]
    exact Nat.zero_le _
  · rcases h with h | h
    · obtain ⟨k, e1, e2⟩ := cr_lo (u := u) hv (Int.le_of_lt h)
      have k1 : 1 ≤ k := by omega
      have m := Nat.mul_le_mul_right v.natAbs k1
      rw [Nat.one_mul] at m
      rw [e2]
      exact Nat.le_trans m (Nat.le_add_left _ _)
    · obtain ⟨k, e1, e2⟩ := cr_hi (u := u) hv (Int.le_of_lt h)
      have k1 : 1 ≤ k := by omega
      have m := Nat.mul_le_mul_right v.natAbs k1
      rw [Nat.one_mul] at m
      rw [e2]
      exact Nat.le_trans m (Nat.le_add_left _ _)
/-- of two lines the steeper one says where both together are least -/
theorem st_one {u v w z i : Int} (hlt : z.natAbs < v.natAbs) (h : i < crQ u v ∨ crQ u v + 1 < i) : ∃ j, (crQ u v ≤ j ∧ j ≤ crQ u v + 1) ∧ (u + j * v).natAbs + (w + j * z).natAbs < (u + i * v).natAbs + (w + i * z).natAbs := by
  have hv : v ≠ 0 := by omega
  rcases h with h | h
  · obtain ⟨k, e1, e2⟩ := cr_lo (u := u) hv (Int.le_of_lt h)
    refine ⟨crQ u v, ⟨Int.le_refl _, by omega⟩, ?_⟩
    have k1 : 1 ≤ k := by omega
    have m1 := Nat.mul_le_mul_left k (show z.natAbs + 1 ≤ v.natAbs from hlt)
    rw [Nat.mul_add, Nat.mul_one] at m1
    have n1 : ((k : Int) * z).natAbs = k * z.natAbs := by rw [Int.natAbs_mul, Int.natAbs_natCast]
    rw [← n1] at m1
    rw [e2]
    have e3 : w + crQ u v * z = w + i * z + (k : Int) * z := by rw [e1]; grind
    rw [e3]
    generalize w + i * z = x at *
    generalize (k : Int) * z = y at *
    generalize k * v.natAbs = g at *
    omega
  · obtain ⟨k, e1, e2⟩ := cr_hi (u := u) hv (Int.le_of_lt h)
    refine ⟨crQ u v + 1, ⟨by omega, Int.le_refl _⟩, ?_⟩
    have k1 : 1 ≤ k := by omega
    have m1 := Nat.mul_le_mul_left k (show z.natAbs + 1 ≤ v.natAbs from hlt)
    rw [Nat.mul_add, Nat.mul_one] at m1
    have n1 : ((k : Int) * z).natAbs = k * z.natAbs := by rw [Int.natAbs_mul, Int.natAbs_natCast]
    rw [← n1] at m1
    rw [e2]
    have e3 : w + i * z = w + (crQ u v + 1) * z + (k : Int) * z := by rw [e1]; grind
    rw [e3]
    generalize w + (crQ u v + 1) * z = x at *
    generalize (k : Int) * z = y at *
    generalize k * v.natAbs = g at *
    omega
/-- twice the size of a fraction -/
theorem sz_two (x y : Int) : 2 * szQ (nrP x y) (nrB y) = (((x - y).natAbs + (x + y).natAbs : Nat) : Int) := by
  unfold szQ nrP nrB
  by_cases h : y < 0
  · rw [if_pos h, if_pos h]
    omega
  · rw [if_neg h, if_neg h]
    omega
theorem ls_sz {x y x' y' : Int} (h : (x - y).natAbs + (x + y).natAbs < (x' - y').natAbs + (x' + y').natAbs) : lsQ (nrP x y) (nrB y) (nrP x' y') (nrB y') := by
  refine Or.inl ?_
  have a := sz_two x y
  have b := sz_two x' y'
  generalize szQ (nrP x y) (nrB y) = s1 at *
  generalize szQ (nrP x' y') (nrB y') = s2 at *
  omega
theorem ls_flat {x y y' : Int} (h : y.natAbs < y'.natAbs) : lsQ (nrP x y) (nrB y) (nrP x y') (nrB y') := by
  unfold lsQ szQ nrP nrB
  by_cases a : y < 0
  · by_cases b : y' < 0
    · simp only [if_pos a, if_pos b]
      omega
    · simp only [if_pos a, if_neg b]
      omega
  · by_cases b : y' < 0
    · simp only [if_neg a, if_pos b]
      omega
    · simp only [if_neg a, if_neg b]
      omega
/-- neither of both lines is nearer than the short one, and both together are longer -/
theorem nn_lt {p q x y : Int} (g1 : (p - q).natAbs ≤ (x - y).natAbs) (g2 : (p + q).natAbs ≤ (x + y).natAbs) (big : p * p + q * q < x * x + y * y) : (p - q).natAbs + (p + q).natAbs < (x - y).natAbs + (x + y).natAbs := by
  refine Nat.lt_of_not_le (fun h => ?_)
  have c : (p = x ∧ q = y) ∨ (p = -x ∧ q = -y) ∨ (p = y ∧ q = x) ∨ (p = -y ∧ q = -x) := by
    clear big
    omega
  have n1 : -x * -x = x * x := Int.neg_mul_neg x x
  have n2 : -y * -y = y * y := Int.neg_mul_neg y y
  rcases c with ⟨e, f⟩ | ⟨e, f⟩ | ⟨e, f⟩ | ⟨e, f⟩
  · rw [e, f] at big
    omega
  · rw [e, f, n1, n2] at big
    omega
  · rw [e, f] at big
    omega
  · rw [e, f, n1, n2] at big
    omega
