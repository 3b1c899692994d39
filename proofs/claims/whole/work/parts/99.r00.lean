theorem hw {f : Int32} {m j : Nat} (hm : m ≤ 40) (hj : j < 4) (h0 : 0 < j → ¬ f < 0) : hasL f (nI m) j ↔ (¬ f < 0 ∧ ¬ 4 * nI j + 4 < 0 ∧ ¬ nI m - (4 * nI j + 4) < f) := by
  have e4 : 4 * nI j + 4 = nI (4 * j + 4) := by rw [nI4', show (4 : Int32) = nI 4 from rfl, nI_add]
  rw [e4]
  have b1 := f.toInt_lt
  have b2 := f.le_toInt
  have em : (nI m).toInt = (m : Int) := nI_toInt (by omega)
  have en : (nI (4 * j)).toInt = ((4 * j : Nat) : Int) := nI_toInt (by omega)
  have ea : (Int32.toInt64 f + Int32.toInt64 (nI j * 4)).toInt = f.toInt + (4 * j : Nat) := by
    rw [nI4, Int64.toInt_add, Int32.toInt_toInt64, Int32.toInt_toInt64, en, Int.bmod_eq_of_le (by omega) (by omega)]
  have A1 : lg_cmp (Int32.toInt64 f + Int32.toInt64 (nI j * 4)) 0 < 0 ↔ f.toInt + (4 * j : Nat) < 0 := by
    rw [lg_cmp_lt, Int64.lt_iff_toInt_lt, ea]; exact Iff.rfl
  have A3 : 0 < lg_cmp (Int32.toInt64 f + Int32.toInt64 (nI j * 4) + 4) (Int32.toInt64 (nI m)) ↔ (m : Int) < f.toInt + (4 * j : Nat) + 4 := by
    rw [lg_cmp_gt, Int64.lt_iff_toInt_lt, Int64.toInt_add, ea, Int32.toInt_toInt64, em, show (4 : Int64).toInt = 4 from rfl, Int.bmod_eq_of_le (by omega) (by omega)]
  have A4 : ¬ (40 : Int32) < nI m := by
    rw [Int32.lt_iff_toInt_lt, em, show (40 : Int32).toInt = 40 from rfl]; omega
  have B1 : f < 0 ↔ f.toInt < 0 := by rw [Int32.lt_iff_toInt_lt]; exact Iff.rfl
  have B3 : nI m - nI (4 * j + 4) < f ↔ (m : Int) - ((4 * j + 4 : Nat) : Int) < f.toInt := by
    rw [Int32.lt_iff_toInt_lt, Int32.toInt_sub, em, nI_toInt (by omega), Int.bmod_eq_of_le (by omega) (by omega)]
  have B2 : ¬ nI (4 * j + 4) < 0 := nI_pos (by omega)
  have c4 : ¬ lg_cmp 4 0 < 0 := by decide
  unfold hasL
  rw [A1, A3, B1, B3]
  rw [B1] at h0
  constructor
  · intro q
    refine ⟨?_, B2, by omega⟩
    rcases Nat.eq_zero_or_pos j with z | z
    · omega
    · exact h0 z
  · intro q
    exact ⟨by omega, c4, by omega, A4⟩
theorem hw_all {f : Int32} {m : Nat} (hm : m ≤ 40) : ∀ n, n ≤ 4 → ((∀ i, i < n → hasL f (nI m) i) ↔ (∀ i, i < n → (¬ f < 0 ∧ ¬ 4 * nI i + 4 < 0 ∧ ¬ nI m - (4 * nI i + 4) < f)))
  | 0, _ => ⟨fun _ i hi => absurd hi (Nat.not_lt_zero _), fun _ i hi => absurd hi (Nat.not_lt_zero _)⟩
  | n + 1, h => by
    have ih := hw_all (f := f) hm n (by omega)
    constructor
    · intro q i hi
      have q0 := ih.mp (fun i hi => q i (by omega))
      by_cases z : i = n
      · subst z
        exact (hw hm (by omega) (fun p => (q0 0 p).1)).mp (q i (by omega))
      · exact q0 i (by omega)
    · intro q i hi
      exact (hw hm (by omega) (fun p => (q 0 (by omega)).1)).mpr (q i hi)
theorem r_ld {S : XS} {M : MS} {f : Nat → Int32} {p P : Nat} (h : Rel S M) (hf : ∀ k, k < 40 → p ≤ k → f k = M.2.2 34 (P + (k - p))) : ∀ j {r : Int32} {U : XS}, (∀ i, i < j → p + 4 * i + 4 ≤ 40) → ldX f p S j r U → r = ldC M P j ∧ Rel U (ldS M P j)
  | 0, r, U, _, q => by
    obtain ⟨rfl, rfl⟩ := q
    exact ⟨rfl, h⟩
  | j + 1, r, U, hb, q => by
    obtain ⟨r', U', q1, q2, q3⟩ := q
    obtain ⟨e1, e2⟩ := r_ld h hf j (fun i hi => hb i (by omega)) q1
    have b := hb j (by omega)
    have g : ∀ c, c < 4 → f (p + 4 * j + c) = M.2.2 34 (P + 4 * j + c) := fun c hc => (hf _ (by omega) (by omega)).trans (congrArg (M.2.2 34) (by omega))
    rw [show f (p + 4 * j) = M.2.2 34 (P + 4 * j) from g 0 (by decide), g 1 (by decide), g 2 (by decide), g 3 (by decide)] at q2 q3
    obtain ⟨c1, c2⟩ := r_machine e2 q2
    refine ⟨?_, c2⟩
    rw [q3, c1, e1]
    rfl
theorem r_load {S S' : XS} {M M' : MS} {a b f n : Int32} {v v' : Option Value} (h : Rel S M) (hx : loadX S a b f n v S') (hm : loadM M a b f n v' M') : v = v' ∧ Rel S' M' := by
  by_cases g : (0 ≤ a ∧ a ≤ 3) ∧ (0 ≤ b ∧ b ≤ 1) ∧ (0 ≤ n ∧ n ≤ 4)
  · obtain ⟨a1, a2, a3, ⟨m, hm4, a4⟩, a5⟩ := h.2.2.1 _ (sh_lt g.1)
    obtain ⟨n', rfl, _, hn⟩ := nI_rng (a := 0) (b := 4) (by decide) g.2.2.1 g.2.2.2 (by decide)
    have en : (nI n').toNatClampNeg = n' := nI_clamp (by omega)
    unfold loadX at hx
    unfold loadM wiM at hm
    rw [a1, a2, a4, en] at hx
    rw [a4, en] at hm
    rcases hx with ⟨q, _⟩ | ⟨_, s, rfl, rfl⟩ | ⟨_, s, e, rfl, rfl⟩ | ⟨_, s, e, w⟩
    · exact absurd g q
    · rcases hm with ⟨q, _⟩ | ⟨_, _, rfl, rfl⟩ | ⟨_, s', _⟩ | ⟨_, s', _⟩
      · exact absurd g q
      · exact ⟨rfl, h⟩
      · exact absurd s ((so_m a3).1.mpr s')
      · exact absurd s ((so_m a3).1.mpr s')
    · rcases hm with ⟨q, _⟩ | ⟨_, s', _⟩ | ⟨_, _, _, rfl, rfl⟩ | ⟨_, _, e', _⟩
      · exact absurd g q
      · exact absurd ((so_m a3).1.mp s) s'
      · exact ⟨rfl, h⟩
      · exact absurd e' e
    · rcases hm with ⟨q, _⟩ | ⟨_, s', _⟩ | ⟨_, _, e', _⟩ | ⟨_, _, _, w'⟩
      · exact absurd g q
      · exact absurd ((so_m a3).1.mp s) s'
      · exact absurd e e'
      · have hf : ∀ k, k < 40 → f.toNatClampNeg ≤ k → S.2.2.1 (20 + a.toNatClampNeg) k = M.2.2 34 (40 * a.toNatClampNeg + f.toNatClampNeg + (k - f.toNatClampNeg)) := fun k hk hp => (a5 k hk).trans (congrArg (M.2.2 34) (by omega))
        have bd : ∀ j, j ≤ 4 → (∀ i, i < j → hasL f (nI m) i) → ∀ i, i < j → f.toNatClampNeg + 4 * i + 4 ≤ 40 := fun j hj q i hi => (ldIn (by omega) (fun z => ((hw_all hm4 j hj).mp q 0 (by omega)).1) (q i hi)).2.2.1
        rcases w with ⟨r, l1, l2, rfl⟩ | ⟨j, r, hj, l1, l2, l3, rfl⟩
        · rcases w' with ⟨rfl, rfl, _⟩ | ⟨j', hj', _, _, _, l3'⟩
          · obtain ⟨c1, c2⟩ := r_ld h hf n' (bd n' hn l2) l1
            exact ⟨by rw [c1], c2⟩
          · exact absurd ((hw_all hm4 n' hn).mp l2 j' hj') l3'
        · have w1 := (hw_all hm4 j (by omega)).mp l2
          have w2 : ¬ (¬ f < 0 ∧ ¬ 4 * nI j + 4 < 0 ∧ ¬ nI m - (4 * nI j + 4) < f) := fun q => l3 ((hw hm4 (by omega) (fun _ => q.1)).mpr q)
          rcases w' with ⟨_, _, l2'⟩ | ⟨j', hj', rfl, rfl, l2', l3'⟩
          · exact absurd (l2' j hj) w2
          · have ej : j = j' := by
              rcases Nat.lt_trichotomy j j' with z | z | z
              · exact absurd (l2' j z) w2
              · exact z
              · exact absurd (w1 j' z) l3'
            subst ej
            exact ⟨rfl, (r_ld h hf j (bd j (by omega) l2) l1).2⟩
  · rcases hx with ⟨_, rfl, rfl⟩ | ⟨q, _⟩ | ⟨q, _⟩ | ⟨q, _⟩
    · rcases hm with ⟨_, rfl, rfl⟩ | ⟨q, _⟩ | ⟨q, _⟩ | ⟨q, _⟩
      · exact ⟨rfl, h⟩
      all_goals exact absurd q g
    all_goals exact absurd q g
