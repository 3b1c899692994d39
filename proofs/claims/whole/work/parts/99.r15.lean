theorem m1_lt {x : Int32} (h : x < 0) : x ≤ -1 := by
  have a := Int32.lt_iff_toInt_lt.mp h
  refine Int32.le_iff_toInt_le.mpr ?_
  have e0 : (0 : Int32).toInt = 0 := rfl
  have e1 : (-1 : Int32).toInt = -1 := rfl
  omega
/-! runs -/
abbrev rb (f : Nat → Int32) (b : Int64) (t : Nat → Nat) (len : Nat) : Prop := ∀ i, i < len → f i = nI (t i) ∧ lbt b (nI i) = lN (t i) ∧ t i < 2
theorem b2_i : ∀ a, a < 2 → ∀ b, b < 2 → (nI a = nI b ↔ a = b) ∧ (lN a = lN b ↔ a = b) := by decide +kernel
theorem rl_F {f : Nat → Int32} {b : Int64} {t : Nat → Nat} {len : Nat} (h : rb f b t len) {v : Nat} (hv : v < 2) : ∀ g x, rlL b (lN v) len g x = rlF f (nI v) len g x
  | 0, _ => rfl
  | g + 1, x => by
    show (if x < len ∧ lbt b (nI x) = lN v then rlL b (lN v) len g (x + 1) + 1 else 0) = if x < len ∧ f x = nI v then rlF f (nI v) len g (x + 1) + 1 else 0
    refine ite_c ⟨fun q => ⟨q.1, ?_⟩, fun q => ⟨q.1, ?_⟩⟩ (fun _ => by rw [rl_F h hv g (x + 1)]) (fun _ => rfl)
    · obtain ⟨e1, e2, e3⟩ := h x q.1
      rw [e1, (b2_i _ e3 _ hv).1, ← (b2_i _ e3 _ hv).2, ← e2]; exact q.2
    · obtain ⟨e1, e2, e3⟩ := h x q.1
      rw [e2, (b2_i _ e3 _ hv).2, ← (b2_i _ e3 _ hv).1, ← e1]; exact q.2
theorem rl_A {f : Nat → Int32} {b : Int64} {t : Nat → Nat} {len : Nat} (h : rb f b t len) {q : Nat} (hq : q < len) : rlX b len q = rlA f len q := by
  obtain ⟨e1, e2, e3⟩ := h q hq
  unfold rlX rlA
  rw [e1, e2, show len - q = len - (q + 1) + 1 by omega]
  show (if q < len ∧ lbt b (nI q) = lN (t q) then rlL b (lN (t q)) len (len - (q + 1)) (q + 1) + 1 else 0) = _
  have c : q < len ∧ lbt b (nI q) = lN (t q) := ⟨hq, e2⟩
  rw [if_pos c, rl_F h e3]
  omega
abbrev stA (f : Nat → Int32) (i : Nat) : Prop := i = 0 ∨ ¬ f i = f (i - 1)
theorem br_A {f : Nat → Int32} {b : Int64} {t : Nat → Nat} {len : Nat} (hl : len ≤ 40) (h : rb f b t len) {q : Nat} (hq : q < len) : brX b (nI q) ↔ stA f q := by
  unfold brX stA
  cases q with
  | zero => exact ⟨fun _ => Or.inl rfl, fun _ => Or.inl rfl⟩
  | succ q =>
    obtain ⟨e1, e2, e3⟩ := h (q + 1) hq
    obtain ⟨d1, d2, d3⟩ := h q (by omega)
    rw [nI_pred, Nat.add_sub_cancel, e1, e2, d1, d2, (b2_i _ e3 _ d3).1, (b2_i _ e3 _ d3).2]
    have c : ¬ nI (q + 1) = 0 := nI_ne0 (by omega) (by omega)
    exact ⟨fun z => z.elim (fun z => absurd z c) (fun z => Or.inr z), fun z => z.elim (fun z => absurd z (by omega)) (fun z => Or.inr z)⟩
theorem rF_in (f : Nat → Int32) (v : Int32) (len : Nat) : ∀ g x i, x ≤ i → i < x + rlF f v len g x → i < len ∧ f i = v
  | 0, x, i, h1, h2 => absurd (show i < x + 0 from h2) (by omega)
  | g + 1, x, i, h1, h2 => by
    have e : rlF f v len (g + 1) x = if x < len ∧ f x = v then rlF f v len g (x + 1) + 1 else 0 := rfl
    rw [e] at h2
    by_cases c : x < len ∧ f x = v
    · rw [if_pos c] at h2
      by_cases z : i = x
      · rw [z]; exact c
      · exact rF_in f v len g (x + 1) i (by omega) (by omega)
    · rw [if_neg c] at h2; omega
theorem rF_end (f : Nat → Int32) (v : Int32) (len : Nat) : ∀ g x, rlF f v len g x = g ∨ ¬ (x + rlF f v len g x < len ∧ f (x + rlF f v len g x) = v)
  | 0, x => Or.inl rfl
  | g + 1, x => by
    have e : rlF f v len (g + 1) x = if x < len ∧ f x = v then rlF f v len g (x + 1) + 1 else 0 := rfl
    rw [e]
    by_cases c : x < len ∧ f x = v
    · rw [if_pos c]
      rcases rF_end f v len g (x + 1) with z | z
      · exact Or.inl (by rw [z])
      · refine Or.inr ?_
        rw [show x + (rlF f v len g (x + 1) + 1) = x + 1 + rlF f v len g (x + 1) by omega]
        exact z
    · rw [if_neg c]
      exact Or.inr c
theorem rA_in {f : Nat → Int32} {len q i : Nat} (h1 : q ≤ i) (h2 : i < q + rlA f len q) : f i = f q := by
  by_cases z : i = q
  · rw [z]
  · exact (rF_in f (f q) len (len - (q + 1)) (q + 1) i (by omega) (by unfold rlA at h2; omega)).2
theorem rA_end {f : Nat → Int32} {len q : Nat} (hq : q < len) (h : q + rlA f len q < len) : stA f (q + rlA f len q) := by
  have l := rlA_le (f := f) hq
  refine Or.inr ?_
  rw [rA_in (f := f) (len := len) (q := q) (i := q + rlA f len q - 1) (by omega) (by omega)]
  intro z
  unfold rlA at h z
  rcases rF_end f (f q) len (len - (q + 1)) (q + 1) with e | e
  · rw [e] at h; omega
  · rw [show q + (1 + rlF f (f q) len (len - (q + 1)) (q + 1)) = q + 1 + rlF f (f q) len (len - (q + 1)) (q + 1) by omega] at h z
    exact e ⟨h, z⟩
theorem st_no {f : Nat → Int32} {len q i : Nat} (h1 : q < i) (h2 : i < q + rlA f len q) : ¬ stA f i := by
  rintro (z | z)
  · omega
  · refine z ?_
    rw [rA_in (f := f) (len := len) (q := q) (by omega) h2, rA_in (f := f) (i := i - 1) (len := len) (q := q) (by omega) (by omega)]
def cS (P : Nat → Bool) (f : Nat → Int32) (j : Nat) : Nat := it (fun i c => if stA f i ∧ P i = true then c + 1 else c) j 0
theorem cS_s (P : Nat → Bool) (f : Nat → Int32) (j : Nat) : cS P f (j + 1) = if stA f j ∧ P j = true then cS P f j + 1 else cS P f j := rfl
theorem cS_j {P : Nat → Bool} {f : Nat → Int32} {len q : Nat} (hs : stA f q) : ∀ d, d + 1 ≤ rlA f len q → cS P f (q + d + 1) = cS P f q + if P q then 1 else 0
  | 0, _ => by
    show cS P f (q + 1) = _
    rw [cS_s]
    by_cases p : P q = true
    · have c : stA f q ∧ P q = true := ⟨hs, p⟩
      rw [if_pos c, if_pos p]
    · have c : ¬ (stA f q ∧ P q = true) := fun z => p z.2
      rw [if_neg c, if_neg p]; rfl
  | d + 1, h => by
    rw [cS_s]
    have c : ¬ (stA f (q + (d + 1)) ∧ P (q + (d + 1)) = true) := fun z => st_no (f := f) (len := len) (q := q) (by omega) (by omega) z.1
    rw [if_neg c]
    exact cS_j (len := len) hs d (by omega)
theorem rnC_c (P : Nat → Bool) (f : Nat → Int32) (len : Nat) : ∀ g q, len + 1 ≤ g + q → q ≤ len → (q < len → stA f q) → cS P f q + rnC P f len g q = cS P f len
  | 0, q, h1, h2, _ => absurd h1 (by omega)
  | g + 1, q, h1, h2, hs => by
    have e : rnC P f len (g + 1) q = if q < len then (if P q then 1 else 0) + rnC P f len g (q + rlA f len q) else 0 := rfl
    rw [e]
    by_cases c : q < len
    · have l := rlA_le (f := f) c
      have ih := rnC_c P f len g (q + rlA f len q) (by omega) l.1 (fun z => rA_end c z)
      have j := cS_j (P := P) (hs c) (rlA f len q - 1) (len := len) (by omega)
      rw [show q + (rlA f len q - 1) + 1 = q + rlA f len q by omega] at j
      rw [if_pos c, ← ih, j]
      omega
    · rw [if_neg c, show q = len by omega]; rfl
theorem raF_c {f : Nat → Int32} {len q : Nat} (hq : q < len) : ∀ g k, q + 1 ≤ g + k → (k < q → stA f k) → (raF f len q g k = true ↔ ∃ i, k ≤ i ∧ i < q ∧ stA f i ∧ f i = f q ∧ rlA f len i = rlA f len q)
  | 0, k, h1, _ => ⟨fun z => absurd (show false = true from z) (by decide), fun ⟨i, a, b, _⟩ => absurd h1 (by omega)⟩
  | g + 1, k, h1, hs => by
    have e : raF f len q (g + 1) k = if k < q then (if f k = f q ∧ rlA f len k = rlA f len q then true else raF f len q g (k + rlA f len k)) else false := rfl
    rw [e]
    by_cases c : k < q
    · rw [if_pos c]
      by_cases d : f k = f q ∧ rlA f len k = rlA f len q
      · rw [if_pos d]
        exact ⟨fun _ => ⟨k, Nat.le_refl _, c, hs c, d⟩, fun _ => rfl⟩
      · rw [if_neg d]
        have l := rlA_le (f := f) (len := len) (q := k) (by omega)
        have ih := raF_c (f := f) hq g (k + rlA f len k) (by omega) (fun z => rA_end (by omega) (by omega))
        rw [ih]
        constructor
        · rintro ⟨i, a, b⟩
          exact ⟨i, by omega, b⟩
        · rintro ⟨i, a, b, s, r⟩
          refine ⟨i, ?_, b, s, r⟩
          by_cases z : k + rlA f len k ≤ i
          · exact z
          · by_cases y : i = k
            · rw [y] at r; exact absurd r d
            · exact absurd s (st_no (f := f) (len := len) (q := k) (by omega) (by omega))
    · rw [if_neg c]
      exact ⟨fun z => absurd z (by decide), fun ⟨i, a, b, _⟩ => absurd b (by omega)⟩
theorem rs_c {f : Nat → Int32} {b : Int64} {t : Nat → Nat} {len : Nat} (hl : len ≤ 40) (h : rb f b t len) {v : Nat} (hv : v < 2) (g : Int32) : ∀ j, j ≤ len → rsX b len (nI v) g j = nI (cS (rnP f len (nI v) g) f j)
  | 0, _ => rfl
  | j + 1, hj => by
    show (if brX b (nI j) ∧ lbt b (nI j) = (nI v).toInt64 ∧ nI (rlX b len j) = g then rsX b len (nI v) g j + 1 else rsX b len (nI v) g j) = _
    obtain ⟨e1, e2, e3⟩ := h j (by omega)
    have n1 : ¬ nI v = -1 := fun z => absurd (nI_pos (n := v) (by omega)) (fun y => y (by rw [z]; decide))
    have k : (brX b (nI j) ∧ lbt b (nI j) = (nI v).toInt64 ∧ nI (rlX b len j) = g) ↔ (stA f j ∧ rnP f len (nI v) g j = true) := by
      unfold rnP
      rw [if_neg n1, br_A hl h (by omega), rl_A h (by omega), decide_eq_true_iff, nI_l (by omega), e1, e2, (b2_i _ e3 _ hv).1, (b2_i _ e3 _ hv).2]
    rw [cS_s, rs_c hl h hv g j (by omega)]
    by_cases c : stA f j ∧ rnP f len (nI v) g j = true
    · rw [if_pos (k.mpr c), if_pos c, nI_succ]
    · rw [if_neg (fun z => c (k.mp z)), if_neg c]
theorem sm_one {F G : Nat → Nat} {l : Nat} (h : ∀ i, i ≠ l → F i = G i) : ∀ n, l < n → sm F n + G l = sm G n + F l
  | 0, hl => absurd hl (Nat.not_lt_zero _)
  | n + 1, hl => by
    show sm F n + F n + G l = sm G n + G n + F l
    by_cases z : l = n
    · have e : sm F n = sm G n := sm_cg (fun i hi => h i (by omega))
      rw [e, ← z]; omega
    · have := sm_one h n (by omega)
      have := h n (fun y => z y.symm)
      omega
theorem tb_or2 (A l i : Nat) : tb (A ||| 2 ^ l) i = if i = l then 1 else tb A i := by
  rw [tb_t, tb_t, Nat.testBit_or, Nat.testBit_two_pow]
  by_cases z : i = l
  · rw [if_pos z, z]; simp
  · have e : decide (l = i) = false := decide_eq_false (fun y => z y.symm)
    rw [if_neg z, e, Bool.or_false]
theorem pc_or {A l : Nat} (h : l < 64) : pcN (A ||| 2 ^ l) 64 = pcN A 64 + (1 - tb A l) := by
  have e := sm_one (F := fun i => tb (A ||| 2 ^ l) i) (G := fun i => tb A i) (l := l) (fun i z => by
    show tb (A ||| 2 ^ l) i = tb A i
    rw [tb_or2, if_neg z]) 64 h
  have e2 : tb (A ||| 2 ^ l) l = 1 := by rw [tb_or2, if_pos rfl]
  have e3 := tb_lt A l
  have e4 : sm (fun i => tb (A ||| 2 ^ l) i) 64 + tb A l = sm (fun i => tb A i) 64 + 1 := by rw [← e2]; exact e
  show sm (fun i => tb (A ||| 2 ^ l) i) 64 = sm (fun i => tb A i) 64 + (1 - tb A l)
  omega
theorem or_l {A l : Nat} (hA : A < 2 ^ 41) (h : l < 41) : lN A ||| 1 <<< ((nI l).toInt64 &&& 63) = lN (A ||| 2 ^ l) ∧ A ||| 2 ^ l < 2 ^ 41 := by
  have p : 2 ^ l < 2 ^ 41 := Nat.pow_lt_pow_right (by decide) h
  refine ⟨?_, Nat.or_lt_two_pow hA p⟩
  have e := wb_shl 1 (k := l) (by omega)
  rw [Nat.one_mul] at e
  rw [show (1 : Int64) = lN 1 from rfl, e, wb_or (by omega) (by omega)]
def hadL (f : Nat → Int32) (len v j l : Nat) : Prop := ∃ i, i < j ∧ stA f i ∧ f i = nI v ∧ rlA f len i = l
theorem had_s {f : Nat → Int32} {len v j l : Nat} (c : ¬ (stA f j ∧ f j = nI v ∧ rlA f len j = l)) : hadL f len v (j + 1) l ↔ hadL f len v j l := by
  constructor
  · rintro ⟨i, h1, h2⟩
    by_cases z : i = j
    · rw [z] at h2; exact absurd h2 c
    · exact ⟨i, by omega, h2⟩
  · rintro ⟨i, h1, h2⟩
    exact ⟨i, by omega, h2⟩
theorem had_mk {f : Nat → Int32} {len v j A l : Nat} (hs : stA f j) (hf : f j = nI v) (hA : ∀ l, tb A l = 1 ↔ hadL f len v j l) : tb (A ||| 2 ^ rlA f len j) l = 1 ↔ hadL f len v (j + 1) l := by
  rw [tb_or2]
  by_cases z : l = rlA f len j
  · rw [if_pos z]
    exact ⟨fun _ => ⟨j, by omega, hs, hf, z.symm⟩, fun _ => rfl⟩
  · rw [if_neg z, hA, had_s (fun q => z q.2.2.symm)]
theorem ur_c {f : Nat → Int32} {b : Int64} {t : Nat → Nat} {len : Nat} (hl : len ≤ 40) (h : rb f b t len) (g : Int32) : ∀ j, j ≤ len → ∃ A B, urX b len j = (lN A, lN B) ∧ A < 2 ^ 41 ∧ B < 2 ^ 41 ∧ (∀ l, tb A l = 1 ↔ hadL f len 0 j l) ∧ (∀ l, tb B l = 1 ↔ hadL f len 1 j l) ∧ pcN A 64 + pcN B 64 = cS (rnP f len (-1) g) f j
  | 0, _ => ⟨0, 0, rfl, by decide, by decide, fun l => ⟨fun z => absurd z (by unfold tb; rw [Nat.zero_div]; decide), fun ⟨i, q, _⟩ => absurd q (Nat.not_lt_zero _)⟩, fun l => ⟨fun z => absurd z (by unfold tb; rw [Nat.zero_div]; decide), fun ⟨i, q, _⟩ => absurd q (Nat.not_lt_zero _)⟩, by show pcN 0 64 + pcN 0 64 = 0; decide +kernel⟩
  | j + 1, hj => by
    obtain ⟨A, B, e, hA, hB, mA_, mB_, pc⟩ := ur_c hl h g j (by omega)
    obtain ⟨e1, e2, e3⟩ := h j (by omega)
    have l := rlA_le (f := f) (len := len) (q := j) (by omega)
    have pj : rnP f len (-1) g j = true ↔ ¬ hadL f len (t j) j (rlA f len j) := by
      unfold rnP
      rw [if_pos rfl, Bool.not_eq_true', ← Bool.not_eq_true, raF_c (by omega) 41 0 (by omega) (fun _ => Or.inl rfl), e1]
      exact not_congr ⟨fun ⟨i, _, b, s, r⟩ => ⟨i, b, s, r⟩, fun ⟨i, b, s, r⟩ => ⟨i, Nat.zero_le _, b, s, r⟩⟩
    have us : urX b len (j + 1) = if brX b (nI j) then (if lbt b (nI j) = 1 then ((urX b len j).1, (urX b len j).2 ||| 1 <<< ((nI (rlX b len j)).toInt64 &&& 63)) else ((urX b len j).1 ||| 1 <<< ((nI (rlX b len j)).toInt64 &&& 63), (urX b len j).2)) else urX b len j := rfl
    rw [us, e, rl_A h (by omega), cS_s]
    by_cases c : stA f j
    · rw [if_pos ((br_A hl h (by omega)).mpr c), e2]
      by_cases v : t j = 1
      · rw [v]
        rw [v] at pj e1
        obtain ⟨o1, o2⟩ := or_l hB (l := rlA f len j) (by omega)
        refine ⟨A, B ||| 2 ^ rlA f len j, ?_, hA, o2, ?_, fun l => had_mk c e1 mB_, ?_⟩
        · rw [if_pos (show lN 1 = 1 from rfl)]
          exact Prod.ext rfl o1
        · intro l
          rw [mA_, had_s (fun q => by have := e1.symm.trans q.2.1; exact absurd this (by decide))]
        · rw [pc_or (by omega)]
          by_cases p : rnP f len (-1) g j = true
          · have q : ¬ tb B (rlA f len j) = 1 := fun z => pj.mp p ((mB_ _).mp z)
            have := tb_lt B (rlA f len j)
            have cc : stA f j ∧ rnP f len (-1) g j = true := ⟨c, p⟩
            rw [if_pos cc]; omega
          · have q : tb B (rlA f len j) = 1 := (mB_ _).mpr (Classical.byContradiction (fun z => p (pj.mpr z)))
            have cc : ¬ (stA f j ∧ rnP f len (-1) g j = true) := fun z => p z.2
            rw [if_neg cc]; omega
      · have v0 : t j = 0 := by omega
        rw [v0]
        rw [v0] at pj e1
        obtain ⟨o1, o2⟩ := or_l hA (l := rlA f len j) (by omega)
        refine ⟨A ||| 2 ^ rlA f len j, B, ?_, o2, hB, fun l => had_mk c e1 mA_, ?_, ?_⟩
        · rw [if_neg (show ¬ lN 0 = 1 by decide)]
          exact Prod.ext o1 rfl
        · intro l
          rw [mB_, had_s (fun q => by have := e1.symm.trans q.2.1; exact absurd this (by decide))]
        · rw [pc_or (by omega)]
          by_cases p : rnP f len (-1) g j = true
          · have q : ¬ tb A (rlA f len j) = 1 := fun z => pj.mp p ((mA_ _).mp z)
            have := tb_lt A (rlA f len j)
            have cc : stA f j ∧ rnP f len (-1) g j = true := ⟨c, p⟩
            rw [if_pos cc]; omega
          · have q : tb A (rlA f len j) = 1 := (mA_ _).mpr (Classical.byContradiction (fun z => p (pj.mpr z)))
            have cc : ¬ (stA f j ∧ rnP f len (-1) g j = true) := fun z => p z.2
            rw [if_neg cc]; omega
    · have cc : ¬ (stA f j ∧ rnP f len (-1) g j = true) := fun z => c z.1
      rw [if_neg (fun z => c ((br_A hl h (by omega)).mp z)), if_neg cc]
      exact ⟨A, B, rfl, hA, hB, fun l => by rw [mA_, had_s (fun q => c q.1)], fun l => by rw [mB_, had_s (fun q => c q.1)], pc⟩
theorem rd_rb {M : MS} {j n : Nat} (hn : n ≤ 40) : rb (rdI M j n) (rwM M j n) (fun i => tb (rwX (fun i => M.2.2 34 (40 * j + i)) n) i) n := fun i hi => by
  obtain ⟨g1, g2⟩ := bits_g (fun i => M.2.2 34 (40 * j + i)) hn
  refine ⟨?_, g2 i hi, (g1 i hi).2⟩
  rw [rdI_at, if_pos hi]
  exact (g1 i hi).1
theorem r_runs {S S' : XS} {M M' : MS} {a_ v_ g_ : Int32} {v v' : Option Value} (h : Rel S M) (hx : (v = (some (.int (if ((0 ≤ a_ ∧ a_ ≤ 3) ∧ (-1 ≤ v_ ∧ v_ ≤ 1)) then (if (S.1 (10 + a_.toNatClampNeg) = -1) then -11 else if v_ = -1 then lbc (urX (btL (S.2.2.1 (20 + a_.toNatClampNeg)) (S.1 (20 + a_.toNatClampNeg)).toNatClampNeg) (S.1 (20 + a_.toNatClampNeg)).toNatClampNeg (S.1 (20 + a_.toNatClampNeg)).toNatClampNeg).1 + lbc (urX (btL (S.2.2.1 (20 + a_.toNatClampNeg)) (S.1 (20 + a_.toNatClampNeg)).toNatClampNeg) (S.1 (20 + a_.toNatClampNeg)).toNatClampNeg (S.1 (20 + a_.toNatClampNeg)).toNatClampNeg).2 else rsX (btL (S.2.2.1 (20 + a_.toNatClampNeg)) (S.1 (20 + a_.toNatClampNeg)).toNatClampNeg) (S.1 (20 + a_.toNatClampNeg)).toNatClampNeg v_ g_ (S.1 (20 + a_.toNatClampNeg)).toNatClampNeg) else -2))) ∧ S' = (S))) (hm : (v' = (some (.int (if ((0 ≤ a_ ∧ a_ ≤ 3) ∧ (-1 ≤ v_ ∧ v_ ≤ 1)) then (if 0 ≤ M.2.2 32 a_.toNatClampNeg then nI (rnC (rnP (rdI M a_.toNatClampNeg (M.2.2 33 a_.toNatClampNeg).toNatClampNeg) (M.2.2 33 a_.toNatClampNeg).toNatClampNeg v_ g_) (rdI M a_.toNatClampNeg (M.2.2 33 a_.toNatClampNeg).toNatClampNeg) (M.2.2 33 a_.toNatClampNeg).toNatClampNeg 41 0) else -11) else -2))) ∧ M' = (if ((0 ≤ a_ ∧ a_ ≤ 3) ∧ (-1 ≤ v_ ∧ v_ ≤ 1)) ∧ 0 ≤ M.2.2 32 a_.toNatClampNeg then (mRd M a_.toNatClampNeg) else M))) : v = v' ∧ Rel S' M' := by
  obtain ⟨rfl, rfl⟩ := hx
  obtain ⟨rfl, rfl⟩ := hm
  constructor
  · refine congrArg (fun x => some (Value.int x)) (ite_c Iff.rfl (fun g => ?_) (fun _ => rfl))
    obtain ⟨j, n, ej, hj, hn, s1, s2, s3, s4, s5, s6⟩ := sheet_of h g.1
    rw [ej, s1, s2, s3, nI_clamp (by omega), s6]
    by_cases z : M.2.2 32 j = -1
    · rw [if_pos z, if_neg (fun q => s4.mpr q z)]
    · rw [if_neg z, if_pos (s4.mp z)]
      have hr := rd_rb (M := M) (j := j) hn
      have c := rnC_c (rnP (rdI M j n) n v_ g_) (rdI M j n) n 41 0 (by omega) (Nat.zero_le _) (fun _ => Or.inl rfl)
      have c0 : cS (rnP (rdI M j n) n v_ g_) (rdI M j n) 0 = 0 := rfl
      rw [c0, Nat.zero_add] at c
      rw [c]
      by_cases v1 : v_ = -1
      · subst v1
        rw [if_pos rfl]
        obtain ⟨A, B, e, hA, hB, _, _, pc⟩ := ur_c hn hr g_ n (Nat.le_refl _)
        rw [e, ← pc]
        show lbc (lN A) + lbc (lN B) = _
        rw [lbc_N (by omega), lbc_N (by omega), nI_add]
      · rw [if_neg v1]
        have vv : ∃ v, v < 2 ∧ v_ = nI v := by
          obtain ⟨k, hk, e⟩ := nI_of2 (n := 1) rfl (fun q => v1 (Int32.le_antisymm (m1_lt q) g.2.1)) g.2.2
          exact ⟨k, by omega, e⟩
        obtain ⟨v, hv, rfl⟩ := vv
        exact rs_c hn hr hv g_ n (Nat.le_refl _)
  · split
    · exact Rel_cor h (xCor_rfl _) (mCor_rd M _)
    · exact h
