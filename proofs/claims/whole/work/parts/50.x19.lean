/-! ===== lN n to 2^64: shifts, and, or, masks, one bit ===== -/
theorem wb_tb (n : Nat) : (lN n).toBitVec = BitVec.ofNat 64 n := rfl
theorem wb_inj {a b : Int64} (h : a.toBitVec = b.toBitVec) : a = b := Int64.toBitVec_inj.mp h
theorem wb_tn {n : Nat} (h : n < 2 ^ 64) : (lN n).toBitVec.toNat = n := by rw [wb_tb, BitVec.toNat_ofNat, Nat.mod_eq_of_lt h]
theorem wb_of (x : Int64) : ∃ n, n < 2 ^ 64 ∧ x = lN n := ⟨x.toBitVec.toNat, x.toBitVec.isLt, wb_inj (by rw [wb_tb]; simp)⟩
theorem wb_of32 (x : Int32) : ∃ n, n < 2 ^ 32 ∧ x = nI n := ⟨x.toBitVec.toNat, x.toBitVec.isLt, Int32.toBitVec_inj.mp (by show _ = BitVec.ofNat 32 _; simp)⟩
theorem wb_c : ∀ k, k < 64 → ((nI k).toInt64 &&& 63) = lN k := by decide +kernel
theorem wb_cu : ∀ k, k < 64 → ((nI k).toInt64.toUInt64 &&& Int64.toUInt64 63) = UInt64.ofNat k := by decide +kernel
theorem wb_sm : ∀ k, k < 64 → (BitVec.ofNat 64 k).smod 64 = BitVec.ofNat 64 k := by decide +kernel
theorem wb_pw {a b : Nat} (h : a ≤ b) : 2 ^ b = 2 ^ a * 2 ^ (b - a) := by rw [← Nat.pow_add]; congr 1; omega
theorem wb_lt2 {a b : Nat} (h : a < b) : 2 ^ a < 2 ^ b := Nat.pow_lt_pow_right (by decide) h
theorem wb_mod (n : Nat) : lN n = lN (n % 2 ^ 64) := wb_inj (by rw [wb_tb, wb_tb]; apply BitVec.eq_of_toNat_eq; rw [BitVec.toNat_ofNat, BitVec.toNat_ofNat, Nat.mod_mod])
theorem wb_shr {n k : Nat} (hn : n < 2 ^ 64) (hk : k < 64) : ((lN n).toUInt64 >>> ((nI k).toInt64.toUInt64 &&& Int64.toUInt64 63)).toInt64 = lN (n / 2 ^ k) := by
  rw [wb_cu k hk]
  apply wb_inj
  apply BitVec.eq_of_toNat_eq
  show ((lN n).toUInt64 >>> UInt64.ofNat k).toNat = (BitVec.ofNat 64 _).toNat
  have h1 : (UInt64.ofNat k).toNat = k := by
    show (BitVec.ofNat 64 k).toNat = k
    rw [BitVec.toNat_ofNat, Nat.mod_eq_of_lt (by omega)]
  have h2 : (lN n).toUInt64.toNat = n := wb_tn hn
  rw [UInt64.toNat_shiftRight, h1, h2, Nat.mod_eq_of_lt hk, Nat.shiftRight_eq_div_pow, BitVec.toNat_ofNat, Nat.mod_eq_of_lt (Nat.lt_of_le_of_lt (Nat.div_le_self _ _) hn)]
theorem wb_shl (n : Nat) {k : Nat} (hk : k < 64) : lN n <<< ((nI k).toInt64 &&& 63) = lN (n * 2 ^ k) := by
  rw [wb_c k hk]
  apply wb_inj
  rw [Int64.toBitVec_shiftLeft, wb_tb, wb_tb, wb_tb, wb_sm k hk]
  apply BitVec.eq_of_toNat_eq
  rw [BitVec.shiftLeft_eq', BitVec.toNat_shiftLeft, BitVec.toNat_ofNat, BitVec.toNat_ofNat, BitVec.toNat_ofNat, Nat.mod_eq_of_lt (show k < 2 ^ 64 by omega), Nat.shiftLeft_eq, Nat.mul_mod, Nat.mod_mod, ← Nat.mul_mod]
theorem wb_and {a b : Nat} (ha : a < 2 ^ 64) (hb : b < 2 ^ 64) : lN a &&& lN b = lN (a &&& b) := by
  apply wb_inj
  rw [Int64.toBitVec_and, wb_tb, wb_tb, wb_tb]
  apply BitVec.eq_of_toNat_eq
  rw [BitVec.toNat_and, BitVec.toNat_ofNat, BitVec.toNat_ofNat, BitVec.toNat_ofNat, Nat.mod_eq_of_lt ha, Nat.mod_eq_of_lt hb, Nat.mod_eq_of_lt (Nat.and_lt_two_pow _ hb)]
theorem wb_or {a b : Nat} (ha : a < 2 ^ 64) (hb : b < 2 ^ 64) : lN a ||| lN b = lN (a ||| b) := by
  apply wb_inj
  rw [Int64.toBitVec_or, wb_tb, wb_tb, wb_tb]
  apply BitVec.eq_of_toNat_eq
  rw [BitVec.toNat_or, BitVec.toNat_ofNat, BitVec.toNat_ofNat, BitVec.toNat_ofNat, Nat.mod_eq_of_lt ha, Nat.mod_eq_of_lt hb, Nat.mod_eq_of_lt (Nat.or_lt_two_pow ha hb)]
theorem wb_mask {n k : Nat} (hn : n < 2 ^ 64) (hk : k < 64) : lN n &&& lN (2 ^ k - 1) = lN (n % 2 ^ k) := by
  rw [wb_and hn (by have := wb_lt2 hk; omega), Nat.and_two_pow_sub_one_eq_mod]
theorem wb_a1 {n : Nat} (hn : n < 2 ^ 64) : lN n &&& 1 = lN (n % 2) := wb_mask (k := 1) hn (by decide)
theorem wb_bit {n k : Nat} (hn : n < 2 ^ 64) (hk : k < 64) : ((lN n).toUInt64 >>> ((nI k).toInt64.toUInt64 &&& Int64.toUInt64 63)).toInt64 &&& 1 = lN (n / 2 ^ k % 2) := by
  rw [wb_shr hn hk, wb_a1 (Nat.lt_of_le_of_lt (Nat.div_le_self _ _) hn)]
theorem wb_xor {q k : Nat} (hk : k < 63) (h : 2 ^ k ≤ q) (h2 : q < 2 ^ (k + 1)) : lN q ^^^ lN (2 ^ k) = lN (q - 2 ^ k) := by
  obtain ⟨r, rfl⟩ : ∃ r, q = 2 ^ k + r := ⟨q - 2 ^ k, by omega⟩
  have hr : r < 2 ^ k := by rw [Nat.pow_succ] at h2; omega
  have hx : (2 ^ k + r) ^^^ 2 ^ k = r := by
    apply Nat.eq_of_testBit_eq
    intro i
    rw [Nat.testBit_xor, Nat.testBit_two_pow]
    rcases Nat.lt_trichotomy i k with h | h | h
    · rw [Nat.testBit_two_pow_add_gt h]
      simp [show ¬ k = i by omega]
    · subst h
      rw [Nat.testBit_two_pow_add_eq]
      simp
    · have a1 : 2 ^ (k + 1) ≤ 2 ^ i := Nat.pow_le_pow_right (by decide) h
      rw [Nat.testBit_lt_two_pow (show 2 ^ k + r < 2 ^ i by omega), Nat.testBit_lt_two_pow (show r < 2 ^ i by omega)]
      simp [show ¬ k = i by omega]
  have b1 := wb_lt2 (show k + 1 < 64 by omega)
  have b2 := wb_lt2 (show k < 64 by omega)
  apply wb_inj
  rw [Int64.toBitVec_xor, wb_tb, wb_tb, wb_tb]
  apply BitVec.eq_of_toNat_eq
  rw [BitVec.toNat_xor, BitVec.toNat_ofNat, BitVec.toNat_ofNat, BitVec.toNat_ofNat, Nat.mod_eq_of_lt (by omega : 2 ^ k + r < 2 ^ 64), Nat.mod_eq_of_lt b2, hx, Nat.add_sub_cancel_left, Nat.mod_eq_of_lt (by omega)]
/-! plain facts: among more steps than states two are alike; steps that come round -/
theorem pigeon : ∀ (N : Nat) (f : Nat → Nat), (∀ i, i ≤ N → f i < N) → ∃ i j, i < j ∧ j ≤ N ∧ f i = f j
  | 0, f, h => absurd (h 0 (Nat.le_refl 0)) (Nat.not_lt_zero _)
  | N + 1, f, h => by
    by_cases hx : ∃ i, i ≤ N ∧ f i = f (N + 1)
    · obtain ⟨i, hi, e⟩ := hx
      exact ⟨i, N + 1, by omega, Nat.le_refl _, e⟩
    · have hne : ∀ i, i ≤ N → f i ≠ f (N + 1) := fun i hi e => hx ⟨i, hi, e⟩
      obtain ⟨i, j, h1, h2, h3⟩ := pigeon N (fun i => if f (N + 1) < f i then f i - 1 else f i) (fun i hi => by
        have a := h i (by omega)
        have b := h (N + 1) (Nat.le_refl _)
        have c := hne i hi
        show (if f (N + 1) < f i then f i - 1 else f i) < N
        split <;> omega)
      refine ⟨i, j, h1, by omega, ?_⟩
      have c1 := hne i (by omega)
      have c2 := hne j h2
      have h3 : (if f (N + 1) < f i then f i - 1 else f i) = (if f (N + 1) < f j then f j - 1 else f j) := h3
      split at h3 <;> split at h3 <;> omega
/-- n steps of one kind -/
abbrev fn {σ : Type} (F : σ → σ) (n : Nat) (x : σ) : σ := it (fun _ y => F y) n x
theorem fn_s {σ : Type} (F : σ → σ) (n : Nat) (x : σ) : fn F (n + 1) x = F (fn F n x) := rfl
theorem fn_add {σ : Type} (F : σ → σ) (i k : Nat) (x : σ) : fn F (i + k) x = fn F k (fn F i x) := by
  induction k with
  | zero => rfl
  | succ k ih =>
    show F (fn F (i + k) x) = F (fn F k (fn F i x))
    rw [ih]
theorem fn_eqk {σ : Type} {F : σ → σ} {i j : Nat} {x : σ} (h : fn F i x = fn F j x) (k : Nat) : fn F (i + k) x = fn F (j + k) x := by
  rw [fn_add, fn_add, h]
theorem fn_ge {σ : Type} {F : σ → σ} {i d : Nat} {x : σ} (h : fn F (i + d) x = fn F i x) {s : Nat} (hs : i ≤ s) : fn F (s + d) x = fn F s x := by
  obtain ⟨k, rfl⟩ : ∃ k, s = i + k := ⟨s - i, by omega⟩
  rw [show i + k + d = i + d + k by omega]
  exact fn_eqk h k
theorem fn_mul {σ : Type} {F : σ → σ} {s n : Nat} {x : σ} (h : fn F (s + n) x = fn F s x) (k : Nat) : fn F (s + k * n) x = fn F s x := by
  induction k with
  | zero => rw [Nat.zero_mul]; rfl
  | succ k ih =>
    rw [Nat.succ_mul, ← Nat.add_assoc, fn_ge h (by omega)]
    exact ih
/-- from the place s on it comes round behind n steps, and no sooner -/
def retQ {σ : Type} (F : σ → σ) (x : σ) (s n : Nat) : Prop := 1 ≤ n ∧ fn F (s + n) x = fn F s x ∧ ∀ i, 1 ≤ i → i < n → fn F (s + i) x ≠ fn F s x
theorem ret_le {σ : Type} {F : σ → σ} {x : σ} {s n t m : Nat} (h : retQ F x s n) (k : retQ F x t m) : n ≤ m := by
  obtain ⟨h1, h2, h3⟩ := h
  obtain ⟨k1, k2, _⟩ := k
  refine Nat.not_lt.mp (fun hlt => h3 m k1 hlt ?_)
  have a1 := fn_mul h2 t
  have hs : t ≤ s + t * n := Nat.le_trans (Nat.le_mul_of_pos_right t h1) (Nat.le_add_left _ _)
  have a2 := fn_ge k2 hs
  rw [fn_add, a1, ← fn_add] at a2
  exact a2
theorem ret_uni {σ : Type} {F : σ → σ} {x : σ} {s n t m : Nat} (h : retQ F x s n) (k : retQ F x t m) : n = m := Nat.le_antisymm (ret_le h k) (ret_le k h)
/-- how many steps lie ahead of the round -/
def ahdQ {σ : Type} (F : σ → σ) (x : σ) (n a : Nat) : Prop := fn F (a + n) x = fn F a x ∧ ∀ i, i < a → fn F (i + n) x ≠ fn F i x
theorem ahd_uni {σ : Type} {F : σ → σ} {x : σ} {n a b : Nat} (h : ahdQ F x n a) (k : ahdQ F x n b) : a = b := by
  rcases Nat.lt_trichotomy a b with q | q | q
  · exact absurd h.1 (k.2 a q)
  · exact q
  · exact absurd k.1 (h.2 b q)
theorem orb_rep {σ : Type} {F : σ → σ} {x : σ} {cd : σ → Nat} {N : Nat} (hc : ∀ n, cd (fn F n x) < N) (inj : ∀ i j, cd (fn F i x) = cd (fn F j x) → fn F i x = fn F j x) : ∃ i d, 1 ≤ d ∧ i + d ≤ N ∧ fn F (i + d) x = fn F i x := by
  obtain ⟨i, j, h1, h2, h3⟩ := pigeon N (fun n => cd (fn F n x)) (fun n _ => hc n)
  refine ⟨i, j - i, by omega, by omega, ?_⟩
  rw [show i + (j - i) = j by omega]
  exact (inj i j h3).symm
/-! what goes on behind a digit -/
def bh (q x : Int) : Int := (x - x % 2 * q) / 2
abbrev outQ (q x : Int) : Prop := 0 < x ∨ x < -q
theorem bh_in {q x : Int} (hq : 1 ≤ q) (h : -q ≤ x ∧ x ≤ 0) : -q ≤ bh q x ∧ bh q x ≤ 0 := by
  unfold bh
  rcases Int.emod_two_eq x with e | e <;> rw [e] <;> omega
theorem bh_bd {q x : Int} (hq : 1 ≤ q ∧ q ≤ 9999) (h : -9999 ≤ x ∧ x ≤ 9999) : -9999 ≤ bh q x ∧ bh q x ≤ 9999 := by
  unfold bh
  rcases Int.emod_two_eq x with e | e <;> rw [e] <;> omega
theorem bh_inj {q x y : Int} (h1 : 1 ≤ q) (ho : q % 2 = 1) (hx : -q ≤ x ∧ x ≤ 0) (hy : -q ≤ y ∧ y ≤ 0) (h : bh q x = bh q y) : x = y := by
  unfold bh at h
  rcases Int.emod_two_eq x with e | e <;> rcases Int.emod_two_eq y with f | f <;> rw [e, f] at h <;> omega
theorem bhN_in {q x : Int} (hq : 1 ≤ q) (h : -q ≤ x ∧ x ≤ 0) (n : Nat) : -q ≤ fn (bh q) n x ∧ fn (bh q) n x ≤ 0 := by
  induction n with
  | zero => exact h
  | succ n ih => exact bh_in hq ih
theorem bhN_bd {q x : Int} (hq : 1 ≤ q ∧ q ≤ 9999) (h : -9999 ≤ x ∧ x ≤ 9999) (n : Nat) : -9999 ≤ fn (bh q) n x ∧ fn (bh q) n x ≤ 9999 := by
  induction n with
  | zero => exact h
  | succ n ih => exact bh_bd hq ih
theorem bh_back {q x : Int} (h1 : 1 ≤ q) (ho : q % 2 = 1) (hx : -q ≤ x ∧ x ≤ 0) : ∀ i j, fn (bh q) (i + j) x = fn (bh q) i x → fn (bh q) j x = x
  | 0, j, h => by rw [Nat.zero_add] at h; exact h
  | i + 1, j, h => by
    refine bh_back h1 ho hx i j (bh_inj h1 ho (bhN_in h1 hx _) (bhN_in h1 hx _) ?_)
    rw [show i + 1 + j = i + j + 1 by omega] at h
    exact h
theorem rnd_ex {q x : Int} (h1 : 1 ≤ q) (ho : q % 2 = 1) (hx : -q ≤ x ∧ x ≤ 0) : ∃ n : Nat, 1 ≤ n ∧ n ≤ q.toNat + 1 ∧ fn (bh q) n x = x := by
  obtain ⟨i, d, d1, d2, d3⟩ := orb_rep (F := bh q) (x := x) (cd := fun y => (-y).toNat) (N := q.toNat + 1) (fun n => by
    have := bhN_in h1 hx n
    show (-(fn (bh q) n x)).toNat < q.toNat + 1
    omega) (fun i j e => by
    have a := bhN_in h1 hx i
    have b := bhN_in h1 hx j
    have e : (-(fn (bh q) i x)).toNat = (-(fn (bh q) j x)).toNat := e
    omega)
  exact ⟨d, d1, by omega, bh_back h1 ho hx i d d3⟩
def muQ (q x : Int) : Nat := if 0 < x then x.toNat else (-q - x).toNat
theorem mu_dec {q x : Int} (h1 : 1 ≤ q) (ho : q % 2 = 1) (h : outQ q x) : muQ q (bh q x) < muQ q x := by
  unfold muQ bh
  rcases Int.emod_two_eq x with e | e <;> rw [e] <;> split <;> split <;> omega
theorem mu_bd {q x : Int} (hq : 1 ≤ q ∧ q ≤ 9999) (h : -9999 ≤ x ∧ x ≤ 9999) : muQ q x ≤ 9999 := by
  unfold muQ
  split <;> omega
/-- what lies ahead of the digits that come round; how many of these there are -/
def preQ (q x : Int) (n : Nat) : Prop := ¬ outQ q (fn (bh q) n x) ∧ ∀ i, i < n → outQ q (fn (bh q) i x)
theorem pre_uni {q x : Int} {n m : Nat} (h : preQ q x n) (k : preQ q x m) : n = m := by
  rcases Nat.lt_trichotomy n m with z | z | z
  · exact absurd (k.2 n z) h.1
  · exact z
  · exact absurd (h.2 m z) k.1
def perQ (p q : Int) (w r : Int32) : Prop := ∃ m : Nat, preQ q p m ∧ ((w = 1 ∧ r = nI m) ∨ (¬ w = 1 ∧ ∃ n : Nat, retQ (bh q) (fn (bh q) m p) 0 n ∧ r = nI n))
theorem per_uni {p q : Int} {w r r' : Int32} (h : perQ p q w r) (k : perQ p q w r') : r = r' := by
  obtain ⟨m, h1, h2⟩ := h
  obtain ⟨m', k1, k2⟩ := k
  obtain rfl := pre_uni h1 k1
  rcases h2 with ⟨hw, rfl⟩ | ⟨hw, n, hn, rfl⟩
  · rcases k2 with ⟨_, rfl⟩ | ⟨kw, _⟩
    · rfl
    · exact absurd hw kw
  · rcases k2 with ⟨kw, _⟩ | ⟨_, n', kn, rfl⟩
    · exact absurd kw hw
    · rw [ret_uni hn kn]
/-! the machine's numbers as numbers -/
theorem tI_l {n : Nat} (hn : n < 2 ^ 64) : (lN n).toInt = (n : Int) ∨ (lN n).toInt = (n : Int) - 2 ^ 64 := by
  have e : (lN n).toInt = Int.bmod n (2 ^ 64) := BitVec.toInt_ofNat' n
  rw [e, Int.bmod_def]
  split <;> omega
theorem tI_i {n : Nat} (hn : n < 2 ^ 32) : (nI n).toInt = (n : Int) ∨ (nI n).toInt = (n : Int) - 2 ^ 32 := by
  have e : (nI n).toInt = Int.bmod n (2 ^ 32) := BitVec.toInt_ofNat' n
  rw [e, Int.bmod_def]
  split <;> omega
theorem and1_l (x : Int64) : (x &&& 1).toInt = x.toInt % 2 := by
  obtain ⟨n, hn, rfl⟩ := wb_of x
  rw [wb_a1 hn, pk_lT (by omega)]
  rcases tI_l hn with h | h <;> rw [h] <;> omega
theorem and1_i (x : Int32) : (x &&& 1).toInt = x.toInt % 2 := by
  obtain ⟨n, hn, rfl⟩ := wb_of32 x
  rw [pk_andN hn 1 rfl, nI_toInt (by omega)]
  rcases tI_i hn with h | h <;> rw [h] <;> omega
theorem shr_l (x : Int64) {k : Nat} (hk : k < 64) : (x >>> ((nI k).toInt64 &&& 63)).toInt = x.toInt / 2 ^ k := by
  rw [wb_c k hk]
  show (x >>> lN k).toBitVec.toInt = _
  rw [Int64.toBitVec_shiftRight, wb_tb, wb_sm k hk, BitVec.toInt_sshiftRight', BitVec.toNat_ofNat, Nat.mod_eq_of_lt (show k < 2 ^ 64 by omega), Int.shiftRight_eq_div_pow, Int.natCast_pow]
  rfl
theorem shr1_l (x : Int64) : (x >>> (Int32.toInt64 1 &&& 63)).toInt = x.toInt / 2 := by
  have h := shr_l x (k := 1) (by decide)
  rw [Int.pow_succ, Int.pow_zero, Int.one_mul] at h
  exact h
theorem bhd_int {x q : Int64} (hx : -(2 ^ 50) ≤ x.toInt ∧ x.toInt ≤ 2 ^ 50) (hq : 0 ≤ q.toInt ∧ q.toInt ≤ 2 ^ 50) : (bhd x q).toInt = bh q.toInt x.toInt := by
  unfold bhd bh
  rw [shr1_l, Int64.toInt_sub, Int64.toInt_mul, and1_l]
  rcases Int.emod_two_eq x.toInt with e | e <;> rw [e]
  · rw [Int.zero_mul, Int.bmod_eq_of_le (n := 0) (by omega) (by omega), Int.bmod_eq_of_le (by omega) (by omega)]
  · rw [Int.one_mul, Int.bmod_eq_of_le (n := q.toInt) (by omega) (by omega), Int.bmod_eq_of_le (by omega) (by omega)]
theorem bhi_int {x q : Int32} (hx : -20000 ≤ x.toInt ∧ x.toInt ≤ 20000) (hq : 1 ≤ q.toInt ∧ q.toInt ≤ 20000) (ho : q.toInt % 2 = 1) : ((x - (x &&& 1) * q) / 2).toInt = bh q.toInt x.toInt := by
  unfold bh
  have e2 : (2 : Int32).toInt = 2 := rfl
  rw [Int32.toInt_div, Int32.toInt_sub, Int32.toInt_mul, and1_i, e2]
  rcases Int.emod_two_eq x.toInt with e | e <;> rw [e]
  · rw [Int.zero_mul, Int.bmod_eq_of_le (n := 0) (by omega) (by omega), Int.bmod_eq_of_le (n := x.toInt - 0) (by omega) (by omega), Int.tdiv_eq_ediv_of_dvd (by omega), Int.bmod_eq_of_le (by omega) (by omega)]
  · rw [Int.one_mul, Int.bmod_eq_of_le (n := q.toInt) (by omega) (by omega), Int.bmod_eq_of_le (n := x.toInt - q.toInt) (by omega) (by omega), Int.tdiv_eq_ediv_of_dvd (by omega), Int.bmod_eq_of_le (by omega) (by omega)]

/-- what period answers where it isn't refused -/
def frOK (p q : Int32) : Prop := (-9999 ≤ p ∧ p ≤ 9999) ∧ (1 ≤ q ∧ q ≤ 9999)
theorem frI {p q : Int32} (h : (-9999 ≤ p ∧ p ≤ 9999) ∧ (1 ≤ q ∧ q ≤ 9999)) : (-9999 ≤ p.toInt ∧ p.toInt ≤ 9999) ∧ (1 ≤ q.toInt ∧ q.toInt ≤ 9999) := by
  have a := Int32.le_iff_toInt_le.mp h.1.1
  have b := Int32.le_iff_toInt_le.mp h.1.2
  have c := Int32.le_iff_toInt_le.mp h.2.1
  have d := Int32.le_iff_toInt_le.mp h.2.2
  exact ⟨⟨a, b⟩, c, d⟩
theorem oddI {q : Int32} (h : ¬ q &&& 1 = 0) : q.toInt % 2 = 1 := by
  rcases Int.emod_two_eq q.toInt with e | e
  · refine absurd (Int32.toInt_inj.mp ?_) h
    rw [and1_i, e]
    rfl
  · exact e
theorem l0gt {x : Int64} : 0 < lg_cmp x 0 ↔ 0 < x.toInt := by
  rw [lg_cmp_gt, Int64.lt_iff_toInt_lt]
  rfl
theorem tqI (q : Int32) : (Int32.toInt64 q).toInt = q.toInt := Int32.toInt_toInt64 q
theorem bh_l {x : Int64} {q : Int32} {y : Int} (hx : x.toInt = y) (hy : -9999 ≤ y ∧ y ≤ 9999) (hq : 1 ≤ q.toInt ∧ q.toInt ≤ 9999) : (bhd x (Int32.toInt64 q)).toInt = bh q.toInt y := by
  rw [bhd_int (by rw [hx]; omega) (by rw [tqI]; omega), tqI, hx]
theorem lgneg {x : Int64} {q : Int32} (hq : 1 ≤ q.toInt ∧ q.toInt ≤ 9999) : lg_cmp x (Int32.toInt64 (-q)) < 0 ↔ x.toInt < -q.toInt := by
  rw [lg_cmp_lt, Int64.lt_iff_toInt_lt, tqI, Int32.toInt_neg, Int.bmod_eq_of_le (by omega) (by omega)]
set_option maxHeartbeats 4000000 in
set_option maxRecDepth 100000 in
theorem c_X10_digitsRound (Z : VZ) (S : XS) (q_ : Int32) (p_ : Int64) (hq : 1 ≤ q_.toInt ∧ q_.toInt ≤ 9999) (ho : q_.toInt % 2 = 1) (hp : -q_.toInt ≤ p_.toInt ∧ p_.toInt ≤ 0) : Ct XW Z yX10_digitsRound cX10_digitsRound 7 (some .int) 1 0 0 [.long p_, .long (Int32.toInt64 q_)] (S) (fun v S' => S = S' ∧ ∃ n : Nat, retQ (bh q_.toInt) p_.toInt 0 n ∧ v = some (.int (nI n))) := by
  refine V_entry (own := RX10) (by decide) rfl (Nat.le_of_ble_eq_true rfl) ?_
  intro B hB
  obtain ⟨n0, n1, n2, n3⟩ := rnd_ex hq.1 ho hp
  refine V_sub (L' := [(0, .long p_), (2, .long (Int32.toInt64 q_))]) [0, 1] rfl ?_
  refine V_lload_n (pc := 0) dX10_digitsRound_0 0 rfl rfl ?_
  refine V_lload_n (pc := 1) dX10_digitsRound_1 1 rfl rfl ?_
  refine V_callSl (pc := 2) dX10_digitsRound_2 (c_X10_behindDigit Z _ _ _) kX10_153 rfl (Nat.le_of_ble_eq_true rfl) (by decide) (by decide) (Nat.le_of_ble_eq_true rfl) (Nat.le_of_ble_eq_true rfl) ?_
  refine V_lstore (pc := 5) (L2 := [(0, .long p_), (2, .long (Int32.toInt64 q_))]) dX10_digitsRound_5 (by decide) rfl (fun x4_5 ex4_5 => ?_)
  subst ex4_5
  refine V_iconst (v := 1) (pc := 7) dX10_digitsRound_7 (by decide) ?_
  refine V_istore (pc := 8) (L2 := [(4, .long (bhd p_ (Int32.toInt64 q_))), (0, .long p_), (2, .long (Int32.toInt64 q_))]) dX10_digitsRound_8 (by decide) rfl (fun x6_8 ex6_8 => ?_)
  subst ex6_8
  refine V_sub (L' := [(6, .int (nI 1)), (4, .long (bhd p_ (Int32.toInt64 q_))), (0, .long p_), (2, .long (Int32.toInt64 q_))]) [0, 1, 2, 3] rfl ?_
  refine Vloop (σ := Nat × Int64) (fun x => 1 ≤ (x.1) ∧ (x.2).toInt = fn (bh q_.toInt) (x.1) p_.toInt ∧ (∀ i, 1 ≤ i → i < (x.1) → fn (bh q_.toInt) i p_.toInt ≠ p_.toInt) ∧ (x.1) ≤ n0) (fun x => n0 - (x.1)) (fun x => V XW Z cX10_digitsRound RX10 7 (some .int) 1 0 0 B 0 0 10 [(6, .int (nI (x.1))), (4, .long (x.2)), (0, .long p_), (2, .long (Int32.toInt64 q_))] [] (S)) ?_ (1, (bhd p_ (Int32.toInt64 q_))) (by exact ⟨Nat.le_refl _, bh_l (y := p_.toInt) rfl (by omega) hq, fun i h1 h2 => absurd h1 (by omega), n1⟩)
  rintro ⟨j, u⟩ hI10 ih10
  have hI10 : 1 ≤ j ∧ u.toInt = fn (bh q_.toInt) j p_.toInt ∧ (∀ i, 1 ≤ i → i < j → fn (bh q_.toInt) i p_.toInt ≠ p_.toInt) ∧ j ≤ n0 := hI10
  show V XW Z cX10_digitsRound RX10 7 (some .int) 1 0 0 B 0 0 10 [(6, .int (nI j)), (4, .long u), (0, .long p_), (2, .long (Int32.toInt64 q_))] [] (S)
  refine V_iload (pc := 10) dX10_digitsRound_10 0 rfl ?_
  refine V_ldc (pc := 12) dX10_digitsRound_12 tw_471 ?_
  refine V_icmp_ge (pc := 14) (tgt := 38) dX10_digitsRound_14 (by decide) (fun h14 => ?_) (fun h14 => ?_)
  · skip
    exact absurd h14 (Int32.not_le.mpr (nI_lt (b := 1000000) (by have := hI10.2.2.2; omega) (by decide)))
  · skip
    refine V_lload (pc := 17) dX10_digitsRound_17 1 rfl ?_
    refine V_lload_n (pc := 19) dX10_digitsRound_19 2 rfl rfl ?_
    refine V_lcmp (pc := 20) dX10_digitsRound_20 ?_
    refine V_if_eq (pc := 21) (tgt := 38) dX10_digitsRound_21 (by decide) (fun h21 => ?_) (fun h21 => ?_)
    · skip
      have heq : fn (bh q_.toInt) j p_.toInt = p_.toInt := by
        have z := (lg_cmp_eq _ _).mp h21
        rw [← hI10.2.1, z]
      refine V_iload (pc := 38) dX10_digitsRound_38 0 rfl ?_
      exact V_iret (pc := 40) dX10_digitsRound_40 (Nat.le_of_ble_eq_true rfl) (Nat.le_of_ble_eq_true rfl) (hB _ _ (by exact ⟨rfl, j, ⟨hI10.1, by rw [Nat.zero_add]; exact heq, fun i h1 h2 => by rw [Nat.zero_add]; exact hI10.2.2.1 i h1 h2⟩, rfl⟩))
    · skip
      have hne : fn (bh q_.toInt) j p_.toInt ≠ p_.toInt := fun z => h21 ((lg_cmp_eq _ _).mpr (Int64.toInt_inj.mp (by rw [hI10.2.1, z])))
      have hjn : j ≠ n0 := fun z => hne (by rw [z]; exact n3)
      have hb0 := bhN_in hq.1 hp j
      have hbd : -9999 ≤ fn (bh q_.toInt) j p_.toInt ∧ fn (bh q_.toInt) j p_.toInt ≤ 9999 := by omega
      refine V_lload (pc := 24) dX10_digitsRound_24 1 rfl ?_
      refine V_lload_n (pc := 26) dX10_digitsRound_26 3 rfl rfl ?_
      refine V_callSl (pc := 27) dX10_digitsRound_27 (c_X10_behindDigit Z _ _ _) kX10_153 rfl (Nat.le_of_ble_eq_true rfl) (by decide) (by decide) (Nat.le_of_ble_eq_true rfl) (Nat.le_of_ble_eq_true rfl) ?_
      refine V_lstore (pc := 30) (L2 := [(6, .int (nI j)), (0, .long p_), (2, .long (Int32.toInt64 q_))]) dX10_digitsRound_30 (by decide) rfl (fun x4_30 ex4_30 => ?_)
      subst ex4_30
      refine V_iinc (pc := 32) (v := 1) (L2 := [(4, .long (bhd u (Int32.toInt64 q_))), (0, .long p_), (2, .long (Int32.toInt64 q_))]) dX10_digitsRound_32 1 rfl (by decide) (by decide) rfl (fun x6_32 ex6_32 => ?_)
      rw [nI_1] at ex6_32
      subst ex6_32
      refine V_goto (pc := 35) (tgt := 10) dX10_digitsRound_35 (by decide) ?_
      refine V_sub (L' := [(6, .int (nI (j + 1))), (4, .long (bhd u (Int32.toInt64 q_))), (0, .long p_), (2, .long (Int32.toInt64 q_))]) [0, 1, 2, 3] rfl ?_
      refine ih10 (((j + 1)), _) ?_ ?_
      · show 1 ≤ ((j + 1)) ∧ ((bhd u (Int32.toInt64 q_))).toInt = fn (bh q_.toInt) ((j + 1)) p_.toInt ∧ (∀ i, 1 ≤ i → i < ((j + 1)) → fn (bh q_.toInt) i p_.toInt ≠ p_.toInt) ∧ ((j + 1)) ≤ n0
        refine ⟨by omega, ?_, ?_, ?_⟩
        · rw [fn_s]; exact bh_l hI10.2.1 hbd hq
        · intro i h1 h2
          by_cases e : i = j
          · rw [e]; exact hne
          · exact hI10.2.2.1 i h1 (by omega)
        · exact Nat.lt_of_le_of_ne hI10.2.2.2 hjn
      · show n0 - (j + 1) < n0 - j
        have := Nat.lt_of_le_of_ne hI10.2.2.2 hjn
        omega
set_option maxHeartbeats 4000000 in
set_option maxRecDepth 100000 in
theorem c_X10_period (Z : VZ) (S : XS) (p_ : Int32) (q_ : Int32) (w_ : Int32) : Ct XW Z yX10_period cX10_period 7 (some .int) 2 0 0 [.ref (Z.2.2.2 99), .int p_, .int q_, .int w_] (S) (fun v S' => S = S' ∧ ((¬ ((0 ≤ w_ ∧ w_ ≤ 1) ∧ ((-9999 ≤ p_ ∧ p_ ≤ 9999) ∧ (1 ≤ q_ ∧ q_ ≤ 9999))) ∧ v = some (.int (-2))) ∨ (((0 ≤ w_ ∧ w_ ≤ 1) ∧ ((-9999 ≤ p_ ∧ p_ ≤ 9999) ∧ (1 ≤ q_ ∧ q_ ≤ 9999))) ∧ q_ &&& 1 = 0 ∧ v = some (.int (-3))) ∨ (((0 ≤ w_ ∧ w_ ≤ 1) ∧ ((-9999 ≤ p_ ∧ p_ ≤ 9999) ∧ (1 ≤ q_ ∧ q_ ≤ 9999))) ∧ ¬ q_ &&& 1 = 0 ∧ ∃ r, v = some (.int r) ∧ perQ p_.toInt q_.toInt w_ r))) := by
  refine V_entry (own := RX10) (by decide) rfl (Nat.le_of_ble_eq_true rfl) ?_
  intro B hB
  refine V_sub (L' := [(0, .ref (Z.2.2.2 99)), (1, .int p_), (2, .int q_), (3, .int w_)]) [0, 1, 2, 3] rfl ?_
  refine V_iload_n (pc := 0) dX10_period_0 3 rfl rfl ?_
  refine V_iconst (v := 0) (pc := 1) dX10_period_1 (by decide) ?_
  refine V_iconst (v := 1) (pc := 2) dX10_period_2 (by decide) ?_
  refine V_callSi (pc := 3) dX10_period_3 (c_X10_between Z _ _ _ _) kX10_60 rfl (Nat.le_of_ble_eq_true rfl) (by decide) (by decide) (Nat.le_of_ble_eq_true rfl) (Nat.le_of_ble_eq_true rfl) ?_
  refine V_bif_eq (pc := 6) (tgt := 17) dX10_period_6 (by decide) (fun h6 => ?_) (fun h6 => ?_)
  · skip
    refine V_bipush (v := (-2)) (pc := 17) dX10_period_17 (by decide) ?_
    exact V_iret (pc := 19) dX10_period_19 (Nat.le_of_ble_eq_true rfl) (Nat.le_of_ble_eq_true rfl) (hB _ _ (by exact ⟨rfl, Or.inl ⟨fun h => h6 h.1, rfl⟩⟩))
  · skip
    refine V_iload_n (pc := 9) dX10_period_9 1 rfl rfl ?_
    refine V_iload_n (pc := 10) dX10_period_10 2 rfl rfl ?_
    refine V_callSi (pc := 11) dX10_period_11 (c_X10_isFraction Z _ _ _) kX10_144 rfl (Nat.le_of_ble_eq_true rfl) (by decide) (by decide) (Nat.le_of_ble_eq_true rfl) (Nat.le_of_ble_eq_true rfl) ?_
    refine V_bif_ne (pc := 14) (tgt := 20) dX10_period_14 (by decide) (fun h14 => ?_) (fun h14 => ?_)
    · skip
      refine V_iload_n (pc := 20) dX10_period_20 2 rfl rfl ?_
      refine V_iconst (v := 1) (pc := 21) dX10_period_21 (by decide) ?_
      refine V_iand (pc := 22) dX10_period_22 ?_
      refine V_if_ne (pc := 23) (tgt := 29) dX10_period_23 (by decide) (fun h23 => ?_) (fun h23 => ?_)
      · skip
        refine V_iload_n (pc := 29) dX10_period_29 1 rfl rfl ?_
        refine V_i2l (pc := 30) dX10_period_30 rfl ?_
        refine V_lstore (pc := 31) (L2 := [(0, .ref (Z.2.2.2 99)), (1, .int p_), (2, .int q_), (3, .int w_)]) dX10_period_31 (by decide) rfl (fun x4_31 ex4_31 => ?_)
        subst ex4_31
        refine V_iconst (v := 0) (pc := 33) dX10_period_33 (by decide) ?_
        refine V_istore (pc := 34) (L2 := [(4, .long (Int32.toInt64 p_)), (0, .ref (Z.2.2.2 99)), (1, .int p_), (2, .int q_), (3, .int w_)]) dX10_period_34 (by decide) rfl (fun x6_34 ex6_34 => ?_)
        subst ex6_34
        have fr := frI h14
        have ho := oddI h23
        refine V_sub (L' := [(6, .int (nI 0)), (4, .long (Int32.toInt64 p_)), (0, .ref (Z.2.2.2 99)), (1, .int p_), (2, .int q_), (3, .int w_)]) [0, 1, 2, 3, 4, 5] rfl ?_
        refine Vloop (σ := Nat × Int64) (fun x => (x.2).toInt = (fn (bh q_.toInt) (x.1) p_.toInt) ∧ (∀ i, i < (x.1) → outQ q_.toInt (fn (bh q_.toInt) i p_.toInt)) ∧ (x.1) + muQ q_.toInt (fn (bh q_.toInt) (x.1) p_.toInt) ≤ 9999) (fun x => muQ q_.toInt (fn (bh q_.toInt) (x.1) p_.toInt)) (fun x => V XW Z cX10_period RX10 7 (some .int) 2 0 0 B 0 0 36 [(6, .int (nI (x.1))), (4, .long (x.2)), (0, .ref (Z.2.2.2 99)), (1, .int p_), (2, .int q_), (3, .int w_)] [] (S)) ?_ (0, (Int32.toInt64 p_)) (by exact ⟨tqI p_, fun i hi => absurd hi (Nat.not_lt_zero _), by rw [Nat.zero_add]; exact mu_bd fr.2 fr.1⟩)
        rintro ⟨j, u⟩ hI36 ih36
        have hI36 : u.toInt = (fn (bh q_.toInt) j p_.toInt) ∧ (∀ i, i < j → outQ q_.toInt (fn (bh q_.toInt) i p_.toInt)) ∧ j + muQ q_.toInt (fn (bh q_.toInt) j p_.toInt) ≤ 9999 := hI36
        show V XW Z cX10_period RX10 7 (some .int) 2 0 0 B 0 0 36 [(6, .int (nI j)), (4, .long u), (0, .ref (Z.2.2.2 99)), (1, .int p_), (2, .int q_), (3, .int w_)] [] (S)
        refine V_iload (pc := 36) dX10_period_36 0 rfl ?_
        refine V_ldc (pc := 38) dX10_period_38 tw_471 ?_
        refine V_icmp_ge (pc := 40) (tgt := 74) dX10_period_40 (by decide) (fun h40 => ?_) (fun h40 => ?_)
        · skip
          exact absurd h40 (Int32.not_le.mpr (nI_lt (b := 1000000) (by have := hI36.2.2; omega) (by decide)))
        · skip
          refine V_lload (pc := 43) dX10_period_43 1 rfl ?_
          refine V_lconst (v := 0) (pc := 45) dX10_period_45 (by decide) ?_
          refine V_lcmp (pc := 46) dX10_period_46 ?_
          refine V_if_gt (pc := 47) (tgt := 59) dX10_period_47 (by decide) (fun h47 => ?_) (fun h47 => ?_)
          · skip
            have hout : outQ q_.toInt (fn (bh q_.toInt) j p_.toInt) := Or.inl (by rw [← hI36.1]; exact l0gt.mp h47)
            refine V_lload (pc := 59) dX10_period_59 1 rfl ?_
            refine V_iload_n (pc := 61) dX10_period_61 4 rfl rfl ?_
            refine V_i2l (pc := 62) dX10_period_62 rfl ?_
            refine V_callSl (pc := 63) dX10_period_63 (c_X10_behindDigit Z _ _ _) kX10_153 rfl (Nat.le_of_ble_eq_true rfl) (by decide) (by decide) (Nat.le_of_ble_eq_true rfl) (Nat.le_of_ble_eq_true rfl) ?_
            refine V_lstore (pc := 66) (L2 := [(6, .int (nI j)), (0, .ref (Z.2.2.2 99)), (1, .int p_), (2, .int q_), (3, .int w_)]) dX10_period_66 (by decide) rfl (fun x4_66 ex4_66 => ?_)
            subst ex4_66
            refine V_iinc (pc := 68) (v := 1) (L2 := [(4, .long (bhd u (Int32.toInt64 q_))), (0, .ref (Z.2.2.2 99)), (1, .int p_), (2, .int q_), (3, .int w_)]) dX10_period_68 1 rfl (by decide) (by decide) rfl (fun x6_68 ex6_68 => ?_)
            rw [nI_1] at ex6_68
            subst ex6_68
            refine V_goto (pc := 71) (tgt := 36) dX10_period_71 (by decide) ?_
            refine V_sub (L' := [(6, .int (nI (j + 1))), (4, .long (bhd u (Int32.toInt64 q_))), (0, .ref (Z.2.2.2 99)), (1, .int p_), (2, .int q_), (3, .int w_)]) [0, 1, 2, 3, 4, 5] rfl ?_
            refine ih36 (((j + 1)), _) ?_ ?_
            · show ((bhd u (Int32.toInt64 q_))).toInt = (fn (bh q_.toInt) ((j + 1)) p_.toInt) ∧ (∀ i, i < ((j + 1)) → outQ q_.toInt (fn (bh q_.toInt) i p_.toInt)) ∧ ((j + 1)) + muQ q_.toInt (fn (bh q_.toInt) ((j + 1)) p_.toInt) ≤ 9999
              refine ⟨?_, ?_, ?_⟩
              · rw [fn_s]; exact bh_l hI36.1 (bhN_bd fr.2 fr.1 j) fr.2
              · intro i hi
                by_cases e : i = j
                · rw [e]; exact hout
                · exact hI36.2.1 i (by omega)
              · have := mu_dec fr.2.1 ho hout
                have := hI36.2.2
                rw [fn_s]
                omega
            · show muQ q_.toInt (fn (bh q_.toInt) (j + 1) p_.toInt) < muQ q_.toInt (fn (bh q_.toInt) j p_.toInt)
              rw [fn_s]
              exact mu_dec fr.2.1 ho hout
          · skip
            refine V_lload (pc := 50) dX10_period_50 1 rfl ?_
            refine V_iload_n (pc := 52) dX10_period_52 4 rfl rfl ?_
            refine V_ineg (pc := 53) dX10_period_53 ?_
            refine V_i2l (pc := 54) dX10_period_54 rfl ?_
            refine V_lcmp (pc := 55) dX10_period_55 ?_
            refine V_if_ge (pc := 56) (tgt := 74) dX10_period_56 (by decide) (fun h56 => ?_) (fun h56 => ?_)
            · skip
              have hin : ¬ outQ q_.toInt (fn (bh q_.toInt) j p_.toInt) := by
                rintro (z | z)
                · rw [← hI36.1] at z; exact h47 (l0gt.mpr z)
                · rw [← hI36.1] at z
                  have z2 := (lgneg fr.2).mpr z
                  first | exact h56 z2 | exact absurd h56 (Int32.not_le.mpr z2)
              refine V_iload_n (pc := 74) dX10_period_74 5 rfl rfl ?_
              refine V_iconst (v := 1) (pc := 75) dX10_period_75 (by decide) ?_
              refine V_icmp_ne (pc := 76) (tgt := 84) dX10_period_76 (by decide) (fun h76 => ?_) (fun h76 => ?_)
              · skip
                refine V_lload (pc := 84) dX10_period_84 1 rfl ?_
                refine V_iload_n (pc := 86) dX10_period_86 4 rfl rfl ?_
                refine V_i2l (pc := 87) dX10_period_87 rfl ?_
                refine V_callS (pc := 88) dX10_period_88 (c_X10_digitsRound Z _ _ _ (by exact fr.2) (by exact ho) (by rw [hI36.1]; exact ⟨Int.not_lt.mp (fun z => hin (Or.inr z)), Int.not_lt.mp (fun z => hin (Or.inl z))⟩)) kX10_157 rfl (Nat.le_of_ble_eq_true rfl) (by decide) (by decide) (Nat.le_of_ble_eq_true rfl) (Nat.le_of_ble_eq_true rfl) (fun v88 S88 hp88 => ?_)
                obtain ⟨rfl, n_, hn_, rfl⟩ := hp88
                rw [hI36.1] at hn_
                exact V_iret (pc := 91) dX10_period_91 (Nat.le_of_ble_eq_true rfl) (Nat.le_of_ble_eq_true rfl) (hB _ _ (by first | exact ⟨rfl, Or.inr (Or.inr ⟨⟨h6, h14⟩, h23, _, rfl, j, ⟨hin, hI36.2.1⟩, Or.inl ⟨h76, rfl⟩⟩)⟩ | exact ⟨rfl, Or.inr (Or.inr ⟨⟨h6, h14⟩, h23, _, rfl, j, ⟨hin, hI36.2.1⟩, Or.inr ⟨h76, n_, hn_, rfl⟩⟩)⟩))
              · skip
                refine V_iload (pc := 79) dX10_period_79 0 rfl ?_
                refine V_goto (pc := 81) (tgt := 91) dX10_period_81 (by decide) ?_
                exact V_iret (pc := 91) dX10_period_91 (Nat.le_of_ble_eq_true rfl) (Nat.le_of_ble_eq_true rfl) (hB _ _ (by first | exact ⟨rfl, Or.inr (Or.inr ⟨⟨h6, h14⟩, h23, _, rfl, j, ⟨hin, hI36.2.1⟩, Or.inl ⟨h76, rfl⟩⟩)⟩ | exact ⟨rfl, Or.inr (Or.inr ⟨⟨h6, h14⟩, h23, _, rfl, j, ⟨hin, hI36.2.1⟩, Or.inr ⟨h76, n_, hn_, rfl⟩⟩)⟩))
            · skip
              have hout : outQ q_.toInt (fn (bh q_.toInt) j p_.toInt) := Or.inr (by rw [← hI36.1]; exact (lgneg fr.2).mp (by first | exact h56 | exact Int32.not_le.mp h56))
              refine V_lload (pc := 59) dX10_period_59 1 rfl ?_
              refine V_iload_n (pc := 61) dX10_period_61 4 rfl rfl ?_
              refine V_i2l (pc := 62) dX10_period_62 rfl ?_
              refine V_callSl (pc := 63) dX10_period_63 (c_X10_behindDigit Z _ _ _) kX10_153 rfl (Nat.le_of_ble_eq_true rfl) (by decide) (by decide) (Nat.le_of_ble_eq_true rfl) (Nat.le_of_ble_eq_true rfl) ?_
              refine V_lstore (pc := 66) (L2 := [(6, .int (nI j)), (0, .ref (Z.2.2.2 99)), (1, .int p_), (2, .int q_), (3, .int w_)]) dX10_period_66 (by decide) rfl (fun x4_66 ex4_66 => ?_)
              subst ex4_66
              refine V_iinc (pc := 68) (v := 1) (L2 := [(4, .long (bhd u (Int32.toInt64 q_))), (0, .ref (Z.2.2.2 99)), (1, .int p_), (2, .int q_), (3, .int w_)]) dX10_period_68 1 rfl (by decide) (by decide) rfl (fun x6_68 ex6_68 => ?_)
              rw [nI_1] at ex6_68
              subst ex6_68
              refine V_goto (pc := 71) (tgt := 36) dX10_period_71 (by decide) ?_
              refine V_sub (L' := [(6, .int (nI (j + 1))), (4, .long (bhd u (Int32.toInt64 q_))), (0, .ref (Z.2.2.2 99)), (1, .int p_), (2, .int q_), (3, .int w_)]) [0, 1, 2, 3, 4, 5] rfl ?_
              refine ih36 (((j + 1)), _) ?_ ?_
              · show ((bhd u (Int32.toInt64 q_))).toInt = (fn (bh q_.toInt) ((j + 1)) p_.toInt) ∧ (∀ i, i < ((j + 1)) → outQ q_.toInt (fn (bh q_.toInt) i p_.toInt)) ∧ ((j + 1)) + muQ q_.toInt (fn (bh q_.toInt) ((j + 1)) p_.toInt) ≤ 9999
                refine ⟨?_, ?_, ?_⟩
                · rw [fn_s]; exact bh_l hI36.1 (bhN_bd fr.2 fr.1 j) fr.2
                · intro i hi
                  by_cases e : i = j
                  · rw [e]; exact hout
                  · exact hI36.2.1 i (by omega)
                · have := mu_dec fr.2.1 ho hout
                  have := hI36.2.2
                  rw [fn_s]
                  omega
              · show muQ q_.toInt (fn (bh q_.toInt) (j + 1) p_.toInt) < muQ q_.toInt (fn (bh q_.toInt) j p_.toInt)
                rw [fn_s]
                exact mu_dec fr.2.1 ho hout
      · skip
        refine V_bipush (v := (-3)) (pc := 26) dX10_period_26 (by decide) ?_
        exact V_iret (pc := 28) dX10_period_28 (Nat.le_of_ble_eq_true rfl) (Nat.le_of_ble_eq_true rfl) (hB _ _ (by exact ⟨rfl, Or.inr (Or.inl ⟨⟨h6, h14⟩, h23, rfl⟩)⟩))
    · skip
      refine V_bipush (v := (-2)) (pc := 17) dX10_period_17 (by decide) ?_
      exact V_iret (pc := 19) dX10_period_19 (Nat.le_of_ble_eq_true rfl) (Nat.le_of_ble_eq_true rfl) (hB _ _ (by exact ⟨rfl, Or.inl ⟨fun h => h14 h.2, rfl⟩⟩))
