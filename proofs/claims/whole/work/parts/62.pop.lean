/-! how many bits are set -/
abbrev tb (x i : Nat) : Nat := x / 2 ^ i % 2
theorem tb_lt (x i : Nat) : tb x i < 2 := Nat.mod_lt _ (by decide)
theorem tb_t (x i : Nat) : tb x i = (x.testBit i).toNat := (Nat.toNat_testBit x i).symm
theorem tb_and (a b i : Nat) : tb (a &&& b) i = tb a i * tb b i := by
  rw [tb_t, tb_t, tb_t, Nat.testBit_and]
  cases a.testBit i <;> cases b.testBit i <;> rfl
theorem tb_xor (a b i : Nat) : tb (a ^^^ b) i = (tb a i + tb b i) % 2 := by
  rw [tb_t, tb_t, tb_t, Nat.testBit_xor]
  cases a.testBit i <;> cases b.testBit i <;> rfl
theorem tb_shl (w g k : Nat) : tb (w * 2 ^ g) k = if g ≤ k then tb w (k - g) else 0 := by
  rw [tb_t, ← Nat.shiftLeft_eq, Nat.testBit_shiftLeft]
  by_cases h : g ≤ k
  · rw [if_pos h, tb_t]
    simp [h]
  · rw [if_neg h]
    simp [h]
theorem tb_ge {x n i : Nat} (h : x < 2 ^ n) (hi : n ≤ i) : tb x i = 0 := by
  rw [tb, Nat.div_eq_of_lt (Nat.lt_of_lt_of_le h (Nat.pow_le_pow_right (by decide) hi))]
def sm (g : Nat → Nat) (n : Nat) : Nat := it (fun i a => a + g i) n 0
theorem sm_s (g : Nat → Nat) (n : Nat) : sm g (n + 1) = sm g n + g n := rfl
theorem sm_cg {g h : Nat → Nat} {n : Nat} (e : ∀ i, i < n → g i = h i) : sm g n = sm h n := by
  induction n with
  | zero => rfl
  | succ n ih => rw [sm_s, sm_s, ih (fun i hi => e i (by omega)), e n (by omega)]
theorem sm_z {g : Nat → Nat} {k : Nat} (h : ∀ i, k ≤ i → g i = 0) (d : Nat) : sm g (k + d) = sm g k := by
  induction d with
  | zero => rfl
  | succ d ih => rw [← Nat.add_assoc, sm_s, ih, h _ (by omega), Nat.add_zero]
theorem sm_add (g : Nat → Nat) (k d : Nat) : sm g (k + d) = sm g k + sm (fun i => g (k + i)) d := by
  induction d with
  | zero => rfl
  | succ d ih => rw [← Nat.add_assoc, sm_s, ih, sm_s]; omega
abbrev pcN (x n : Nat) : Nat := sm (fun i => tb x i) n
theorem tb_byte {y t i : Nat} (h : t < 256) : tb (256 * y + t) i = if i < 8 then tb t i else tb y (i - 8) := by
  rw [tb_t, show 256 * y + t = 2 ^ 8 * y + t from rfl, Nat.testBit_two_pow_mul_add _ h]
  split
  · rw [tb_t]
  · rw [tb_t]
theorem pc_byte {y t n : Nat} (h : t < 256) : pcN (256 * y + t) (8 + n) = pcN t 8 + pcN y n := by
  unfold pcN
  rw [sm_add]
  congr 1
  · exact sm_cg (fun i hi => by rw [tb_byte h, if_pos hi])
  · refine sm_cg (fun i _ => ?_)
    show tb (256 * y + t) (8 + i) = tb y i
    rw [tb_byte h, if_neg (by omega)]
    congr 2
    omega
theorem and_byte {a b c d : Nat} (hb : b < 256) (hd : d < 256) : (256 * a + b) &&& (256 * c + d) = 256 * (a &&& c) + (b &&& d) := by
  have hbd : b &&& d < 256 := Nat.lt_of_le_of_lt Nat.and_le_left hb
  apply Nat.eq_of_testBit_eq
  intro i
  rw [show 256 * a + b = 2 ^ 8 * a + b from rfl, show 256 * c + d = 2 ^ 8 * c + d from rfl, show 256 * (a &&& c) + (b &&& d) = 2 ^ 8 * (a &&& c) + (b &&& d) from rfl, Nat.testBit_and, Nat.testBit_two_pow_mul_add _ hb, Nat.testBit_two_pow_mul_add _ hd, Nat.testBit_two_pow_mul_add _ hbd]
  split <;> rw [Nat.testBit_and]
/-- a mask of n like bytes -/
def mk8 (t : Nat) : Nat → Nat
  | 0 => 0
  | n + 1 => 256 * mk8 t n + t
theorem mk8_s (t n : Nat) : mk8 t (n + 1) = 256 * mk8 t n + t := rfl
def pA (n x : Nat) : Nat := x - (x / 2 &&& mk8 85 n)
def pB (n x : Nat) : Nat := (x &&& mk8 51 n) + (x / 4 &&& mk8 51 n)
def pC (n x : Nat) : Nat := (x + x / 16) &&& mk8 15 n
theorem by_A : ∀ t, t < 256 → (t / 2 &&& 85 = (128 + t / 2) &&& 85) ∧ t / 2 &&& 85 ≤ t ∧ t - (t / 2 &&& 85) < 256 := by decide +kernel
theorem by_B : ∀ t, t < 256 → (t / 4 &&& 51 = (64 + t / 4) &&& 51) ∧ (t / 4 &&& 51 = (128 + t / 4) &&& 51) ∧ (t / 4 &&& 51 = (192 + t / 4) &&& 51) ∧ (t &&& 51) ≤ 51 ∧ (t / 4 &&& 51) ≤ 51 := by decide +kernel
def bW (t : Nat) : Nat := ((t - (t / 2 &&& 85)) &&& 51) + ((t - (t / 2 &&& 85)) / 4 &&& 51)
theorem by_W : ∀ t, t < 256 → bW t % 16 ≤ 4 ∧ bW t / 16 ≤ 4 := by decide +kernel
theorem by_C : ∀ t, t < 256 → ((bW t + bW t / 16) &&& 15) = pcN t 8 ∧ pcN t 8 ≤ 8 := by decide +kernel
theorem by_C2 : ∀ h, h < 5 → ∀ t, t < 80 → ((t + 16 * h + t / 16) &&& 15) = ((t + t / 16) &&& 15) := by decide +kernel
theorem pA_s (n y t : Nat) (h : t < 256) : pA (n + 1) (256 * y + t) = 256 * pA n y + (t - (t / 2 &&& 85)) ∧ y / 2 &&& mk8 85 n ≤ y := by
  unfold pA
  rw [mk8_s]
  have e : (256 * y + t) / 2 = 256 * (y / 2) + (128 * (y % 2) + t / 2) := by omega
  have le : y / 2 &&& mk8 85 n ≤ y := Nat.le_trans Nat.and_le_left (Nat.div_le_self _ _)
  obtain ⟨a1, a2, a3⟩ := by_A t h
  refine ⟨?_, le⟩
  rw [e, and_byte (by omega) (by decide)]
  have e2 : (128 * (y % 2) + t / 2) &&& 85 = t / 2 &&& 85 := by
    rcases Nat.mod_two_eq_zero_or_one y with z | z <;> rw [z]
    · rw [Nat.mul_zero, Nat.zero_add]
    · exact a1.symm
  rw [e2, Nat.mul_sub]
  omega
theorem pB_s (n y t : Nat) (h : t < 256) : pB (n + 1) (256 * y + t) = 256 * pB n y + ((t &&& 51) + (t / 4 &&& 51)) := by
  unfold pB
  rw [mk8_s]
  have e : (256 * y + t) / 4 = 256 * (y / 4) + (64 * (y % 4) + t / 4) := by omega
  obtain ⟨a1, a2, a3, a4, a5⟩ := by_B t h
  rw [e, and_byte h (by decide), and_byte (by omega) (by decide)]
  have e2 : (64 * (y % 4) + t / 4) &&& 51 = t / 4 &&& 51 := by
    rcases (show y % 4 = 0 ∨ y % 4 = 1 ∨ y % 4 = 2 ∨ y % 4 = 3 by omega) with z | z | z | z <;> rw [z]
    · rw [Nat.mul_zero, Nat.zero_add]
    · exact a1.symm
    · exact a2.symm
    · exact a3.symm
  rw [e2, Nat.mul_add]
  omega
theorem pW_s (n y t : Nat) (h : t < 256) : pB (n + 1) (pA (n + 1) (256 * y + t)) = 256 * pB n (pA n y) + bW t := by
  rw [(pA_s n y t h).1, pB_s _ _ _ (by_A t h).2.2]
  rfl
theorem pW_n : ∀ n x, x < 256 ^ n → pB n (pA n x) % 16 ≤ 4
  | 0, x, h => by
    have : x = 0 := by simpa using h
    subst this
    decide
  | n + 1, x, h => by
    have e : x = 256 * (x / 256) + x % 256 := by omega
    rw [e, pW_s n _ _ (Nat.mod_lt _ (by decide))]
    have := by_W (x % 256) (Nat.mod_lt _ (by decide))
    omega
theorem pC_s (n Y w : Nat) (hY : Y % 16 ≤ 4) (hw : w % 16 ≤ 4 ∧ w / 16 ≤ 4) : pC (n + 1) (256 * Y + w) = 256 * pC n Y + ((w + w / 16) &&& 15) := by
  unfold pC
  rw [mk8_s]
  have e : 256 * Y + w + (256 * Y + w) / 16 = 256 * (Y + Y / 16) + (w + 16 * (Y % 16) + w / 16) := by omega
  rw [e, and_byte (by omega) (by decide), by_C2 (Y % 16) (by omega) w (by omega)]
def pU (n x : Nat) : Nat := pC n (pB n (pA n x))
theorem pU_s (n y t : Nat) (hy : y < 256 ^ n) (h : t < 256) : pU (n + 1) (256 * y + t) = 256 * pU n y + pcN t 8 := by
  unfold pU
  rw [pW_s n y t h, pC_s n _ _ (pW_n n y hy) (by_W t h), (by_C t h).1]
theorem pU_8 {x : Nat} (h : x < 2 ^ 64) : ∃ a b c d e f g i : Nat, (a ≤ 8 ∧ b ≤ 8 ∧ c ≤ 8 ∧ d ≤ 8 ∧ e ≤ 8 ∧ f ≤ 8 ∧ g ≤ 8 ∧ i ≤ 8) ∧ pU 8 x = 256 * (256 * (256 * (256 * (256 * (256 * (256 * i + g) + f) + e) + d) + c) + b) + a ∧ pcN x 64 = a + (b + (c + (d + (e + (f + (g + i)))))) := by
  have st : ∀ n y, y < 256 ^ (n + 1) → pU (n + 1) y = 256 * pU n (y / 256) + pcN (y % 256) 8 ∧ y / 256 < 256 ^ n ∧ ∀ k, pcN y (8 + k) = pcN (y % 256) 8 + pcN (y / 256) k := by
    intro n y hy
    have e : y = 256 * (y / 256) + y % 256 := by omega
    have ht : y % 256 < 256 := Nat.mod_lt _ (by decide)
    have hd : y / 256 < 256 ^ n := by rw [Nat.pow_succ] at hy; omega
    refine ⟨?_, hd, fun k => ?_⟩
    · have := pU_s n (y / 256) (y % 256) hd ht
      rw [← e] at this
      exact this
    · have := pc_byte (n := k) (y := y / 256) ht
      rw [← e] at this
      exact this
  obtain ⟨s1, h1, c1⟩ := st 7 x h
  obtain ⟨s2, h2, c2⟩ := st 6 _ h1
  obtain ⟨s3, h3, c3⟩ := st 5 _ h2
  obtain ⟨s4, h4, c4⟩ := st 4 _ h3
  obtain ⟨s5, h5, c5⟩ := st 3 _ h4
  obtain ⟨s6, h6, c6⟩ := st 2 _ h5
  obtain ⟨s7, h7, c7⟩ := st 1 _ h6
  obtain ⟨s8, h8, c8⟩ := st 0 _ h7
  have p8 : ∀ y, pcN (y % 256) 8 ≤ 8 := fun y => (by_C _ (Nat.mod_lt y (by decide))).2
  have z : ∀ y, pU 0 y = 0 := fun y => by unfold pU pC mk8; exact Nat.and_zero _
  refine ⟨pcN (x % 256) 8, pcN (x / 256 % 256) 8, pcN (x / 256 / 256 % 256) 8, pcN (x / 256 / 256 / 256 % 256) 8, pcN (x / 256 / 256 / 256 / 256 % 256) 8, pcN (x / 256 / 256 / 256 / 256 / 256 % 256) 8, pcN (x / 256 / 256 / 256 / 256 / 256 / 256 % 256) 8, pcN (x / 256 / 256 / 256 / 256 / 256 / 256 / 256 % 256) 8, ⟨p8 x, p8 _, p8 _, p8 _, p8 _, p8 _, p8 _, p8 _⟩, ?_, ?_⟩
  · rw [s1, s2, s3, s4, s5, s6, s7, s8, z, Nat.mul_zero, Nat.zero_add]
  · rw [show (64 : Nat) = 8 + 56 from rfl, c1, show (56 : Nat) = 8 + 48 from rfl, c2, show (48 : Nat) = 8 + 40 from rfl, c3, show (40 : Nat) = 8 + 32 from rfl, c4, show (32 : Nat) = 8 + 24 from rfl, c5, show (24 : Nat) = 8 + 16 from rfl, c6, show (16 : Nat) = 8 + 8 from rfl, c7, c8 0]
    rfl
theorem dv1 {z P a : Nat} (h : z = 256 * P + a) (ha : a ≤ 8) : z / 256 = P := by omega
theorem dv2 {z P1 P2 P3 a b c : Nat} (h : z = 256 * P1 + a) (h1 : P1 = 256 * P2 + b) (h2 : P2 = 256 * P3 + c) (ha : a ≤ 8) (hb : b ≤ 8) (hc : c ≤ 8) : (z + P1) / 65536 = P2 + P3 := by
  have e : z + P1 = 65536 * (P2 + P3) + (256 * (b + c) + (a + b)) := by omega
  rw [e, Nat.mul_add_div (by decide), Nat.div_eq_of_lt (by omega), Nat.add_zero]
theorem dv3 {z P1 P2 P3 P4 P5 P6 a b c d e f g i : Nat} (h : z = 256 * P1 + a) (h1 : P1 = 256 * P2 + b) (h2 : P2 = 256 * P3 + c) (h3 : P3 = 256 * P4 + d) (h4 : P4 = 256 * P5 + e) (h5 : P5 = 256 * P6 + f) (h6 : P6 = 256 * i + g) (hb : a ≤ 8 ∧ b ≤ 8 ∧ c ≤ 8 ∧ d ≤ 8 ∧ e ≤ 8 ∧ f ≤ 8 ∧ g ≤ 8 ∧ i ≤ 8) : (z + P1 + (P2 + P3)) / 4294967296 = P4 + P5 + P6 + i := by
  have e1 : P4 + P5 = 65536 * (P6 + i) + (256 * (f + g) + (e + f)) := by omega
  have e2 : P2 + P3 = 65536 * (P4 + P5) + (256 * (d + e) + (c + d)) := by omega
  have e3 : z + P1 = 65536 * (P2 + P3) + (256 * (b + c) + (a + b)) := by omega
  have e4 : z + P1 + (P2 + P3) = 4294967296 * (P4 + P5 + P6 + i) + (16777216 * ((d + e) + (f + g)) + 65536 * ((c + d) + (e + f)) + 256 * ((b + c) + (d + e)) + ((a + b) + (c + d))) := by omega
  rw [e4, Nat.mul_add_div (by decide), Nat.div_eq_of_lt (by omega), Nat.add_zero]
theorem dv4 {z P1 P2 P3 P4 P5 P6 a b c d e f g i : Nat} (h : z = 256 * P1 + a) (h1 : P1 = 256 * P2 + b) (h2 : P2 = 256 * P3 + c) (h3 : P3 = 256 * P4 + d) (h4 : P4 = 256 * P5 + e) (h5 : P5 = 256 * P6 + f) (h6 : P6 = 256 * i + g) (hb : a ≤ 8 ∧ b ≤ 8 ∧ c ≤ 8 ∧ d ≤ 8 ∧ e ≤ 8 ∧ f ≤ 8 ∧ g ≤ 8 ∧ i ≤ 8) : (z + P1 + (P2 + P3) + (P4 + P5 + P6 + i)) % 128 = a + (b + (c + (d + (e + (f + (g + i)))))) := by
  have e1 : z + P1 + (P2 + P3) + (P4 + P5 + P6 + i) = 128 * (2 * (P1 + P2 + P3 + P4 + P5 + P6 + i)) + (a + (b + (c + (d + (e + (f + (g + i))))))) := by omega
  rw [e1, Nat.mul_add_mod, Nat.mod_eq_of_lt (by omega)]
theorem us_N {n k : Nat} (hn : n < 2 ^ 64) (hk : k < 64) : us64 (lN n) (nI k) = lN (n / 2 ^ k) := wb_shr hn hk
theorem lbc_N {x : Nat} (h : x < 2 ^ 64) : lbc (lN x) = nI (pcN x 64) := by
  obtain ⟨a, b, c, d, e, f, g, i, hb, hu, hp⟩ := pU_8 h
  have hA : x / 2 &&& mk8 85 8 ≤ x := Nat.le_trans Nat.and_le_left (Nat.div_le_self _ _)
  have eA : lcA (lN x) = lN (pA 8 x) := by
    unfold lcA
    rw [show (1 : Int32) = nI 1 from rfl, us_N h (by decide), show (6148914691236517205 : Int64) = lN (mk8 85 8) from rfl, wb_and (by omega) (by decide), lN_sub hA]
    rfl
  have lA : pA 8 x < 2 ^ 64 := Nat.lt_of_le_of_lt (Nat.sub_le _ _) h
  have eB : lcB (lN (pA 8 x)) = lN (pB 8 (pA 8 x)) := by
    unfold lcB
    rw [show (2 : Int32) = nI 2 from rfl, us_N lA (by decide), show (3689348814741910323 : Int64) = lN (mk8 51 8) from rfl, wb_and lA (by decide), wb_and (by omega) (by decide), lN_add]
    rfl
  have lB : pB 8 (pA 8 x) < 2 ^ 63 := by
    unfold pB
    have m1 : pA 8 x &&& mk8 51 8 ≤ mk8 51 8 := Nat.and_le_right
    have m2 : pA 8 x / 4 &&& mk8 51 8 ≤ mk8 51 8 := Nat.and_le_right
    have m3 : mk8 51 8 < 4611686018427387904 := by decide
    omega
  have eC : lcC (lN (pB 8 (pA 8 x))) = lN (pU 8 x) := by
    unfold lcC
    rw [show (4 : Int32) = nI 4 from rfl, us_N (by omega) (by decide), show (1085102592571150095 : Int64) = lN (mk8 15 8) from rfl, lN_add, wb_and (by omega) (by decide)]
    rfl
  unfold lbc lcD
  rw [eA, eB, eC, hp]
  generalize pU 8 x = z at *
  have hz : z < 2 ^ 60 := by omega
  rw [show (8 : Int32) = nI 8 from rfl, us_N (by omega) (by decide), lN_add, show (16 : Int32) = nI 16 from rfl, us_N (by omega) (by decide), lN_add, show (32 : Int32) = nI 32 from rfl, us_N (by omega) (by decide), lN_add, lN_i, show (127 : Int32) = nI 127 from rfl]
  have key : ∀ v : Nat, nI v &&& nI 127 = nI (v % 128) := by
    intro v
    have e1 : nI v = nI (v % 2 ^ 32) := Int32.toBitVec_inj.mp (by show BitVec.ofNat 32 v = BitVec.ofNat 32 (v % 2 ^ 32); apply BitVec.eq_of_toNat_eq; rw [BitVec.toNat_ofNat, BitVec.toNat_ofNat, Nat.mod_mod])
    rw [e1, pk_andN (Nat.mod_lt _ (by decide)) 7 rfl, Nat.mod_mod_of_dvd _ (by decide)]
  rw [key]
  congr 1
  clear eA eB eC hA lA lB hp h key
  generalize h6 : 256 * i + g = P6 at hu
  generalize h5 : 256 * P6 + f = P5 at hu
  generalize h4 : 256 * P5 + e = P4 at hu
  generalize h3 : 256 * P4 + d = P3 at hu
  generalize h2 : 256 * P3 + c = P2 at hu
  generalize h1 : 256 * P2 + b = P1 at hu
  show (z + z / 256 + (z + z / 256) / 65536 + (z + z / 256 + (z + z / 256) / 65536) / 4294967296) % 128 = _
  rw [dv1 hu hb.1, dv2 hu h1.symm h2.symm hb.1 hb.2.1 hb.2.2.1, dv3 hu h1.symm h2.symm h3.symm h4.symm h5.symm h6.symm hb]
  exact dv4 hu h1.symm h2.symm h3.symm h4.symm h5.symm h6.symm hb
