/-! the law of a row: bits in words and bits in rows -/
theorem lN_xr (a b : Nat) : lN a ^^^ lN b = lN (a ^^^ b) := by
  apply wb_inj
  rw [Int64.toBitVec_xor, wb_tb, wb_tb, wb_tb]
  apply BitVec.eq_of_toNat_eq
  rw [BitVec.toNat_xor, BitVec.toNat_ofNat, BitVec.toNat_ofNat, BitVec.toNat_ofNat, Nat.xor_mod_two_pow]
theorem upd_at (f : Nat → Int32) (k : Nat) (x : Int32) (j : Nat) : upd f k x j = if j = k then x else f j := rfl
theorem bmU_at (law was : Nat → Int32) (gap j k : Nat) : bmU law was gap j k = if gap ≤ k ∧ k < gap + j then law k ^^^ was (k - gap) else law k := by
  induction j with
  | zero =>
    rw [if_neg (by omega)]
    rfl
  | succ j ih =>
    show upd (bmU law was gap j) (j + gap) (bmU law was gap j (j + gap) ^^^ was j) k = _
    rw [upd_at]
    by_cases h : k = j + gap
    · subst h
      rw [if_pos rfl, if_pos (by omega), ih, if_neg (by omega), show j + gap - gap = j by omega]
    · rw [if_neg h, ih]
      by_cases h2 : gap ≤ k ∧ k < gap + j
      · rw [if_pos h2, if_pos (by omega)]
      · rw [if_neg h2, if_neg (by omega)]
theorem lw0_at (f : Nat → Int32) (j k : Nat) : lw0 f j k = if k < j then (if k = 0 then 1 else 0) else f k := by
  induction j with
  | zero => rfl
  | succ j ih =>
    show upd (lw0 f j) j (if j = 0 then 1 else 0) k = _
    rw [upd_at]
    by_cases h : k = j
    · subst h
      rw [if_pos rfl]
      exact (if_pos (show k < k + 1 by omega)).symm
    · rw [if_neg h, ih]
      by_cases h2 : k < j
      · rw [if_pos h2]
        exact (if_pos (show k < j + 1 by omega)).symm
      · rw [if_neg h2]
        exact (if_neg (show ¬ k < j + 1 by omega)).symm
theorem cpy_at (f g : Nat → Int32) {k : Nat} (h : k < 41) : va_cpy f g 0 0 41 k = f k := by
  unfold va_cpy
  rw [if_pos (by omega)]
  congr 1
  omega
theorem b2 {a b : Nat} (ha : a < 2) (hb : b < 2) : (nI a ^^^ nI b = nI ((a + b) % 2)) ∧ (nI a &&& nI b = nI (a * b)) := by
  rcases (show a = 0 ∨ a = 1 by omega) with rfl | rfl <;> rcases (show b = 0 ∨ b = 1 by omega) with rfl | rfl <;> decide
theorem bmO_at {law f : Nat → Int32} {l g : Nat → Nat} {n j : Nat} (hj : j ≤ n + 1) (hl : ∀ i, i < j → law i = nI (l i) ∧ l i < 2) (hf : ∀ i, i ≤ n → f i = nI (g i) ∧ g i < 2) : bmO law f n j = nI (sm (fun i => l i * g (n - i)) j % 2) := by
  induction j with
  | zero => rfl
  | succ j ih =>
    show bmO law f n j ^^^ (law j &&& f (n - j)) = _
    obtain ⟨a1, a2⟩ := hl j (by omega)
    obtain ⟨b1, b2'⟩ := hf (n - j) (by omega)
    have hp : l j * g (n - j) < 2 := by
      rcases (show l j = 0 ∨ l j = 1 by omega) with e | e <;> rw [e] <;> omega
    rw [ih (by omega) (fun i hi => hl i (by omega)), a1, b1, (b2 a2 b2').2, (b2 (Nat.mod_lt _ (by decide)) hp).1, sm_s]
    congr 1
    omega
/-- both laws say the same -/
def bmR (g : Nat → Nat) (n : Nat) (q : BQ) (r : LQ) : Prop := ∃ a w s : Nat, r = (lN a, lN w, lN s, nI q.2.1, nI q.1) ∧ (a < 2 ^ 41 ∧ w < 2 ^ 41 ∧ s < 2 ^ n) ∧ (∀ i, i ≤ 40 → q.2.2.1 i = nI (tb a i)) ∧ (∀ i, i ≤ 40 → q.2.2.2.1 i = nI (tb w i)) ∧ (∀ i, i < n → tb s i = g (n - 1 - i)) ∧ (∀ i, q.1 < i → tb a i = 0) ∧ (∀ i, n + 1 - q.1 - q.2.1 < i → tb w i = 0) ∧ q.2.1 + q.1 ≤ n + 1 ∧ 1 ≤ q.2.1 ∧ q.1 ≤ n
theorem seen_N {s n β : Nat} (hn : n ≤ 40) (hs : s < 2 ^ n) (hb : β < 2) : lN s <<< (Int32.toInt64 1 &&& 63) ||| lN β = lN (2 * s + β) := by
  have p : 2 ^ n ≤ 2 ^ 40 := Nat.pow_le_pow_right (by decide) hn
  rw [show Int32.toInt64 1 &&& 63 = (nI 1).toInt64 &&& 63 from rfl, wb_shl _ (by decide), wb_or (by omega) (by omega), Nat.or_comm, or_add (k := 1) (by omega)]
  congr 1
  omega
theorem bm_step {g : Nat → Nat} {n : Nat} {q : BQ} {r : LQ} {f : Nat → Int32} {b : Int64} (hn : n < 40) (hf : ∀ i, i ≤ n → f i = nI (g i) ∧ g i < 2) (hb : lbt b (nI n) = lN (g n)) (h : bmR g n q r) : bmR g (n + 1) (bmS f n q) (lfS b n r) := by
  obtain ⟨a, w, s, rfl, ⟨ha, hw, hs⟩, h1, h2, h3, h4, h5, h6, h7, h8⟩ := h
  obtain ⟨L, gap, law, was, kept⟩ := q
  simp only at h1 h2 h3 h4 h5 h6 h7 h8
  have gn := (hf n (Nat.le_refl _)).2
  have pn : 2 ^ n ≤ 2 ^ 39 := Nat.pow_le_pow_right (by decide) (by omega)
  have hs' : 2 * s + g n < 2 ^ (n + 1) := by rw [Nat.pow_succ]; omega
  have e0 := seen_N (n := n) (by omega) hs gn
  have t0 : tb (2 * s + g n) 0 = g n := by show (2 * s + g n) / 2 ^ 0 % 2 = g n; rw [Nat.pow_zero, Nat.div_one]; omega
  have tS : ∀ i, tb (2 * s + g n) (i + 1) = tb s i := by
    intro i
    show (2 * s + g n) / 2 ^ (i + 1) % 2 = s / 2 ^ i % 2
    rw [Nat.pow_succ, Nat.mul_comm (2 ^ i) 2, ← Nat.div_div_eq_div_mul, show (2 * s + g n) / 2 = s by omega]
  have h3' : ∀ i, i < n + 1 → tb (2 * s + g n) i = g (n - i) := by
    intro i hi
    rcases Nat.eq_zero_or_pos i with z | z
    · rw [z, t0, Nat.sub_zero]
    · obtain ⟨k, rfl⟩ : ∃ k, i = k + 1 := ⟨i - 1, by omega⟩
      rw [tS, h3 k (by omega)]
      congr 1
      omega
  have off : bmO law f n (L + 1) = nI (pcN (a &&& (2 * s + g n)) 64 % 2) := by
    rw [bmO_at (l := fun i => tb a i) (g := g) (by omega) (fun i hi => ⟨h1 i (by omega), tb_lt _ _⟩) hf]
    congr 2
    have e : pcN (a &&& (2 * s + g n)) 64 = sm (fun i => tb a i * tb (2 * s + g n) i) 64 := sm_cg (fun i _ => tb_and _ _ _)
    have e2 : sm (fun i => tb a i * tb (2 * s + g n) i) 64 = sm (fun i => tb a i * tb (2 * s + g n) i) (L + 1) := by
      have z := sm_z (g := fun i => tb a i * tb (2 * s + g n) i) (k := L + 1) (fun i hi => by show tb a i * _ = 0; rw [h4 i (by omega), Nat.zero_mul]) (63 - L)
      rw [show L + 1 + (63 - L) = 64 by omega] at z
      exact z
    rw [e, e2]
    exact sm_cg (g := fun i => tb a i * g (n - i)) (h := fun i => tb a i * tb (2 * s + g n) i) (fun i hi => by show tb a i * g (n - i) = tb a i * tb (2 * s + g n) i; rw [h3' i (by omega)])
  have offC : lbc (lN a &&& lN (2 * s + g n)) &&& 1 = nI (pcN (a &&& (2 * s + g n)) 64 % 2) := by
    have p2 : 2 ^ (n + 1) ≤ 2 ^ 40 := Nat.pow_le_pow_right (by decide) (by omega)
    have lt : a &&& (2 * s + g n) < 2 ^ 64 := Nat.lt_of_le_of_lt Nat.and_le_left (by omega)
    have pb : ∀ m x, pcN x m ≤ m := by
      intro m x
      induction m with
      | zero => exact Nat.le_of_eq rfl
      | succ m ih => show sm _ (m + 1) ≤ _; rw [sm_s]; have := tb_lt x m; have ih : sm (fun i => tb x i) m ≤ m := ih; omega
    have := pb 64 (a &&& (2 * s + g n))
    rw [wb_and (by omega) (by omega), lbc_N lt, pk_andN (by omega) 1 rfl]
  unfold bmS lfS
  simp only
  rw [hb, e0, offC, off]
  by_cases hz : nI (pcN (a &&& (2 * s + g n)) 64 % 2) = 0
  · rw [if_pos hz, if_pos hz]
    exact ⟨a, w, 2 * s + g n, by rw [nI_1], ⟨ha, hw, hs'⟩, h1, h2, fun i hi => by rw [h3' i hi]; congr 1, h4, fun i hi => h5 i (by simp only at hi; omega), by simp only; omega, by simp only; omega, by simp only; omega⟩
  · rw [if_neg hz, if_neg hz]
    have hgap : gap ≤ 40 := by omega
    have wlt : w * 2 ^ gap < 2 ^ 41 := by
      have w1 : w < 2 ^ (n + 1 - L - gap + 1) := Nat.lt_pow_two_of_testBit w (fun i hi => by
        have z := h5 i (by omega)
        rw [tb_t] at z
        cases e : w.testBit i
        · rfl
        · rw [e] at z; exact absurd z (by decide))
      have w2 : w * 2 ^ gap < 2 ^ (n + 1 - L - gap + 1) * 2 ^ gap := Nat.mul_lt_mul_of_pos_right w1 (Nat.two_pow_pos gap)
      rw [← Nat.pow_add] at w2
      exact Nat.lt_of_lt_of_le w2 (Nat.pow_le_pow_right (by decide) (by omega))
    have xlt : a ^^^ w * 2 ^ gap < 2 ^ 41 := Nat.xor_lt_two_pow ha wlt
    have hx : lN a ^^^ lN w <<< ((nI gap).toInt64 &&& 63) = lN (a ^^^ w * 2 ^ gap) := by rw [wb_shl _ (by omega), lN_xr]
    have hlaw : ∀ i, i ≤ 40 → bmU law was gap (41 - gap) i = nI (tb (a ^^^ w * 2 ^ gap) i) := by
      intro i hi
      rw [bmU_at, tb_xor, tb_shl]
      by_cases hg : gap ≤ i
      · rw [if_pos (by omega), if_pos hg, h1 i hi, h2 (i - gap) (by omega), (b2 (tb_lt _ _) (tb_lt _ _)).1]
      · rw [if_neg (by omega), if_neg hg, h1 i hi, Nat.add_zero, Nat.mod_eq_of_lt (tb_lt _ _)]
    have hdeg : ∀ i, L < i → n + 1 - L < i → tb (a ^^^ w * 2 ^ gap) i = 0 := by
      intro i hi hi2
      rw [tb_xor, tb_shl, h4 i hi]
      split
      · rw [h5 (i - gap) (by omega)]
      · rfl
    by_cases hg : 2 * L ≤ n
    · have hc : ¬ nI n < 2 * nI L := by
        rw [show (2 : Int32) = nI 2 from rfl, pk_mul, nI_ltI (by omega) (by omega)]
        omega
      rw [if_pos hg, if_neg hc, hx]
      refine ⟨a ^^^ w * 2 ^ gap, a, 2 * s + g n, by rw [nI_1, pk_sub (by omega)]; rfl, ⟨xlt, ha, hs'⟩, hlaw, fun i hi => ?_, fun i hi => by rw [h3' i hi]; congr 1, fun i hi => hdeg i (by simp only at hi; omega) (by simp only at hi; omega), fun i hi => h4 i (by simp only at hi; omega), by simp only; omega, Nat.le_refl _, by simp only; omega⟩
      show va_cpy (va_cpy law kept 0 0 41) was 0 0 41 i = _
      rw [cpy_at _ _ (by omega), cpy_at _ _ (by omega), h1 i hi]
    · have hc : nI n < 2 * nI L := by
        rw [show (2 : Int32) = nI 2 from rfl, pk_mul, nI_ltI (by omega) (by omega)]
        omega
      rw [if_neg hg, if_pos hc, hx]
      exact ⟨a ^^^ w * 2 ^ gap, w, 2 * s + g n, by rw [nI_1], ⟨xlt, hw, hs'⟩, hlaw, h2, fun i hi => by rw [h3' i hi]; congr 1, fun i hi => hdeg i hi (by simp only at hi; omega), fun i hi => h5 i (by simp only at hi; omega), by simp only; omega, by simp only; omega, by simp only; omega⟩
theorem bm_law {g : Nat → Nat} {f : Nat → Int32} {b : Int64} {q0 : BQ} {N : Nat} (hN : N ≤ 40) (hf : ∀ i, i < N → f i = nI (g i) ∧ g i < 2) (hb : ∀ i, i < N → lbt b (nI i) = lN (g i)) (h1 : q0.1 = 0) (h2 : q0.2.1 = 1) (h3 : ∀ i, i ≤ 40 → q0.2.2.1 i = if i = 0 then 1 else 0) (h4 : ∀ i, i ≤ 40 → q0.2.2.2.1 i = if i = 0 then 1 else 0) (n : Nat) (hn : n ≤ N) : bmR g n (bm f q0 n) (lfX b n) := by
  induction n with
  | zero =>
    have t1 : ∀ i, nI (tb 1 i) = if i = 0 then 1 else 0 := by
      intro i
      split
      · rename_i e; rw [e]; rfl
      · rename_i e; rw [tb_ge (n := 1) (by decide) (by omega)]; rfl
    refine ⟨1, 1, 0, ?_, by decide, fun i hi => ?_, fun i hi => ?_, fun i hi => absurd hi (Nat.not_lt_zero _), fun i hi => ?_, fun i hi => ?_, ?_, ?_, ?_⟩
    · show ((1 : Int64), (1 : Int64), (0 : Int64), (1 : Int32), (0 : Int32)) = (lN 1, lN 1, lN 0, nI q0.2.1, nI q0.1)
      rw [h1, h2]
      rfl
    · rw [t1]; exact h3 i hi
    · rw [t1]; exact h4 i hi
    · exact tb_ge (n := 1) (by decide) (by have : q0.1 < i := hi; omega)
    · have hi : 0 + 1 - q0.1 - q0.2.1 < i := hi
      exact tb_ge (n := 1) (by decide) (by omega)
    · show q0.2.1 + q0.1 ≤ 0 + 1; omega
    · show 1 ≤ q0.2.1; omega
    · show q0.1 ≤ 0; omega
  | succ n ih => exact bm_step (by omega) (fun i hi => hf i (by omega)) (hb n (by omega)) (ih (by omega))
theorem mBm_law {S : MS} {g : Nat → Nat} {b : Int64} {N : Nat} (hN : N ≤ 40) (hf : ∀ i, i < N → S.2.2 11 i = nI (g i) ∧ g i < 2) (hb : ∀ i, i < N → lbt b (nI i) = lN (g i)) : bmR g N (mBm S N) (lfX b N) :=
  bm_law hN hf hb rfl rfl (fun i hi => by show lw0 (S.2.2 16) 41 i = _; rw [lw0_at, if_pos (by omega)]) (fun i hi => by show lw0 (S.2.2 17) 41 i = _; rw [lw0_at, if_pos (by omega)]) N (Nat.le_refl _)
