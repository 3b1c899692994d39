theorem rdI_at (S : MS) (a j i : Nat) : rdI S a j i = if i < j then S.2.2 34 (40 * a + i) &&& 1 else S.2.2 11 i := by
  induction j with
  | zero => rfl
  | succ j ih =>
    show upd (rdI S a j) j (S.2.2 34 (40 * a + j) &&& 1) i = _
    rw [upd_at]
    by_cases h : i = j
    · subst h
      rw [if_pos rfl, if_pos (by omega)]
    · rw [if_neg h, ih]
      by_cases h2 : i < j
      · rw [if_pos h2, if_pos (by omega)]
      · rw [if_neg h2, if_neg (by omega)]
/-- a sheet's row as the reference has it, as a number -/
abbrev rwM (S : MS) (a n : Nat) : Int64 := btL (fun i => S.2.2 34 (40 * a + i)) n
theorem nbI_bt (S : MS) (a n : Nat) : nbI (rdI S a n) n = rwM S a n := by
  refine it_cg (fun i hi => ?_) 0
  funext b
  rw [rdI_at, if_pos hi]
theorem rw_tb {r : Nat → Nat} (h : ∀ i, r i < 2) (n i : Nat) : tb (rwN r n) i = if i < n then r i else 0 := by
  induction n with
  | zero => show 0 / 2 ^ i % 2 = _; rw [Nat.zero_div]; rfl
  | succ n ih =>
    have lt := rwN_lt h n
    rw [rwN_s, ← or_add lt, tb_t, Nat.testBit_or, ← Nat.shiftLeft_eq, Nat.testBit_shiftLeft]
    rw [tb_t] at ih
    have hn := h n
    rcases Nat.lt_trichotomy i n with z | z | z
    · rw [if_pos (by omega)]
      rw [if_pos z] at ih
      rw [← ih]
      simp [show ¬ n ≤ i by omega]
    · subst z
      rw [if_pos (by omega), Nat.testBit_lt_two_pow lt]
      rcases (show r i = 0 ∨ r i = 1 by omega) with e | e <;> rw [e] <;> simp
    · rw [if_neg (by omega), Nat.testBit_lt_two_pow (Nat.lt_of_lt_of_le lt (Nat.pow_le_pow_right (by decide) (by omega)))]
      have z1 : (r n).testBit (i - n) = false := Nat.testBit_lt_two_pow (Nat.lt_of_lt_of_le hn (by rw [show 2 = 2 ^ 1 from rfl]; exact Nat.pow_le_pow_right (by decide) (by omega)))
      rw [z1]
      simp
/-- the bits of a row as a number -/
abbrev rwX (f : Nat → Int32) (n : Nat) : Nat := rwN (fun i => bt1 (f i)) n
theorem rwX_lt (f : Nat → Int32) {n : Nat} (hn : n ≤ 40) : rwX f n < 2 ^ 40 := Nat.lt_of_lt_of_le (rwN_lt (fun i => bt1_lt (f i)) n) (Nat.pow_le_pow_right (by decide) hn)
theorem rwX_at (f : Nat → Int32) {n i : Nat} (hi : i < n) : f i &&& 1 = nI (tb (rwX f n) i) := by
  rw [rw_tb (fun i => bt1_lt (f i)), if_pos hi, bt1_e]
theorem rwX_l (f : Nat → Int32) {n i : Nat} (hn : n ≤ 40) (hi : i < 64) : lbt (btL f n) (nI i) = lN (tb (rwX f n) i) := by
  have := rwX_lt f hn
  rw [btL_N f (by omega)]
  exact wb_bit (show rwX f n < 2 ^ 64 by omega) hi
/-- a row spoilt -/
def spN (x : Nat) (z : Int32) (l n : Nat) : Nat := it (fun i x => x ^^^ 2 ^ zix z i l) n x
theorem spN_lt {x : Nat} (z : Int32) {l : Nat} (hx : x < 2 ^ 40) (h0 : 0 < l) (hl : l ≤ 40) (n : Nat) : spN x z l n < 2 ^ 40 := by
  induction n with
  | zero => exact hx
  | succ n ih => exact Nat.xor_lt_two_pow ih (Nat.pow_lt_pow_right (by decide) (Nat.lt_of_lt_of_le (zix_lt z n h0) hl))
theorem slX_N {x : Nat} (z : Int32) {l : Nat} (h0 : 0 < l) (hl : l ≤ 40) (n : Nat) : slX (lN x) z l n = lN (spN x z l n) := by
  induction n with
  | zero => rfl
  | succ n ih =>
    show slX (lN x) z l n ^^^ 1 <<< ((nI (zix z n l)).toInt64 &&& 63) = lN (spN x z l n ^^^ 2 ^ zix z n l)
    have := zix_lt z n h0
    rw [ih, show (1 : Int64) = lN 1 from rfl, wb_shl _ (by omega), lN_xr, Nat.one_mul]
theorem spR_N {f : Nat → Int32} {x : Nat} (z : Int32) {l : Nat} (h0 : 0 < l) (hf : ∀ i, i < l → f i = nI (tb x i)) (n : Nat) : ∀ i, i < l → spR f z l n i = nI (tb (spN x z l n) i) := by
  induction n with
  | zero => exact hf
  | succ n ih =>
    intro i hi
    show upd (spR f z l n) (zix z n l) (spR f z l n (zix z n l) ^^^ 1) i = nI (tb (spN x z l n ^^^ 2 ^ zix z n l) i)
    have hz := zix_lt z n h0
    have e2 : tb (2 ^ zix z n l) i = if i = zix z n l then 1 else 0 := by
      have := tb_shl 1 (zix z n l) i
      rw [Nat.one_mul] at this
      rw [this]
      by_cases h : i = zix z n l
      · rw [if_pos h, if_pos (by omega), h, Nat.sub_self]
      · rw [if_neg h]
        split
        · exact tb_ge (n := 1) (by decide) (by omega)
        · rfl
    rw [upd_at, tb_xor, e2]
    by_cases h : i = zix z n l
    · rw [if_pos h, if_pos h, ← h, ih i hi, show (1 : Int32) = nI 1 from rfl, (b2 (tb_lt _ _) (by decide)).1]
    · rw [if_neg h, if_neg h, ih i hi, Nat.add_zero, Nat.mod_eq_of_lt (tb_lt _ _)]
theorem bmR_1 {g : Nat → Nat} {n : Nat} {q : BQ} {r : LQ} (h : bmR g n q r) : nI q.1 = r.2.2.2.2 := by
  obtain ⟨a, w, s, rfl, _⟩ := h
  rfl
/-- the law's length of a spoilt row, both ways -/
theorem sp_law {S T : MS} (hc : mCor S T) {a l : Nat} (z : Int32) (n : Nat) (hz : T.2.2 33 a = nI l) (h0 : 0 < l) (hl : l ≤ 40) : nI (mBm (spS T a z n) l).1 = (lfX (slX (rwM S a l) z l n) l).2.2.2.2 := by
  have e34 : T.2.2 34 = S.2.2 34 := hc.2.2.2.2.2.2.2.2.2
  have ecl : (T.2.2 33 a).toNatClampNeg = l := by rw [hz, nI_clamp (by omega)]
  have xl := rwX_lt (fun i => S.2.2 34 (40 * a + i)) hl
  refine bmR_1 (g := fun i => tb (spN (rwX (fun i => S.2.2 34 (40 * a + i)) l) z l n) i) (mBm_law hl (fun i hi => ⟨?_, tb_lt _ _⟩) (fun i hi => ?_))
  · show spR (rdI T a (T.2.2 33 a).toNatClampNeg) z (T.2.2 33 a).toNatClampNeg n i = _
    rw [ecl]
    refine spR_N z h0 (fun i hi => ?_) n i hi
    rw [rdI_at, if_pos hi, e34]
    exact rwX_at (fun i => S.2.2 34 (40 * a + i)) hi
  · have lt := spN_lt z xl h0 hl n
    show us64 _ _ &&& 1 = _
    rw [show rwM S a l = lN (rwX (fun i => S.2.2 34 (40 * a + i)) l) from btL_N _ (by omega), slX_N z h0 hl n]
    exact wb_bit (by omega) (by omega)
