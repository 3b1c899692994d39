/-! tokens: what both read on the tape T of L bytes -/
def sk (P : Int32 → Bool) (T : Nat → Int32) (L : Nat) : Nat → Nat → Nat
  | 0, a => a
  | g + 1, a => if a < L ∧ P (T a) = true then sk P T L g (a + 1) else a
abbrev skp (P : Int32 → Bool) (T : Nat → Int32) (L a : Nat) : Nat := sk P T L (L - a) a
theorem sk_le (P : Int32 → Bool) (T : Nat → Int32) (L : Nat) : ∀ (g a : Nat), a ≤ sk P T L g a ∧ (a ≤ L → sk P T L g a ≤ L)
  | 0, a => ⟨Nat.le_refl _, fun h => h⟩
  | g + 1, a => by
    unfold sk
    split
    · rename_i h
      have := sk_le P T L g (a + 1)
      exact ⟨by omega, fun _ => this.2 (by omega)⟩
    · exact ⟨Nat.le_refl _, fun h => h⟩
theorem skp_t {P : Int32 → Bool} {T : Nat → Int32} {L a : Nat} (h : a < L) (hp : P (T a) = true) : skp P T L a = skp P T L (a + 1) := by
  unfold skp
  rw [show L - a = L - (a + 1) + 1 by omega]
  show (if a < L ∧ P (T a) = true then sk P T L (L - (a + 1)) (a + 1) else a) = _
  rw [if_pos ⟨h, hp⟩]
theorem skp_f {P : Int32 → Bool} {T : Nat → Int32} {L a : Nat} (h : ¬ (a < L ∧ P (T a) = true)) : skp P T L a = a := by
  unfold skp
  rcases Nat.lt_or_ge a L with z | z
  · rw [show L - a = L - (a + 1) + 1 by omega]
    show (if a < L ∧ P (T a) = true then sk P T L (L - (a + 1)) (a + 1) else a) = _
    rw [if_neg h]
  · rw [show L - a = 0 by omega]
    rfl
def wsB (c : Int32) : Bool := decide (c = 32 ∨ c = 10)
def ltB (c : Int32) : Bool := decide (97 ≤ c ∧ c ≤ 122)
def dgB (c : Int32) : Bool := decide (48 ≤ c ∧ c ≤ 57)
/-- the word w stands from b to e -/
abbrev wdm (T : Nat → Int32) (b e w : Nat) : Prop := stL.getD w 0 = e - b ∧ ∀ i, i < stL.getD w 0 → T (b + i) = stC w i
def wdo (T : Nat → Int32) (b e : Nat) : Nat := if wdm T b e 0 then 0 else if wdm T b e 1 then 1 else if wdm T b e 2 then 2 else if wdm T b e 3 then 3 else if wdm T b e 4 then 4 else if wdm T b e 5 then 5 else 6
theorem wd_dif : ∀ v, v < 6 → ∀ w, w < 6 → v ≠ w → stL.getD v 0 = stL.getD w 0 → ∃ i, i < stL.getD v 0 ∧ stC v i ≠ stC w i := by decide +kernel
theorem wd_uni {T : Nat → Int32} {b e v w : Nat} (hv : v < 6) (hw : w < 6) (h : wdm T b e v) (k : wdm T b e w) : v = w := by
  by_cases ne : v = w
  · exact ne
  · obtain ⟨i, h1, h2⟩ := wd_dif v hv w hw ne (h.1.trans k.1.symm)
    exact absurd ((h.2 i h1).symm.trans (k.2 i (by rw [k.1, ← h.1]; exact h1))) h2
theorem wdo_iff {T : Nat → Int32} {b e w : Nat} (hw : w < 6) : wdo T b e = w ↔ wdm T b e w := by
  unfold wdo
  constructor
  · intro h
    repeat' split at h
    all_goals first | (subst h; assumption) | omega
  · intro h
    repeat' split
    all_goals first | exact wd_uni (by decide) hw (by assumption) h | skip
    rename_i h0 h1 h2 h3 h4 h5
    rcases (show w = 0 ∨ w = 1 ∨ w = 2 ∨ w = 3 ∨ w = 4 ∨ w = 5 by omega) with rfl | rfl | rfl | rfl | rfl | rfl
    · exact absurd h h0
    · exact absurd h h1
    · exact absurd h h2
    · exact absurd h h3
    · exact absurd h h4
    · exact absurd h h5
theorem wdo_le (T : Nat → Int32) (b e : Nat) : wdo T b e ≤ 6 := by
  unfold wdo
  repeat' split
  all_goals omega
/-- the number of the first two digits from f on -/
def nvT (T : Nat → Int32) (f j : Nat) : Int32 := it (fun i v => if i < 2 then v * 10 + T (f + i) - 48 else v) j 0
abbrev tkF (T : Nat → Int32) (b : Nat) : Nat := b + (if T b = 45 then 1 else 0)
def tkE (T : Nat → Int32) (L b : Nat) : Nat := if b < L then (if ltB (T b) = true then skp ltB T L b else if dgB (T b) = true ∨ T b = 45 then skp dgB T L (tkF T b) else b + 1) else b
abbrev tkN (T : Nat → Int32) (L b : Nat) : Nat := skp dgB T L (tkF T b) - tkF T b
def tkK (T : Nat → Int32) (L b : Nat) : Int32 := if b < L then (if ltB (T b) = true then (if wdo T b (skp ltB T L b) < 6 then 1 else 4) else if dgB (T b) = true ∨ T b = 45 then (if 1 ≤ tkN T L b ∧ tkN T L b ≤ 2 then 2 else 4) else if T b = 59 then 3 else 4) else 0
def tkV (T : Nat → Int32) (L b : Nat) : Int32 := if ltB (T b) = true then nI (wdo T b (skp ltB T L b)) else if T b = 45 then -nvT T (tkF T b) (tkN T L b) else nvT T (tkF T b) (tkN T L b)
theorem tkE_le {T : Nat → Int32} {L b : Nat} (h : b ≤ L) : b ≤ tkE T L b ∧ tkE T L b ≤ L := by
  unfold tkE
  split
  · rename_i hb
    split
    · exact ⟨(sk_le _ _ _ _ _).1, (sk_le _ _ _ _ _).2 (by omega)⟩
    · split
      · have hf : tkF T b ≤ L := by unfold tkF; split <;> omega
        have h0 : b ≤ tkF T b := by unfold tkF; split <;> omega
        exact ⟨Nat.le_trans h0 (sk_le dgB T L (L - tkF T b) (tkF T b)).1, (sk_le _ _ _ _ _).2 hf⟩
      · omega
  · omega
/-- the value that stands behind a token is read, one that stood there before -/
def tkU (T : Nat → Int32) (L b : Nat) (v : Int32) : Int32 := if b < L then (if ltB (T b) = true then (if wdo T b (skp ltB T L b) < 6 then nI (wdo T b (skp ltB T L b)) else v) else if dgB (T b) = true ∨ T b = 45 then (if T b = 45 then -nvT T (tkF T b) (tkN T L b) else nvT T (tkF T b) (tkN T L b)) else v) else v
theorem tkU_V {T : Nat → Int32} {L b : Nat} {v : Int32} (h : tkK T L b = 1 ∨ tkK T L b = 2) : tkU T L b v = tkV T L b := by
  unfold tkU tkV
  unfold tkK at h
  by_cases h1 : b < L
  · rw [if_pos h1] at h ⊢
    by_cases h2 : ltB (T b) = true
    · rw [if_pos h2] at h
      rw [if_pos h2, if_pos h2]
      by_cases h3 : wdo T b (skp ltB T L b) < 6
      · rw [if_pos h3]
      · rw [if_neg h3] at h
        rcases h with h | h <;> exact absurd h (by decide)
    · rw [if_neg h2] at h
      rw [if_neg h2, if_neg h2]
      by_cases h3 : dgB (T b) = true ∨ T b = 45
      · rw [if_pos h3]
      · rw [if_neg h3] at h
        rcases h with h | h <;> (split at h <;> exact absurd h (by decide))
  · rw [if_neg h1] at h
    rcases h with h | h <;> exact absurd h (by decide)
