/-! the clauses that both read: tokens by their place in the row of tokens -/
def tA (T : Nat → Int32) (L : Nat) : Nat → Nat
  | 0 => 0
  | r + 1 => tkE T L (skp wsB T L (tA T L r))
abbrev tB (T : Nat → Int32) (L r : Nat) : Nat := skp wsB T L (tA T L r)
abbrev tK (T : Nat → Int32) (L r : Nat) : Int32 := tkK T L (tB T L r)
abbrev tV (T : Nat → Int32) (L r : Nat) : Int32 := tkV T L (tB T L r)
theorem tA_le (T : Nat → Int32) (L : Nat) : ∀ r, tA T L r ≤ L
  | 0 => Nat.zero_le _
  | r + 1 => (tkE_le ((sk_le _ _ _ _ _).2 (tA_le T L r))).2
theorem tB_le (T : Nat → Int32) (L r : Nat) : tB T L r ≤ L := (sk_le _ _ _ _ _).2 (tA_le T L r)
theorem tA_s (T : Nat → Int32) (L r : Nat) : tA T L r ≤ tA T L (r + 1) := Nat.le_trans (sk_le _ _ _ _ _).1 (tkE_le (tB_le T L r)).1
theorem stL_4 : ∀ w, w < 6 → 4 ≤ stL.getD w 0 := by decide +kernel
theorem tkK_1 {T : Nat → Int32} {L b : Nat} (h : tkK T L b = 1) : b + 4 ≤ tkE T L b ∧ ltB (T b) = true ∧ b < L ∧ wdo T b (skp ltB T L b) < 6 := by
  unfold tkK at h
  split at h
  · rename_i hb
    split at h
    · rename_i hl
      split at h
      · rename_i hw
        have := stL_4 _ hw
        have h2 := ((wdo_iff (T := T) (b := b) (e := skp ltB T L b) hw).mp rfl).1
        refine ⟨?_, hl, hb, hw⟩
        unfold tkE
        rw [if_pos hb, if_pos hl]
        omega
      · exact absurd h (by decide)
    · split at h
      · split at h
        · exact absurd h (by decide)
        · exact absurd h (by decide)
      · split at h
        · exact absurd h (by decide)
        · exact absurd h (by decide)
  · exact absurd h (by decide)
theorem tkK_3 {T : Nat → Int32} {L b : Nat} (h : tkK T L b = 3) : b + 1 ≤ tkE T L b := by
  unfold tkK at h
  split at h
  · rename_i hb
    split at h
    · split at h
      · exact absurd h (by decide)
      · exact absurd h (by decide)
    · rename_i hl
      split at h
      · split at h
        · exact absurd h (by decide)
        · exact absurd h (by decide)
      · rename_i hd
        unfold tkE
        rw [if_pos hb, if_neg hl, if_neg hd]
        exact Nat.le_refl _
  · exact absurd h (by decide)
def mny (v : Int32) : Nat := if v = 0 then 4 else if v = 5 then 0 else 2
theorem mny_le (v : Int32) : mny v ≤ 4 := by
  unfold mny
  repeat' split
  all_goals omega
def gCT (T : Nat → Int32) (L : Nat) : Nat → Nat
  | 0 => 0
  | c + 1 => gCT T L c + mny (tV T L (gCT T L c)) + 2
abbrev sxT (T : Nat → Int32) (L c : Nat) : Nat := gCT T L c + mny (tV T L (gCT T L c)) + 1
def gdC (T : Nat → Int32) (L c : Nat) : Prop := tK T L (gCT T L c) = 1 ∧ ∀ j, j < mny (tV T L (gCT T L c)) → tK T L (gCT T L c + j + 1) = 2
def preC (T : Nat → Int32) (L c : Nat) : Prop := ∀ i, i < c → gdC T L i ∧ tK T L (sxT T L i) = 3
theorem gCT_s (T : Nat → Int32) (L c : Nat) : gCT T L (c + 1) = sxT T L c + 1 := rfl
theorem tA_m (T : Nat → Int32) (L : Nat) : ∀ (n r : Nat), tA T L r ≤ tA T L (r + n)
  | 0, _ => Nat.le_refl _
  | n + 1, r => Nat.le_trans (tA_m T L n r) (tA_s T L (r + n))
theorem pre_5 {T : Nat → Int32} {L : Nat} : ∀ c, preC T L c → 5 * c ≤ tA T L (gCT T L c)
  | 0, _ => Nat.zero_le _
  | c + 1, h => by
    have ih := pre_5 c (fun i hi => h i (Nat.lt_succ_of_lt hi))
    obtain ⟨⟨h1, _⟩, h3⟩ := h c (Nat.lt_succ_self c)
    have a1 : tA T L (gCT T L c) + 4 ≤ tA T L (gCT T L c + 1) := Nat.le_trans (Nat.add_le_add_right (sk_le wsB T L (L - tA T L (gCT T L c)) (tA T L (gCT T L c))).1 4) (tkK_1 h1).1
    have a2 : tA T L (gCT T L c + 1) ≤ tA T L (sxT T L c) := by
      rw [show sxT T L c = gCT T L c + 1 + mny (tV T L (gCT T L c)) from Nat.add_right_comm _ _ _]
      exact tA_m T L _ _
    have a3 : tA T L (sxT T L c) + 1 ≤ tA T L (sxT T L c + 1) := Nat.le_trans (Nat.add_le_add_right (sk_le wsB T L (L - tA T L (sxT T L c)) (tA T L (sxT T L c))).1 1) (tkK_3 h3)
    rw [gCT_s]
    omega
theorem pre_12 {T : Nat → Int32} {L c : Nat} (hL : L ≤ 60) (h : preC T L c) : c ≤ 12 := by
  have h1 := pre_5 c h
  have h2 := tA_le T L (gCT T L c)
  omega
/-- the token that is faulty in clause c -/
def fltC (T : Nat → Int32) (L c f : Nat) : Prop := (¬ tK T L (gCT T L c) = 1 ∧ f = gCT T L c) ∨ (tK T L (gCT T L c) = 1 ∧ ∃ j, j < mny (tV T L (gCT T L c)) ∧ (∀ i, i < j → tK T L (gCT T L c + i + 1) = 2) ∧ ¬ tK T L (gCT T L c + j + 1) = 2 ∧ f = gCT T L c + j + 1) ∨ (gdC T L c ∧ ¬ tK T L (sxT T L c) = 0 ∧ ¬ tK T L (sxT T L c) = 3 ∧ f = sxT T L c)
def pOK (T : Nat → Int32) (L n : Nat) : Prop := ∃ c, n = c + 1 ∧ preC T L c ∧ gdC T L c ∧ tK T L (sxT T L c) = 0
def pNO (T : Nat → Int32) (L f : Nat) : Prop := ∃ c, preC T L c ∧ fltC T L c f
theorem flt_end {T : Nat → Int32} {L c f : Nat} (h : fltC T L c f) : ¬ (gdC T L c ∧ (tK T L (sxT T L c) = 3 ∨ tK T L (sxT T L c) = 0)) := by
  intro g
  rcases h with h | ⟨_, j, hj, _, hn, _⟩ | ⟨_, h1, h2, _⟩
  · exact h.1 g.1.1
  · exact hn (g.1.2 j hj)
  · exact g.2.elim h2 h1
theorem preC_uni {T : Nat → Int32} {L c c' : Nat} (h : preC T L c) (h' : preC T L c') (e : ¬ (gdC T L c ∧ tK T L (sxT T L c) = 3)) (e' : ¬ (gdC T L c' ∧ tK T L (sxT T L c') = 3)) : c = c' := by
  rcases Nat.lt_trichotomy c c' with k | k | k
  · exact absurd (h' c k) e
  · exact k
  · exact absurd (h c' k) e'
theorem pOK_uni {T : Nat → Int32} {L n n' : Nat} (h : pOK T L n) (h' : pOK T L n') : n = n' := by
  obtain ⟨c, rfl, a1, a2, a3⟩ := h
  obtain ⟨c', rfl, b1, b2, b3⟩ := h'
  rw [preC_uni a1 b1 (fun z => absurd (z.2.symm.trans a3) (by decide)) (fun z => absurd (z.2.symm.trans b3) (by decide))]
theorem pON {T : Nat → Int32} {L n f : Nat} (h : pOK T L n) (h' : pNO T L f) : False := by
  obtain ⟨c, rfl, a1, a2, a3⟩ := h
  obtain ⟨c', b1, b2⟩ := h'
  obtain rfl := preC_uni a1 b1 (fun z => absurd (z.2.symm.trans a3) (by decide)) (fun z => flt_end b2 ⟨z.1, Or.inl z.2⟩)
  exact flt_end b2 ⟨a2, Or.inr a3⟩
theorem pNO_uni {T : Nat → Int32} {L f f' : Nat} (h : pNO T L f) (h' : pNO T L f') : f = f' := by
  obtain ⟨c, a1, a2⟩ := h
  obtain ⟨c', b1, b2⟩ := h'
  obtain rfl := preC_uni a1 b1 (fun z => flt_end a2 ⟨z.1, Or.inl z.2⟩) (fun z => flt_end b2 ⟨z.1, Or.inl z.2⟩)
  rcases a2 with ⟨p1, p2⟩ | ⟨p1, j, p2, p3, p4, p5⟩ | ⟨p1, p2, p3, p4⟩ <;> rcases b2 with ⟨q1, q2⟩ | ⟨q1, i, q2, q3, q4, q5⟩ | ⟨q1, q2, q3, q4⟩
  · rw [p2, q2]
  · exact absurd q1 p1
  · exact absurd q1.1 p1
  · exact absurd p1 q1
  · rcases Nat.lt_trichotomy i j with z | z | z
    · exact absurd (p3 i z) q4
    · rw [p5, q5, z]
    · exact absurd (q3 j z) p4
  · exact absurd (q1.2 j p2) p4
  · exact absurd p1.1 q1
  · exact absurd (p1.2 i q2) q4
  · rw [p4, q4]
/-- what the rows of words and numbers hold of the first n clauses -/
def hldC (T : Nat → Int32) (L n : Nat) (W N : Nat → Int32) : Prop := ∀ c, c < n → W c = tV T L (gCT T L c) ∧ ∀ j, j < mny (tV T L (gCT T L c)) → N (4 * c + j) = tV T L (gCT T L c + j + 1)
/-- one clause from token g on: read whole (o) up to token f, or faulty at token f -/
def clR (T : Nat → Int32) (L g : Nat) (o : Bool) (f : Nat) : Prop := (o = false ∧ ¬ tK T L g = 1 ∧ f = g) ∨ (tK T L g = 1 ∧ ∃ j, (∀ i, i < j → tK T L (g + i + 1) = 2) ∧ ((o = true ∧ j = mny (tV T L g) ∧ f = g + j) ∨ (o = false ∧ j < mny (tV T L g) ∧ ¬ tK T L (g + j + 1) = 2 ∧ f = g + j + 1)))
theorem clR_t {T : Nat → Int32} {L c : Nat} {o : Bool} {f : Nat} (h : clR T L (gCT T L c) o f) (ho : o = true) : gdC T L c ∧ f + 1 = sxT T L c := by
  subst ho
  rcases h with ⟨h, _⟩ | ⟨h1, j, h2, ⟨_, rfl, rfl⟩ | ⟨h, _⟩⟩
  · exact absurd h (by decide)
  · exact ⟨⟨h1, h2⟩, rfl⟩
  · exact absurd h (by decide)
theorem clR_f {T : Nat → Int32} {L c : Nat} {o : Bool} {f : Nat} (h : clR T L (gCT T L c) o f) (ho : ¬ o = true) : fltC T L c f := by
  rcases h with ⟨h, h1, h2⟩ | ⟨h1, j, h2, ⟨h, _⟩ | ⟨_, h3, h4, h5⟩⟩
  · exact Or.inl ⟨h1, h2⟩
  · exact absurd h ho
  · exact Or.inr (Or.inl ⟨h1, j, h3, h2, h4, h5⟩)
