theorem at_i {S : XS} {i n : Nat} (e1 : S.1 1 = nI n) (hn : n ≤ 4) (hi : i < n) : 0 ≤ nI i ∧ nI i < S.1 1 := ⟨nI_pos' (by omega), by rw [e1]; exact nI_lt hi (by omega)⟩
theorem mach_i {S : XS} {M : MS} (h : Rel S M) {i n : Nat} (e1 : S.1 1 = nI n) (hn : n ≤ 4) (hi : i < n) : machR S M i (xAd S (nI i)) := by
  obtain ⟨_, j, _, _, _, _, _, ec, m⟩ := rel_at h (at_i e1 hn hi)
  rw [nI_clamp (by omega)] at ec
  subst ec
  exact m
theorem r_count {S : XS} {M : MS} (h : Rel S M) (w : Int32) : (if w = 0 then S.1 1 else if w = 1 then S.1 31 else if w = 2 then clX S 0 (S.1 1).toNatClampNeg else if w = 3 then nbX S 1 (S.1 1).toNatClampNeg else if w = 4 then clX S 5 (S.1 1).toNatClampNeg else -2) = (if w = 0 then M.1 0 else if w = 1 then M.1 21 else if w = 2 then ctC M (M.1 0).toNatClampNeg else if w = 3 then ctL M (M.1 0).toNatClampNeg else if w = 4 then ctR M (M.1 0).toNatClampNeg else -2) := by
  have hR := h
  obtain ⟨n, hn, e1, e2, _⟩ := h.1
  obtain ⟨_, _, _, L, _, l1, l2, _⟩ := h
  rw [e1, e2, l1, l2, nI_clamp (by omega)]
  have c2 : clX S 0 n = ctC M n := it_cg (fun i hi => funext fun b => by
    obtain ⟨_, _, p3, k, c, t, s, z, hv, q1, q2, _, _, _, q6⟩ := mach_i hR e1 hn hi
    show (if isU (xmk S (xAd S (nI i))) 0 then b + mfo S (xAd S (nI i)) 1 else b) = b + M.2.2 2 i
    have u0 : isU (kc (nI k)) 0 := (isU_iff k hv.1 0 (by decide)).mpr (Or.inl rfl)
    rw [p3, q1, if_pos u0, q6, q2, gM_1]) _
  have c3 : nbX S 1 n = ctL M n := it_cg (fun i hi => funext fun b => by
    obtain ⟨_, _, p3, k, c, t, s, z, hv, q1, q2, _, _, _, q6⟩ := mach_i hR e1 hn hi
    show (if isU (xmk S (xAd S (nI i))) 1 then b ||| 1 <<< (nI i &&& 31) else b) = b ||| (if 1 = (0 : Int32) ∨ M.2.2 1 i = 1 ∨ (M.2.2 1 i = 2 ∧ (1 : Int32) = 1) then 1 <<< (nI i &&& 31) else 0)
    rw [p3, q1]
    have q : isU (kc (nI k)) 1 ↔ ((1 : Int32) = 0 ∨ nI k = 1 ∨ (nI k = 2 ∧ (1 : Int32) = 1)) := isU_iff k hv.1 1 (by decide)
    by_cases u : isU (kc (nI k)) 1
    · exact (if_pos u).trans (by rw [if_pos (q.mp u)])
    · exact (if_neg u).trans (by rw [if_neg (fun w => u (q.mpr w)), Int32.or_zero])) _
  have c4 : clX S 5 n = ctR M n := it_cg (fun i hi => funext fun b => by
    obtain ⟨_, _, p3, k, c, t, s, z, hv, q1, q2, _, _, _, q6⟩ := mach_i hR e1 hn hi
    show (if isU (xmk S (xAd S (nI i))) 5 then b + mfo S (xAd S (nI i)) 1 else b) = b + (if M.2.2 1 i = 5 then M.2.2 2 i else 0)
    rw [p3, q1, q6, q2, gM_1]
    have q : isU (kc (nI k)) 5 ↔ ((5 : Int32) = 0 ∨ nI k = 5 ∨ (nI k = 2 ∧ (5 : Int32) = 1)) := isU_iff k hv.1 5 (by decide)
    by_cases u : isU (kc (nI k)) 5
    · have v : nI k = 5 := (q.mp u).elim (fun z => absurd z (by decide)) (fun z => z.elim id (fun z => absurd z.2 (by decide)))
      exact (if_pos u).trans (by rw [if_pos v])
    · exact (if_neg u).trans (by rw [if_neg (fun w => u (q.mpr (Or.inr (Or.inl w)))), Int32.add_zero])) _
  rw [c2, c3, c4]
theorem im5_lo (g : Nat → Int32) (p : Nat) (f : Nat → Int32) {q : Nat} (h : q < p) : im5 g p f q = g q := by
  unfold im5 upd
  rw [if_neg (by omega), if_neg (by omega), if_neg (by omega), if_neg (by omega), if_neg (by omega)]
theorem im5_at (g : Nat → Int32) (p : Nat) (f : Nat → Int32) : im5 g p f p = f 0 ∧ im5 g p f (p + 1) = f 1 ∧ im5 g p f (p + 2) = f 2 ∧ im5 g p f (p + 3) = f 3 ∧ im5 g p f (p + 4) = f 4 := by
  unfold im5 upd
  refine ⟨?_, ?_, ?_, ?_, ?_⟩
  · rw [if_neg (by omega), if_neg (by omega), if_neg (by omega), if_neg (by omega), if_pos rfl]
  · rw [if_neg (by omega), if_neg (by omega), if_neg (by omega), if_pos rfl]
  · rw [if_neg (by omega), if_neg (by omega), if_pos rfl]
  · rw [if_neg (by omega), if_pos rfl]
  · rw [if_pos rfl]
theorem img_at (S : XS) : ∀ n i, i < n → imgX S n (5 * i) = mfo S (xAd S (nI i)) 0 ∧ imgX S n (5 * i + 1) = mfo S (xAd S (nI i)) 1 ∧ imgX S n (5 * i + 2) = mfo S (xAd S (nI i)) 2 ∧ imgX S n (5 * i + 3) = mfo S (xAd S (nI i)) 3 ∧ imgX S n (5 * i + 4) = mfo S (xAd S (nI i)) 4
  | 0, i, h => absurd h (Nat.not_lt_zero _)
  | n + 1, i, h => by
    have e : imgX S (n + 1) = im5 (imgX S n) (5 * n) (mfo S (xAd S (nI n))) := rfl
    rw [e]
    by_cases z : i = n
    · subst z; exact im5_at _ _ _
    · rw [im5_lo _ _ _ (by omega), im5_lo _ _ _ (by omega), im5_lo _ _ _ (by omega), im5_lo _ _ _ (by omega), im5_lo _ _ _ (by omega)]
      exact img_at S n i (by omega)
theorem imK_at (M : MS) : ∀ i, i < 4 → imK M 5 i = M.2.2 1 i ∧ imK M 5 (4 + i) = M.2.2 2 i ∧ imK M 5 (8 + i) = M.2.2 3 i ∧ imK M 5 (12 + i) = M.2.2 4 i ∧ imK M 5 (16 + i) = M.2.2 5 i := by
  intro i hi
  rcases l4 hi with rfl | rfl | rfl | rfl <;> exact ⟨rfl, rfl, rfl, rfl, rfl⟩
theorem r_image {S : XS} {M : MS} (h : Rel S M) : S.1 1 = M.1 0 ∧ Rel (xF (xA S 2 (imgX S (S.1 1).toNatClampNeg)) 3 (S.1 1)) (mA (mF (mF M 29 1) 30 (M.1 0)) 31 (imK M 5)) := by
  have hR := h
  obtain ⟨⟨n, hn, e1, e2, w⟩, _, hS, hT⟩ := h
  refine ⟨e1.trans e2.symm, ⟨n, hn, e1, e2, w⟩, Or.inr ⟨fun z => absurd (show (1 : Int32) = 0 from z) (by decide), n, hn, e1, e2, fun i hi => ?_⟩, fun a ha => ?_, hT⟩
  · obtain ⟨_, _, p3, k, c, t, s, z, hv, q1, q2, q3, q4, q5, q6⟩ := mach_i hR e1 hn hi
    have c1 := img_at S n i hi
    have c2 := imK_at M i (by omega)
    rw [q6, gM_1, gM_2, gM_3, gM_4, show gM (nI k) (nI c) (nI t) (nI s) (yz z) 0 = nI k from gM_0 k hv.1] at c1
    rw [q1, q2, q3, q4, q5] at c2
    have ec : (S.1 1).toNatClampNeg = n := by rw [e1, nI_clamp (by omega)]
    rw [ec]
    exact ⟨k, c, t, s, z, hv, c1.1, c1.2.1, c1.2.2.1, c1.2.2.2.1, c1.2.2.2.2, c2.1, c2.2.1, c2.2.2.1, c2.2.2.2.1, c2.2.2.2.2⟩
  · rcases l4 ha with rfl | rfl | rfl | rfl
    · exact hS 0 ha
    · exact hS 1 ha
    · exact hS 2 ha
    · exact hS 3 ha
