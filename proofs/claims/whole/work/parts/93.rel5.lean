theorem l4 {i : Nat} (h : i < 4) : i = 0 ∨ i = 1 ∨ i = 2 ∨ i = 3 := by omega
theorem xCor_TB (S : XS) (n : Int32) (W N : Nat → Int32) (a k t u : Int32) : xCor S (xTk (xB S n W N) a k t u) := by
  refine ⟨⟨rfl, rfl, rfl, fun i hi => ?_⟩, ⟨rfl, rfl, fun i hi => ?_⟩, rfl, fun a ha => ⟨ha, rfl, rfl⟩⟩
  · rcases l4 hi with rfl | rfl | rfl | rfl <;> exact ⟨rfl, rfl⟩
  · rcases l4 hi with rfl | rfl | rfl | rfl <;> rfl
theorem mCor_TB (M : MS) (n : Int32) (W N : Nat → Int32) (a b k u : Int32) : mCor M (mTk (mB M n W N) a b k u) := ⟨rfl, rfl, rfl, rfl, ⟨rfl, rfl, rfl, rfl, rfl⟩, rfl, rfl, rfl, rfl, rfl⟩
theorem Rel_t0 {S : XS} {M : MS} (h : Rel S M) : Rel (xF S 31 0) (mF M 21 0) := by
  obtain ⟨hM, hI, hS, L, h1, h2, h3, h4, h5⟩ := h
  refine ⟨hM, hI, fun a ha => ?_, 0, Nat.zero_le _, rfl, rfl, h4, fun i hi => absurd hi (Nat.not_lt_zero _)⟩
  rcases l4 ha with rfl | rfl | rfl | rfl
  · exact hS 0 ha
  · exact hS 1 ha
  · exact hS 2 ha
  · exact hS 3 ha
theorem r_text {S S' : XS} {M M' : MS} {L : Nat} {r r' : Int32} (h : Rel S M) (hT : S.2.2.1 30 = M.2.2 20)
    (hx : ∃ (n : Int32) (W' N' : Nat → Int32) (a k t u : Int32), ((∃ c, pOK (S.2.2.1 30) L c ∧ hldC (S.2.2.1 30) L c W' N' ∧ runX (xF (xTk (xB S n W' N') a k t u) 31 0) W' N' c r S') ∨ (∃ f, pNO (S.2.2.1 30) L f ∧ r = -100 - nI (tB (S.2.2.1 30) L f) ∧ S' = xF (xTk (xB S n W' N') a k t u) 31 0)))
    (hm : ∃ (n : Int32) (W' N' : Nat → Int32) (a b k u : Int32), ((∃ c, pOK (M.2.2 20) L c ∧ hldC (M.2.2 20) L c W' N' ∧ r' = (runM (mF (mTk (mB M n W' N') a b k u) 21 0) W' N' c).2 ∧ M' = (runM (mF (mTk (mB M n W' N') a b k u) 21 0) W' N' c).1) ∨ (∃ f, pNO (M.2.2 20) L f ∧ r' = -100 - nI (tB (M.2.2 20) L f) ∧ M' = mF (mTk (mB M n W' N') a b k u) 21 0))) : r = r' ∧ Rel S' M' := by
  obtain ⟨n, W, N, a, k, t, u, hx⟩ := hx
  obtain ⟨n2, W2, N2, a2, b2, k2, u2, hm⟩ := hm
  rw [hT] at hx
  have h0 : Rel (xF (xTk (xB S n W N) a k t u) 31 0) (mF (mTk (mB M n2 W2 N2) a2 b2 k2 u2) 21 0) := Rel_t0 (Rel_cor h (xCor_TB S n W N a k t u) (mCor_TB M n2 W2 N2 a2 b2 k2 u2))
  rcases hx with ⟨c, o1, l1, q1⟩ | ⟨f, o1, rfl, rfl⟩
  · rcases hm with ⟨c2, o2, l2, rfl, rfl⟩ | ⟨f, o2, _, _⟩
    · obtain rfl := pOK_uni o1 o2
      obtain ⟨c0, rfl, p1, p2, _⟩ := o1
      exact r_run h0 (c0 + 1) (fun i hi => by
        by_cases e : i = c0
        · rw [e]; exact p2
        · exact (p1 i (by omega)).1) l1 l2 q1
    · exact absurd o2 (fun z => pON o1 z)
  · rcases hm with ⟨c2, o2, _⟩ | ⟨f2, o2, rfl, rfl⟩
    · exact absurd o1 (fun z => pON o2 z)
    · obtain rfl := pNO_uni o1 o2
      exact ⟨rfl, h0⟩
theorem fd_by {T : Nat → Int32} {L : Nat} {a b c d e : Int32} (hT : ∀ i, i < L → ¬ T i = -1) (ha : 0 ≤ a) (hb : 0 ≤ b) (hc : 0 ≤ c) (hd : 0 ≤ d) (he : 0 ≤ e) : ∀ j i, i < L + j → ¬ fdX T L a b c d e j i = -1
  | 0, i, hi => hT i hi
  | j + 1, i, hi => by
    show ¬ upd (fdX T L a b c d e j) (L + j) (fdV a b c d e j) i = -1
    have nn : ∀ x : Int32, 0 ≤ x → ¬ x = -1 := fun x hx q => absurd (q ▸ hx) (by decide)
    by_cases z : i = L + j
    · rw [show upd (fdX T L a b c d e j) (L + j) (fdV a b c d e j) i = fdV a b c d e j from if_pos z]
      unfold fdV
      repeat' split
      all_goals (apply nn; assumption)
    · rw [show upd (fdX T L a b c d e j) (L + j) (fdV a b c d e j) i = fdX T L a b c d e j i from if_neg z]
      exact fd_by hT ha hb hc hd he j i (by omega)
theorem r_feed {S : XS} {M : MS} {L : Nat} (h : Rel S M) (hL : S.1 31 = nI L) (hL6 : L ≤ 60) {n a b c d e : Int32} {G : Prop} [Decidable G] (hG : G → (1 ≤ n ∧ n ≤ 5) ∧ 0 ≤ a ∧ 0 ≤ b ∧ 0 ≤ c ∧ 0 ≤ d ∧ 0 ≤ e) : (if G then (if S.1 31 + n ≤ 60 then S.1 31 + n else -4) else -2) = (if G then (if M.1 21 + n ≤ 60 then M.1 21 + n else -4) else -2) ∧ Rel (if G ∧ S.1 31 + n ≤ 60 then fdS S L a b c d e n.toNatClampNeg else S) (if G ∧ M.1 21 + n ≤ 60 then mF (mA M 20 (fdT M (M.1 21).toNatClampNeg a b c d e n.toNatClampNeg)) 21 (M.1 21 + n) else M) := by
  obtain ⟨hM, hI, hS, L', h1, h2, h3, h4, h5⟩ := h
  have e31 : S.1 31 = M.1 21 := h2.trans h3.symm
  refine ⟨by rw [e31], ?_⟩
  rw [e31]
  by_cases g : G ∧ M.1 21 + n ≤ 60
  · rw [if_pos g, if_pos g]
    obtain ⟨g1, ga, gb, gc, gd, ge⟩ := hG g.1
    obtain ⟨en, hn5⟩ := in5 g1
    obtain rfl : L = L' := (nI_eq (by omega) (by omega)).mp (hL.symm.trans h2)
    obtain ⟨m, em⟩ : ∃ m, m = n.toNatClampNeg := ⟨_, rfl⟩
    rw [← em] at en hn5 ⊢
    have hs : L + m ≤ 60 := by
      have := g.2
      rw [h3, en, nI_add] at this
      exact (nI_leI (b := 60) (by omega) (by decide)).mp this
    refine ⟨hM, hI, fun a ha => ?_, L + m, hs, rfl, ?_, ?_, ?_⟩
    · rcases l4 ha with rfl | rfl | rfl | rfl
      · exact hS 0 ha
      · exact hS 1 ha
      · exact hS 2 ha
      · exact hS 3 ha
    · show M.1 21 + n = _
      rw [h3, en, nI_add]
    · show fdX (S.2.2.1 30) L a b c d e m = fdT M (M.1 21).toNatClampNeg a b c d e m
      rw [h3, nI_clamp (by omega), h4]
      rfl
    · intro i hi
      show ¬ fdT M (M.1 21).toNatClampNeg a b c d e m i = -1
      rw [h3, nI_clamp (by omega)]
      exact fd_by h5 ga gb gc gd ge m i hi
  · rw [if_neg g, if_neg g]
    exact ⟨hM, hI, hS, L', h1, h2, h3, h4, h5⟩
