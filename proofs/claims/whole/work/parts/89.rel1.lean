theorem Rel_of {S S' : XS} {M M' : MS} (h : Rel S M) (hM : RM S' M') (k1 : ∀ i, i ≠ 1 → S'.1 i = S.1 i) (k2 : S'.2.2.1 = S.2.2.1) (m1 : ∀ i, i ≠ 0 → (i < 6 ∨ 10 < i) → M'.1 i = M.1 i) (m2 : ∀ j, 5 < j → M'.2.2 j = M.2.2 j) : Rel S' M' := by
  obtain ⟨_, hI, hS, hT⟩ := h
  refine ⟨hM, ?_, ?_, ?_⟩
  · unfold RI
    rw [k1 3 (by decide), k2, m1 29 (by decide) (by decide), m1 30 (by decide) (by decide), m2 31 (by decide)]
    exact hI
  · intro a ha
    rw [k1 (10 + a) (by omega), k1 (20 + a) (by omega), k2, m2 32 (by decide), m2 33 (by decide), m2 34 (by decide)]
    exact hS a ha
  · unfold RT
    rw [k1 31 (by decide), k2, m1 21 (by decide) (by decide), m2 20 (by decide)]
    exact hT
theorem n4_toInt : ∀ n, n ≤ 4 → (nI n).toInt = (n : Int) ∧ (nI n - 1).toInt = (n : Int) - 1 := by
  intro n hn
  rcases (show n = 0 ∨ n = 1 ∨ n = 2 ∨ n = 3 ∨ n = 4 by omega) with rfl | rfl | rfl | rfl | rfl <;> exact ⟨rfl, rfl⟩
theorem grd {S : XS} {M : MS} (h : Rel S M) (i : Int32) : (0 ≤ i ∧ i < S.1 1) ↔ (0 ≤ i ∧ i ≤ M.1 0 - 1) := by
  obtain ⟨⟨n, hn, e1, e2, _⟩, _⟩ := h
  rw [e1, e2, Int32.lt_iff_toInt_lt, Int32.le_iff_toInt_le (y := nI n - 1), (n4_toInt n hn).1, (n4_toInt n hn).2]
  constructor
  · exact fun q => ⟨q.1, by omega⟩
  · exact fun q => ⟨q.1, by omega⟩
/-- the machine that a number names -/
theorem rel_at {S : XS} {M : MS} (h : Rel S M) {i : Int32} (hi : 0 ≤ i ∧ i < S.1 1) : ∃ n j, n ≤ 4 ∧ j < n ∧ S.1 1 = nI n ∧ M.1 0 = nI n ∧ i = nI j ∧ i.toNatClampNeg = j ∧ machR S M j (xAd S i) := by
  obtain ⟨⟨n, hn, e1, e2, A, hA, _⟩, _⟩ := h
  obtain ⟨h0, h1⟩ := hi
  obtain ⟨j, hj, rfl⟩ := nI_of (Int32.not_lt.mpr h0)
  rw [e1] at h1
  have hjn : j < n := (nI_ltI hj (by omega)).mp h1
  have ec : (nI j).toNatClampNeg = j := nI_clamp (by omega)
  refine ⟨n, j, hn, hjn, e1, e2, rfl, ec, ?_⟩
  have q := hA j hjn
  have ea : xAd S (nI j) = A j := by
    unfold xAd
    rw [ec, q.1]
    rfl
  rw [ea]
  exact q
theorem mk6_i : ∀ c, c ≤ 6 → (1 <<< (nI c &&& 31) - 1 : Int32) = nI (2 ^ c - 1) ∧ 2 ^ c - 1 < 64 := by decide +kernel
theorem mv_iff (k c t s : Int32) : ((0 ≤ k ∧ k ≤ 5) ∧ (1 ≤ c ∧ c ≤ 6) ∧ (1 ≤ t ∧ t ≤ 1 <<< (c &&& 31) - 1) ∧ (0 ≤ s ∧ s ≤ 1 <<< (c &&& 31) - 1)) ↔ mV k c t s := by
  constructor
  · exact fun h => ⟨h.1, h.2.1, Int32.not_lt.mpr h.2.2.1.1, ⟨Int32.le_trans (by decide) h.2.2.1.1, h.2.2.1.2⟩, h.2.2.2⟩
  · exact fun h => ⟨h.1, h.2.1, ⟨Int32.not_lt.mp h.2.2.1, h.2.2.2.1.2⟩, h.2.2.2.2⟩
theorem nI_rng {x : Int32} {a b : Nat} (hb : b < 2147483648) (h1 : nI a ≤ x) (h2 : x ≤ nI b) (ha : a < 2147483648) : ∃ j, x = nI j ∧ a ≤ j ∧ j ≤ b := by
  have h0 : ¬ x < 0 := Int32.not_lt.mpr (Int32.le_trans (Int32.not_lt.mp (nI_pos ha)) h1)
  obtain ⟨j, hj, rfl⟩ := nI_of h0
  exact ⟨j, rfl, (nI_leI ha hj).mp h1, (nI_leI hj hb).mp h2⟩
theorem mv_N {k c t s : Int32} (h : mV k c t s) : ∃ k' c' t' s', k = nI k' ∧ c = nI c' ∧ t = nI t' ∧ s = nI s' ∧ vldN k' c' t' s' 9 := by
  obtain ⟨k', rfl, _, hk⟩ := nI_rng (a := 0) (b := 5) (by decide) h.1.1 h.1.2 (by decide)
  obtain ⟨c', rfl, hc1, hc⟩ := nI_rng (a := 1) (b := 6) (by decide) h.2.1.1 h.2.1.2 (by decide)
  obtain ⟨em, hm⟩ := mk6_i c' hc
  obtain ⟨t', rfl, ht1, ht⟩ := nI_rng (a := 1) (b := 2 ^ c' - 1) (by omega) (Int32.not_lt.mp h.2.2.1) (em ▸ h.2.2.2.1.2) (by decide)
  obtain ⟨s', rfl, _, hs⟩ := nI_rng (a := 0) (b := 2 ^ c' - 1) (by omega) h.2.2.2.2.1 (em ▸ h.2.2.2.2.2) (by decide)
  have hp : 0 < 2 ^ c' := Nat.two_pow_pos c'
  exact ⟨k', c', t', s', rfl, rfl, rfl, rfl, hk, hc1, hc, ht1, by omega, by omega, by decide⟩
theorem machR_N {S : XS} {M : MS} {i a q c : Nat} {g : Nat → Int32} (hq : q ∉ xL S) (h : machR S M i a) : machR (xN S q c g) M i a := by
  obtain ⟨h1, h2, h3, h4⟩ := h
  have ne : ¬ a = q := fun e => hq (e ▸ h2)
  refine ⟨h1, List.mem_append_left _ h2, ?_, ?_⟩
  · show (if a = q then c else xmk S a) = _
    rw [if_neg ne]; exact h3
  · rw [show mfo (xN S q c g) a = mfo S a from if_neg ne]
    exact h4
theorem nI_s4 {n : Nat} (hn : n ≤ 4) : nI n < 4 ↔ n < 4 := by
  rw [show (4 : Int32) = nI 4 from rfl]
  exact nI_ltI (by omega) (by decide)
theorem r_machine {S S' : XS} {M : MS} {k c t s : Int32} (h : Rel S M) (hm : mchX S k c t s S') : mchV S k c t s = mchR M k c t s ∧ Rel S' (mchS M k c t s) := by
  obtain ⟨n, hn, e1, e2, A, hA, inj⟩ := h.1
  have e4 : (S.1 1 < 4) ↔ ¬ M.1 0 = 4 := by
    rw [e1, e2, nI_s4 hn, show (4 : Int32) = nI 4 from rfl, nI_eq (by omega) (by decide)]
    omega
  have hv : mchV S k c t s = mchR M k c t s := by
    unfold mchV mchR
    by_cases g : mV k c t s
    · rw [if_pos ((mv_iff k c t s).mpr g), if_pos g]
      by_cases z : M.1 0 = 4
      · rw [if_pos z, if_neg (fun q => (e4.mp q) z)]
      · rw [if_neg z, if_pos (e4.mpr z), e1, e2]
    · rw [if_neg (fun q => g ((mv_iff k c t s).mp q)), if_neg g]
  refine ⟨hv, ?_⟩
  have kp := mch_keep hm
  refine Rel_of h ?_ kp.1 kp.2.2.1 (fun i hi _ => mchS_f M _ _ _ _ hi) (fun j hj => mchS_a _ _ _ _ hj)
  rcases hm with ⟨g, rfl⟩ | ⟨g, q, hq, rfl⟩
  · unfold mchS
    rw [if_neg (fun z => g ((mv_iff k c t s).mpr z.1))]
    exact h.1
  · by_cases z : S.1 1 < 4
    · rw [if_pos z]
      have hn4 : n < 4 := by rw [e1] at z; exact (nI_s4 hn).mp z
      unfold mchS
      rw [if_pos ⟨(mv_iff k c t s).mp g, e4.mp z⟩]
      have ec : (nI n).toNatClampNeg = n := nI_clamp (by omega)
      have em : (M.1 0).toNatClampNeg = n := by rw [e2, ec]
      have ex : ((xN S q (kc k) (gM k c t s 0)).1 1).toNatClampNeg = n := by
        rw [show (xN S q (kc k) (gM k c t s 0)).1 1 = S.1 1 from rfl, e1, ec]
      obtain ⟨k', c', t', s', rfl, rfl, rfl, rfl, hvl⟩ := mv_N ((mv_iff k c t s).mp g)
      refine ⟨n + 1, hn4, ?_, ?_, fun i => if i = n then q else A i, fun i hi => ?_, fun i hi j hj e => ?_⟩
      · show S.1 1 + 1 = _
        rw [e1, nI_1]
      · show M.1 0 + 1 = _
        rw [e2, nI_1]
      · rw [em]
        by_cases z2 : i = n
        · subst z2
          show machR _ _ i (if i = i then q else A i)
          rw [if_pos rfl]
          refine ⟨?_, List.mem_append_right _ (List.mem_singleton.mpr rfl), ?_, k', c', t', s', 9, hvl, if_pos rfl, if_pos rfl, if_pos rfl, if_pos rfl, (if_pos rfl).trans (by decide), if_pos rfl⟩
          · show (if i = ((xN S q _ _).1 1).toNatClampNeg then some q else _) = some q
            rw [ex, if_pos rfl]
          · show (if q = q then kc (nI k') else _) = kc (if i = i then nI k' else _)
            rw [if_pos rfl, if_pos rfl]
        · show machR _ _ i (if i = n then q else A i)
          rw [if_neg z2]
          obtain ⟨h1, h2, h3, w⟩ := machR_N (c := kc (nI k')) (g := gM (nI k') (nI c') (nI t') (nI s') 0) hq (hA i (by omega))
          refine ⟨?_, h2, ?_, ?_⟩
          · show (if i = ((xN S q _ _).1 1).toNatClampNeg then some q else S.2.2.2.2.1 i) = some (A i)
            rw [ex, if_neg z2]; exact h1
          · show xmk (xN S q _ _) (A i) = kc (if i = n then nI k' else M.2.2 1 i)
            rw [if_neg z2]; exact h3
          · show ∃ k c t s z, vldN k c t s z ∧ (if i = n then nI k' else M.2.2 1 i) = nI k ∧ (if i = n then nI c' else M.2.2 2 i) = nI c ∧ (if i = n then nI t' else M.2.2 3 i) = nI t ∧ (if i = n then nI s' else M.2.2 4 i) = nI s ∧ (if i = n then 0 else M.2.2 5 i) = yz z ∧ mfo (xN S q _ _) (A i) = gM (nI k) (nI c) (nI t) (nI s) (yz z)
            rw [if_neg z2, if_neg z2, if_neg z2, if_neg z2, if_neg z2]
            exact w
      · have e : (if i = n then q else A i) = (if j = n then q else A j) := e
        by_cases z2 : i = n
        · by_cases z3 : j = n
          · omega
          · rw [if_pos z2, if_neg z3] at e
            exact absurd (e ▸ (hA j (by omega)).2.1) hq
        · by_cases z3 : j = n
          · rw [if_neg z2, if_pos z3] at e
            exact absurd (e ▸ (hA i (by omega)).2.1) hq
          · rw [if_neg z2, if_neg z3] at e
            exact inj i (by omega) j (by omega) e
    · rw [if_neg z]
      unfold mchS
      rw [if_neg (fun q => z (e4.mpr q.2))]
      exact ⟨n, hn, e1, e2, A, fun i hi => machR_N hq (hA i hi), inj⟩
