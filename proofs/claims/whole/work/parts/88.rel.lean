/-! what the class and the reference have in common -/
theorem run_eq {k c t s z : Nat} (h : vldN k c t s z) : ∀ n, ∃ s' z', rn (nI k) (nI c) (nI t) n (nI s, yz z) = (nI s', yz z') ∧ vldN k c t s' z' ∧ advN (kc (nI k)) n (gM (nI k) (nI c) (nI t) (nI s) (yz z)) = gM (nI k) (nI c) (nI t) (nI s') (yz z')
  | 0 => ⟨s, z, rfl, h, rfl⟩
  | n + 1 => by
    obtain ⟨s', z', e1, h1, e2⟩ := run_eq h n
    obtain ⟨s2, z2, q1, q2, h2⟩ := step_ok h1
    refine ⟨s2, z2, ?_, h2, ?_⟩
    · show (stS _ _ _ (rn (nI k) (nI c) (nI t) n (nI s, yz z)).1 (rn (nI k) (nI c) (nI t) n (nI s, yz z)).2, stY _ _ _ (rn (nI k) (nI c) (nI t) n (nI s, yz z)).1 (rn (nI k) (nI c) (nI t) n (nI s, yz z)).2) = _
      rw [e1, q1, q2]
    · show adv (kc (nI k)) (advN (kc (nI k)) n (gM (nI k) (nI c) (nI t) (nI s) (yz z))) = _
      rw [e2, step_eq h1, q1, q2]
theorem rn_adv {k c t s z : Nat} (h : vldN k c t s z) (n : Nat) : advN (kc (nI k)) n (gM (nI k) (nI c) (nI t) (nI s) (yz z)) = gM (nI k) (nI c) (nI t) (rn (nI k) (nI c) (nI t) n (nI s, yz z)).1 (rn (nI k) (nI c) (nI t) n (nI s, yz z)).2 := by
  obtain ⟨s', z', e1, _, e2⟩ := run_eq h n
  rw [e2, e1]
theorem gM_3 (k c t s y : Int32) : gM k c t s y 3 = s := rfl
theorem gM_4 (k c t s y : Int32) : gM k c t s y 4 = y := rfl
theorem gM_1 (k c t s y : Int32) : gM k c t s y 1 = c := rfl
theorem gM_2 (k c t s y : Int32) : gM k c t s y 2 = t := rfl
theorem gM_0 : ∀ k, k ≤ 5 → kf (nI k) = nI k := by decide +kernel
theorem gM_5 : ∀ k, k ≤ 5 → ∀ t, t < 64 → kd (nI k) (nI t) = mMade (nI k) (nI t) := by decide +kernel
/-- machine i of both -/
def machR (S : XS) (M : MS) (i a : Nat) : Prop := S.2.2.2.2.1 i = some a ∧ a ∈ xL S ∧ xmk S a = kc (M.2.2 1 i) ∧ ∃ k c t s z, vldN k c t s z ∧ M.2.2 1 i = nI k ∧ M.2.2 2 i = nI c ∧ M.2.2 3 i = nI t ∧ M.2.2 4 i = nI s ∧ M.2.2 5 i = yz z ∧ mfo S a = gM (nI k) (nI c) (nI t) (nI s) (yz z)
def RM (S : XS) (M : MS) : Prop := ∃ n, n ≤ 4 ∧ S.1 1 = nI n ∧ M.1 0 = nI n ∧ ∃ A : Nat → Nat, (∀ i, i < n → machR S M i (A i)) ∧ ∀ i, i < n → ∀ j, j < n → A i = A j → i = j
def RI (S : XS) (M : MS) : Prop := (S.1 3 = -1 ∧ M.1 29 = 0) ∨ (¬ M.1 29 = 0 ∧ ∃ n, n ≤ 4 ∧ S.1 3 = nI n ∧ M.1 30 = nI n ∧ ∀ i, i < n → ∃ k c t s z, vldN k c t s z ∧ S.2.2.1 2 (5 * i) = nI k ∧ S.2.2.1 2 (5 * i + 1) = nI c ∧ S.2.2.1 2 (5 * i + 2) = nI t ∧ S.2.2.1 2 (5 * i + 3) = nI s ∧ S.2.2.1 2 (5 * i + 4) = yz z ∧ M.2.2 31 i = nI k ∧ M.2.2 31 (4 + i) = nI c ∧ M.2.2 31 (8 + i) = nI t ∧ M.2.2 31 (12 + i) = nI s ∧ M.2.2 31 (16 + i) = yz z)
def RS (S : XS) (M : MS) : Prop := ∀ a, a < 4 → S.1 (10 + a) = M.2.2 32 a ∧ S.1 (20 + a) = M.2.2 33 a ∧ (M.2.2 32 a = -1 ∨ M.2.2 32 a = 0 ∨ M.2.2 32 a = 1) ∧ (∃ n, n ≤ 40 ∧ M.2.2 33 a = nI n) ∧ ∀ j, j < 40 → S.2.2.1 (20 + a) j = M.2.2 34 (40 * a + j)
def RT (S : XS) (M : MS) : Prop := ∃ L, L ≤ 60 ∧ S.1 31 = nI L ∧ M.1 21 = nI L ∧ S.2.2.1 30 = M.2.2 20 ∧ ∀ i, i < L → ¬ M.2.2 20 i = -1
def Rel (S : XS) (M : MS) : Prop := RM S M ∧ RI S M ∧ RS S M ∧ RT S M
theorem machR_cor {S S' : XS} {M M' : MS} (hx : xCor S S') (hm : mCor M M') {i a : Nat} (h : machR S M i a) : machR S' M' i a := by
  obtain ⟨_, _, hr, hp⟩ := hx
  obtain ⟨_, _, _, _, ⟨e1, e2, e3, e4, e5⟩, _⟩ := hm
  obtain ⟨h1, h2, h3, h4⟩ := h
  obtain ⟨p1, p2, p3⟩ := hp a h2
  refine ⟨by rw [hr]; exact h1, p1, by rw [p2, e1]; exact h3, ?_⟩
  rw [e1, e2, e3, e4, e5, p3]
  exact h4
theorem Rel_cor {S S' : XS} {M M' : MS} (h : Rel S M) (hx : xCor S S') (hm : mCor M M') : Rel S' M' := by
  obtain ⟨hM, hI, hS, hT⟩ := h
  obtain ⟨⟨x1, x3, x31, xs⟩, ⟨y2, y30, ys⟩, hr, hp⟩ := hx
  obtain ⟨m0, m21, m29, m30, mm, m20, m31, m32, m33, m34⟩ := hm
  refine ⟨?_, ?_, ?_, ?_⟩
  · obtain ⟨n, hn, e1, e2, A, hA, hi⟩ := hM
    exact ⟨n, hn, x1.trans e1, m0.trans e2, A, fun i hi => machR_cor ⟨⟨x1, x3, x31, xs⟩, ⟨y2, y30, ys⟩, hr, hp⟩ ⟨m0, m21, m29, m30, mm, m20, m31, m32, m33, m34⟩ (hA i hi), hi⟩
  · unfold RI
    rw [x3, m29, m30, y2, m31]
    exact hI
  · intro a ha
    obtain ⟨q1, q2⟩ := xs a ha
    rw [q1, q2, ys a ha, m32, m33, m34]
    exact hS a ha
  · unfold RT
    rw [x31, m21, y30, m20]
    exact hT
theorem Rel_xOK {S : XS} {M : MS} (h : Rel S M) : xOK S := by
  obtain ⟨⟨n, hn, e1, e2, A, hA, _⟩, _⟩ := h
  exact ⟨n, hn, e1, fun i hi => ⟨A i, (hA i hi).1, (hA i hi).2.1, by rw [(hA i hi).2.2.1]; exact mcl_kc _⟩⟩
theorem Rel_mOK {S : XS} {M : MS} (h : Rel S M) : mOK M := by
  obtain ⟨⟨n, hn, e1, e2, _⟩, _⟩ := h
  exact ⟨n, hn, e2⟩
theorem Rel_tOK {S : XS} {M : MS} (h : Rel S M) : tOK M := by
  obtain ⟨_, _, _, L, h1, _, h2, _⟩ := h
  exact ⟨L, h1, h2⟩
