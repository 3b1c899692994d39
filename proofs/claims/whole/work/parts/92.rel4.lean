theorem tl_sh : ∀ q, q < 31 → ((0 : Int32).toInt64 <<< ((nI q).toInt64 &&& 63)).toInt32 = (0 : Int32) <<< (nI q &&& 31) ∧ ((1 : Int32).toInt64 <<< ((nI q).toInt64 &&& 63)).toInt32 = (1 : Int32) <<< (nI q &&& 31) := by decide +kernel
theorem tl_eq {M : MS} {j k c t s z : Nat} (hv : vldN k c t s z) (q1 : M.2.2 1 j = nI k) (q2 : M.2.2 2 j = nI c) (q3 : M.2.2 3 j = nI t) (q4 : M.2.2 4 j = nI s) (q5 : M.2.2 5 j = yz z) : ∀ n, n ≤ 31 → (tlL (kc (nI k)) (gM (nI k) (nI c) (nI t) (nI s) (yz z)) n).toInt32 = tlI M j n
  | 0, _ => rfl
  | n + 1, h => by
    have ih := tl_eq hv q1 q2 q3 q4 q5 n (by omega)
    show (tlL (kc (nI k)) (gM (nI k) (nI c) (nI t) (nI s) (yz z)) n ||| (advN (kc (nI k)) n (gM (nI k) (nI c) (nI t) (nI s) (yz z)) 3 &&& 1).toInt64 <<< ((nI n).toInt64 &&& 63)).toInt32 = tlI M j n ||| ((mRn M j n).1 &&& 1) <<< (nI n &&& 31)
    rw [Int64.toInt32_or, ih, rn_adv hv, gM_3, ← q1, ← q2, ← q3, ← q4, ← q5]
    show _ ||| (((mRn M j n).1 &&& 1).toInt64 <<< ((nI n).toInt64 &&& 63)).toInt32 = _
    rcases and1 (mRn M j n).1 with e | e <;> rw [e]
    · rw [(tl_sh n (by omega)).1]
    · rw [(tl_sh n (by omega)).2]
theorem r_step {S : XS} {M : MS} (h : Rel S M) (i n : Int32) : stpV S i n = mpR M i n ∧ Rel (stpS S i n) (mpS M i n) := by
  have mk := mpS_k M i n
  by_cases g : (0 ≤ i ∧ i < S.1 1) ∧ (1 ≤ n ∧ n ≤ 30)
  · have g2 : (0 ≤ i ∧ i ≤ M.1 0 - 1) ∧ (1 ≤ n ∧ n ≤ 30) := ⟨(grd h i).mp g.1, g.2⟩
    obtain ⟨_, j, hn, hj, _, _, _, ec, p1, p2, p3, k, c, t, s, z, hv, q1, q2, q3, q4, q5, q6⟩ := rel_at h g.1
    obtain ⟨n', rfl, _, hn'⟩ := nI_rng (a := 1) (b := 30) (by decide) g.2.1 g.2.2 (by decide)
    have en : (nI n').toNatClampNeg = n' := nI_clamp (by omega)
    have r1 : stpV S i (nI n') = mpR M i (nI n') := by
      unfold stpV mpR
      rw [if_pos g, if_pos g2, ec, en, p3, q6, q1]
      exact tl_eq hv q1 q2 q3 q4 q5 n' (by omega)
    refine ⟨r1, Rel_of h ?_ ?_ ?_ (fun i h1 h2 => mk.1 i h2) mk.2⟩
    · unfold stpS mpS
      rw [if_pos g, if_pos g2, ec, en, p3, q6, q1]
      obtain ⟨s', z', e1, hv', e2⟩ := run_eq hv n'
      have e1 : mRn M j n' = (nI s', yz z') := by
        show rn (M.2.2 1 j) (M.2.2 2 j) (M.2.2 3 j) n' (M.2.2 4 j, M.2.2 5 j) = _
        rw [q1, q2, q3, q4, q5]; exact e1
      rw [e2, e1]
      refine RM_up h g.1 ec hv' q1 rfl ⟨q1, q2, q3, if_pos rfl, if_pos rfl⟩ (fun i hi => ⟨rfl, rfl, rfl, if_neg hi, if_neg hi⟩)
    · unfold stpS
      rw [if_pos g]; exact fun _ _ => rfl
    · unfold stpS
      rw [if_pos g]; rfl
  · have g2 : ¬ ((0 ≤ i ∧ i ≤ M.1 0 - 1) ∧ (1 ≤ n ∧ n ≤ 30)) := fun q => g ⟨(grd h i).mpr q.1, q.2⟩
    unfold stpV mpR stpS mpS
    rw [if_neg g, if_neg g2, if_neg g, if_neg g2]
    exact ⟨rfl, h⟩
/-- one clause done -/
theorem r_clause {S S' : XS} {M : MS} {w a b c d a' b' c' d' : Int32} (h : Rel S M) (hc : cseX S w a b c d S') (hw : ∃ k, k < 6 ∧ w = nI k) (h4 : mny w = 4 → a = a' ∧ b = b' ∧ c = c' ∧ d = d') (h2 : mny w = 2 → a = a' ∧ b = b') : cseA S w a b c d = dnA M w a' b' c' d' ∧ Rel S' (dnS M w a' b' c' d') := by
  obtain ⟨k, hk, rfl⟩ := hw
  rcases hc with ⟨e, m⟩ | ⟨e, m⟩ | ⟨e, m⟩ | ⟨e, m⟩ | ⟨e, rfl⟩ | ⟨e, rfl⟩ | ⟨n0, n1, n2, n3, n4, n5, _⟩
  · rw [e] at h4 ⊢
    obtain ⟨rfl, rfl, rfl, rfl⟩ := h4 rfl
    have q := r_machine h m
    exact ⟨congrArg (fun z => if z < 0 then (0 : Int32) else 1) q.1, q.2⟩
  · rw [e] at h2 ⊢
    obtain ⟨rfl, rfl⟩ := h2 rfl
    have q := r_set h m
    exact ⟨congrArg (fun z => if z = -1000 then (0 : Int32) else 1) q.1, q.2⟩
  · rw [e] at h2 ⊢
    obtain ⟨rfl, rfl⟩ := h2 rfl
    have q := r_set h m
    exact ⟨congrArg (fun z => if z = -1000 then (0 : Int32) else 1) q.1, q.2⟩
  · rw [e] at h2 ⊢
    obtain ⟨rfl, rfl⟩ := h2 rfl
    have q := r_set h m
    exact ⟨congrArg (fun z => if z = -1000 then (0 : Int32) else 1) q.1, q.2⟩
  · rw [e] at h2 ⊢
    obtain ⟨rfl, rfl⟩ := h2 rfl
    have q := r_step h a b
    exact ⟨congrArg (fun z => if z < 0 then (0 : Int32) else 1) q.1, q.2⟩
  · rw [e]
    have q := r_drop h
    exact ⟨congrArg (fun z => if z < 0 then (0 : Int32) else 1) q.1, q.2⟩
  · rcases (show k = 0 ∨ k = 1 ∨ k = 2 ∨ k = 3 ∨ k = 4 ∨ k = 5 by omega) with rfl | rfl | rfl | rfl | rfl | rfl
    · exact absurd rfl n0
    · exact absurd rfl n1
    · exact absurd rfl n2
    · exact absurd rfl n3
    · exact absurd rfl n4
    · exact absurd rfl n5
theorem r_run {S : XS} {M : MS} {T : Nat → Int32} {L : Nat} {W N W' N' : Nat → Int32} (h : Rel S M) : ∀ c {r : Int32} {U : XS}, (∀ i, i < c → gdC T L i) → hldC T L c W N → hldC T L c W' N' → runX S W N c r U → r = (runM M W' N' c).2 ∧ Rel U (runM M W' N' c).1
  | 0, r, U, _, _, _, q => by
    obtain ⟨rfl, rfl⟩ := q
    exact ⟨rfl, h⟩
  | c + 1, r, U, hg, h1, h2, q => by
    obtain ⟨r', U', q1, q2, q3⟩ := q
    obtain ⟨e1, e2⟩ := r_run h c (fun i hi => hg i (by omega)) (fun i hi => h1 i (by omega)) (fun i hi => h2 i (by omega)) q1
    obtain ⟨w1, n1⟩ := h1 c (by omega)
    obtain ⟨w2, n2⟩ := h2 c (by omega)
    have hk := tkK_1 (hg c (by omega)).1
    have hw : ∃ k, k < 6 ∧ W c = nI k := ⟨_, hk.2.2.2, by rw [w1]; unfold tV tkV; rw [if_pos hk.2.1]⟩
    have eW : W c = W' c := w1.trans w2.symm
    have eN : ∀ j, j < mny (W c) → N (4 * c + j) = N' (4 * c + j) := fun j hj => (n1 j (w1 ▸ hj)).trans (n2 j (w1 ▸ hj)).symm
    obtain ⟨c1, c2⟩ := r_clause (a' := N' (4 * c + 0)) (b' := N' (4 * c + 1)) (c' := N' (4 * c + 2)) (d' := N' (4 * c + 3)) e2 q2 hw (fun z => ⟨eN 0 (by omega), eN 1 (by omega), eN 2 (by omega), eN 3 (by omega)⟩) (fun z => ⟨eN 0 (by omega), eN 1 (by omega)⟩)
    refine ⟨?_, ?_⟩
    · rw [q3, c1, e1, eW]
      rfl
    · rw [eW] at c2
      exact c2
