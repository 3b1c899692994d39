theorem r_drop {S : XS} {M : MS} (h : Rel S M) : drpV S = mdR M ∧ Rel (drpS S) (mdS M) := by
  obtain ⟨n, hn, e1, e2, A, hA, inj⟩ := h.1
  have e0 : S.1 1 < 1 ↔ M.1 0 = 0 := by
    rw [e1, e2, show (1 : Int32) = nI 1 from rfl, show (0 : Int32) = nI 0 from rfl, nI_ltI (by omega) (by decide), nI_eq (by omega) (by decide)]
    omega
  unfold drpV drpS mdR mdS
  by_cases z : M.1 0 = 0
  · rw [if_pos z, if_pos z, if_pos (e0.mpr z), if_pos (e0.mpr z)]
    exact ⟨rfl, h⟩
  · have z1 : ¬ S.1 1 < 1 := fun q => z (e0.mp q)
    rw [if_neg z, if_neg z, if_neg z1, if_neg z1]
    refine ⟨by rw [e1, e2], Rel_of h ?_ (fun i hi => if_neg hi) rfl (fun i hi _ => if_neg hi) (fun _ _ => rfl)⟩
    have hn1 : n ≠ 0 := fun q => z (by rw [e2, q]; rfl)
    have en : nI n - 1 = nI (n - 1) := by
      rcases (show n = 1 ∨ n = 2 ∨ n = 3 ∨ n = 4 by omega) with rfl | rfl | rfl | rfl <;> decide
    refine ⟨n - 1, by omega, ?_, ?_, A, fun i hi => ?_, fun i hi j hj e => inj i (by omega) j (by omega) e⟩
    · show S.1 1 - 1 = _
      rw [e1, en]
    · show M.1 0 - 1 = _
      rw [e2, en]
    · obtain ⟨h1, w⟩ := hA i (by omega)
      refine ⟨?_, w⟩
      show (if i = (S.1 1 - 1).toNatClampNeg then none else S.2.2.2.2.1 i) = some (A i)
      rw [e1, en, nI_clamp (by omega), if_neg (by omega)]
      exact h1
theorem lnk_eq : ∀ c, c ≤ 6 → ∀ t, t < 64 → lnkX (nI c) (nI t) c = lnk (nI c) (nI t) := by decide +kernel
theorem r_of {S : XS} {M : MS} (h : Rel S M) (i w : Int32) : (if (0 ≤ i ∧ i < S.1 1) then xOf S (xAd S i) w else -1000) = (if 0 ≤ i ∧ i ≤ M.1 0 - 1 then mOf M i.toNatClampNeg w else -1000) := by
  by_cases g : 0 ≤ i ∧ i < S.1 1
  · rw [if_pos g, if_pos ((grd h i).mp g)]
    obtain ⟨n, j, hn, hj, _, _, _, ec, _, _, _, k, c, t, s, z, hv, q1, q2, q3, q4, q5, q6⟩ := rel_at h g
    have hc6 : c ≤ 6 := hv.2.2.1
    unfold xOf mOf
    rw [ec, q6, q1, q2, q3, q4, q5, gM_1, gM_2, gM_3, gM_4, nI_clamp (by omega), lnk_eq c hc6 t (pw6 hc6 hv.2.2.2.2.1), show gM (nI k) (nI c) (nI t) (nI s) (yz z) 0 = nI k from gM_0 k hv.1, show gM (nI k) (nI c) (nI t) (nI s) (yz z) 5 = mMade (nI k) (nI t) from gM_5 k hv.1 t (pw6 hc6 hv.2.2.2.2.1)]
  · rw [if_neg g, if_neg (fun q => g ((grd h i).mpr q))]
theorem isU_iff : ∀ k, k ≤ 5 → ∀ b, b ≤ 5 → (isU (kc (nI k)) (nI b) ↔ (nI b = 0 ∨ nI k = nI b ∨ (nI k = 2 ∧ nI b = 1))) := by
  intro k hk b hb
  rcases (show k = 0 ∨ k = 1 ∨ k = 2 ∨ k = 3 ∨ k = 4 ∨ k = 5 by omega) with rfl | rfl | rfl | rfl | rfl | rfl <;> rcases (show b = 0 ∨ b = 1 ∨ b = 2 ∨ b = 3 ∨ b = 4 ∨ b = 5 by omega) with rfl | rfl | rfl | rfl | rfl | rfl <;> decide
theorem r_taken {S : XS} {M : MS} (h : Rel S M) (i b : Int32) : (if (0 ≤ i ∧ i < S.1 1) ∧ (0 ≤ b ∧ b ≤ 5) then (if isU (xmk S (xAd S i)) b then mfo S (xAd S i) 2 else -13) else -2) = (if (0 ≤ i ∧ i ≤ M.1 0 - 1) ∧ (0 ≤ b ∧ b ≤ 5) then (if b = 0 ∨ M.2.2 1 i.toNatClampNeg = b ∨ (M.2.2 1 i.toNatClampNeg = 2 ∧ b = 1) then M.2.2 3 i.toNatClampNeg else -13) else -2) := by
  by_cases g : (0 ≤ i ∧ i < S.1 1) ∧ (0 ≤ b ∧ b ≤ 5)
  · refine (if_pos g).trans (Eq.trans ?_ (if_pos ⟨(grd h i).mp g.1, g.2⟩).symm)
    obtain ⟨n, j, hn, hj, _, _, _, ec, _, _, p3, k, c, t, s, z, hv, q1, q2, q3, q4, q5, q6⟩ := rel_at h g.1
    obtain ⟨b', rfl, _, hb⟩ := nI_rng (a := 0) (b := 5) (by decide) g.2.1 g.2.2 (by decide)
    rw [ec, p3, q6, q1, q3, gM_2]
    by_cases u : isU (kc (nI k)) (nI b')
    · rw [if_pos u, if_pos ((isU_iff k hv.1 b' hb).mp u)]
    · rw [if_neg u, if_neg (fun q => u ((isU_iff k hv.1 b' hb).mpr q))]
  · rw [if_neg g, if_neg (fun q => g ⟨(grd h i).mpr q.1, q.2⟩)]
/-- one machine changed in its place -/
theorem RM_up {S : XS} {M M' : MS} {j : Nat} {i : Int32} (h : Rel S M) (hi : 0 ≤ i ∧ i < S.1 1) (ec : i.toNatClampNeg = j) {k c t s z : Nat} (hv : vldN k c t s z) (ek : M.2.2 1 j = nI k) (e0 : M'.1 0 = M.1 0) (hj : M'.2.2 1 j = nI k ∧ M'.2.2 2 j = nI c ∧ M'.2.2 3 j = nI t ∧ M'.2.2 4 j = nI s ∧ M'.2.2 5 j = yz z) (ho : ∀ i, i ≠ j → M'.2.2 1 i = M.2.2 1 i ∧ M'.2.2 2 i = M.2.2 2 i ∧ M'.2.2 3 i = M.2.2 3 i ∧ M'.2.2 4 i = M.2.2 4 i ∧ M'.2.2 5 i = M.2.2 5 i) : RM (xM S (xAd S i) (gM (nI k) (nI c) (nI t) (nI s) (yz z))) M' := by
  obtain ⟨n, j', hn, hjn, e1, e2, _, ec', mr⟩ := rel_at h hi
  have ej : j' = j := ec'.symm.trans ec
  subst ej
  obtain ⟨n', hn', e1', e2', A, hA, inj⟩ := h.1
  have enn : n' = n := (nI_eq (by omega) (by omega)).mp (e1'.symm.trans e1)
  subst enn
  have eA : A j' = xAd S i := Option.some.inj ((hA j' hjn).1.symm.trans mr.1)
  refine ⟨n', hn', e1', e0.trans e2', A, fun i' hi' => ?_, inj⟩
  by_cases z' : i' = j'
  · subst z'
    rw [eA]
    obtain ⟨p1, p2, p3, p4, p5⟩ := hj
    refine ⟨mr.1, mr.2.1, ?_, k, c, t, s, z, hv, p1, p2, p3, p4, p5, if_pos rfl⟩
    show xmk S (xAd S i) = _
    rw [mr.2.2.1, p1, ek]
  · obtain ⟨h1, h2, h3, w⟩ := hA i' hi'
    obtain ⟨p1, p2, p3, p4, p5⟩ := ho i' z'
    have ne : ¬ A i' = xAd S i := fun e => z' (inj i' hi' j' hjn (e.trans eA.symm))
    refine ⟨h1, h2, ?_, ?_⟩
    · rw [p1]; exact h3
    · rw [p1, p2, p3, p4, p5, show mfo (xM S (xAd S i) (gM (nI k) (nI c) (nI t) (nI s) (yz z))) (A i') = mfo S (A i') from if_neg ne]
      exact w
/-- one machine made anew in its place -/
theorem RM_new {S : XS} {M M' : MS} {j q : Nat} {i : Int32} (h : Rel S M) (hi : 0 ≤ i ∧ i < S.1 1) (ec : i.toNatClampNeg = j) (hq : q ∉ xL S) {k c t s z : Nat} (hv : vldN k c t s z) (e0 : M'.1 0 = M.1 0) (hj : M'.2.2 1 j = nI k ∧ M'.2.2 2 j = nI c ∧ M'.2.2 3 j = nI t ∧ M'.2.2 4 j = nI s ∧ M'.2.2 5 j = yz z) (ho : ∀ i, i ≠ j → M'.2.2 1 i = M.2.2 1 i ∧ M'.2.2 2 i = M.2.2 2 i ∧ M'.2.2 3 i = M.2.2 3 i ∧ M'.2.2 4 i = M.2.2 4 i ∧ M'.2.2 5 i = M.2.2 5 i) : RM (xR (xN S q (kc (nI k)) (gM (nI k) (nI c) (nI t) (nI s) (yz z))) i.toNatClampNeg q) M' := by
  obtain ⟨n, j', hn, hjn, e1, e2, _, ec', mr⟩ := rel_at h hi
  have ej : j' = j := ec'.symm.trans ec
  subst ej
  obtain ⟨n', hn', e1', e2', A, hA, inj⟩ := h.1
  have enn : n' = n := (nI_eq (by omega) (by omega)).mp (e1'.symm.trans e1)
  subst enn
  rw [ec]
  refine ⟨n', hn', e1', e0.trans e2', fun i => if i = j' then q else A i, fun i' hi' => ?_, fun a ha b hb e => ?_⟩
  · by_cases z' : i' = j'
    · subst z'
      show machR _ _ i' (if i' = i' then q else A i')
      rw [if_pos rfl]
      obtain ⟨p1, p2, p3, p4, p5⟩ := hj
      refine ⟨if_pos rfl, List.mem_append_right _ (List.mem_singleton.mpr rfl), ?_, k, c, t, s, z, hv, p1, p2, p3, p4, p5, if_pos rfl⟩
      rw [p1]
      exact if_pos rfl
    · show machR _ _ i' (if i' = j' then q else A i')
      rw [if_neg z']
      obtain ⟨h1, h2, h3, w⟩ := machR_N (c := kc (nI k)) (g := gM (nI k) (nI c) (nI t) (nI s) (yz z)) hq (hA i' hi')
      obtain ⟨p1, p2, p3, p4, p5⟩ := ho i' z'
      refine ⟨(if_neg z').trans h1, h2, ?_, ?_⟩
      · rw [p1]; exact h3
      · rw [p1, p2, p3, p4, p5]; exact w
  · have e : (if a = j' then q else A a) = (if b = j' then q else A b) := e
    by_cases z2 : a = j'
    · by_cases z3 : b = j'
      · omega
      · rw [if_pos z2, if_neg z3] at e
        exact absurd (e ▸ (hA b hb).2.1) hq
    · by_cases z3 : b = j'
      · rw [if_neg z2, if_pos z3] at e
        exact absurd (e ▸ (hA a ha).2.1) hq
      · rw [if_neg z2, if_neg z3] at e
        exact inj a ha b hb e
