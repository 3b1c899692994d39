theorem gM_u3 (k c t s y v : Int32) : upd (gM k c t s y) 3 v = gM k c t v y := by
  funext j
  show (if j = 3 then v else gG _ _ c t s y _ j) = gG _ _ c t v y _ j
  unfold gG
  by_cases h3 : j = 3
  · subst h3; rfl
  · simp only [h3, if_false]
theorem gM_u4 (k c t s y v : Int32) : upd (gM k c t s y) 4 v = gM k c t s v := by
  funext j
  show (if j = 4 then v else gG _ _ c t s y _ j) = gG _ _ c t s v _ j
  unfold gG
  by_cases h3 : j = 4
  · subst h3; rfl
  · simp only [h3, if_false]
theorem yz_rng {v : Int32} (h : -9 ≤ v ∧ v ≤ 9) : ∃ z, z < 73 ∧ v = yz z := by
  have h1 := Int32.le_iff_toInt_le.mp h.1
  have h2 := Int32.le_iff_toInt_le.mp h.2
  rw [show (-9 : Int32).toInt = -9 from rfl] at h1
  rw [show (9 : Int32).toInt = 9 from rfl] at h2
  refine ⟨(v.toInt + 9).toNat, by omega, Int32.toInt_inj.mp ?_⟩
  obtain ⟨z, hz⟩ : ∃ z : Nat, z = (v.toInt + 9).toNat := ⟨_, rfl⟩
  rw [← hz]
  have hz2 : v.toInt = (z : Int) - 9 := by omega
  have hz3 : z < 19 := by omega
  rw [hz2]
  have : ∀ z, z < 19 → (yz z).toInt = (z : Int) - 9 := by decide +kernel
  exact (this z hz3).symm
theorem mA_o (M : MS) (r : Nat) (j : Nat) (v : Int32) {i : Nat} (hi : i ≠ j) (q : Nat) : (mA M r (upd (M.2.2 r) j v)).2.2 q i = M.2.2 q i := by
  show (if q = r then upd (M.2.2 r) j v else M.2.2 q) i = _
  by_cases e : q = r
  · rw [if_pos e, e]; exact if_neg hi
  · rw [if_neg e]
theorem mA_j (M : MS) (r : Nat) (j : Nat) (v : Int32) (q : Nat) : (mA M r (upd (M.2.2 r) j v)).2.2 q j = if q = r then v else M.2.2 q j := by
  show (if q = r then upd (M.2.2 r) j v else M.2.2 q) j = _
  by_cases e : q = r
  · rw [if_pos e, if_pos e]; exact if_pos rfl
  · rw [if_neg e, if_neg e]
theorem mA_oo (M : MS) (r : Nat) (j : Nat) (v : Int32) (i : Nat) (hi : i ≠ j) : (mA M r (upd (M.2.2 r) j v)).2.2 1 i = M.2.2 1 i ∧ (mA M r (upd (M.2.2 r) j v)).2.2 2 i = M.2.2 2 i ∧ (mA M r (upd (M.2.2 r) j v)).2.2 3 i = M.2.2 3 i ∧ (mA M r (upd (M.2.2 r) j v)).2.2 4 i = M.2.2 4 i ∧ (mA M r (upd (M.2.2 r) j v)).2.2 5 i = M.2.2 5 i := ⟨mA_o M r j v hi 1, mA_o M r j v hi 2, mA_o M r j v hi 3, mA_o M r j v hi 4, mA_o M r j v hi 5⟩
theorem r_set {S S' : XS} {M : MS} {m w v : Int32} (h : Rel S M) (hm : setX S m w v S') : setV S m w v = msR M m w v ∧ Rel S' (msS M m w v) := by
  have kp := set_keep hm
  have mk := msS_k M m w v
  suffices q : setV S m w v = msR M m w v ∧ RM S' (msS M m w v) from ⟨q.1, Rel_of h q.2 (fun i _ => kp.1 i) kp.2.2.1 (fun i _ _ => congrFun mk.1 i) mk.2⟩
  by_cases g : 0 ≤ m ∧ m < S.1 1
  · have g2 := (grd h m).mp g
    obtain ⟨n, j, hn, hj, _, _, _, ec, p1, p2, p3, k, c, t, s, z, hv, q1, q2, q3, q4, q5, q6⟩ := rel_at h g
    obtain ⟨hk, hc1, hc, ht1, ht, hs, hz⟩ := hv
    obtain ⟨em, hm64⟩ := mk6_i c hc
    have hp : 0 < 2 ^ c := Nat.two_pow_pos c
    unfold setV msR msS
    rw [ec, q2, q6]
    by_cases w0 : w = 0
    · subst w0
      have iff0 : mSt 0 v (nI c) ↔ (0 ≤ v ∧ v ≤ 1 <<< (nI c &&& 31) - 1) := ⟨fun q => q.elim (fun q => q.2) (fun q => q.elim (fun q => absurd q.1 (by decide)) (fun q => q.elim (fun q => absurd q.1 (by decide)) (fun q => absurd q.1 (by decide)))), fun q => Or.inl ⟨rfl, q⟩⟩
      rcases hm with ⟨g', _⟩ | ⟨_, ⟨_, rfl⟩ | ⟨e, _⟩ | ⟨e, _⟩ | ⟨e, _⟩⟩
      · exact absurd ⟨g, Or.inl rfl⟩ g'
      · rw [if_pos g, if_pos rfl, gM_1, gM_3, q6, gM_1]
        by_cases o : 0 ≤ v ∧ v ≤ 1 <<< (nI c &&& 31) - 1
        · rw [if_pos o, if_pos ⟨g2, iff0.mpr o⟩, if_pos o, if_pos ⟨g2, iff0.mpr o⟩]
          refine ⟨q4.symm, ?_⟩
          obtain ⟨v', rfl, _, hv'⟩ := nI_rng (a := 0) (b := 2 ^ c - 1) (by omega) o.1 (em ▸ o.2) (by decide)
          rw [gM_u3]
          exact RM_up h g ec (k := k) (c := c) (t := t) (s := v') (z := z) ⟨hk, hc1, hc, ht1, ht, by omega, hz⟩ q1 rfl ⟨(mA_j M 4 j _ 1).trans q1, (mA_j M 4 j _ 2).trans q2, (mA_j M 4 j _ 3).trans q3, mA_j M 4 j _ 4, (mA_j M 4 j _ 5).trans q5⟩ (mA_oo M 4 j _)
        · rw [if_neg o, if_neg (fun q => o (iff0.mp q.2)), if_neg o, if_neg (fun q => o (iff0.mp q.2))]
          exact ⟨rfl, h.1⟩
      all_goals exact absurd e (by decide)
    · by_cases w1 : w = 1
      · subst w1
        have iff1 : mSt 1 v (nI c) ↔ (-9 ≤ v ∧ v ≤ 9) := ⟨fun q => q.elim (fun q => absurd q.1 (by decide)) (fun q => q.elim (fun q => q.2) (fun q => q.elim (fun q => absurd q.1 (by decide)) (fun q => absurd q.1 (by decide)))), fun q => Or.inr (Or.inl ⟨rfl, q⟩)⟩
        rcases hm with ⟨g', _⟩ | ⟨_, ⟨e, _⟩ | ⟨_, rfl⟩ | ⟨e, _⟩ | ⟨e, _⟩⟩
        · exact absurd ⟨g, Or.inr (Or.inl rfl)⟩ g'
        · exact absurd e (by decide)
        · rw [if_pos g, if_neg w0, if_pos rfl, gM_4, q6]
          by_cases o : -9 ≤ v ∧ v ≤ 9
          · rw [if_pos o, if_pos ⟨g2, iff1.mpr o⟩, if_pos o, if_pos ⟨g2, iff1.mpr o⟩]
            refine ⟨q5.symm, ?_⟩
            obtain ⟨z', hz', rfl⟩ := yz_rng o
            rw [gM_u4]
            exact RM_up h g ec (k := k) (c := c) (t := t) (s := s) (z := z') ⟨hk, hc1, hc, ht1, ht, hs, hz'⟩ q1 rfl ⟨(mA_j M 5 j _ 1).trans q1, (mA_j M 5 j _ 2).trans q2, (mA_j M 5 j _ 3).trans q3, (mA_j M 5 j _ 4).trans q4, mA_j M 5 j _ 5⟩ (mA_oo M 5 j _)
          · rw [if_neg o, if_neg (fun q => o (iff1.mp q.2)), if_neg o, if_neg (fun q => o (iff1.mp q.2))]
            exact ⟨rfl, h.1⟩
        all_goals exact absurd e (by decide)
      · by_cases w2 : w = 2
        · subst w2
          have iff2 : mSt 2 v (nI c) ↔ (1 ≤ v ∧ v ≤ 1 <<< (nI c &&& 31) - 1) := ⟨fun q => q.elim (fun q => absurd q.1 (by decide)) (fun q => q.elim (fun q => absurd q.1 (by decide)) (fun q => q.elim (fun q => ⟨Int32.not_lt.mp q.2.1, q.2.2.2⟩) (fun q => absurd q.1 (by decide)))), fun q => Or.inr (Or.inr (Or.inl ⟨rfl, Int32.not_lt.mpr q.1, Int32.le_trans (by decide) q.1, q.2⟩))⟩
          rw [if_pos g, if_neg w0, if_neg w1, if_pos rfl, gM_1, gM_2]
          rcases hm with ⟨g', _⟩ | ⟨_, ⟨e, _⟩ | ⟨e, _⟩ | ⟨_, o⟩ | ⟨e, _⟩⟩
          · exact absurd ⟨g, Or.inr (Or.inr (Or.inl rfl))⟩ g'
          · exact absurd e (by decide)
          · exact absurd e (by decide)
          · rw [q6, gM_1, gM_3, gM_4, show gM (nI k) (nI c) (nI t) (nI s) (yz z) 0 = nI k from gM_0 k hk] at o
            rcases o with ⟨o, rfl⟩ | ⟨o, q, hq, rfl⟩
            · rw [if_neg o, if_neg (fun q => o (iff2.mp q.2)), if_neg (fun q => o (iff2.mp q.2))]
              exact ⟨rfl, h.1⟩
            · rw [if_pos o, if_pos ⟨g2, iff2.mpr o⟩, if_pos ⟨g2, iff2.mpr o⟩]
              refine ⟨q3.symm, ?_⟩
              obtain ⟨v', rfl, hv1, hv'⟩ := nI_rng (a := 1) (b := 2 ^ c - 1) (by omega) o.1 (em ▸ o.2) (by decide)
              exact RM_new h g ec hq (k := k) (c := c) (t := v') (s := s) (z := z) ⟨hk, hc1, hc, hv1, by omega, hs, hz⟩ rfl ⟨(mA_j M 3 j _ 1).trans q1, (mA_j M 3 j _ 2).trans q2, mA_j M 3 j _ 3, (mA_j M 3 j _ 4).trans q4, (mA_j M 3 j _ 5).trans q5⟩ (mA_oo M 3 j _)
          · exact absurd e (by decide)
        · by_cases w3 : w = 3
          · subst w3
            have iff3 : mSt 3 v (nI c) ↔ (0 ≤ v ∧ v ≤ 5) := ⟨fun q => q.elim (fun q => absurd q.1 (by decide)) (fun q => q.elim (fun q => absurd q.1 (by decide)) (fun q => q.elim (fun q => absurd q.1 (by decide)) (fun q => q.2))), fun q => Or.inr (Or.inr (Or.inr ⟨rfl, q⟩))⟩
            rw [if_pos g, if_neg w0, if_neg w1, if_neg w2, if_pos rfl, show gM (nI k) (nI c) (nI t) (nI s) (yz z) 0 = nI k from gM_0 k hk]
            rcases hm with ⟨g', _⟩ | ⟨_, ⟨e, _⟩ | ⟨e, _⟩ | ⟨e, _⟩ | ⟨_, o⟩⟩
            · exact absurd ⟨g, Or.inr (Or.inr (Or.inr rfl))⟩ g'
            · exact absurd e (by decide)
            · exact absurd e (by decide)
            · exact absurd e (by decide)
            · rw [q6, gM_1, gM_2, gM_3, gM_4] at o
              rcases o with ⟨o, rfl⟩ | ⟨o, q, hq, rfl⟩
              · rw [if_neg o, if_neg (fun q => o (iff3.mp q.2)), if_neg (fun q => o (iff3.mp q.2))]
                exact ⟨rfl, h.1⟩
              · rw [if_pos o, if_pos ⟨g2, iff3.mpr o⟩, if_pos ⟨g2, iff3.mpr o⟩]
                refine ⟨q1.symm, ?_⟩
                obtain ⟨v', rfl, hv1, hv'⟩ := nI_rng (a := 0) (b := 5) (by decide) o.1 o.2 (by decide)
                exact RM_new h g ec hq (k := v') (c := c) (t := t) (s := s) (z := z) ⟨hv', hc1, hc, ht1, ht, hs, hz⟩ rfl ⟨mA_j M 1 j _ 1, (mA_j M 1 j _ 2).trans q2, (mA_j M 1 j _ 3).trans q3, (mA_j M 1 j _ 4).trans q4, (mA_j M 1 j _ 5).trans q5⟩ (mA_oo M 1 j _)
          · have no : ¬ mSt w v (nI c) := fun q => q.elim (fun q => w0 q.1) (fun q => q.elim (fun q => w1 q.1) (fun q => q.elim (fun q => w2 q.1) (fun q => w3 q.1)))
            rw [if_pos g, if_neg w0, if_neg w1, if_neg w2, if_neg w3, if_neg (fun q => no q.2), if_neg (fun q => no q.2)]
            rcases hm with ⟨_, rfl⟩ | ⟨_, ⟨e, _⟩ | ⟨e, _⟩ | ⟨e, _⟩ | ⟨e, _⟩⟩
            · exact ⟨rfl, h.1⟩
            · exact absurd e w0
            · exact absurd e w1
            · exact absurd e w2
            · exact absurd e w3
  · have g2 : ¬ (0 ≤ m ∧ m ≤ M.1 0 - 1) := fun q => g ((grd h m).mpr q)
    unfold setV msR msS
    rw [if_neg g, if_neg (fun q => g2 q.1), if_neg (fun q => g2 q.1)]
    rcases hm with ⟨_, rfl⟩ | ⟨g', _⟩
    · exact ⟨rfl, h.1⟩
    · exact absurd g' g
