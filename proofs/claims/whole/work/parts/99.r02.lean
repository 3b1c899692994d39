theorem cyc_tr {σ τ : Type} {F : σ → σ} {x : σ} {G : τ → τ} {y : τ} (e : ∀ i j, fn F i x = fn F j x ↔ fn G i y = fn G j y) {w r : Int32} (h : cycQ F x w r) : cycQ G y w r := by
  have e1 : ∀ s n, retQ F x s n → retQ G y s n := fun s n q => ⟨q.1, (e _ _).mp q.2.1, fun i h1 h2 z => q.2.2 i h1 h2 ((e _ _).mpr z)⟩
  have e2 : ∀ n a, ahdQ F x n a → ahdQ G y n a := fun n a q => ⟨(e _ _).mp q.1, fun i h1 z => q.2 i h1 ((e _ _).mpr z)⟩
  obtain ⟨n, ⟨s, q⟩, w⟩ := h
  refine ⟨n, ⟨s, e1 s n q⟩, ?_⟩
  rcases w with w | ⟨w, a, q, r⟩
  · exact Or.inl w
  · exact Or.inr ⟨w, a, e2 n a q, r⟩
theorem gM_inj {k c t s y s' y' : Int32} : gM k c t s y = gM k c t s' y' ↔ (s, y) = (s', y') := by
  constructor
  · intro h
    have h3 : s = s' := congrFun h 3
    have h4 : y = y' := congrFun h 4
    rw [h3, h4]
  · intro h
    have h3 : s = s' := congrArg Prod.fst h
    have h4 : y = y' := congrArg Prod.snd h
    rw [h3, h4]
theorem r_cycle {S S' : XS} {M M' : MS} {m w : Int32} {v v' : Option Value} (h : Rel S M) (hx : ((¬ ((0 ≤ m ∧ m < S.1 1) ∧ (0 ≤ w ∧ w ≤ 1)) ∧ v = some (.int (-2))) ∨ (((0 ≤ m ∧ m < S.1 1) ∧ (0 ≤ w ∧ w ≤ 1)) ∧ ∃ r, v = some (.int r) ∧ cycQ (adv (kc (mfo S (xAd S m) 0))) (gT S (xAd S m)) w r)) ∧ xCor S S') (hm : ((¬ ((0 ≤ m ∧ m ≤ M.1 0 - 1) ∧ (0 ≤ w ∧ w ≤ 1)) ∧ v' = some (.int (-2))) ∨ (((0 ≤ m ∧ m ≤ M.1 0 - 1) ∧ (0 ≤ w ∧ w ≤ 1)) ∧ ∃ r, v' = some (.int r) ∧ cycQ (mSt1 M m.toNatClampNeg) (mSt0 M m.toNatClampNeg) w r)) ∧ mCor M M') : v = v' ∧ Rel S' M' := by
  refine ⟨?_, Rel_cor h hx.2 hm.2⟩
  rcases hx.1 with ⟨g, rfl⟩ | ⟨g, r, rfl, q⟩
  · rcases hm.1 with ⟨_, rfl⟩ | ⟨g', _⟩
    · rfl
    · exact absurd ⟨(grd h m).mpr g'.1, g'.2⟩ g
  · rcases hm.1 with ⟨g', _⟩ | ⟨_, r', rfl, q'⟩
    · exact absurd ⟨(grd h m).mp g.1, g.2⟩ g'
    · obtain ⟨_, j, _, _, _, _, _, ec, _, _, _, k, c, t, s, z, hv, q1, q2, q3, q4, q5, q6⟩ := rel_at h g.1
      obtain ⟨e1, e2⟩ := gT_eq hv.1 q6
      rw [e1, e2] at q
      rw [ec] at q'
      have tr : ∀ i i', fn (adv (kc (nI k))) i (gM (nI k) (nI c) (nI t) (nI s) (yz z)) = fn (adv (kc (nI k))) i' (gM (nI k) (nI c) (nI t) (nI s) (yz z)) ↔ fn (mSt1 M j) i (mSt0 M j) = fn (mSt1 M j) i' (mSt0 M j) := fun i i' => by
        rw [← mRn_fn, ← mRn_fn]
        show advN (kc (nI k)) i _ = advN (kc (nI k)) i' _ ↔ _
        rw [rn_adv hv, rn_adv hv, gM_inj]
        unfold mRn
        rw [q1, q2, q3, q4, q5]
      rw [cyc_uni (cyc_tr tr q) q']
/-- what a machine tells, as the class holds it and as the reference holds it -/
theorem tell_eq {S : XS} {M : MS} {a j k c t s z : Nat} (hv : vldN k c t s z) (q1 : M.2.2 1 j = nI k) (q2 : M.2.2 2 j = nI c) (q3 : M.2.2 3 j = nI t) (q4 : M.2.2 4 j = nI s) (q5 : M.2.2 5 j = yz z) (q6 : mfo S a = gM (nI k) (nI c) (nI t) (nI s) (yz z)) (n : Nat) : tlL (kc (mfo S a 0)) (gT S a) n = btL (fun i => (mRn M j i).1) n := by
  obtain ⟨e1, e2⟩ := gT_eq hv.1 q6
  rw [e1, e2]
  show btL (fun i => advN (kc (nI k)) i (gM (nI k) (nI c) (nI t) (nI s) (yz z)) 3) n = _
  congr 1
  funext i
  rw [rn_adv hv, gM_3]
  unfold mRn
  rw [q1, q2, q3, q4, q5]
theorem rowF_at (M : MS) (j n i : Nat) : rowF M j n i = if i < n then (mRn M j i).1 &&& 1 else M.2.2 11 i := by
  induction n with
  | zero => rfl
  | succ n ih =>
    show (if i = n then (mRn M j n).1 &&& 1 else rowF M j n i) = _
    by_cases z : i = n
    · rw [if_pos z, if_pos (by omega), z]
    · rw [if_neg z, ih]
      exact ite_c ⟨fun _ => by omega, fun _ => by omega⟩ (fun _ => rfl) (fun _ => rfl)
