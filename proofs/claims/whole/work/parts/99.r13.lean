theorem r_compare {S S' : XS} {M M' : MS} {a_ : Int32} {v v' : Option Value} (h : Rel S M) (hx : (((((¬ ((0 ≤ a_ ∧ a_ ≤ 3))) ∨ (¬ (S.1 (10 + a_.toNatClampNeg) = -1) ∧ ¬ (S.1 (20 + a_.toNatClampNeg)) ≤ 24)) ∧ v = some (.int (-1000))) ∨ (((0 ≤ a_ ∧ a_ ≤ 3)) ∧ (S.1 (10 + a_.toNatClampNeg) = -1) ∧ v = some (.int (-1011))) ∨ (((0 ≤ a_ ∧ a_ ≤ 3)) ∧ ¬ (S.1 (10 + a_.toNatClampNeg) = -1) ∧ (S.1 (20 + a_.toNatClampNeg)) ≤ 24 ∧ ∃ A B, leaX ((btL (S.2.2.1 (20 + a_.toNatClampNeg)) (S.1 (20 + a_.toNatClampNeg)).toNatClampNeg)).toInt (S.1 (20 + a_.toNatClampNeg)).toNatClampNeg A B ∧ smQ A ∧ smQ B ∧ v = some (.int (64 - nlzL (iL (szQ A B)) - (lfX ((btL (S.2.2.1 (20 + a_.toNatClampNeg)) (S.1 (20 + a_.toNatClampNeg)).toNatClampNeg)) (S.1 (20 + a_.toNatClampNeg)).toNatClampNeg).2.2.2.2)))) ∧ xCor S S')) (hm : (((((¬ (0 ≤ a_ ∧ a_ ≤ 3)) ∨ (0 ≤ M.2.2 32 a_.toNatClampNeg ∧ ¬ M.2.2 33 a_.toNatClampNeg ≤ 24)) ∧ v' = some (.int (-1000))) ∨ ((0 ≤ a_ ∧ a_ ≤ 3) ∧ ¬ 0 ≤ M.2.2 32 a_.toNatClampNeg ∧ v' = some (.int (-1011))) ∨ ((0 ≤ a_ ∧ a_ ≤ 3) ∧ 0 ≤ M.2.2 32 a_.toNatClampNeg ∧ M.2.2 33 a_.toNatClampNeg ≤ 24 ∧ ∃ A B, leaX (rwM M a_.toNatClampNeg (M.2.2 33 a_.toNatClampNeg).toNatClampNeg).toInt (M.2.2 33 a_.toNatClampNeg).toNatClampNeg A B ∧ smQ A ∧ smQ B ∧ v' = some (.int (nI (dgl (szQ A B).toNat) - nI (mBm (mRd M a_.toNatClampNeg) (M.2.2 33 a_.toNatClampNeg).toNatClampNeg).1)))) ∧ mCor M M')) : v = v' ∧ Rel S' M' := by
  refine ⟨?_, Rel_cor h hx.2 hm.2⟩
  have hx := hx.1
  have hm := hm.1
  by_cases g : 0 ≤ a_ ∧ a_ ≤ 3
  · obtain ⟨j, n, ej, hj, hn, s1, s2, s3, s4, s5, s6⟩ := sheet_of h g
    rw [ej, s1, s3, nI_clamp (by omega), s6] at hx
    rw [ej, s2, nI_clamp (by omega)] at hm
    rcases hx with ⟨q, rfl⟩ | ⟨q1, q2, rfl⟩ | ⟨q1, q2, q3, A, B, l, ha, hb, rfl⟩
    · rcases hm with ⟨_, rfl⟩ | ⟨p1, p2, _⟩ | ⟨p1, p2, p3, _⟩
      · rfl
      · rcases q with q | q
        · exact absurd g q
        · exact absurd (s4.mp q.1) p2
      · rcases q with q | q
        · exact absurd g q
        · exact absurd p3 q.2
    · rcases hm with ⟨p, _⟩ | ⟨p1, p2, rfl⟩ | ⟨p1, p2, p3, _⟩
      · rcases p with p | p
        · exact absurd g p
        · exact absurd q2 (s4.mpr p.1)
      · rfl
      · exact absurd q2 (s4.mpr p2)
    · rcases hm with ⟨p, _⟩ | ⟨p1, p2, _⟩ | ⟨p1, p2, p3, A', B', l', _, _, rfl⟩
      · rcases p with p | p
        · exact absurd g p
        · exact absurd q3 p.2
      · exact absurd (s4.mp q2) p2
      · obtain ⟨rfl, rfl⟩ := leaX_uni l l'
        obtain ⟨g1, g2⟩ := bits_g (fun i => M.2.2 34 (40 * j + i)) hn
        have hl : bmR (fun i => tb (rwX (fun i => M.2.2 34 (40 * j + i)) n) i) n (mBm (mRd M j) n) (lfX (rwM M j n) n) := mBm_law hn (fun i hi => by
          obtain ⟨g3, g4⟩ := g1 i hi
          refine ⟨?_, g4⟩
          show rdI M j (M.2.2 33 j).toNatClampNeg i = _
          rw [s2, nI_clamp (by omega), rdI_at, if_pos hi]
          exact g3) g2
        obtain ⟨a, w, s, e, _⟩ := hl
        rw [nlz_sz ha hb, e]
  · rcases hx with ⟨_, rfl⟩ | ⟨q, _⟩ | ⟨q, _⟩
    · rcases hm with ⟨_, rfl⟩ | ⟨p, _⟩ | ⟨p, _⟩
      · rfl
      · exact absurd p g
      · exact absurd p g
    · exact absurd q g
    · exact absurd q g
theorem r_period {S S' : XS} {M M' : MS} {p_ q_ w_ : Int32} {v v' : Option Value} (h : Rel S M) (hx : (S = S' ∧ ((¬ ((0 ≤ w_ ∧ w_ ≤ 1) ∧ ((-9999 ≤ p_ ∧ p_ ≤ 9999) ∧ (1 ≤ q_ ∧ q_ ≤ 9999))) ∧ v = some (.int (-2))) ∨ (((0 ≤ w_ ∧ w_ ≤ 1) ∧ ((-9999 ≤ p_ ∧ p_ ≤ 9999) ∧ (1 ≤ q_ ∧ q_ ≤ 9999))) ∧ q_ &&& 1 = 0 ∧ v = some (.int (-3))) ∨ (((0 ≤ w_ ∧ w_ ≤ 1) ∧ ((-9999 ≤ p_ ∧ p_ ≤ 9999) ∧ (1 ≤ q_ ∧ q_ ≤ 9999))) ∧ ¬ q_ &&& 1 = 0 ∧ ∃ r, v = some (.int r) ∧ perQ p_.toInt q_.toInt w_ r)))) (hm : (M = M' ∧ ((¬ ((0 ≤ w_ ∧ w_ ≤ 1) ∧ ((-9999 ≤ p_ ∧ p_ ≤ 9999) ∧ (1 ≤ q_ ∧ q_ ≤ 9999))) ∧ v' = some (.int (-2))) ∨ (((0 ≤ w_ ∧ w_ ≤ 1) ∧ ((-9999 ≤ p_ ∧ p_ ≤ 9999) ∧ (1 ≤ q_ ∧ q_ ≤ 9999))) ∧ q_ - q_ / 2 * 2 = 0 ∧ v' = some (.int (-3))) ∨ (((0 ≤ w_ ∧ w_ ≤ 1) ∧ ((-9999 ≤ p_ ∧ p_ ≤ 9999) ∧ (1 ≤ q_ ∧ q_ ≤ 9999))) ∧ ¬ q_ - q_ / 2 * 2 = 0 ∧ ∃ r, v' = some (.int r) ∧ perQ p_.toInt q_.toInt w_ r)))) : v = v' ∧ Rel S' M' := by
  obtain ⟨rfl, hx⟩ := hx
  obtain ⟨rfl, hm⟩ := hm
  refine ⟨?_, h⟩
  rcases hx with ⟨q, rfl⟩ | ⟨q, q2, rfl⟩ | ⟨q, q2, r, rfl, q3⟩
  · rcases hm with ⟨_, rfl⟩ | ⟨p, _⟩ | ⟨p, _⟩
    · rfl
    · exact absurd p q
    · exact absurd p q
  · rcases hm with ⟨p, _⟩ | ⟨p, p2, rfl⟩ | ⟨p, p2, _⟩
    · exact absurd q p
    · rfl
    · exact absurd ((ev2 q.2.2).mpr q2) p2
  · rcases hm with ⟨p, _⟩ | ⟨p, p2, rfl⟩ | ⟨p, p2, r', rfl, p3⟩
    · exact absurd q p
    · exact absurd ((ev2 q.2.2).mp p2) q2
    · rw [per_uni q3 p3]
theorem fdQ_n {p q : Int32} (hp : -9999 ≤ p.toInt ∧ p.toInt ≤ 9999) (hq : 1 ≤ q.toInt ∧ q.toInt ≤ 9999) : ∀ j, (fdQ (Int32.toInt64 p) (Int32.toInt64 q) j).toInt = fn (bh q.toInt) j p.toInt
  | 0 => tqI p
  | j + 1 => by
    rw [fn_s]
    exact bh_l (fdQ_n hp hq j) (bhN_bd hq hp j) hq
theorem exq_n {p q : Int32} (hp : -9999 ≤ p.toInt ∧ p.toInt ≤ 9999) (hq : 1 ≤ q.toInt ∧ q.toInt ≤ 9999) (ho : q.toInt % 2 = 1) : ∀ j, (exq q j p).toInt = fn (bh q.toInt) j p.toInt
  | 0 => rfl
  | j + 1 => by
    rw [fn_s]
    exact bh_i (exq_n hp hq ho j) (bhN_bd hq hp j) hq ho
theorem exq_fd {p q : Int32} (hp : -9999 ≤ p.toInt ∧ p.toInt ≤ 9999) (hq : 1 ≤ q.toInt ∧ q.toInt ≤ 9999) (ho : q.toInt % 2 = 1) (j : Nat) : fdQ (Int32.toInt64 p) (Int32.toInt64 q) j &&& 1 = (exq q j p &&& 1 &&& 1).toInt64 := by
  refine Int64.toInt_inj.mp ?_
  rw [tqI, and1_l, and1_i, and1_i, fdQ_n hp hq, exq_n hp hq ho]
  omega
theorem fdB_bt {p q : Int32} (hp : -9999 ≤ p.toInt ∧ p.toInt ≤ 9999) (hq : 1 ≤ q.toInt ∧ q.toInt ≤ 9999) (ho : q.toInt % 2 = 1) : ∀ n, fdB (Int32.toInt64 p) (Int32.toInt64 q) n = btL (fun i => exq q i p &&& 1) n
  | 0 => rfl
  | n + 1 => by
    show fdB _ _ n ||| (fdQ (Int32.toInt64 p) (Int32.toInt64 q) n &&& 1) <<< ((nI n).toInt64 &&& 63) = btL (fun i => exq q i p &&& 1) n ||| (exq q n p &&& 1 &&& 1).toInt64 <<< ((nI n).toInt64 &&& 63)
    rw [exq_fd hp hq ho, fdB_bt hp hq ho n]
theorem exR_at (M : MS) (p q : Int32) (n i : Nat) : exR M p q n i = if i < n then exq q i p &&& 1 else M.2.2 11 i := by
  induction n with
  | zero => rfl
  | succ n ih =>
    show (if i = n then exq q n p &&& 1 else exR M p q n i) = _
    by_cases z : i = n
    · rw [if_pos z, if_pos (by omega), z]
    · rw [if_neg z, ih]
      exact ite_c ⟨fun _ => by omega, fun _ => by omega⟩ (fun _ => rfl) (fun _ => rfl)
theorem r_expand {S S' : XS} {M M' : MS} {a_ p_ q_ n_ : Int32} {v v' : Option Value} (h : Rel S M) (hx : (v = (some (.int (if ((0 ≤ a_ ∧ a_ ≤ 3) ∧ (0 ≤ n_ ∧ n_ ≤ 40) ∧ ((-9999 ≤ p_ ∧ p_ ≤ 9999) ∧ (1 ≤ q_ ∧ q_ ≤ 9999))) then (if q_ &&& 1 = 0 then -3 else n_) else -2))) ∧ S' = (if ((0 ≤ a_ ∧ a_ ≤ 3) ∧ (0 ≤ n_ ∧ n_ ≤ 40) ∧ ((-9999 ≤ p_ ∧ p_ ≤ 9999) ∧ (1 ≤ q_ ∧ q_ ≤ 9999))) ∧ ¬ q_ &&& 1 = 0 then xA (xF (xF S (10 + a_.toNatClampNeg) 0) (20 + a_.toNatClampNeg) n_) (20 + a_.toNatClampNeg) (rwL (xZr (S.2.2.1 (20 + a_.toNatClampNeg)) 40) (fdB (Int32.toInt64 p_) (Int32.toInt64 q_) n_.toNatClampNeg) n_.toNatClampNeg) else S))) (hm : (v' = (some (.int (if ((0 ≤ a_ ∧ a_ ≤ 3) ∧ (0 ≤ n_ ∧ n_ ≤ 40) ∧ (-9999 ≤ p_ ∧ p_ ≤ 9999) ∧ (1 ≤ q_ ∧ q_ ≤ 9999)) then (if q_ - q_ / 2 * 2 = 0 then -3 else n_) else -2))) ∧ M' = (if ((0 ≤ a_ ∧ a_ ≤ 3) ∧ (0 ≤ n_ ∧ n_ ≤ 40) ∧ (-9999 ≤ p_ ∧ p_ ≤ 9999) ∧ (1 ≤ q_ ∧ q_ ≤ 9999)) ∧ ¬ q_ - q_ / 2 * 2 = 0 then mCm (mF (mA M 11 (exR M p_ q_ n_.toNatClampNeg)) 12 n_) a_.toNatClampNeg else M))) : v = v' ∧ Rel S' M' := by
  obtain ⟨rfl, rfl⟩ := hx
  obtain ⟨rfl, rfl⟩ := hm
  constructor
  · exact congrArg (fun x => some (Value.int x)) (ite_c Iff.rfl (fun g => ite_c (ev2 g.2.2.2).symm (fun _ => rfl) (fun _ => rfl)) (fun _ => rfl))
  · refine Rel_ite ⟨fun g => ⟨g.1, fun z => g.2 ((ev2 g.1.2.2.2).mp z)⟩, fun g => ⟨g.1, fun z => g.2 ((ev2 g.1.2.2.2).mpr z)⟩⟩ (fun g => ?_) (fun _ => h)
    obtain ⟨g, g2⟩ := g
    have fr := frI g.2.2
    have ho := oddI (fun z => g2 ((ev2 g.2.2.2).mpr z))
    obtain ⟨n', rfl, _, hn⟩ := nI_rng (a := 0) (b := 40) (by decide) g.2.1.1 g.2.1.2 (by decide)
    rw [nI_clamp (by omega), fdB_bt fr.1 fr.2 ho]
    have z := r_row (M2 := mF (mA M 11 (exR M p_ q_ n')) 12 (nI n')) h ⟨rfl, rfl, rfl, rfl, ⟨rfl, rfl, rfl, rfl, rfl⟩, rfl, rfl, rfl, rfl, rfl⟩ (sh_lt g.1) hn rfl (b := btL (fun i => exq q_ i p_ &&& 1) n') (fun i hi => by
      rw [lbt_bt _ hn hi]
      show _ = exR M p_ q_ n' i
      rw [exR_at, if_pos hi]; rcases and1 (exq q_ i p_) with z | z <;> rw [z] <;> rfl)
    unfold rowX at z
    rw [nI_clamp (by omega)] at z
    exact z
