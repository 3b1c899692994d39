theorem ch_dv : ∀ m, m < 21 → ∀ x, x < 21 → (lN x / lN (Nat.gcd x m)).toInt32 = nI x / nI (Nat.gcd m x) ∧ (lN m / lN (Nat.gcd x m)).toInt32 = nI m / nI (Nat.gcd m x) := by decide +kernel
theorem ch_ab {x : Nat} (h : x < 21) : (lN x).toInt.natAbs = x := by
  have : ∀ x, x < 21 → (lN x).toInt.natAbs = x := by decide +kernel
  exact this x h
theorem lt1_0 : ∀ n, n < 41 → (nI n < 1 ↔ nI n = 0) := by decide +kernel
theorem r_chance {S S' : XS} {M M' : MS} {a_ z_ m_ n_ k_ p_ : Int32} {v v' : Option Value} (h : Rel S M) (hx : (v = some (.int (if ((0 ≤ a_ ∧ a_ ≤ 3) ∧ (1 ≤ m_ ∧ m_ ≤ 20) ∧ (0 ≤ n_ ∧ n_ ≤ 8) ∧ (0 ≤ k_ ∧ k_ ≤ 40) ∧ (0 ≤ p_ ∧ p_ ≤ 1)) then (if (S.1 (10 + a_.toNatClampNeg) = -1) then -11 else if (S.1 (20 + a_.toNatClampNeg)) < 1 then -3 else (ltX (lN (chN (btL (S.2.2.1 (20 + a_.toNatClampNeg)) (S.1 (20 + a_.toNatClampNeg)).toNatClampNeg) z_ (S.1 (20 + a_.toNatClampNeg)).toNatClampNeg n_.toNatClampNeg k_ m_.toNatClampNeg)) m_.toNatClampNeg p_).toInt32) else -2)) ∧ xCor S S')) (hm : (v' = some (.int (if ((0 ≤ a_ ∧ a_ ≤ 3) ∧ (1 ≤ m_ ∧ m_ ≤ 20) ∧ (0 ≤ n_ ∧ n_ ≤ 8) ∧ (0 ≤ k_ ∧ k_ ≤ 40) ∧ (0 ≤ p_ ∧ p_ ≤ 1)) then (if 0 ≤ M.2.2 32 a_.toNatClampNeg then (if M.2.2 33 a_.toNatClampNeg = 0 then -3 else (if p_ = 0 then nI (chN (rwM M a_.toNatClampNeg (M.2.2 33 a_.toNatClampNeg).toNatClampNeg) z_ (M.2.2 33 a_.toNatClampNeg).toNatClampNeg n_.toNatClampNeg k_ m_.toNatClampNeg) else m_) / nI (Nat.gcd m_.toNatClampNeg (chN (rwM M a_.toNatClampNeg (M.2.2 33 a_.toNatClampNeg).toNatClampNeg) z_ (M.2.2 33 a_.toNatClampNeg).toNatClampNeg n_.toNatClampNeg k_ m_.toNatClampNeg))) else -11) else -2)) ∧ mCor M M')) : v = v' ∧ Rel S' M' := by
  refine ⟨?_, Rel_cor h hx.2 hm.2⟩
  rw [hx.1, hm.1]
  refine congrArg (fun x => some (Value.int x)) (ite_c Iff.rfl (fun g => ?_) (fun _ => rfl))
  obtain ⟨j, n, ej, hj, hn, s1, s2, s3, s4, s5, s6⟩ := sheet_of h g.1
  rw [ej, s1, s2, s3, nI_clamp (by omega), s6]
  by_cases z : M.2.2 32 j = -1
  · rw [if_pos z, if_neg (fun q => s4.mpr q z)]
  · rw [if_neg z, if_pos (s4.mp z)]
    refine ite_c (lt1_0 n (by omega)) (fun _ => rfl) (fun _ => ?_)
    obtain ⟨m', rfl, m1, m2⟩ := nI_rng (a := 1) (b := 20) (by decide) g.2.1.1 g.2.1.2 (by decide)
    rw [nI_clamp (by omega)]
    have le := chN_le (rwM M j n) z_ n n_.toNatClampNeg k_ m'
    revert le
    generalize chN (rwM M j n) z_ n n_.toNatClampNeg k_ m' = x
    intro le
    obtain ⟨d1, d2⟩ := ch_dv m' (by omega) x (by omega)
    unfold ltX
    rw [ch_ab (by omega)]
    by_cases e : p_ = 0
    · rw [if_pos e, if_pos e]; exact d1
    · rw [if_neg e, if_neg e]; exact d2
/-! words -/
theorem wm_N : ∀ w, w < 9 → (1 <<< (nI w &&& 31) - 1 : Int32).toInt64 = lN (2 ^ w - 1) := by decide +kernel
theorem wr_N {X w i : Nat} (hX : X < 2 ^ 40) (hw : w < 9) (hi : i < 64) : wrX (lN X) (1 <<< (nI w &&& 31) - 1) i = nI (wN X i w) := by
  show (us64 (lN X) (nI i) &&& (1 <<< (nI w &&& 31) - 1 : Int32).toInt64).toInt32 = _
  have h1 : X / 2 ^ i ≤ X := Nat.div_le_self _ _
  rw [us_N (by omega) hi, wm_N w hw, wb_mask (by omega) (by omega), lN_i2]
theorem tw_N {X w n : Nat} (hX : X < 2 ^ 40) (hw : w < 9) {v : Nat} (hv : v < 256) : ∀ j, j < 64 → twX (lN X) (1 <<< (nI w &&& 31) - 1) (nI v) j = cntN X w j v
  | 0, _ => rfl
  | j + 1, h => by
    show (if wrX (lN X) (1 <<< (nI w &&& 31) - 1) j = nI v then twX _ _ _ j + 1 else twX _ _ _ j) = if wN X j w = v then cntN X w j v + 1 else cntN X w j v
    have l := wN_lt X j (show w ≤ 8 by omega)
    rw [wr_N hX hw (by omega), tw_N (n := n) hX hw hv j (by omega)]
    exact ite_c (nI_eq (by omega) (by omega)) (fun _ => rfl) (fun _ => rfl)
theorem cnt_ex {X w j v : Nat} (h : ¬ cntN X w j v = 0) : ∃ i, i < j ∧ wN X i w = v := by
  induction j with
  | zero => exact absurd rfl h
  | succ j ih =>
    by_cases e : wN X j w = v
    · exact ⟨j, by omega, e⟩
    · rw [cntN_s, if_neg e] at h
      obtain ⟨i, hi, q⟩ := ih h
      exact ⟨i, by omega, q⟩
theorem bs_top {X w n : Nat} : ∀ j i, i < j → ¬ bsN X w n j = 0 ∧ cntN X w n (wN X i w) ≤ cntN X w n (bsN X w n j - 1)
  | 0, i, h => absurd h (Nat.not_lt_zero _)
  | j + 1, i, h => by
    rw [bsN_s]
    by_cases e : i = j
    · subst e
      by_cases g : bsN X w n i = 0 ∨ cntN X w n (bsN X w n i - 1) < cntN X w n (wN X i w)
      · rw [if_pos g]
        exact ⟨by omega, Nat.le_of_eq rfl⟩
      · rw [if_neg g]
        exact ⟨fun z => g (Or.inl z), Nat.not_lt.mp (fun z => g (Or.inr z))⟩
    · obtain ⟨q1, q2⟩ := bs_top (X := X) (w := w) (n := n) j i (by omega)
      by_cases g : bsN X w n j = 0 ∨ cntN X w n (bsN X w n j - 1) < cntN X w n (wN X j w)
      · rw [if_pos g]
        refine ⟨by omega, ?_⟩
        rcases g with g | g
        · exact absurd g q1
        · show _ ≤ cntN X w n (wN X j w + 1 - 1)
          rw [Nat.add_sub_cancel]
          omega
      · rw [if_neg g]; exact ⟨q1, q2⟩
def bestN (X w n b : Nat) : Int32 := if b = 0 then -1 else nI (cntN X w n (b - 1))
theorem nI_le0 {a : Nat} (h : a < 2147483648) : nI a ≤ 0 ↔ a = 0 := by
  rw [show (0 : Int32) = nI 0 from rfl, nI_leI h (by decide)]
  omega
theorem cw_N {X w n : Nat} (hX : X < 2 ^ 40) (hw : w < 9) (hn : n < 64) : ∀ j, j ≤ n → cwL (lN X) (1 <<< (nI w &&& 31) - 1) n j = (nI (unl X w j), nI (bsN X w n j) - 1, bestN X w n (bsN X w n j))
  | 0, _ => rfl
  | j + 1, h => by
    show cw1 (lN X) (1 <<< (nI w &&& 31) - 1) n j (cwL _ _ n j) = _
    rw [cw_N hX hw hn j (by omega)]
    unfold cw1
    have l := wN_lt X j (show w ≤ 8 by omega)
    have c1 := cntN_le X w j (wN X j w)
    have c2 := cntN_le X w n (wN X j w)
    rw [wr_N hX hw (by omega), tw_N (n := n) hX hw l j (by omega), tw_N (n := n) hX hw l n (by omega), unl_s, bsN_s]
    by_cases e : cntN X w j (wN X j w) = 0
    · rw [if_pos ((nI_le0 (by omega)).mpr e), if_pos e]
      refine Prod.ext (nI_1 _) ?_
      show (if nI (cntN X w n (wN X j w)) ≤ bestN X w n (bsN X w n j) then (nI (bsN X w n j) - 1, bestN X w n (bsN X w n j)) else (nI (wN X j w), nI (cntN X w n (wN X j w)))) = _
      by_cases g : bsN X w n j = 0 ∨ cntN X w n (bsN X w n j - 1) < cntN X w n (wN X j w)
      · have ng : ¬ nI (cntN X w n (wN X j w)) ≤ bestN X w n (bsN X w n j) := by
          intro z
          unfold bestN at z
          by_cases e0 : bsN X w n j = 0
          · rw [if_pos e0] at z
            exact absurd (Int32.le_trans (nI_pos' (by omega)) z) (by decide)
          · rw [if_neg e0] at z
            have c3 := cntN_le X w n (bsN X w n j - 1)
            have := (nI_leI (by omega) (by omega)).mp z
            rcases g with g | g
            · exact e0 g
            · omega
        rw [if_pos g, if_neg ng, nI_pred]
        refine Prod.ext rfl ?_
        show _ = bestN X w n (wN X j w + 1)
        unfold bestN
        rw [if_neg (by omega), Nat.add_sub_cancel]
      · have e0 : ¬ bsN X w n j = 0 := fun z => g (Or.inl z)
        have c3 := cntN_le X w n (bsN X w n j - 1)
        have pg : nI (cntN X w n (wN X j w)) ≤ bestN X w n (bsN X w n j) := by
          unfold bestN
          rw [if_neg e0]
          exact nI_le (Nat.not_lt.mp (fun z => g (Or.inr z))) (by omega)
        rw [if_neg g, if_pos pg]
    · rw [if_neg (fun z => e ((nI_le0 (by omega)).mp z)), if_neg e]
      obtain ⟨i, hi, ei⟩ := cnt_ex e
      obtain ⟨q1, q2⟩ := bs_top (X := X) (w := w) (n := n) j i hi
      rw [ei] at q2
      have g : ¬ (bsN X w n j = 0 ∨ cntN X w n (bsN X w n j - 1) < cntN X w n (wN X j w)) := fun z => z.elim q1 (fun z => by omega)
      rw [if_neg g]
theorem wd_cl : ∀ n, n < 41 → ∀ w, w < 9 → 1 ≤ w → (nI n - nI w + 1).toNatClampNeg = n + 1 - w := by decide +kernel
theorem r_windows {S S' : XS} {M M' : MS} {a_ w_ v_ : Int32} {v v' : Option Value} (h : Rel S M) (hx : (v = (some (.int (if ((0 ≤ a_ ∧ a_ ≤ 3) ∧ (1 ≤ w_ ∧ w_ ≤ 8) ∧ (0 ≤ v_ ∧ v_ ≤ 2)) then (if (S.1 (10 + a_.toNatClampNeg) = -1) then -11 else if v_ = 0 then (cwL (btL (S.2.2.1 (20 + a_.toNatClampNeg)) (S.1 (20 + a_.toNatClampNeg)).toNatClampNeg) (1 <<< (w_ &&& 31) - 1) (S.1 (20 + a_.toNatClampNeg) - w_ + 1).toNatClampNeg (S.1 (20 + a_.toNatClampNeg) - w_ + 1).toNatClampNeg).1 else if v_ = 1 then (cwL (btL (S.2.2.1 (20 + a_.toNatClampNeg)) (S.1 (20 + a_.toNatClampNeg)).toNatClampNeg) (1 <<< (w_ &&& 31) - 1) (S.1 (20 + a_.toNatClampNeg) - w_ + 1).toNatClampNeg (S.1 (20 + a_.toNatClampNeg) - w_ + 1).toNatClampNeg).2.1 else (cwL (btL (S.2.2.1 (20 + a_.toNatClampNeg)) (S.1 (20 + a_.toNatClampNeg)).toNatClampNeg) (1 <<< (w_ &&& 31) - 1) (S.1 (20 + a_.toNatClampNeg) - w_ + 1).toNatClampNeg (S.1 (20 + a_.toNatClampNeg) - w_ + 1).toNatClampNeg).2.2) else -2))) ∧ S' = (S))) (hm : (v' = some (.int (if ((0 ≤ a_ ∧ a_ ≤ 3) ∧ (1 ≤ w_ ∧ w_ ≤ 8) ∧ (0 ≤ v_ ∧ v_ ≤ 2)) then (if 0 ≤ M.2.2 32 a_.toNatClampNeg then wiR (rwX (fun i => M.2.2 34 (40 * a_.toNatClampNeg + i)) (M.2.2 33 a_.toNatClampNeg).toNatClampNeg) w_.toNatClampNeg ((M.2.2 33 a_.toNatClampNeg).toNatClampNeg + 1 - w_.toNatClampNeg) v_ else -11) else -2)) ∧ mCor M M')) : v = v' ∧ Rel S' M' := by
  obtain ⟨rfl, rfl⟩ := hx
  refine ⟨?_, Rel_cor h (xCor_rfl S') hm.2⟩
  rw [hm.1]
  refine congrArg (fun x => some (Value.int x)) (ite_c Iff.rfl (fun g => ?_) (fun _ => rfl))
  obtain ⟨j, n, ej, hj, hn, s1, s2, s3, s4, s5, s6⟩ := sheet_of h g.1
  obtain ⟨w, rfl, w1, w2⟩ := nI_rng (a := 1) (b := 8) (by decide) g.2.1.1 g.2.1.2 (by decide)
  rw [ej, s1, s2, s3, nI_clamp (by omega), s6, nI_clamp (by omega), wd_cl n (by omega) w (by omega) w1]
  by_cases z : M.2.2 32 j = -1
  · rw [if_pos z, if_neg (fun q => s4.mpr q z)]
  · rw [if_neg z, if_pos (s4.mp z)]
    show _ = wiR (rwX (fun i => M.2.2 34 (40 * j + i)) n) w (n + 1 - w) v_
    rw [show rwM M j n = lN (rwX (fun i => M.2.2 34 (40 * j + i)) n) from btL_N _ (by omega), cw_N (rwX_lt _ hn) (by omega) (by omega) _ (Nat.le_refl _)]
    generalize rwX (fun i => M.2.2 34 (40 * j + i)) n = X
    unfold wiR bestN
    by_cases v0 : v_ = 0
    · rw [if_pos v0, if_pos v0]
    · rw [if_neg v0, if_neg v0]
      by_cases v1 : v_ = 1
      · rw [if_pos v1, if_pos (Or.inl v1)]
      · rw [if_neg v1]
        show (if bsN X w (n + 1 - w) (n + 1 - w) = 0 then _ else _) = _
        by_cases b0 : bsN X w (n + 1 - w) (n + 1 - w) = 0
        · rw [if_pos b0, if_pos (Or.inr b0), b0]; rfl
        · have nb : ¬ (v_ = 1 ∨ bsN X w (n + 1 - w) (n + 1 - w) = 0) := fun q => q.elim v1 b0
          rw [if_neg b0, if_neg nb]
