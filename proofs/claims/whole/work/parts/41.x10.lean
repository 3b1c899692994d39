theorem vu_cg {α : Type} {f g : Nat → α} {a b : Nat} {v : α} (h : f b = g b) : va_up f a v b = va_up g a v b := by
  unfold va_up
  split
  · rfl
  · exact h
theorem vu_cg2 {α : Type} {f g : Nat → α} {a b : Nat} {v w : α} (h : f b = g b) (hv : v = w) : va_up f a v b = va_up g a w b := by
  rw [hv]
  exact vu_cg h
theorem xOK_cor {S U : XS} (h : xOK S) (c : xCor S U) : xOK U := by
  obtain ⟨n, hn, e, f⟩ := h
  obtain ⟨⟨c1, _⟩, _, c3, c4⟩ := c
  refine ⟨n, hn, c1.trans e, fun i hi => ?_⟩
  obtain ⟨a, a1, a2, a3⟩ := f i hi
  obtain ⟨b1, b2, _⟩ := c4 a a2
  exact ⟨a, by rw [c3]; exact a1, b1, by rw [b2]; exact a3⟩
theorem zOK_cor {S U : XS} (h : zOK S) (c : xCor S U) : zOK U := by
  intro i hi
  rw [(c.1.2.2.2 i hi).2]
  exact h i hi
theorem cor_at {S U : XS} (hx : xOK S) (c : xCor S U) {i : Int32} (hi : 0 ≤ i ∧ i < U.1 1) {a : Nat} (hM : U.2.2.2.2.1 i.toNatClampNeg = some a) : a = xAd S i ∧ a ∈ xL S ∧ mcl (xmk S a) ∧ xmk U a = xmk S a ∧ mfo U a = mfo S a := by
  obtain ⟨a', _, _, e, k1, k2⟩ := xAt hx (i := i) (Int32.not_lt.mpr hi.1) (by rw [← c.1.1]; exact Int32.not_le.mpr hi.2)
  have e2 := hM
  rw [c.2.2.1, e] at e2
  cases e2
  obtain ⟨_, d2, d3⟩ := c.2.2.2 a k1
  exact ⟨(xAd_eq e).symm, k1, k2, d2, d3⟩
abbrev gT (S : XS) (a : Nat) : Nat → Int32 := gM (mfo S a 0) (mfo S a 1) (mfo S a 2) (mfo S a 3) (mfo S a 4)
/-- what the machine at a place tells, in thought; 0 where there's none -/
def tvX (S : XS) (n : Nat) (i : Nat) : Int64 := if i < (S.1 1).toNatClampNeg then tlL (kc (mfo S (xAd S (nI i)) 0)) (gT S (xAd S (nI i))) n else 0
theorem tv_eq {S U : XS} (hx : xOK S) (c : xCor S U) {j a : Nat} (hj : j < 4) (hi : 0 ≤ nI j ∧ nI j < U.1 1) (hM : U.2.2.2.2.1 (nI j).toNatClampNeg = some a) (n : Nat) : tlL (kc (mfo U a 0)) (gT U a) n = tvX S n j := by
  obtain ⟨e1, _, _, _, e3⟩ := cor_at hx c hi hM
  unfold tvX gT
  rw [e3, e1, if_pos]
  obtain ⟨m, hm, em, _⟩ := hx
  have h2 := hi.2
  rw [c.1.1, em] at h2
  rw [em, nI_clamp (by omega)]
  exact (nI_ltI (by omega) (by omega)).mp h2
theorem tv_no {S U : XS} (hx : xOK S) (c : xCor S U) {j : Nat} (hj : j < 4) (hno : ¬ (0 ≤ nI j ∧ nI j < U.1 1)) (n : Nat) : 0 = tvX S n j := by
  unfold tvX
  rw [if_neg]
  obtain ⟨m, hm, em, _⟩ := hx
  intro h
  rw [em, nI_clamp (by omega)] at h
  refine hno ⟨nI_pos' (by omega), ?_⟩
  rw [c.1.1, em]
  exact nI_lt h (by omega)
abbrev rowX (S : XS) (k : Nat) (b : Int64) (n : Int32) : XS := xA (xF (xF S (10 + k) 0) (20 + k) n) (20 + k) (rwL (xZr (S.2.2.1 (20 + k)) 40) b n.toNatClampNeg)
theorem xCor_row {S U : XS} (h : xCor S U) {k : Nat} (hk : k < 4) (b : Int64) (n : Int32) : xCor (rowX S k b n) (rowX U k b n) := by
  obtain ⟨⟨a1, a2, a3, a4⟩, ⟨b1, b2, b3⟩, c1, d1⟩ := h
  have e : rwL (xZr (U.2.2.1 (20 + k)) 40) b n.toNatClampNeg = rwL (xZr (S.2.2.1 (20 + k)) 40) b n.toNatClampNeg := by rw [b3 k hk]
  exact ⟨⟨vu_cg (vu_cg a1), vu_cg (vu_cg a2), vu_cg (vu_cg a3), fun i hi => ⟨vu_cg (vu_cg (a4 i hi).1), vu_cg (vu_cg (a4 i hi).2)⟩⟩, ⟨vu_cg2 b1 e, vu_cg2 b2 e, fun i hi => vu_cg2 (b3 i hi) e⟩, c1, d1⟩
theorem it_cg {α : Type} {f g : Nat → α → α} {n : Nat} (h : ∀ i, i < n → f i = g i) (x : α) : it f n x = it g n x := by
  induction n with
  | zero => rfl
  | succ n ih =>
    show f n (it f n x) = g n (it g n x)
    rw [ih (fun i hi => h i (Nat.lt_succ_of_lt hi)), h n (Nat.lt_succ_self n)]
theorem ttG_cg {f g : Nat → Int64} (h : ∀ i, i < 4 → f i = g i) (e x : Int32) : ttG f e x 4 = ttG g e x 4 :=
  it_cg (fun i hi => congrArg (fun (z : Int64) (a : Int32) => if e >>> (nI i &&& 31) &&& 1 = 1 then a + ((z.toUInt64 >>> (x.toInt64.toUInt64 &&& Int64.toUInt64 63)).toInt64 &&& 1).toInt32 else a) (h i hi)) 0
theorem tl_up {f g : Nat → Int64} {j : Nat} {v : Int64} (hj : j < 4) (hv : v = g j) (h : ∀ i, i < j → f i = g i) : ∀ i, i < j + 1 → va_up f (nI j).toNatClampNeg v i = g i := by
  intro i hi
  rw [nI_clamp (by omega)]
  unfold va_up
  split
  · next e => rw [e]; exact hv
  · next e => exact h i (by omega)
def mxC (f : Nat → Int64) (e v : Int32) (j : Nat) : Int32 := it (fun i (c : Int32) => if v = 1 then (ttG f e (nI i) 4 + c) >>> (1 &&& 31) else 0) j 0
def mxB (f : Nat → Int64) (e v : Int32) (j : Nat) : Int64 := it (fun i (b : Int64) => b ||| ((ttG f e (nI i) 4 + mxC f e v i) &&& 1).toInt64 <<< ((nI i).toInt64 &&& 63)) j 0
set_option maxHeartbeats 4000000 in
set_option maxRecDepth 100000 in
theorem c_X10_film (Z : VZ) (S : XS) (a_ : Int32) (m_ : Int32) (n_ : Int32) (hx : xOK S) : Ct XW Z yX10_film cX10_film 6 (some .int) 7 1 6 [.ref (Z.2.2.2 99), .int a_, .int m_, .int n_] (S) (fun v S' => v = some (.int (if ((0 ≤ a_ ∧ a_ ≤ 3) ∧ (0 ≤ m_ ∧ m_ < S.1 1) ∧ (0 ≤ n_ ∧ n_ ≤ 40)) then n_ else -2)) ∧ xCor (if ((0 ≤ a_ ∧ a_ ≤ 3) ∧ (0 ≤ m_ ∧ m_ < S.1 1) ∧ (0 ≤ n_ ∧ n_ ≤ 40)) then rowX S a_.toNatClampNeg (tlL (kc (mfo S (xAd S m_) 0)) (gT S (xAd S m_)) n_.toNatClampNeg) n_ else S) S') := by
  refine V_entry (own := RX10) (by decide) rfl (Nat.le_of_ble_eq_true rfl) ?_
  intro B hB
  refine V_sub (L' := [(0, .ref (Z.2.2.2 99)), (1, .int a_), (2, .int m_), (3, .int n_)]) [0, 1, 2, 3] rfl ?_
  refine V_aload_n (pc := 0) dX10_film_0 0 rfl rfl ?_
  refine V_iload_n (pc := 1) dX10_film_1 1 rfl rfl ?_
  refine V_callV (q0 := 0) (ci := 10) (C := RX10) (T := TX10) (N := 9) (pc := 2) dX10_film_2 (c_X10_sheetAt Z _ _) kX10_118 rfl rfl rfl rfl (Nat.le_of_ble_eq_true rfl) (by decide) (by decide) (Nat.le_of_ble_eq_true rfl) (Nat.le_of_ble_eq_true rfl) (fun v2 S2 hp2 => ?_)
  refine V_widen (n' := 0) (k' := 0) (Nat.le_refl _) (Nat.le_refl _) ?_
  obtain ⟨rfl, ⟨hv2, hs2, hi2, rfl⟩ | ⟨hno2, rfl⟩⟩ := hp2
  · skip
    refine V_astore (pc := 5) (L2 := [(0, .ref (Z.2.2.2 99)), (1, .int a_), (2, .int m_), (3, .int n_)]) dX10_film_5 (by decide) rfl (fun x4_5 ex4_5 => ?_)
    subst ex4_5
    refine V_aload_n (pc := 7) dX10_film_7 1 rfl rfl ?_
    refine V_iload_n (pc := 8) dX10_film_8 3 rfl rfl ?_
    refine V_callV (q0 := 0) (ci := 10) (C := RX10) (T := TX10) (N := 9) (pc := 9) dX10_film_9 (c_X10_machineAt Z _ _ (by exact hx)) kX10_76 rfl rfl rfl rfl (Nat.le_of_ble_eq_true rfl) (by decide) (by decide) (Nat.le_of_ble_eq_true rfl) (Nat.le_of_ble_eq_true rfl) (fun v9 S9 hp9 => ?_)
    refine V_widen (n' := 0) (k' := 0) (Nat.le_refl _) (Nat.le_refl _) ?_
    obtain ⟨rfl, ⟨ma_, hvma_, hima_, hMma_, hama_, hmma_, rfl⟩ | ⟨hno9, rfl⟩⟩ := hp9
    · skip
      refine V_astore (pc := 12) (L2 := [(4, .ref (Z.2.2.2 (10 + (a_).toNatClampNeg))), (0, .ref (Z.2.2.2 99)), (1, .int a_), (2, .int m_), (3, .int n_)]) dX10_film_12 (by decide) rfl (fun x5_12 ex5_12 => ?_)
      subst ex5_12
      refine V_aload (pc := 14) dX10_film_14 1 rfl ?_
      refine V_ifnull (pc := 16) dX10_film_16 ?_
      refine V_aload (pc := 19) dX10_film_19 0 rfl ?_
      refine V_ifnull (pc := 21) dX10_film_21 ?_
      refine V_iload_n (pc := 24) dX10_film_24 5 rfl rfl ?_
      refine V_iconst (v := 0) (pc := 25) dX10_film_25 (by decide) ?_
      refine V_bipush (v := 40) (pc := 26) dX10_film_26 (by decide) ?_
      refine V_callSi (pc := 28) dX10_film_28 (c_X10_between Z _ _ _ _) kX10_60 rfl (Nat.le_of_ble_eq_true rfl) (by decide) (by decide) (Nat.le_of_ble_eq_true rfl) (Nat.le_of_ble_eq_true rfl) ?_
      refine V_bif_ne (pc := 31) (tgt := 37) dX10_film_31 (by decide) (fun h31 => ?_) (fun h31 => ?_)
      · skip
        refine V_aload (pc := 37) dX10_film_37 1 rfl ?_
        refine V_aload (pc := 39) dX10_film_39 0 rfl ?_
        refine V_callS (pc := 41) dX10_film_41 (c_X10_thoughtOf Z _ _ (by exact hama_) (by exact hmma_)) kX10_114 rfl (Nat.le_of_ble_eq_true rfl) (by decide) (by decide) (Nat.le_of_ble_eq_true rfl) (Nat.le_of_ble_eq_true rfl) (fun v41 S41 hp41 => ?_)
        refine V_widen (n' := 1) (k' := 6) (Nat.le_refl _) (Nat.le_refl _) ?_
        obtain ⟨q_, rfl, hq_, rfl⟩ := hp41
        refine V_iload_n (pc := 44) dX10_film_44 5 rfl rfl ?_
        refine V_callSl (pc := 45) dX10_film_45 (c_X10_tell Z _ _ _ (by exact in_xN _ _ _ _) (by exact mcl_xN _ _ _ _)) kX10_110 rfl (Nat.le_of_ble_eq_true rfl) (by decide) (by decide) (Nat.le_of_ble_eq_true rfl) (Nat.le_of_ble_eq_true rfl) ?_
        refine V_eqS (xN S q_ (kc (mfo S ma_ 0)) (advN (kc (mfo S ma_ 0)) n_.toNatClampNeg (gM (mfo S ma_ 0) (mfo S ma_ 1) (mfo S ma_ 2) (mfo S ma_ 3) (mfo S ma_ 4)))) (by rw [xN_M, xmk_xN, mfo_xN]) ?_
        refine V_iload_n (pc := 48) dX10_film_48 5 rfl rfl ?_
        refine V_callVv (ci := 8) (C := RX8) (T := TX8) (N := 3) (pc := 49) dX10_film_49 (c_X8_becomeRow Z _ _ _ _ (by exact hs2) (by exact h31)) kX10_122 (x_sh Z _ (by exact hs2)) rfl rfl rfl (Nat.le_of_ble_eq_true rfl) (by decide) (by decide) (Nat.le_of_ble_eq_true rfl) (Nat.le_of_ble_eq_true rfl) ?_
        refine V_iload_n (pc := 52) dX10_film_52 5 rfl rfl ?_
        exact V_iret (pc := 53) dX10_film_53 (Nat.le_of_ble_eq_true rfl) (Nat.le_of_ble_eq_true rfl) (hB _ _ ⟨congrArg (fun z => some (Value.int z)) (by exact (if_pos ⟨hi2, hima_, h31⟩).symm), by rw [if_pos ⟨hi2, hima_, h31⟩, xAd_eq hMma_, xmk_xN, mfo_xN]; exact xCor_xN (rowX S a_.toNatClampNeg (tlL (kc (mfo S ma_ 0)) (gT S ma_) n_.toNatClampNeg) n_) _ _ hq_⟩)
      · skip
        refine V_bipush (v := (-2)) (pc := 34) dX10_film_34 (by decide) ?_
        exact V_iret (pc := 36) dX10_film_36 (Nat.le_of_ble_eq_true rfl) (Nat.le_of_ble_eq_true rfl) (hB _ _ ⟨congrArg (fun z => some (Value.int z)) (by first | exact (if_neg (fun h => hno2 h.1)).symm | exact (if_neg (fun h => hno9 h.2.1)).symm | exact (if_neg (fun h => h31 h.2.2)).symm), by first | (rw [if_neg (fun h => hno2 h.1)]; exact xCor_rfl _) | (rw [if_neg (fun h => hno9 h.2.1)]; exact xCor_rfl _) | (rw [if_neg (fun h => h31 h.2.2)]; exact xCor_rfl _)⟩)
    · skip
      refine V_astoreN (L2 := [(4, .ref (Z.2.2.2 (10 + (a_).toNatClampNeg))), (0, .ref (Z.2.2.2 99)), (1, .int a_), (2, .int m_), (3, .int n_)]) (pc := 12) dX10_film_12  (by decide) rfl ?_
      refine V_aload (pc := 14) dX10_film_14 1 rfl ?_
      refine V_ifnull (pc := 16) dX10_film_16 ?_
      refine V_aloadN (pc := 19) dX10_film_19 0 rfl ?_
      refine V_ifnullN (pc := 21) (tgt := 34) dX10_film_21 (by decide) ?_
      refine V_bipush (v := (-2)) (pc := 34) dX10_film_34 (by decide) ?_
      exact V_iret (pc := 36) dX10_film_36 (Nat.le_of_ble_eq_true rfl) (Nat.le_of_ble_eq_true rfl) (hB _ _ ⟨congrArg (fun z => some (Value.int z)) (by first | exact (if_neg (fun h => hno2 h.1)).symm | exact (if_neg (fun h => hno9 h.2.1)).symm | exact (if_neg (fun h => h31 h.2.2)).symm), by first | (rw [if_neg (fun h => hno2 h.1)]; exact xCor_rfl _) | (rw [if_neg (fun h => hno9 h.2.1)]; exact xCor_rfl _) | (rw [if_neg (fun h => h31 h.2.2)]; exact xCor_rfl _)⟩)
  · skip
    refine V_astoreN (L2 := [(0, .ref (Z.2.2.2 99)), (1, .int a_), (2, .int m_), (3, .int n_)]) (pc := 5) dX10_film_5  (by decide) rfl ?_
    refine V_aload_n (pc := 7) dX10_film_7 1 rfl rfl ?_
    refine V_iload_n (pc := 8) dX10_film_8 3 rfl rfl ?_
    refine V_callV (q0 := 0) (ci := 10) (C := RX10) (T := TX10) (N := 9) (pc := 9) dX10_film_9 (c_X10_machineAt Z _ _ (by exact hx)) kX10_76 rfl rfl rfl rfl (Nat.le_of_ble_eq_true rfl) (by decide) (by decide) (Nat.le_of_ble_eq_true rfl) (Nat.le_of_ble_eq_true rfl) (fun v9 S9 hp9 => ?_)
    refine V_widen (n' := 0) (k' := 0) (Nat.le_refl _) (Nat.le_refl _) ?_
    obtain ⟨rfl, ⟨ma_, hvma_, hima_, hMma_, hama_, hmma_, rfl⟩ | ⟨hno9, rfl⟩⟩ := hp9
    · skip
      refine V_astore (pc := 12) (L2 := [(4, .null), (0, .ref (Z.2.2.2 99)), (1, .int a_), (2, .int m_), (3, .int n_)]) dX10_film_12 (by decide) rfl (fun x5_12 ex5_12 => ?_)
      subst ex5_12
      refine V_aloadN (pc := 14) dX10_film_14 1 rfl ?_
      refine V_ifnullN (pc := 16) (tgt := 34) dX10_film_16 (by decide) ?_
      refine V_bipush (v := (-2)) (pc := 34) dX10_film_34 (by decide) ?_
      exact V_iret (pc := 36) dX10_film_36 (Nat.le_of_ble_eq_true rfl) (Nat.le_of_ble_eq_true rfl) (hB _ _ ⟨congrArg (fun z => some (Value.int z)) (by first | exact (if_neg (fun h => hno2 h.1)).symm | exact (if_neg (fun h => hno9 h.2.1)).symm | exact (if_neg (fun h => h31 h.2.2)).symm), by first | (rw [if_neg (fun h => hno2 h.1)]; exact xCor_rfl _) | (rw [if_neg (fun h => hno9 h.2.1)]; exact xCor_rfl _) | (rw [if_neg (fun h => h31 h.2.2)]; exact xCor_rfl _)⟩)
    · skip
      refine V_astoreN (L2 := [(4, .null), (0, .ref (Z.2.2.2 99)), (1, .int a_), (2, .int m_), (3, .int n_)]) (pc := 12) dX10_film_12  (by decide) rfl ?_
      refine V_aloadN (pc := 14) dX10_film_14 1 rfl ?_
      refine V_ifnullN (pc := 16) (tgt := 34) dX10_film_16 (by decide) ?_
      refine V_bipush (v := (-2)) (pc := 34) dX10_film_34 (by decide) ?_
      exact V_iret (pc := 36) dX10_film_36 (Nat.le_of_ble_eq_true rfl) (Nat.le_of_ble_eq_true rfl) (hB _ _ ⟨congrArg (fun z => some (Value.int z)) (by first | exact (if_neg (fun h => hno2 h.1)).symm | exact (if_neg (fun h => hno9 h.2.1)).symm | exact (if_neg (fun h => h31 h.2.2)).symm), by first | (rw [if_neg (fun h => hno2 h.1)]; exact xCor_rfl _) | (rw [if_neg (fun h => hno9 h.2.1)]; exact xCor_rfl _) | (rw [if_neg (fun h => h31 h.2.2)]; exact xCor_rfl _)⟩)
set_option maxHeartbeats 4000000 in
set_option maxRecDepth 100000 in
theorem c_X10_tellAll (Z : VZ) (S : XS) (n_ : Int32) (hx : xOK S) : Ct XW Z yX10_tellAll cX10_tellAll 4 none 7 4 24 [.ref (Z.2.2.2 99), .int n_] (S) (fun v S' => v = none ∧ xCor S S' ∧ ∀ i, i < 4 → S'.2.2.2.1 i = tvX S n_.toNatClampNeg i) := by
  refine V_entry (own := RX10) (by decide) rfl (Nat.le_of_ble_eq_true rfl) ?_
  intro B hB
  refine V_sub (L' := [(0, .ref (Z.2.2.2 99)), (1, .int n_)]) [0, 1] rfl ?_
  refine V_iconst (v := 0) (pc := 0) dX10_tellAll_0 (by decide) ?_
  refine V_istore_n (pc := 1) (L2 := [(0, .ref (Z.2.2.2 99)), (1, .int n_)]) dX10_tellAll_1 rfl (by decide) rfl (fun x2_1 ex2_1 => ?_)
  subst ex2_1
  refine V_sub (L' := [(2, .int (nI 0)), (0, .ref (Z.2.2.2 99)), (1, .int n_)]) [0, 1, 2] rfl ?_
  refine V_widen (n' := ((0))) (k' := (6 * (0))) (by omega) (by omega) ?_
  refine Vloop (σ := Nat × XS) (fun x => (x.1) ≤ 4 ∧ xCor S (x.2) ∧ ∀ i, i < (x.1) → (x.2).2.2.2.1 i = tvX S n_.toNatClampNeg i) (fun x => 4 - (x.1)) (fun x => V XW Z cX10_tellAll RX10 4 none 7 4 24 B ((x.1)) (6 * (x.1)) 2 [(2, .int (nI (x.1))), (0, .ref (Z.2.2.2 99)), (1, .int n_)] [] ((x.2))) ?_ (0, _) (by exact ⟨Nat.zero_le _, xCor_rfl S, fun i hi => absurd hi (Nat.not_lt_zero _)⟩)
  rintro ⟨j, U_⟩ hI2 ih2
  have hI2 : j ≤ 4 ∧ xCor S U_ ∧ ∀ i, i < j → U_.2.2.2.1 i = tvX S n_.toNatClampNeg i := hI2
  show V XW Z cX10_tellAll RX10 4 none 7 4 24 B (j) (6 * j) 2 [(2, .int (nI j)), (0, .ref (Z.2.2.2 99)), (1, .int n_)] [] (U_)
  refine V_iload_n (pc := 2) dX10_tellAll_2 0 rfl rfl ?_
  refine V_aload_n (pc := 3) dX10_tellAll_3 1 rfl rfl ?_
  refine Xg_X10_55 (pc := 4) dX10_tellAll_4 ?_
  refine Xn_8 (pc := 7) dX10_tellAll_7 ?_
  refine V_icmp_ge (pc := 8) (tgt := 45) dX10_tellAll_8 (by decide) (fun h8 => ?_) (fun h8 => ?_)
  · skip
    have hj : 4 ≤ j := jge h8 (by omega)
    have ej : j = 4 := by omega
    exact V_vret (pc := 45) dX10_tellAll_45 (by omega) (by omega) (hB _ _ (by exact ⟨rfl, hI2.2.1, fun i hi => hI2.2.2 i (by omega)⟩))
  · skip
    have hj : j < 4 := jlt h8 (by omega)
    refine V_aload_n (pc := 11) dX10_tellAll_11 1 rfl rfl ?_
    refine V_iload_n (pc := 12) dX10_tellAll_12 0 rfl rfl ?_
    refine V_callV (q0 := 0) (ci := 10) (C := RX10) (T := TX10) (N := 9) (pc := 13) dX10_tellAll_13 (c_X10_machineAt Z _ _ (by exact xOK_cor hx hI2.2.1)) kX10_76 rfl rfl rfl rfl (Nat.le_of_ble_eq_true rfl) (by decide) (by decide) (by omega) (by omega) (fun v13 S13 hp13 => ?_)
    refine V_widen (n' := (j)) (k' := (6 * j)) (Nat.le_refl _) (Nat.le_refl _) ?_
    obtain ⟨rfl, ⟨ma_, hvma_, hima_, hMma_, hama_, hmma_, rfl⟩ | ⟨hno13, rfl⟩⟩ := hp13
    · skip
      refine V_astore_n (pc := 16) (L2 := [(2, .int (nI j)), (0, .ref (Z.2.2.2 99)), (1, .int n_)]) dX10_tellAll_16 rfl (by decide) rfl (fun x3_16 ex3_16 => ?_)
      subst ex3_16
      refine V_aload_n (pc := 17) dX10_tellAll_17 2 rfl rfl ?_
      refine Xg_X10_55 (pc := 18) dX10_tellAll_18 ?_
      refine V_iload_n (pc := 21) dX10_tellAll_21 1 rfl rfl ?_
      refine V_aload_n (pc := 22) dX10_tellAll_22 0 rfl rfl ?_
      refine V_ifnonnull (pc := 23) (tgt := 30) dX10_tellAll_23 (by decide) ?_
      refine V_aload_n (pc := 30) dX10_tellAll_30 0 rfl rfl ?_
      refine V_callS (pc := 31) dX10_tellAll_31 (c_X10_thoughtOf Z _ _ (by exact hama_) (by exact hmma_)) kX10_114 rfl (Nat.le_of_ble_eq_true rfl) (by decide) (by decide) (by omega) (by omega) (fun v31 S31 hp31 => ?_)
      refine V_widen (n' := ((j) + 1)) (k' := ((6 * j) + 6)) (Nat.le_refl _) (Nat.le_refl _) ?_
      obtain ⟨q_, rfl, hq_, rfl⟩ := hp31
      refine V_iload_n (pc := 34) dX10_tellAll_34 3 rfl rfl ?_
      refine V_callSl (pc := 35) dX10_tellAll_35 (c_X10_tell Z _ _ _ (by exact in_xN _ _ _ _) (by exact mcl_xN _ _ _ _)) kX10_110 rfl (Nat.le_of_ble_eq_true rfl) (by decide) (by decide) (by omega) (by omega) ?_
      refine V_eqS (xN U_ q_ (kc (mfo U_ ma_ 0)) (advN (kc (mfo U_ ma_ 0)) n_.toNatClampNeg (gT U_ ma_))) (by rw [xN_M, xmk_xN, mfo_xN]) ?_
      refine V_eql (tlL (kc (mfo U_ ma_ 0)) (gT U_ ma_) n_.toNatClampNeg) (by rw [xmk_xN, mfo_xN]) ?_
      have w9 := tv_eq hx hI2.2.1 hj hima_ hMma_ n_.toNatClampNeg
      refine Xs_t (pc := 38) dX10_tellAll_38 (by exact vp_in_nI (by omega) (by decide)) ?_
      refine V_iinc (pc := 39) (v := 1) (L2 := [(3, .ref (ma_)), (0, .ref (Z.2.2.2 99)), (1, .int n_)]) dX10_tellAll_39 1 rfl (by decide) (by decide) rfl (fun x2_39 ex2_39 => ?_)
      rw [nI_1] at ex2_39
      subst ex2_39
      refine V_goto (pc := 42) (tgt := 2) dX10_tellAll_42 (by decide) ?_
      refine V_sub (L' := [(2, .int (nI (j + 1))), (0, .ref (Z.2.2.2 99)), (1, .int n_)]) [0, 2, 3] rfl ?_
      refine V_widen (n' := (((j + 1)))) (k' := (6 * ((j + 1)))) (by omega) (by omega) ?_
      refine ih2 (((j + 1)), _) ?_ ?_
      · first | exact ⟨hj, xCor_tr hI2.2.1 (xCor_xN U_ _ _ hq_), tl_up hj w9 hI2.2.2⟩ | exact ⟨hj, hI2.2.1, tl_up hj (tv_no hx hI2.2.1 (by omega) hno13 _) hI2.2.2⟩
      · show 4 - (j + 1) < 4 - j
        omega
    · skip
      refine V_astore_nN (L2 := [(2, .int (nI j)), (0, .ref (Z.2.2.2 99)), (1, .int n_)]) (pc := 16) dX10_tellAll_16  rfl (by decide) rfl ?_
      refine V_aload_n (pc := 17) dX10_tellAll_17 2 rfl rfl ?_
      refine Xg_X10_55 (pc := 18) dX10_tellAll_18 ?_
      refine V_iload_n (pc := 21) dX10_tellAll_21 1 rfl rfl ?_
      refine V_aload_nN (pc := 22) dX10_tellAll_22 0 rfl rfl ?_
      refine V_ifnonnullN (pc := 23) dX10_tellAll_23 ?_
      refine V_lconst (v := 0) (pc := 26) dX10_tellAll_26 (by decide) ?_
      refine V_goto (pc := 27) (tgt := 38) dX10_tellAll_27 (by decide) ?_
      refine Xs_t (pc := 38) dX10_tellAll_38 (by exact vp_in_nI (by omega) (by decide)) ?_
      refine V_iinc (pc := 39) (v := 1) (L2 := [(3, .null), (0, .ref (Z.2.2.2 99)), (1, .int n_)]) dX10_tellAll_39 1 rfl (by decide) (by decide) rfl (fun x2_39 ex2_39 => ?_)
      rw [nI_1] at ex2_39
      subst ex2_39
      refine V_goto (pc := 42) (tgt := 2) dX10_tellAll_42 (by decide) ?_
      refine V_sub (L' := [(2, .int (nI (j + 1))), (0, .ref (Z.2.2.2 99)), (1, .int n_)]) [0, 2, 3] rfl ?_
      refine V_widen (n' := (((j + 1)))) (k' := (6 * ((j + 1)))) (by omega) (by omega) ?_
      refine ih2 (((j + 1)), _) ?_ ?_
      · first | exact ⟨hj, xCor_tr hI2.2.1 (xCor_xN U_ _ _ hq_), tl_up hj w9 hI2.2.2⟩ | exact ⟨hj, hI2.2.1, tl_up hj (tv_no hx hI2.2.1 (by omega) hno13 _) hI2.2.2⟩
      · show 4 - (j + 1) < 4 - j
        omega
