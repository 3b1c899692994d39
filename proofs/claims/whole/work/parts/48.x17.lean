/-- the word at a place -/
abbrev wrX (b : Int64) (m : Int32) (i : Nat) : Int32 := (us64 b (nI i) &&& m.toInt64).toInt32
def twX (b : Int64) (m x : Int32) (j : Nat) : Nat := it (fun i c => if wrX b m i = x then c + 1 else c) j 0
def cw1 (b : Int64) (m : Int32) (n i : Nat) (q : Int32 × Int32 × Int32) : Int32 × Int32 × Int32 := if nI (twX b m (wrX b m i) i) ≤ 0 then (q.1 + 1, if nI (twX b m (wrX b m i) n) ≤ q.2.2 then q.2 else (wrX b m i, nI (twX b m (wrX b m i) n))) else q
def cwL (b : Int64) (m : Int32) (n j : Nat) : Int32 × Int32 × Int32 := it (fun i q => cw1 b m n i q) j (0, -1, -1)
abbrev brX (b : Int64) (i : Int32) : Prop := i = 0 ∨ ¬ lbt b i = lbt b (i - 1)
def rlL (b v : Int64) (len : Nat) : Nat → Nat → Nat
  | 0, _ => 0
  | g + 1, x => if x < len ∧ lbt b (nI x) = v then rlL b v len g (x + 1) + 1 else 0
/-- how long the run is that stands at a place -/
def rlX (b : Int64) (len q : Nat) : Nat := rlL b (lbt b (nI q)) len (len - q) q
def rsX (b : Int64) (len : Nat) (v g : Int32) (j : Nat) : Int32 := it (fun i (c : Int32) => if brX b (nI i) ∧ lbt b (nI i) = v.toInt64 ∧ nI (rlX b len i) = g then c + 1 else c) j 0
def urX (b : Int64) (len j : Nat) : Int64 × Int64 := it (fun i (q : Int64 × Int64) => if brX b (nI i) then (if lbt b (nI i) = 1 then (q.1, q.2 ||| 1 <<< ((nI (rlX b len i)).toInt64 &&& 63)) else (q.1 ||| 1 <<< ((nI (rlX b len i)).toInt64 &&& 63), q.2)) else q) j (0, 0)
def slX (b : Int64) (z : Int32) (len j : Nat) : Int64 := it (fun i (r : Int64) => r ^^^ 1 <<< ((nI (zix z i len)).toInt64 &&& 63)) j b
abbrev LQ : Type := Int64 × Int64 × Int64 × Int32 × Int32
def lfS (b : Int64) (i : Nat) (q : LQ) : LQ :=
  if lbc (q.1 &&& (q.2.2.1 <<< (Int32.toInt64 1 &&& 63) ||| lbt b (nI i))) &&& 1 = 0 then (q.1, q.2.1, q.2.2.1 <<< (Int32.toInt64 1 &&& 63) ||| lbt b (nI i), q.2.2.2.1 + 1, q.2.2.2.2)
  else if nI i < 2 * q.2.2.2.2 then (q.1 ^^^ q.2.1 <<< (q.2.2.2.1.toInt64 &&& 63), q.2.1, q.2.2.1 <<< (Int32.toInt64 1 &&& 63) ||| lbt b (nI i), q.2.2.2.1 + 1, q.2.2.2.2)
  else (q.1 ^^^ q.2.1 <<< (q.2.2.2.1.toInt64 &&& 63), q.1, q.2.2.1 <<< (Int32.toInt64 1 &&& 63) ||| lbt b (nI i), 1, nI i + 1 - q.2.2.2.2)
def lfX (b : Int64) (j : Nat) : LQ := it (fun i q => lfS b i q) j (1, 1, 0, 1, 0)
theorem lfX_s (b : Int64) (j : Nat) : lfX b (j + 1) = lfS b j (lfX b j) := rfl
abbrev xG (S : XS) (k : Nat) (x : Int64) : XS := (S.1, va_up S.2.1 k x, S.2.2)
def xLw (S : XS) (c : Int32) (t : Int64) : XS := xG (xF S 40 c) 6 t
theorem xCor_lw (S : XS) (c : Int32) (t : Int64) : xCor S (xLw S c t) := by
  have h : ∀ k, k ≠ 40 → va_up S.1 40 c k = S.1 k := fun k hk => va_up_ne S.1 c hk
  exact ⟨⟨h 1 (by decide), h 3 (by decide), h 31 (by decide), fun i hi => ⟨h _ (by omega), h _ (by omega)⟩⟩, ⟨rfl, rfl, fun _ _ => rfl⟩, rfl, fun _ h => ⟨h, rfl, rfl⟩⟩
def laX (b : Int64) (n w : Int32) : Int64 := if w = 0 then (lfX b n.toNatClampNeg).2.2.2.2.toInt64 else if 2 * (lfX b n.toNatClampNeg).2.2.2.2 ≤ n then us64 (lfX b n.toNatClampNeg).1 1 else -1
set_option maxHeartbeats 4000000 in
set_option maxRecDepth 100000 in
theorem c_X10_timesWord (Z : VZ) (S : XS) (b_ : Int64) (n_ : Int32) (m_ : Int32) (x_ : Int32) : CtF XW Z yX10_timesWord cX10_timesWord 7 (some .int) 0 0 0 [.long b_, .int n_, .int m_, .int x_] (S) (some (.int (nI (twX b_ m_ x_ n_.toNatClampNeg)))) (S) := by
  refine V_entry (own := RX10) (by decide) rfl (Nat.le_of_ble_eq_true rfl) ?_
  intro B hB
  refine V_sub (L' := [(0, .long b_), (2, .int n_), (3, .int m_), (4, .int x_)]) [0, 1, 2, 3] rfl ?_
  refine V_iconst (v := 0) (pc := 0) dX10_timesWord_0 (by decide) ?_
  refine V_istore (pc := 1) (L2 := [(0, .long b_), (2, .int n_), (3, .int m_), (4, .int x_)]) dX10_timesWord_1 (by decide) rfl (fun x5_1 ex5_1 => ?_)
  subst ex5_1
  refine V_iconst (v := 0) (pc := 3) dX10_timesWord_3 (by decide) ?_
  refine V_istore (pc := 4) (L2 := [(5, .int 0), (0, .long b_), (2, .int n_), (3, .int m_), (4, .int x_)]) dX10_timesWord_4 (by decide) rfl (fun x6_4 ex6_4 => ?_)
  subst ex6_4
  refine V_sub (L' := [(6, .int (nI 0)), (5, .int 0), (0, .long b_), (2, .int n_), (3, .int m_), (4, .int x_)]) [0, 1, 2, 3, 4, 5] rfl ?_
  refine Vloop (σ := Nat × Int32) (fun x => (x.1) ≤ n_.toNatClampNeg ∧ (x.2) = nI (twX b_ m_ x_ (x.1))) (fun x => n_.toNatClampNeg - (x.1)) (fun x => V XW Z cX10_timesWord RX10 7 (some .int) 0 0 0 B 0 0 6 [(6, .int (nI (x.1))), (5, .int (x.2)), (0, .long b_), (2, .int n_), (3, .int m_), (4, .int x_)] [] (S)) ?_ (0, 0) (by exact ⟨Nat.zero_le _, rfl⟩)
  rintro ⟨j, u⟩ hI6 ih6
  have hI6 : j ≤ n_.toNatClampNeg ∧ u = nI (twX b_ m_ x_ j) := hI6
  show V XW Z cX10_timesWord RX10 7 (some .int) 0 0 0 B 0 0 6 [(6, .int (nI j)), (5, .int u), (0, .long b_), (2, .int n_), (3, .int m_), (4, .int x_)] [] (S)
  refine V_iload (pc := 6) dX10_timesWord_6 0 rfl ?_
  refine V_iload_n (pc := 8) dX10_timesWord_8 3 rfl rfl ?_
  refine V_icmp_ge (pc := 9) (tgt := 34) dX10_timesWord_9 (by decide) (fun h9 => ?_) (fun h9 => ?_)
  · skip
    have hj : n_.toNatClampNeg ≤ j := jge h9 (Nat.lt_of_le_of_lt hI6.1 (clampLt _))
    have ej : j = n_.toNatClampNeg := Nat.le_antisymm hI6.1 hj
    refine V_iload (pc := 34) dX10_timesWord_34 1 rfl ?_
    exact V_iret (pc := 36) dX10_timesWord_36 (Nat.le_of_ble_eq_true rfl) (Nat.le_of_ble_eq_true rfl) (hB _ _ ⟨congrArg (fun z => some (Value.int z)) (by rw [hI6.2, ej]), by rfl⟩)
  · skip
    have hj : j < n_.toNatClampNeg := jlt h9 (Nat.lt_of_le_of_lt hI6.1 (clampLt _))
    refine V_lload_n (pc := 12) dX10_timesWord_12 2 rfl rfl ?_
    refine V_iload (pc := 13) dX10_timesWord_13 0 rfl ?_
    refine V_lushr (pc := 15) dX10_timesWord_15 rfl ?_
    refine V_iload_n (pc := 16) dX10_timesWord_16 4 rfl rfl ?_
    refine V_i2l (pc := 17) dX10_timesWord_17 rfl ?_
    refine V_land (pc := 18) dX10_timesWord_18 ?_
    refine V_l2i (pc := 19) dX10_timesWord_19 rfl ?_
    refine V_iload (pc := 20) dX10_timesWord_20 5 rfl ?_
    refine V_icmp_ne (pc := 22) (tgt := 28) dX10_timesWord_22 (by decide) (fun h22 => ?_) (fun h22 => ?_)
    · skip
      refine V_iinc (pc := 28) (v := 1) (L2 := [(5, .int u), (0, .long b_), (2, .int n_), (3, .int m_), (4, .int x_)]) dX10_timesWord_28 0 rfl (by decide) (by decide) rfl (fun x6_28 ex6_28 => ?_)
      rw [nI_1] at ex6_28
      subst ex6_28
      refine V_goto (pc := 31) (tgt := 6) dX10_timesWord_31 (by decide) ?_
      refine V_sub (L' := [(6, .int (nI (j + 1))), (5, .int u), (0, .long b_), (2, .int n_), (3, .int m_), (4, .int x_)]) [0, 1, 2, 3, 4, 5] rfl ?_
      refine ih6 (((j + 1)), _) ?_ ?_
      · show ((j + 1)) ≤ n_.toNatClampNeg ∧ (u) = nI (twX b_ m_ x_ ((j + 1)))
        refine ⟨hj, ?_⟩
        rw [hI6.2]
        simp only [twX, it]
        first | (rw [if_pos h22, nI_1]; done) | (rw [if_neg h22]; done)
      · show n_.toNatClampNeg - (j + 1) < n_.toNatClampNeg - j
        omega
    · skip
      refine V_iinc (pc := 25) (v := 1) (L2 := [(6, .int (nI j)), (0, .long b_), (2, .int n_), (3, .int m_), (4, .int x_)]) dX10_timesWord_25 1 rfl (by decide) (by decide) rfl (fun x5_25 ex5_25 => ?_)
      subst ex5_25
      refine V_iinc (pc := 28) (v := 1) (L2 := [(5, .int (u + 1)), (0, .long b_), (2, .int n_), (3, .int m_), (4, .int x_)]) dX10_timesWord_28 1 rfl (by decide) (by decide) rfl (fun x6_28 ex6_28 => ?_)
      rw [nI_1] at ex6_28
      subst ex6_28
      refine V_goto (pc := 31) (tgt := 6) dX10_timesWord_31 (by decide) ?_
      refine V_sub (L' := [(6, .int (nI (j + 1))), (5, .int (u + 1)), (0, .long b_), (2, .int n_), (3, .int m_), (4, .int x_)]) [0, 1, 2, 3, 4, 5] rfl ?_
      refine ih6 (((j + 1)), _) ?_ ?_
      · show ((j + 1)) ≤ n_.toNatClampNeg ∧ ((u + 1)) = nI (twX b_ m_ x_ ((j + 1)))
        refine ⟨hj, ?_⟩
        rw [hI6.2]
        simp only [twX, it]
        first | (rw [if_pos h22, nI_1]; done) | (rw [if_neg h22]; done)
      · show n_.toNatClampNeg - (j + 1) < n_.toNatClampNeg - j
        omega
set_option maxHeartbeats 4000000 in
set_option maxRecDepth 100000 in
theorem c_X10_countWords (Z : VZ) (S : XS) (b_ : Int64) (n_ : Int32) (m_ : Int32) (w_ : Int32) : CtF XW Z yX10_countWords cX10_countWords 11 (some .int) 1 0 0 [.long b_, .int n_, .int m_, .int w_] (S) (some (.int (if w_ = 0 then (cwL b_ m_ n_.toNatClampNeg n_.toNatClampNeg).1 else if w_ = 1 then (cwL b_ m_ n_.toNatClampNeg n_.toNatClampNeg).2.1 else (cwL b_ m_ n_.toNatClampNeg n_.toNatClampNeg).2.2))) (S) := by
  refine V_entry (own := RX10) (by decide) rfl (Nat.le_of_ble_eq_true rfl) ?_
  intro B hB
  refine V_sub (L' := [(0, .long b_), (2, .int n_), (3, .int m_), (4, .int w_)]) [0, 1, 2, 3] rfl ?_
  refine V_iconst (v := 0) (pc := 0) dX10_countWords_0 (by decide) ?_
  refine V_istore (pc := 1) (L2 := [(0, .long b_), (2, .int n_), (3, .int m_), (4, .int w_)]) dX10_countWords_1 (by decide) rfl (fun x5_1 ex5_1 => ?_)
  subst ex5_1
  refine V_iconst (v := (-1)) (pc := 3) dX10_countWords_3 (by decide) ?_
  refine V_istore (pc := 4) (L2 := [(5, .int 0), (0, .long b_), (2, .int n_), (3, .int m_), (4, .int w_)]) dX10_countWords_4 (by decide) rfl (fun x6_4 ex6_4 => ?_)
  subst ex6_4
  refine V_iconst (v := (-1)) (pc := 6) dX10_countWords_6 (by decide) ?_
  refine V_istore (pc := 7) (L2 := [(6, .int (-1)), (5, .int 0), (0, .long b_), (2, .int n_), (3, .int m_), (4, .int w_)]) dX10_countWords_7 (by decide) rfl (fun x7_7 ex7_7 => ?_)
  subst ex7_7
  refine V_iconst (v := 0) (pc := 9) dX10_countWords_9 (by decide) ?_
  refine V_istore (pc := 10) (L2 := [(7, .int (-1)), (6, .int (-1)), (5, .int 0), (0, .long b_), (2, .int n_), (3, .int m_), (4, .int w_)]) dX10_countWords_10 (by decide) rfl (fun x8_10 ex8_10 => ?_)
  subst ex8_10
  refine V_sub (L' := [(8, .int (nI 0)), (7, .int (-1)), (6, .int (-1)), (5, .int 0), (0, .long b_), (2, .int n_), (3, .int m_), (4, .int w_)]) [0, 1, 2, 3, 4, 5, 6, 7] rfl ?_
  refine Vloop (σ := Nat × Int32 × Int32 × Int32) (fun x => (x.1) ≤ n_.toNatClampNeg ∧ (x.2.2.2) = (cwL b_ m_ n_.toNatClampNeg (x.1)).1 ∧ (x.2.2.1) = (cwL b_ m_ n_.toNatClampNeg (x.1)).2.1 ∧ (x.2.1) = (cwL b_ m_ n_.toNatClampNeg (x.1)).2.2) (fun x => n_.toNatClampNeg - (x.1)) (fun x => V XW Z cX10_countWords RX10 11 (some .int) 1 0 0 B 0 0 12 [(8, .int (nI (x.1))), (7, .int (x.2.1)), (6, .int (x.2.2.1)), (5, .int (x.2.2.2)), (0, .long b_), (2, .int n_), (3, .int m_), (4, .int w_)] [] (S)) ?_ (0, (-1), (-1), 0) (by exact ⟨Nat.zero_le _, rfl, rfl, rfl⟩)
  rintro ⟨j, z_, y_, u⟩ hI12 ih12
  have hI12 : j ≤ n_.toNatClampNeg ∧ u = (cwL b_ m_ n_.toNatClampNeg j).1 ∧ y_ = (cwL b_ m_ n_.toNatClampNeg j).2.1 ∧ z_ = (cwL b_ m_ n_.toNatClampNeg j).2.2 := hI12
  show V XW Z cX10_countWords RX10 11 (some .int) 1 0 0 B 0 0 12 [(8, .int (nI j)), (7, .int z_), (6, .int y_), (5, .int u), (0, .long b_), (2, .int n_), (3, .int m_), (4, .int w_)] [] (S)
  refine V_iload (pc := 12) dX10_countWords_12 0 rfl ?_
  refine V_iload_n (pc := 14) dX10_countWords_14 5 rfl rfl ?_
  refine V_icmp_ge (pc := 15) (tgt := 77) dX10_countWords_15 (by decide) (fun h15 => ?_) (fun h15 => ?_)
  · skip
    have hj : n_.toNatClampNeg ≤ j := jge h15 (Nat.lt_of_le_of_lt hI12.1 (clampLt _))
    have ej : j = n_.toNatClampNeg := Nat.le_antisymm hI12.1 hj
    refine V_iload (pc := 77) dX10_countWords_77 7 rfl ?_
    by_cases h79_0 : w_ = 0
    · refine V_eqi 0 h79_0 ?_
      refine V_lookup (pc := 79) (tgt := 104) dX10_countWords_79 (by decide) rfl (by decide) ?_
      refine V_iload (pc := 104) dX10_countWords_104 3 rfl ?_
      exact V_iret (pc := 106) dX10_countWords_106 (Nat.le_of_ble_eq_true rfl) (Nat.le_of_ble_eq_true rfl) (hB _ _ ⟨congrArg (fun z => some (Value.int z)) (by rw [if_pos h79_0, hI12.2.1, ej]), by rfl⟩)
    by_cases h79_1 : w_ = 1
    · refine V_eqi 1 h79_1 ?_
      refine V_lookup (pc := 79) (tgt := 107) dX10_countWords_79 (by decide) rfl (by decide) ?_
      refine V_iload (pc := 107) dX10_countWords_107 2 rfl ?_
      exact V_iret (pc := 109) dX10_countWords_109 (Nat.le_of_ble_eq_true rfl) (Nat.le_of_ble_eq_true rfl) (hB _ _ ⟨congrArg (fun z => some (Value.int z)) (by rw [if_neg h79_0, if_pos h79_1, hI12.2.2.1, ej]), by rfl⟩)
    refine V_lookup (pc := 79) (tgt := 110) (off := 31) dX10_countWords_79 (by decide) (by exact (lv_osw h79_0 rfl).trans ((lv_osw h79_1 rfl).trans (rfl))) (by decide) ?_
    refine V_iload (pc := 110) dX10_countWords_110 1 rfl ?_
    exact V_iret (pc := 112) dX10_countWords_112 (Nat.le_of_ble_eq_true rfl) (Nat.le_of_ble_eq_true rfl) (hB _ _ ⟨congrArg (fun z => some (Value.int z)) (by rw [if_neg h79_0, if_neg h79_1, hI12.2.2.2, ej]), by rfl⟩)
  · skip
    have hj : j < n_.toNatClampNeg := jlt h15 (Nat.lt_of_le_of_lt hI12.1 (clampLt _))
    refine V_lload_n (pc := 18) dX10_countWords_18 4 rfl rfl ?_
    refine V_iload (pc := 19) dX10_countWords_19 0 rfl ?_
    refine V_lushr (pc := 21) dX10_countWords_21 rfl ?_
    refine V_iload_n (pc := 22) dX10_countWords_22 6 rfl rfl ?_
    refine V_i2l (pc := 23) dX10_countWords_23 rfl ?_
    refine V_land (pc := 24) dX10_countWords_24 ?_
    refine V_l2i (pc := 25) dX10_countWords_25 rfl ?_
    refine V_istore (pc := 26) (L2 := [(8, .int (nI j)), (7, .int z_), (6, .int y_), (5, .int u), (0, .long b_), (2, .int n_), (3, .int m_), (4, .int w_)]) dX10_countWords_26 (by decide) rfl (fun x9_26 ex9_26 => ?_)
    subst ex9_26
    refine V_lload_n (pc := 28) dX10_countWords_28 5 rfl rfl ?_
    refine V_iload (pc := 29) dX10_countWords_29 1 rfl ?_
    refine V_iload_n (pc := 31) dX10_countWords_31 7 rfl rfl ?_
    refine V_iload (pc := 32) dX10_countWords_32 0 rfl ?_
    refine V_callSi (pc := 34) dX10_countWords_34 (c_X10_timesWord Z _ _ (nI j) _ _) kX10_347 rfl (Nat.le_of_ble_eq_true rfl) (by decide) (by decide) (Nat.le_of_ble_eq_true rfl) (Nat.le_of_ble_eq_true rfl) ?_
    refine V_eqi (nI (twX b_ m_ (wrX b_ m_ j) j)) (by rw [nI_clamp (Nat.lt_trans hj (clampLt _))]) ?_
    refine V_if_le (pc := 37) (tgt := 43) dX10_countWords_37 (by decide) (fun h37 => ?_) (fun h37 => ?_)
    · skip
      refine V_iinc (pc := 43) (v := 1) (L2 := [(9, .int (Int64.toInt32 ((Int64.toUInt64 b_ >>> ((Int32.toInt64 (nI j)).toUInt64 &&& Int64.toUInt64 63)).toInt64 &&& (Int32.toInt64 m_)))), (8, .int (nI j)), (7, .int z_), (6, .int y_), (0, .long b_), (2, .int n_), (3, .int m_), (4, .int w_)]) dX10_countWords_43 4 rfl (by decide) (by decide) rfl (fun x5_43 ex5_43 => ?_)
      subst ex5_43
      refine V_lload_n (pc := 46) dX10_countWords_46 5 rfl rfl ?_
      refine V_iload_n (pc := 47) dX10_countWords_47 6 rfl rfl ?_
      refine V_iload_n (pc := 48) dX10_countWords_48 7 rfl rfl ?_
      refine V_iload (pc := 49) dX10_countWords_49 1 rfl ?_
      refine V_callSi (pc := 51) dX10_countWords_51 (c_X10_timesWord Z _ _ _ _ _) kX10_347 rfl (Nat.le_of_ble_eq_true rfl) (by decide) (by decide) (Nat.le_of_ble_eq_true rfl) (Nat.le_of_ble_eq_true rfl) ?_
      refine V_istore (pc := 54) (L2 := [(5, .int (u + 1)), (9, .int (Int64.toInt32 ((Int64.toUInt64 b_ >>> ((Int32.toInt64 (nI j)).toUInt64 &&& Int64.toUInt64 63)).toInt64 &&& (Int32.toInt64 m_)))), (8, .int (nI j)), (7, .int z_), (6, .int y_), (0, .long b_), (2, .int n_), (3, .int m_), (4, .int w_)]) dX10_countWords_54 (by decide) rfl (fun x10_54 ex10_54 => ?_)
      subst ex10_54
      refine V_iload (pc := 56) dX10_countWords_56 0 rfl ?_
      refine V_iload (pc := 58) dX10_countWords_58 4 rfl ?_
      refine V_icmp_le (pc := 60) (tgt := 71) dX10_countWords_60 (by decide) (fun h60 => ?_) (fun h60 => ?_)
      · skip
        refine V_iinc (pc := 71) (v := 1) (L2 := [(10, .int (nI (twX b_ m_ (wrX b_ m_ j) n_.toNatClampNeg))), (5, .int (u + 1)), (9, .int (Int64.toInt32 ((Int64.toUInt64 b_ >>> ((Int32.toInt64 (nI j)).toUInt64 &&& Int64.toUInt64 63)).toInt64 &&& (Int32.toInt64 m_)))), (7, .int z_), (6, .int y_), (0, .long b_), (2, .int n_), (3, .int m_), (4, .int w_)]) dX10_countWords_71 3 rfl (by decide) (by decide) rfl (fun x8_71 ex8_71 => ?_)
        rw [nI_1] at ex8_71
        subst ex8_71
        refine V_goto (pc := 74) (tgt := 12) dX10_countWords_74 (by decide) ?_
        refine V_sub (L' := [(8, .int (nI (j + 1))), (7, .int z_), (6, .int y_), (5, .int (u + 1)), (0, .long b_), (2, .int n_), (3, .int m_), (4, .int w_)]) [0, 4, 5, 2, 6, 7, 8, 9] rfl ?_
        refine ih12 (((j + 1)), _, _, _) ?_ ?_
        · show ((j + 1)) ≤ n_.toNatClampNeg ∧ ((u + 1)) = (cwL b_ m_ n_.toNatClampNeg ((j + 1))).1 ∧ (y_) = (cwL b_ m_ n_.toNatClampNeg ((j + 1))).2.1 ∧ (z_) = (cwL b_ m_ n_.toNatClampNeg ((j + 1))).2.2
          have e9 : (cwL b_ m_ n_.toNatClampNeg (j + 1)) = cw1 b_ m_ n_.toNatClampNeg j (cwL b_ m_ n_.toNatClampNeg j) := rfl
          obtain ⟨_, k1, k2, k3⟩ := hI12
          rw [e9]
          unfold cw1
          first | (rw [if_neg h37]; exact ⟨hj, k1, k2, k3⟩) | (rw [if_pos h37, if_pos (by rw [← k3]; exact h60)]; exact ⟨hj, by rw [k1], k2, k3⟩) | (rw [if_pos h37, if_neg (by rw [← k3]; exact h60)]; exact ⟨hj, by rw [k1], rfl, rfl⟩)
        · show n_.toNatClampNeg - (j + 1) < n_.toNatClampNeg - j
          omega
      · skip
        refine V_iload (pc := 63) dX10_countWords_63 0 rfl ?_
        refine V_istore (pc := 65) (L2 := [(10, .int (nI (twX b_ m_ (wrX b_ m_ j) n_.toNatClampNeg))), (5, .int (u + 1)), (9, .int (Int64.toInt32 ((Int64.toUInt64 b_ >>> ((Int32.toInt64 (nI j)).toUInt64 &&& Int64.toUInt64 63)).toInt64 &&& (Int32.toInt64 m_)))), (8, .int (nI j)), (6, .int y_), (0, .long b_), (2, .int n_), (3, .int m_), (4, .int w_)]) dX10_countWords_65 (by decide) rfl (fun x7_65 ex7_65 => ?_)
        subst ex7_65
        refine V_iload (pc := 67) dX10_countWords_67 3 rfl ?_
        refine V_istore (pc := 69) (L2 := [(7, .int (nI (twX b_ m_ (wrX b_ m_ j) n_.toNatClampNeg))), (10, .int (nI (twX b_ m_ (wrX b_ m_ j) n_.toNatClampNeg))), (5, .int (u + 1)), (9, .int (Int64.toInt32 ((Int64.toUInt64 b_ >>> ((Int32.toInt64 (nI j)).toUInt64 &&& Int64.toUInt64 63)).toInt64 &&& (Int32.toInt64 m_)))), (8, .int (nI j)), (0, .long b_), (2, .int n_), (3, .int m_), (4, .int w_)]) dX10_countWords_69 (by decide) rfl (fun x6_69 ex6_69 => ?_)
        subst ex6_69
        refine V_iinc (pc := 71) (v := 1) (L2 := [(6, .int (Int64.toInt32 ((Int64.toUInt64 b_ >>> ((Int32.toInt64 (nI j)).toUInt64 &&& Int64.toUInt64 63)).toInt64 &&& (Int32.toInt64 m_)))), (7, .int (nI (twX b_ m_ (wrX b_ m_ j) n_.toNatClampNeg))), (10, .int (nI (twX b_ m_ (wrX b_ m_ j) n_.toNatClampNeg))), (5, .int (u + 1)), (9, .int (Int64.toInt32 ((Int64.toUInt64 b_ >>> ((Int32.toInt64 (nI j)).toUInt64 &&& Int64.toUInt64 63)).toInt64 &&& (Int32.toInt64 m_)))), (0, .long b_), (2, .int n_), (3, .int m_), (4, .int w_)]) dX10_countWords_71 5 rfl (by decide) (by decide) rfl (fun x8_71 ex8_71 => ?_)
        rw [nI_1] at ex8_71
        subst ex8_71
        refine V_goto (pc := 74) (tgt := 12) dX10_countWords_74 (by decide) ?_
        refine V_sub (L' := [(8, .int (nI (j + 1))), (7, .int (nI (twX b_ m_ (wrX b_ m_ j) n_.toNatClampNeg))), (6, .int (Int64.toInt32 ((Int64.toUInt64 b_ >>> ((Int32.toInt64 (nI j)).toUInt64 &&& Int64.toUInt64 63)).toInt64 &&& (Int32.toInt64 m_)))), (5, .int (u + 1)), (0, .long b_), (2, .int n_), (3, .int m_), (4, .int w_)]) [0, 2, 1, 4, 6, 7, 8, 9] rfl ?_
        refine ih12 (((j + 1)), _, _, _) ?_ ?_
        · show ((j + 1)) ≤ n_.toNatClampNeg ∧ ((u + 1)) = (cwL b_ m_ n_.toNatClampNeg ((j + 1))).1 ∧ ((Int64.toInt32 ((Int64.toUInt64 b_ >>> ((Int32.toInt64 (nI j)).toUInt64 &&& Int64.toUInt64 63)).toInt64 &&& (Int32.toInt64 m_)))) = (cwL b_ m_ n_.toNatClampNeg ((j + 1))).2.1 ∧ ((nI (twX b_ m_ (wrX b_ m_ j) n_.toNatClampNeg))) = (cwL b_ m_ n_.toNatClampNeg ((j + 1))).2.2
          have e9 : (cwL b_ m_ n_.toNatClampNeg (j + 1)) = cw1 b_ m_ n_.toNatClampNeg j (cwL b_ m_ n_.toNatClampNeg j) := rfl
          obtain ⟨_, k1, k2, k3⟩ := hI12
          rw [e9]
          unfold cw1
          first | (rw [if_neg h37]; exact ⟨hj, k1, k2, k3⟩) | (rw [if_pos h37, if_pos (by rw [← k3]; exact h60)]; exact ⟨hj, by rw [k1], k2, k3⟩) | (rw [if_pos h37, if_neg (by rw [← k3]; exact h60)]; exact ⟨hj, by rw [k1], rfl, rfl⟩)
        · show n_.toNatClampNeg - (j + 1) < n_.toNatClampNeg - j
          omega
    · skip
      refine V_goto (pc := 40) (tgt := 71) dX10_countWords_40 (by decide) ?_
      refine V_iinc (pc := 71) (v := 1) (L2 := [(9, .int (Int64.toInt32 ((Int64.toUInt64 b_ >>> ((Int32.toInt64 (nI j)).toUInt64 &&& Int64.toUInt64 63)).toInt64 &&& (Int32.toInt64 m_)))), (7, .int z_), (6, .int y_), (5, .int u), (0, .long b_), (2, .int n_), (3, .int m_), (4, .int w_)]) dX10_countWords_71 1 rfl (by decide) (by decide) rfl (fun x8_71 ex8_71 => ?_)
      rw [nI_1] at ex8_71
      subst ex8_71
      refine V_goto (pc := 74) (tgt := 12) dX10_countWords_74 (by decide) ?_
      refine V_sub (L' := [(8, .int (nI (j + 1))), (7, .int z_), (6, .int y_), (5, .int u), (0, .long b_), (2, .int n_), (3, .int m_), (4, .int w_)]) [0, 2, 3, 4, 5, 6, 7, 8] rfl ?_
      refine ih12 (((j + 1)), _, _, _) ?_ ?_
      · show ((j + 1)) ≤ n_.toNatClampNeg ∧ (u) = (cwL b_ m_ n_.toNatClampNeg ((j + 1))).1 ∧ (y_) = (cwL b_ m_ n_.toNatClampNeg ((j + 1))).2.1 ∧ (z_) = (cwL b_ m_ n_.toNatClampNeg ((j + 1))).2.2
        have e9 : (cwL b_ m_ n_.toNatClampNeg (j + 1)) = cw1 b_ m_ n_.toNatClampNeg j (cwL b_ m_ n_.toNatClampNeg j) := rfl
        obtain ⟨_, k1, k2, k3⟩ := hI12
        rw [e9]
        unfold cw1
        first | (rw [if_neg h37]; exact ⟨hj, k1, k2, k3⟩) | (rw [if_pos h37, if_pos (by rw [← k3]; exact h60)]; exact ⟨hj, by rw [k1], k2, k3⟩) | (rw [if_pos h37, if_neg (by rw [← k3]; exact h60)]; exact ⟨hj, by rw [k1], rfl, rfl⟩)
      · show n_.toNatClampNeg - (j + 1) < n_.toNatClampNeg - j
        omega
set_option maxHeartbeats 4000000 in
set_option maxRecDepth 100000 in
theorem c_X10_beginsRun (Z : VZ) (S : XS) (b_ : Int64) (i_ : Int32) : CtF XW Z yX10_beginsRun cX10_beginsRun 3 (some .boolean) 0 0 0 [.long b_, .int i_] (S) (some (.int (bI (brX b_ i_)))) (S) := by
  refine V_entry (own := RX10) (by decide) rfl (Nat.le_of_ble_eq_true rfl) ?_
  intro B hB
  refine V_sub (L' := [(0, .long b_), (2, .int i_)]) [0, 1] rfl ?_
  refine V_iload_n (pc := 0) dX10_beginsRun_0 1 rfl rfl ?_
  refine V_if_eq (pc := 1) (tgt := 20) dX10_beginsRun_1 (by decide) (fun h1 => ?_) (fun h1 => ?_)
  · skip
    refine V_iconst (v := 1) (pc := 20) dX10_beginsRun_20 (by decide) ?_
    refine V_goto (pc := 21) (tgt := 25) dX10_beginsRun_21 (by decide) ?_
    exact V_zret (pc := 25) dX10_beginsRun_25 (Nat.le_of_ble_eq_true rfl) (Nat.le_of_ble_eq_true rfl) (Or.inr rfl) (hB _ _ ⟨congrArg (fun z => some (Value.int z)) (by exact (bI_t (show brX b_ i_ from Or.inl h1)).symm), by rfl⟩)
  · skip
    refine V_lload_n (pc := 4) dX10_beginsRun_4 0 rfl rfl ?_
    refine V_iload_n (pc := 5) dX10_beginsRun_5 1 rfl rfl ?_
    refine V_lushr (pc := 6) dX10_beginsRun_6 rfl ?_
    refine V_lconst (v := 1) (pc := 7) dX10_beginsRun_7 (by decide) ?_
    refine V_land (pc := 8) dX10_beginsRun_8 ?_
    refine V_lload_n (pc := 9) dX10_beginsRun_9 0 rfl rfl ?_
    refine V_iload_n (pc := 10) dX10_beginsRun_10 1 rfl rfl ?_
    refine V_iconst (v := 1) (pc := 11) dX10_beginsRun_11 (by decide) ?_
    refine V_isub (pc := 12) dX10_beginsRun_12 ?_
    refine V_lushr (pc := 13) dX10_beginsRun_13 rfl ?_
    refine V_lconst (v := 1) (pc := 14) dX10_beginsRun_14 (by decide) ?_
    refine V_land (pc := 15) dX10_beginsRun_15 ?_
    refine V_lcmp (pc := 16) dX10_beginsRun_16 ?_
    refine V_if_eq (pc := 17) (tgt := 24) dX10_beginsRun_17 (by decide) (fun h17 => ?_) (fun h17 => ?_)
    · skip
      refine V_iconst (v := 0) (pc := 24) dX10_beginsRun_24 (by decide) ?_
      exact V_zret (pc := 25) dX10_beginsRun_25 (Nat.le_of_ble_eq_true rfl) (Nat.le_of_ble_eq_true rfl) (Or.inl rfl) (hB _ _ ⟨congrArg (fun z => some (Value.int z)) (by first | exact (bI_t (show brX b_ i_ from Or.inr (fun z => h17 ((lg_cmp_eq _ _).mpr z)))).symm | exact (bI_f (show ¬ brX b_ i_ from fun h => h.elim h1 (fun z => z ((lg_cmp_eq _ _).mp h17)))).symm), by rfl⟩)
    · skip
      refine V_iconst (v := 1) (pc := 20) dX10_beginsRun_20 (by decide) ?_
      refine V_goto (pc := 21) (tgt := 25) dX10_beginsRun_21 (by decide) ?_
      exact V_zret (pc := 25) dX10_beginsRun_25 (Nat.le_of_ble_eq_true rfl) (Nat.le_of_ble_eq_true rfl) (Or.inr rfl) (hB _ _ ⟨congrArg (fun z => some (Value.int z)) (by first | exact (bI_t (show brX b_ i_ from Or.inr (fun z => h17 ((lg_cmp_eq _ _).mpr z)))).symm | exact (bI_f (show ¬ brX b_ i_ from fun h => h.elim h1 (fun z => z ((lg_cmp_eq _ _).mp h17)))).symm), by rfl⟩)
set_option maxHeartbeats 4000000 in
set_option maxRecDepth 100000 in
theorem c_X10_runLength (Z : VZ) (S : XS) (q_ : Nat) (b_ : Int64) (n_ : Int32) (hq : q_ ≤ n_.toNatClampNeg) : CtF XW Z yX10_runLength cX10_runLength 7 (some .int) 0 0 0 [.long b_, .int n_, .int (nI q_)] (S) (some (.int (nI (rlX b_ n_.toNatClampNeg q_)))) (S) := by
  refine V_entry (own := RX10) (by decide) rfl (Nat.le_of_ble_eq_true rfl) ?_
  intro B hB
  refine V_sub (L' := [(0, .long b_), (2, .int n_), (3, .int (nI q_))]) [0, 1, 2] rfl ?_
  refine V_lload_n (pc := 0) dX10_runLength_0 0 rfl rfl ?_
  refine V_iload_n (pc := 1) dX10_runLength_1 2 rfl rfl ?_
  refine V_lushr (pc := 2) dX10_runLength_2 rfl ?_
  refine V_lconst (v := 1) (pc := 3) dX10_runLength_3 (by decide) ?_
  refine V_land (pc := 4) dX10_runLength_4 ?_
  refine V_lstore (pc := 5) (L2 := [(0, .long b_), (2, .int n_), (3, .int (nI q_))]) dX10_runLength_5 (by decide) rfl (fun x4_5 ex4_5 => ?_)
  subst ex4_5
  refine V_iload_n (pc := 7) dX10_runLength_7 3 rfl rfl ?_
  refine V_istore (pc := 8) (L2 := [(4, .long ((Int64.toUInt64 b_ >>> ((Int32.toInt64 (nI q_)).toUInt64 &&& Int64.toUInt64 63)).toInt64 &&& 1)), (0, .long b_), (2, .int n_), (3, .int (nI q_))]) dX10_runLength_8 (by decide) rfl (fun x6_8 ex6_8 => ?_)
  subst ex6_8
  refine V_sub (L' := [(6, .int (nI q_)), (4, .long ((Int64.toUInt64 b_ >>> ((Int32.toInt64 (nI q_)).toUInt64 &&& Int64.toUInt64 63)).toInt64 &&& 1)), (0, .long b_), (2, .int n_), (3, .int (nI q_))]) [0, 1, 2, 3, 4] rfl ?_
  refine Vloop (σ := Nat) (fun x => q_ ≤ x ∧ x ≤ n_.toNatClampNeg ∧ (x - q_) + rlL b_ (lbt b_ (nI q_)) n_.toNatClampNeg (n_.toNatClampNeg - x) x = rlX b_ n_.toNatClampNeg q_) (fun x => n_.toNatClampNeg - x) (fun x => V XW Z cX10_runLength RX10 7 (some .int) 0 0 0 B 0 0 10 [(6, .int (nI x)), (4, .long ((Int64.toUInt64 b_ >>> ((Int32.toInt64 (nI q_)).toUInt64 &&& Int64.toUInt64 63)).toInt64 &&& 1)), (0, .long b_), (2, .int n_), (3, .int (nI q_))] [] (S)) ?_ q_ (by exact ⟨Nat.le_refl _, hq, by rw [Nat.sub_self, Nat.zero_add]; rfl⟩)
  rintro j hI10 ih10
  have hI10 : q_ ≤ j ∧ j ≤ n_.toNatClampNeg ∧ (j - q_) + rlL b_ (lbt b_ (nI q_)) n_.toNatClampNeg (n_.toNatClampNeg - j) j = rlX b_ n_.toNatClampNeg q_ := hI10
  show V XW Z cX10_runLength RX10 7 (some .int) 0 0 0 B 0 0 10 [(6, .int (nI j)), (4, .long ((Int64.toUInt64 b_ >>> ((Int32.toInt64 (nI q_)).toUInt64 &&& Int64.toUInt64 63)).toInt64 &&& 1)), (0, .long b_), (2, .int n_), (3, .int (nI q_))] [] (S)
  refine V_iload (pc := 10) dX10_runLength_10 0 rfl ?_
  refine V_iload_n (pc := 12) dX10_runLength_12 3 rfl rfl ?_
  refine V_icmp_ge (pc := 13) (tgt := 34) dX10_runLength_13 (by decide) (fun h13 => ?_) (fun h13 => ?_)
  · skip
    have hj : n_.toNatClampNeg ≤ j := jge h13 (Nat.lt_of_le_of_lt hI10.2.1 (clampLt _))
    have ez : rlL b_ (lbt b_ (nI q_)) n_.toNatClampNeg (n_.toNatClampNeg - j) j = 0 := by rw [show n_.toNatClampNeg - j = 0 by omega]; rfl
    refine V_iload (pc := 34) dX10_runLength_34 0 rfl ?_
    refine V_iload_n (pc := 36) dX10_runLength_36 4 rfl rfl ?_
    refine V_isub (pc := 37) dX10_runLength_37 ?_
    exact V_iret (pc := 38) dX10_runLength_38 (Nat.le_of_ble_eq_true rfl) (Nat.le_of_ble_eq_true rfl) (hB _ _ ⟨congrArg (fun z => some (Value.int z)) (by rw [pk_sub hI10.1, ← hI10.2.2, ez, Nat.add_zero]), by rfl⟩)
  · skip
    have hj : j < n_.toNatClampNeg := jlt h13 (Nat.lt_of_le_of_lt hI10.2.1 (clampLt _))
    refine V_lload_n (pc := 16) dX10_runLength_16 2 rfl rfl ?_
    refine V_iload (pc := 17) dX10_runLength_17 0 rfl ?_
    refine V_lushr (pc := 19) dX10_runLength_19 rfl ?_
    refine V_lconst (v := 1) (pc := 20) dX10_runLength_20 (by decide) ?_
    refine V_land (pc := 21) dX10_runLength_21 ?_
    refine V_lload (pc := 22) dX10_runLength_22 1 rfl ?_
    refine V_lcmp (pc := 24) dX10_runLength_24 ?_
    refine V_if_ne (pc := 25) (tgt := 34) dX10_runLength_25 (by decide) (fun h25 => ?_) (fun h25 => ?_)
    · skip
      have ez : rlL b_ (lbt b_ (nI q_)) n_.toNatClampNeg (n_.toNatClampNeg - j) j = 0 := by
        rw [show n_.toNatClampNeg - j = n_.toNatClampNeg - (j + 1) + 1 by omega]
        simp only [rlL]
        rw [if_neg (fun h => h25 ((lg_cmp_eq _ _).mpr h.2))]
      refine V_iload (pc := 34) dX10_runLength_34 0 rfl ?_
      refine V_iload_n (pc := 36) dX10_runLength_36 4 rfl rfl ?_
      refine V_isub (pc := 37) dX10_runLength_37 ?_
      exact V_iret (pc := 38) dX10_runLength_38 (Nat.le_of_ble_eq_true rfl) (Nat.le_of_ble_eq_true rfl) (hB _ _ ⟨congrArg (fun z => some (Value.int z)) (by rw [pk_sub hI10.1, ← hI10.2.2, ez, Nat.add_zero]), by rfl⟩)
    · skip
      refine V_iinc (pc := 28) (v := 1) (L2 := [(4, .long ((Int64.toUInt64 b_ >>> ((Int32.toInt64 (nI q_)).toUInt64 &&& Int64.toUInt64 63)).toInt64 &&& 1)), (0, .long b_), (2, .int n_), (3, .int (nI q_))]) dX10_runLength_28 0 rfl (by decide) (by decide) rfl (fun x6_28 ex6_28 => ?_)
      rw [nI_1] at ex6_28
      subst ex6_28
      refine V_goto (pc := 31) (tgt := 10) dX10_runLength_31 (by decide) ?_
      refine V_sub (L' := [(6, .int (nI (j + 1))), (4, .long ((Int64.toUInt64 b_ >>> ((Int32.toInt64 (nI q_)).toUInt64 &&& Int64.toUInt64 63)).toInt64 &&& 1)), (0, .long b_), (2, .int n_), (3, .int (nI q_))]) [0, 1, 2, 3, 4] rfl ?_
      refine ih10 ((j + 1)) ?_ ?_
      · show q_ ≤ ((j + 1)) ∧ ((j + 1)) ≤ n_.toNatClampNeg ∧ (((j + 1)) - q_) + rlL b_ (lbt b_ (nI q_)) n_.toNatClampNeg (n_.toNatClampNeg - ((j + 1))) ((j + 1)) = rlX b_ n_.toNatClampNeg q_
        refine ⟨by omega, hj, ?_⟩
        rw [← hI10.2.2, show n_.toNatClampNeg - j = n_.toNatClampNeg - (j + 1) + 1 by omega]
        simp only [rlL]
        rw [if_pos ⟨hj, (lg_cmp_eq _ _).mp h25⟩]
        omega
      · show n_.toNatClampNeg - (j + 1) < n_.toNatClampNeg - j
        omega
set_option maxHeartbeats 4000000 in
set_option maxRecDepth 100000 in
theorem c_X10_runsOf (Z : VZ) (S : XS) (b_ : Int64) (n_ : Int32) (v_ : Int32) (g_ : Int32) : CtF XW Z yX10_runsOf cX10_runsOf 7 (some .int) 1 0 0 [.long b_, .int n_, .int v_, .int g_] (S) (some (.int (rsX b_ n_.toNatClampNeg v_ g_ n_.toNatClampNeg))) (S) := by
  refine V_entry (own := RX10) (by decide) rfl (Nat.le_of_ble_eq_true rfl) ?_
  intro B hB
  refine V_sub (L' := [(0, .long b_), (2, .int n_), (3, .int v_), (4, .int g_)]) [0, 1, 2, 3] rfl ?_
  refine V_iconst (v := 0) (pc := 0) dX10_runsOf_0 (by decide) ?_
  refine V_istore (pc := 1) (L2 := [(0, .long b_), (2, .int n_), (3, .int v_), (4, .int g_)]) dX10_runsOf_1 (by decide) rfl (fun x5_1 ex5_1 => ?_)
  subst ex5_1
  refine V_iconst (v := 0) (pc := 3) dX10_runsOf_3 (by decide) ?_
  refine V_istore (pc := 4) (L2 := [(5, .int 0), (0, .long b_), (2, .int n_), (3, .int v_), (4, .int g_)]) dX10_runsOf_4 (by decide) rfl (fun x6_4 ex6_4 => ?_)
  subst ex6_4
  refine V_sub (L' := [(6, .int (nI 0)), (5, .int 0), (0, .long b_), (2, .int n_), (3, .int v_), (4, .int g_)]) [0, 1, 2, 3, 4, 5] rfl ?_
  refine Vloop (σ := Nat × Int32) (fun x => (x.1) ≤ n_.toNatClampNeg ∧ (x.2) = rsX b_ n_.toNatClampNeg v_ g_ (x.1)) (fun x => n_.toNatClampNeg - (x.1)) (fun x => V XW Z cX10_runsOf RX10 7 (some .int) 1 0 0 B 0 0 6 [(6, .int (nI (x.1))), (5, .int (x.2)), (0, .long b_), (2, .int n_), (3, .int v_), (4, .int g_)] [] (S)) ?_ (0, 0) (by exact ⟨Nat.zero_le _, rfl⟩)
  rintro ⟨j, u⟩ hI6 ih6
  have hI6 : j ≤ n_.toNatClampNeg ∧ u = rsX b_ n_.toNatClampNeg v_ g_ j := hI6
  show V XW Z cX10_runsOf RX10 7 (some .int) 1 0 0 B 0 0 6 [(6, .int (nI j)), (5, .int u), (0, .long b_), (2, .int n_), (3, .int v_), (4, .int g_)] [] (S)
  refine V_iload (pc := 6) dX10_runsOf_6 0 rfl ?_
  refine V_iload_n (pc := 8) dX10_runsOf_8 3 rfl rfl ?_
  refine V_icmp_ge (pc := 9) (tgt := 54) dX10_runsOf_9 (by decide) (fun h9 => ?_) (fun h9 => ?_)
  · skip
    have hj : n_.toNatClampNeg ≤ j := jge h9 (Nat.lt_of_le_of_lt hI6.1 (clampLt _))
    have ej : j = n_.toNatClampNeg := Nat.le_antisymm hI6.1 hj
    refine V_iload (pc := 54) dX10_runsOf_54 1 rfl ?_
    exact V_iret (pc := 56) dX10_runsOf_56 (Nat.le_of_ble_eq_true rfl) (Nat.le_of_ble_eq_true rfl) (hB _ _ ⟨congrArg (fun z => some (Value.int z)) (by rw [hI6.2, ej]), by rfl⟩)
  · skip
    have hj : j < n_.toNatClampNeg := jlt h9 (Nat.lt_of_le_of_lt hI6.1 (clampLt _))
    refine V_lload_n (pc := 12) dX10_runsOf_12 2 rfl rfl ?_
    refine V_iload (pc := 13) dX10_runsOf_13 0 rfl ?_
    refine V_callSi (pc := 15) dX10_runsOf_15 (c_X10_beginsRun Z _ _ _) kX10_350 rfl (Nat.le_of_ble_eq_true rfl) (by decide) (by decide) (Nat.le_of_ble_eq_true rfl) (Nat.le_of_ble_eq_true rfl) ?_
    refine V_bif_eq (pc := 18) (tgt := 48) dX10_runsOf_18 (by decide) (fun h18 => ?_) (fun h18 => ?_)
    · skip
      refine V_iinc (pc := 48) (v := 1) (L2 := [(5, .int u), (0, .long b_), (2, .int n_), (3, .int v_), (4, .int g_)]) dX10_runsOf_48 0 rfl (by decide) (by decide) rfl (fun x6_48 ex6_48 => ?_)
      rw [nI_1] at ex6_48
      subst ex6_48
      refine V_goto (pc := 51) (tgt := 6) dX10_runsOf_51 (by decide) ?_
      refine V_sub (L' := [(6, .int (nI (j + 1))), (5, .int u), (0, .long b_), (2, .int n_), (3, .int v_), (4, .int g_)]) [0, 1, 2, 3, 4, 5] rfl ?_
      refine ih6 (((j + 1)), _) ?_ ?_
      · show ((j + 1)) ≤ n_.toNatClampNeg ∧ (u) = rsX b_ n_.toNatClampNeg v_ g_ ((j + 1))
        refine ⟨hj, ?_⟩
        rw [hI6.2]
        first | exact (if_pos ⟨h18, (lg_cmp_eq _ _).mp h30, h42⟩).symm | exact (if_neg (fun h => h18 h.1)).symm | exact (if_neg (fun h => h30 ((lg_cmp_eq _ _).mpr h.2.1))).symm | exact (if_neg (fun h => h42 h.2.2)).symm
      · show n_.toNatClampNeg - (j + 1) < n_.toNatClampNeg - j
        omega
    · skip
      refine V_lload_n (pc := 21) dX10_runsOf_21 2 rfl rfl ?_
      refine V_iload (pc := 22) dX10_runsOf_22 0 rfl ?_
      refine V_lushr (pc := 24) dX10_runsOf_24 rfl ?_
      refine V_lconst (v := 1) (pc := 25) dX10_runsOf_25 (by decide) ?_
      refine V_land (pc := 26) dX10_runsOf_26 ?_
      refine V_iload_n (pc := 27) dX10_runsOf_27 4 rfl rfl ?_
      refine V_i2l (pc := 28) dX10_runsOf_28 rfl ?_
      refine V_lcmp (pc := 29) dX10_runsOf_29 ?_
      refine V_if_ne (pc := 30) (tgt := 48) dX10_runsOf_30 (by decide) (fun h30 => ?_) (fun h30 => ?_)
      · skip
        refine V_iinc (pc := 48) (v := 1) (L2 := [(5, .int u), (0, .long b_), (2, .int n_), (3, .int v_), (4, .int g_)]) dX10_runsOf_48 0 rfl (by decide) (by decide) rfl (fun x6_48 ex6_48 => ?_)
        rw [nI_1] at ex6_48
        subst ex6_48
        refine V_goto (pc := 51) (tgt := 6) dX10_runsOf_51 (by decide) ?_
        refine V_sub (L' := [(6, .int (nI (j + 1))), (5, .int u), (0, .long b_), (2, .int n_), (3, .int v_), (4, .int g_)]) [0, 1, 2, 3, 4, 5] rfl ?_
        refine ih6 (((j + 1)), _) ?_ ?_
        · show ((j + 1)) ≤ n_.toNatClampNeg ∧ (u) = rsX b_ n_.toNatClampNeg v_ g_ ((j + 1))
          refine ⟨hj, ?_⟩
          rw [hI6.2]
          first | exact (if_pos ⟨h18, (lg_cmp_eq _ _).mp h30, h42⟩).symm | exact (if_neg (fun h => h18 h.1)).symm | exact (if_neg (fun h => h30 ((lg_cmp_eq _ _).mpr h.2.1))).symm | exact (if_neg (fun h => h42 h.2.2)).symm
        · show n_.toNatClampNeg - (j + 1) < n_.toNatClampNeg - j
          omega
      · skip
        refine V_lload_n (pc := 33) dX10_runsOf_33 2 rfl rfl ?_
        refine V_iload_n (pc := 34) dX10_runsOf_34 3 rfl rfl ?_
        refine V_iload (pc := 35) dX10_runsOf_35 0 rfl ?_
        refine V_callSi (pc := 37) dX10_runsOf_37 (c_X10_runLength Z _ _ _ _ (by exact Nat.le_of_lt hj)) kX10_354 rfl (Nat.le_of_ble_eq_true rfl) (by decide) (by decide) (Nat.le_of_ble_eq_true rfl) (Nat.le_of_ble_eq_true rfl) ?_
        refine V_iload (pc := 40) dX10_runsOf_40 5 rfl ?_
        refine V_icmp_ne (pc := 42) (tgt := 48) dX10_runsOf_42 (by decide) (fun h42 => ?_) (fun h42 => ?_)
        · skip
          refine V_iinc (pc := 48) (v := 1) (L2 := [(5, .int u), (0, .long b_), (2, .int n_), (3, .int v_), (4, .int g_)]) dX10_runsOf_48 0 rfl (by decide) (by decide) rfl (fun x6_48 ex6_48 => ?_)
          rw [nI_1] at ex6_48
          subst ex6_48
          refine V_goto (pc := 51) (tgt := 6) dX10_runsOf_51 (by decide) ?_
          refine V_sub (L' := [(6, .int (nI (j + 1))), (5, .int u), (0, .long b_), (2, .int n_), (3, .int v_), (4, .int g_)]) [0, 1, 2, 3, 4, 5] rfl ?_
          refine ih6 (((j + 1)), _) ?_ ?_
          · show ((j + 1)) ≤ n_.toNatClampNeg ∧ (u) = rsX b_ n_.toNatClampNeg v_ g_ ((j + 1))
            refine ⟨hj, ?_⟩
            rw [hI6.2]
            first | exact (if_pos ⟨h18, (lg_cmp_eq _ _).mp h30, h42⟩).symm | exact (if_neg (fun h => h18 h.1)).symm | exact (if_neg (fun h => h30 ((lg_cmp_eq _ _).mpr h.2.1))).symm | exact (if_neg (fun h => h42 h.2.2)).symm
          · show n_.toNatClampNeg - (j + 1) < n_.toNatClampNeg - j
            omega
        · skip
          refine V_iinc (pc := 45) (v := 1) (L2 := [(6, .int (nI j)), (0, .long b_), (2, .int n_), (3, .int v_), (4, .int g_)]) dX10_runsOf_45 1 rfl (by decide) (by decide) rfl (fun x5_45 ex5_45 => ?_)
          subst ex5_45
          refine V_iinc (pc := 48) (v := 1) (L2 := [(5, .int (u + 1)), (0, .long b_), (2, .int n_), (3, .int v_), (4, .int g_)]) dX10_runsOf_48 1 rfl (by decide) (by decide) rfl (fun x6_48 ex6_48 => ?_)
          rw [nI_1] at ex6_48
          subst ex6_48
          refine V_goto (pc := 51) (tgt := 6) dX10_runsOf_51 (by decide) ?_
          refine V_sub (L' := [(6, .int (nI (j + 1))), (5, .int (u + 1)), (0, .long b_), (2, .int n_), (3, .int v_), (4, .int g_)]) [0, 1, 2, 3, 4, 5] rfl ?_
          refine ih6 (((j + 1)), _) ?_ ?_
          · show ((j + 1)) ≤ n_.toNatClampNeg ∧ ((u + 1)) = rsX b_ n_.toNatClampNeg v_ g_ ((j + 1))
            refine ⟨hj, ?_⟩
            rw [hI6.2]
            first | exact (if_pos ⟨h18, (lg_cmp_eq _ _).mp h30, h42⟩).symm | exact (if_neg (fun h => h18 h.1)).symm | exact (if_neg (fun h => h30 ((lg_cmp_eq _ _).mpr h.2.1))).symm | exact (if_neg (fun h => h42 h.2.2)).symm
          · show n_.toNatClampNeg - (j + 1) < n_.toNatClampNeg - j
            omega
set_option maxHeartbeats 4000000 in
set_option maxRecDepth 100000 in
theorem c_X10_unlikeRuns (Z : VZ) (S : XS) (b_ : Int64) (n_ : Int32) : CtF XW Z yX10_unlikeRuns cX10_unlikeRuns 10 (some .int) 1 0 0 [.long b_, .int n_] (S) (some (.int (lbc (urX b_ n_.toNatClampNeg n_.toNatClampNeg).1 + lbc (urX b_ n_.toNatClampNeg n_.toNatClampNeg).2))) (S) := by
  refine V_entry (own := RX10) (by decide) rfl (Nat.le_of_ble_eq_true rfl) ?_
  intro B hB
  refine V_sub (L' := [(0, .long b_), (2, .int n_)]) [0, 1] rfl ?_
  refine V_lconst (v := 0) (pc := 0) dX10_unlikeRuns_0 (by decide) ?_
  refine V_lstore_n (pc := 1) (L2 := [(0, .long b_), (2, .int n_)]) dX10_unlikeRuns_1 rfl (by decide) rfl (fun x3_1 ex3_1 => ?_)
  subst ex3_1
  refine V_lconst (v := 0) (pc := 2) dX10_unlikeRuns_2 (by decide) ?_
  refine V_lstore (pc := 3) (L2 := [(3, .long 0), (0, .long b_), (2, .int n_)]) dX10_unlikeRuns_3 (by decide) rfl (fun x5_3 ex5_3 => ?_)
  subst ex5_3
  refine V_iconst (v := 0) (pc := 5) dX10_unlikeRuns_5 (by decide) ?_
  refine V_istore (pc := 6) (L2 := [(5, .long 0), (3, .long 0), (0, .long b_), (2, .int n_)]) dX10_unlikeRuns_6 (by decide) rfl (fun x7_6 ex7_6 => ?_)
  subst ex7_6
  refine V_sub (L' := [(7, .int (nI 0)), (5, .long 0), (3, .long 0), (0, .long b_), (2, .int n_)]) [0, 1, 2, 3, 4] rfl ?_
  refine Vloop (σ := Nat × Int64 × Int64) (fun x => (x.1) ≤ n_.toNatClampNeg ∧ (x.2.2) = (urX b_ n_.toNatClampNeg (x.1)).1 ∧ (x.2.1) = (urX b_ n_.toNatClampNeg (x.1)).2) (fun x => n_.toNatClampNeg - (x.1)) (fun x => V XW Z cX10_unlikeRuns RX10 10 (some .int) 1 0 0 B 0 0 8 [(7, .int (nI (x.1))), (5, .long (x.2.1)), (3, .long (x.2.2)), (0, .long b_), (2, .int n_)] [] (S)) ?_ (0, 0, 0) (by exact ⟨Nat.zero_le _, rfl, rfl⟩)
  rintro ⟨j, y_, u⟩ hI8 ih8
  have hI8 : j ≤ n_.toNatClampNeg ∧ u = (urX b_ n_.toNatClampNeg j).1 ∧ y_ = (urX b_ n_.toNatClampNeg j).2 := hI8
  show V XW Z cX10_unlikeRuns RX10 10 (some .int) 1 0 0 B 0 0 8 [(7, .int (nI j)), (5, .long y_), (3, .long u), (0, .long b_), (2, .int n_)] [] (S)
  refine V_iload (pc := 8) dX10_unlikeRuns_8 0 rfl ?_
  refine V_iload_n (pc := 10) dX10_unlikeRuns_10 4 rfl rfl ?_
  refine V_icmp_ge (pc := 11) (tgt := 69) dX10_unlikeRuns_11 (by decide) (fun h11 => ?_) (fun h11 => ?_)
  · skip
    have hj : n_.toNatClampNeg ≤ j := jge h11 (Nat.lt_of_le_of_lt hI8.1 (clampLt _))
    have ej : j = n_.toNatClampNeg := Nat.le_antisymm hI8.1 hj
    refine V_lload_n (pc := 69) dX10_unlikeRuns_69 2 rfl rfl ?_
    refine V_callSi (pc := 70) dX10_unlikeRuns_70 (c_J13_bitCount_95d88 Z _ _) kX10_358 rfl (Nat.le_of_ble_eq_true rfl) (by decide) (by decide) (Nat.le_of_ble_eq_true rfl) (Nat.le_of_ble_eq_true rfl) ?_
    refine V_lload (pc := 73) dX10_unlikeRuns_73 1 rfl ?_
    refine V_callSi (pc := 75) dX10_unlikeRuns_75 (c_J13_bitCount_95d88 Z _ _) kX10_358 rfl (Nat.le_of_ble_eq_true rfl) (by decide) (by decide) (Nat.le_of_ble_eq_true rfl) (Nat.le_of_ble_eq_true rfl) ?_
    refine V_iadd (pc := 78) dX10_unlikeRuns_78 ?_
    exact V_iret (pc := 79) dX10_unlikeRuns_79 (Nat.le_of_ble_eq_true rfl) (Nat.le_of_ble_eq_true rfl) (hB _ _ ⟨congrArg (fun z => some (Value.int z)) (by rw [hI8.2.1, hI8.2.2, ej]), by rfl⟩)
  · skip
    have hj : j < n_.toNatClampNeg := jlt h11 (Nat.lt_of_le_of_lt hI8.1 (clampLt _))
    refine V_lload_n (pc := 14) dX10_unlikeRuns_14 3 rfl rfl ?_
    refine V_iload (pc := 15) dX10_unlikeRuns_15 0 rfl ?_
    refine V_callSi (pc := 17) dX10_unlikeRuns_17 (c_X10_beginsRun Z _ _ _) kX10_350 rfl (Nat.le_of_ble_eq_true rfl) (by decide) (by decide) (Nat.le_of_ble_eq_true rfl) (Nat.le_of_ble_eq_true rfl) ?_
    refine V_bif_ne (pc := 20) (tgt := 26) dX10_unlikeRuns_20 (by decide) (fun h20 => ?_) (fun h20 => ?_)
    · skip
      refine V_lconst (v := 1) (pc := 26) dX10_unlikeRuns_26 (by decide) ?_
      refine V_lload_n (pc := 27) dX10_unlikeRuns_27 3 rfl rfl ?_
      refine V_iload_n (pc := 28) dX10_unlikeRuns_28 4 rfl rfl ?_
      refine V_iload (pc := 29) dX10_unlikeRuns_29 0 rfl ?_
      refine V_callSi (pc := 31) dX10_unlikeRuns_31 (c_X10_runLength Z _ _ _ _ (by exact Nat.le_of_lt hj)) kX10_354 rfl (Nat.le_of_ble_eq_true rfl) (by decide) (by decide) (Nat.le_of_ble_eq_true rfl) (Nat.le_of_ble_eq_true rfl) ?_
      refine V_lshl (pc := 34) dX10_unlikeRuns_34 rfl ?_
      refine V_lstore (pc := 35) (L2 := [(7, .int (nI j)), (5, .long y_), (3, .long u), (0, .long b_), (2, .int n_)]) dX10_unlikeRuns_35 (by decide) rfl (fun x8_35 ex8_35 => ?_)
      subst ex8_35
      refine V_lload_n (pc := 37) dX10_unlikeRuns_37 4 rfl rfl ?_
      refine V_iload (pc := 38) dX10_unlikeRuns_38 1 rfl ?_
      refine V_lushr (pc := 40) dX10_unlikeRuns_40 rfl ?_
      refine V_lconst (v := 1) (pc := 41) dX10_unlikeRuns_41 (by decide) ?_
      refine V_land (pc := 42) dX10_unlikeRuns_42 ?_
      refine V_lconst (v := 1) (pc := 43) dX10_unlikeRuns_43 (by decide) ?_
      refine V_lcmp (pc := 44) dX10_unlikeRuns_44 ?_
      refine V_if_ne (pc := 45) (tgt := 58) dX10_unlikeRuns_45 (by decide) (fun h45 => ?_) (fun h45 => ?_)
      · skip
        refine V_lload_n (pc := 58) dX10_unlikeRuns_58 3 rfl rfl ?_
        refine V_lload (pc := 59) dX10_unlikeRuns_59 0 rfl ?_
        refine V_lor (pc := 61) dX10_unlikeRuns_61 ?_
        refine V_lstore_n (pc := 62) (L2 := [(8, .long (1 <<< (Int32.toInt64 (nI (rlX b_ n_.toNatClampNeg j)) &&& 63))), (7, .int (nI j)), (5, .long y_), (0, .long b_), (2, .int n_)]) dX10_unlikeRuns_62 rfl (by decide) rfl (fun x3_62 ex3_62 => ?_)
        subst ex3_62
        refine V_iinc (pc := 63) (v := 1) (L2 := [(3, .long (u ||| (1 <<< (Int32.toInt64 (nI (rlX b_ n_.toNatClampNeg j)) &&& 63)))), (8, .long (1 <<< (Int32.toInt64 (nI (rlX b_ n_.toNatClampNeg j)) &&& 63))), (5, .long y_), (0, .long b_), (2, .int n_)]) dX10_unlikeRuns_63 2 rfl (by decide) (by decide) rfl (fun x7_63 ex7_63 => ?_)
        rw [nI_1] at ex7_63
        subst ex7_63
        refine V_goto (pc := 66) (tgt := 8) dX10_unlikeRuns_66 (by decide) ?_
        refine V_sub (L' := [(7, .int (nI (j + 1))), (5, .long y_), (3, .long (u ||| (1 <<< (Int32.toInt64 (nI (rlX b_ n_.toNatClampNeg j)) &&& 63)))), (0, .long b_), (2, .int n_)]) [0, 3, 1, 4, 5] rfl ?_
        refine ih8 (((j + 1)), _, _) ?_ ?_
        · show ((j + 1)) ≤ n_.toNatClampNeg ∧ ((u ||| (1 <<< (Int32.toInt64 (nI (rlX b_ n_.toNatClampNeg j)) &&& 63)))) = (urX b_ n_.toNatClampNeg ((j + 1))).1 ∧ (y_) = (urX b_ n_.toNatClampNeg ((j + 1))).2
          obtain ⟨_, k1, k2⟩ := hI8
          rw [k1, k2]
          simp only [urX, it]
          first | (rw [if_neg h20]; exact ⟨hj, rfl, rfl⟩) | (rw [if_pos h20, if_pos ((lg_cmp_eq _ _).mp h45)]; exact ⟨hj, rfl, rfl⟩) | (rw [if_pos h20, if_neg (fun z => h45 ((lg_cmp_eq _ _).mpr z))]; exact ⟨hj, rfl, rfl⟩)
        · show n_.toNatClampNeg - (j + 1) < n_.toNatClampNeg - j
          omega
      · skip
        refine V_lload (pc := 48) dX10_unlikeRuns_48 2 rfl ?_
        refine V_lload (pc := 50) dX10_unlikeRuns_50 0 rfl ?_
        refine V_lor (pc := 52) dX10_unlikeRuns_52 ?_
        refine V_lstore (pc := 53) (L2 := [(8, .long (1 <<< (Int32.toInt64 (nI (rlX b_ n_.toNatClampNeg j)) &&& 63))), (7, .int (nI j)), (3, .long u), (0, .long b_), (2, .int n_)]) dX10_unlikeRuns_53 (by decide) rfl (fun x5_53 ex5_53 => ?_)
        subst ex5_53
        refine V_goto (pc := 55) (tgt := 63) dX10_unlikeRuns_55 (by decide) ?_
        refine V_iinc (pc := 63) (v := 1) (L2 := [(5, .long (y_ ||| (1 <<< (Int32.toInt64 (nI (rlX b_ n_.toNatClampNeg j)) &&& 63)))), (8, .long (1 <<< (Int32.toInt64 (nI (rlX b_ n_.toNatClampNeg j)) &&& 63))), (3, .long u), (0, .long b_), (2, .int n_)]) dX10_unlikeRuns_63 2 rfl (by decide) (by decide) rfl (fun x7_63 ex7_63 => ?_)
        rw [nI_1] at ex7_63
        subst ex7_63
        refine V_goto (pc := 66) (tgt := 8) dX10_unlikeRuns_66 (by decide) ?_
        refine V_sub (L' := [(7, .int (nI (j + 1))), (5, .long (y_ ||| (1 <<< (Int32.toInt64 (nI (rlX b_ n_.toNatClampNeg j)) &&& 63)))), (3, .long u), (0, .long b_), (2, .int n_)]) [0, 1, 3, 4, 5] rfl ?_
        refine ih8 (((j + 1)), _, _) ?_ ?_
        · show ((j + 1)) ≤ n_.toNatClampNeg ∧ (u) = (urX b_ n_.toNatClampNeg ((j + 1))).1 ∧ ((y_ ||| (1 <<< (Int32.toInt64 (nI (rlX b_ n_.toNatClampNeg j)) &&& 63)))) = (urX b_ n_.toNatClampNeg ((j + 1))).2
          obtain ⟨_, k1, k2⟩ := hI8
          rw [k1, k2]
          simp only [urX, it]
          first | (rw [if_neg h20]; exact ⟨hj, rfl, rfl⟩) | (rw [if_pos h20, if_pos ((lg_cmp_eq _ _).mp h45)]; exact ⟨hj, rfl, rfl⟩) | (rw [if_pos h20, if_neg (fun z => h45 ((lg_cmp_eq _ _).mpr z))]; exact ⟨hj, rfl, rfl⟩)
        · show n_.toNatClampNeg - (j + 1) < n_.toNatClampNeg - j
          omega
    · skip
      refine V_goto (pc := 23) (tgt := 63) dX10_unlikeRuns_23 (by decide) ?_
      refine V_iinc (pc := 63) (v := 1) (L2 := [(5, .long y_), (3, .long u), (0, .long b_), (2, .int n_)]) dX10_unlikeRuns_63 0 rfl (by decide) (by decide) rfl (fun x7_63 ex7_63 => ?_)
      rw [nI_1] at ex7_63
      subst ex7_63
      refine V_goto (pc := 66) (tgt := 8) dX10_unlikeRuns_66 (by decide) ?_
      refine V_sub (L' := [(7, .int (nI (j + 1))), (5, .long y_), (3, .long u), (0, .long b_), (2, .int n_)]) [0, 1, 2, 3, 4] rfl ?_
      refine ih8 (((j + 1)), _, _) ?_ ?_
      · show ((j + 1)) ≤ n_.toNatClampNeg ∧ (u) = (urX b_ n_.toNatClampNeg ((j + 1))).1 ∧ (y_) = (urX b_ n_.toNatClampNeg ((j + 1))).2
        obtain ⟨_, k1, k2⟩ := hI8
        rw [k1, k2]
        simp only [urX, it]
        first | (rw [if_neg h20]; exact ⟨hj, rfl, rfl⟩) | (rw [if_pos h20, if_pos ((lg_cmp_eq _ _).mp h45)]; exact ⟨hj, rfl, rfl⟩) | (rw [if_pos h20, if_neg (fun z => h45 ((lg_cmp_eq _ _).mpr z))]; exact ⟨hj, rfl, rfl⟩)
      · show n_.toNatClampNeg - (j + 1) < n_.toNatClampNeg - j
        omega
set_option maxHeartbeats 4000000 in
set_option maxRecDepth 100000 in
theorem c_X10_windows (Z : VZ) (S : XS) (a_ : Int32) (w_ : Int32) (v_ : Int32) (hz : zOK S) : CtF XW Z yX10_windows cX10_windows 5 (some .int) 2 0 0 [.ref (Z.2.2.2 99), .int a_, .int w_, .int v_] (S) (some (.int (if ((0 ≤ a_ ∧ a_ ≤ 3) ∧ (1 ≤ w_ ∧ w_ ≤ 8) ∧ (0 ≤ v_ ∧ v_ ≤ 2)) then (if (S.1 (10 + a_.toNatClampNeg) = -1) then -11 else if v_ = 0 then (cwL (btL (S.2.2.1 (20 + a_.toNatClampNeg)) (S.1 (20 + a_.toNatClampNeg)).toNatClampNeg) (1 <<< (w_ &&& 31) - 1) (S.1 (20 + a_.toNatClampNeg) - w_ + 1).toNatClampNeg (S.1 (20 + a_.toNatClampNeg) - w_ + 1).toNatClampNeg).1 else if v_ = 1 then (cwL (btL (S.2.2.1 (20 + a_.toNatClampNeg)) (S.1 (20 + a_.toNatClampNeg)).toNatClampNeg) (1 <<< (w_ &&& 31) - 1) (S.1 (20 + a_.toNatClampNeg) - w_ + 1).toNatClampNeg (S.1 (20 + a_.toNatClampNeg) - w_ + 1).toNatClampNeg).2.1 else (cwL (btL (S.2.2.1 (20 + a_.toNatClampNeg)) (S.1 (20 + a_.toNatClampNeg)).toNatClampNeg) (1 <<< (w_ &&& 31) - 1) (S.1 (20 + a_.toNatClampNeg) - w_ + 1).toNatClampNeg (S.1 (20 + a_.toNatClampNeg) - w_ + 1).toNatClampNeg).2.2) else -2))) (S) := by
  refine V_entry (own := RX10) (by decide) rfl (Nat.le_of_ble_eq_true rfl) ?_
  intro B hB
  refine V_sub (L' := [(0, .ref (Z.2.2.2 99)), (1, .int a_), (2, .int w_), (3, .int v_)]) [0, 1, 2, 3] rfl ?_
  refine V_aload_n (pc := 0) dX10_windows_0 0 rfl rfl ?_
  refine V_iload_n (pc := 1) dX10_windows_1 1 rfl rfl ?_
  refine V_callV (q0 := 0) (ci := 10) (C := RX10) (T := TX10) (N := 9) (pc := 2) dX10_windows_2 (c_X10_sheetAt Z _ _) kX10_118 rfl rfl rfl rfl (Nat.le_of_ble_eq_true rfl) (by decide) (by decide) (Nat.le_of_ble_eq_true rfl) (Nat.le_of_ble_eq_true rfl) (fun v2 S2 hp2 => ?_)
  refine V_widen (n' := 0) (k' := 0) (Nat.le_refl _) (Nat.le_refl _) ?_
  obtain ⟨rfl, ⟨hv2, hs2, hi2, rfl⟩ | ⟨hno2, rfl⟩⟩ := hp2
  · skip
    refine V_astore (pc := 5) (L2 := [(0, .ref (Z.2.2.2 99)), (1, .int a_), (2, .int w_), (3, .int v_)]) dX10_windows_5 (by decide) rfl (fun x4_5 ex4_5 => ?_)
    subst ex4_5
    refine V_aload (pc := 7) dX10_windows_7 0 rfl ?_
    refine V_ifnull (pc := 9) dX10_windows_9 ?_
    refine V_iload_n (pc := 12) dX10_windows_12 3 rfl rfl ?_
    refine V_iconst (v := 1) (pc := 13) dX10_windows_13 (by decide) ?_
    refine V_bipush (v := 8) (pc := 14) dX10_windows_14 (by decide) ?_
    refine V_callSi (pc := 16) dX10_windows_16 (c_X10_between Z _ _ _ _) kX10_60 rfl (Nat.le_of_ble_eq_true rfl) (by decide) (by decide) (Nat.le_of_ble_eq_true rfl) (Nat.le_of_ble_eq_true rfl) ?_
    refine V_bif_eq (pc := 19) (tgt := 31) dX10_windows_19 (by decide) (fun h19 => ?_) (fun h19 => ?_)
    · skip
      refine V_bipush (v := (-2)) (pc := 31) dX10_windows_31 (by decide) ?_
      exact V_iret (pc := 33) dX10_windows_33 (Nat.le_of_ble_eq_true rfl) (Nat.le_of_ble_eq_true rfl) (hB _ _ ⟨congrArg (fun z => some (Value.int z)) (by first | exact (if_neg (fun h => hno2 h.1)).symm | exact (if_neg (fun h => h19 h.2.1)).symm | exact (if_neg (fun h => h28 h.2.2)).symm), by rfl⟩)
    · skip
      refine V_iload_n (pc := 22) dX10_windows_22 4 rfl rfl ?_
      refine V_iconst (v := 0) (pc := 23) dX10_windows_23 (by decide) ?_
      refine V_iconst (v := 2) (pc := 24) dX10_windows_24 (by decide) ?_
      refine V_callSi (pc := 25) dX10_windows_25 (c_X10_between Z _ _ _ _) kX10_60 rfl (Nat.le_of_ble_eq_true rfl) (by decide) (by decide) (Nat.le_of_ble_eq_true rfl) (Nat.le_of_ble_eq_true rfl) ?_
      refine V_bif_ne (pc := 28) (tgt := 34) dX10_windows_28 (by decide) (fun h28 => ?_) (fun h28 => ?_)
      · skip
        refine V_aload (pc := 34) dX10_windows_34 0 rfl ?_
        refine V_callVi (ci := 8) (C := RX8) (T := TX8) (N := 3) (pc := 36) dX10_windows_36 (c_X8_isMissing Z _ _ (by exact hs2)) kX10_134 (x_sh Z _ (by exact hs2)) rfl rfl rfl (Nat.le_of_ble_eq_true rfl) (by decide) (by decide) (Nat.le_of_ble_eq_true rfl) (Nat.le_of_ble_eq_true rfl) ?_
        refine V_bif_eq (pc := 39) (tgt := 45) dX10_windows_39 (by decide) (fun h39 => ?_) (fun h39 => ?_)
        · skip
          refine V_aload (pc := 45) dX10_windows_45 0 rfl ?_
          refine V_callVl (ci := 8) (C := RX8) (T := TX8) (N := 3) (pc := 47) dX10_windows_47 (c_X8_bits Z _ _ (by exact hs2) (by exact zOK_le hz hs2)) kX10_140 (x_sh Z _ (by exact hs2)) rfl rfl rfl (Nat.le_of_ble_eq_true rfl) (by decide) (by decide) (Nat.le_of_ble_eq_true rfl) (Nat.le_of_ble_eq_true rfl) ?_
          refine V_aload (pc := 50) dX10_windows_50 0 rfl ?_
          refine Xg_X10_161 (pc := 52) (v := (S.1 (20 + (a_).toNatClampNeg))) (by exact hs2) rfl dX10_windows_52 ?_
          refine V_iload_n (pc := 55) dX10_windows_55 3 rfl rfl ?_
          refine V_isub (pc := 56) dX10_windows_56 ?_
          refine V_iconst (v := 1) (pc := 57) dX10_windows_57 (by decide) ?_
          refine V_iadd (pc := 58) dX10_windows_58 ?_
          refine V_iconst (v := 1) (pc := 59) dX10_windows_59 (by decide) ?_
          refine V_iload_n (pc := 60) dX10_windows_60 3 rfl rfl ?_
          refine V_ishl (pc := 61) dX10_windows_61 ?_
          refine V_iconst (v := 1) (pc := 62) dX10_windows_62 (by decide) ?_
          refine V_isub (pc := 63) dX10_windows_63 ?_
          refine V_iload_n (pc := 64) dX10_windows_64 4 rfl rfl ?_
          refine V_callSi (pc := 65) dX10_windows_65 (c_X10_countWords Z _ _ _ _ _) kX10_204 rfl (Nat.le_of_ble_eq_true rfl) (by decide) (by decide) (Nat.le_of_ble_eq_true rfl) (Nat.le_of_ble_eq_true rfl) ?_
          exact V_iret (pc := 68) dX10_windows_68 (Nat.le_of_ble_eq_true rfl) (Nat.le_of_ble_eq_true rfl) (hB _ _ ⟨congrArg (fun z => some (Value.int z)) (by refine Eq.symm ?_; rw [if_pos ⟨hi2, h19, h28⟩, if_neg h39]), by rfl⟩)
        · skip
          refine V_bipush (v := (-11)) (pc := 42) dX10_windows_42 (by decide) ?_
          exact V_iret (pc := 44) dX10_windows_44 (Nat.le_of_ble_eq_true rfl) (Nat.le_of_ble_eq_true rfl) (hB _ _ ⟨congrArg (fun z => some (Value.int z)) (by rw [if_pos ⟨hi2, h19, h28⟩, if_pos h39]), by rfl⟩)
      · skip
        refine V_bipush (v := (-2)) (pc := 31) dX10_windows_31 (by decide) ?_
        exact V_iret (pc := 33) dX10_windows_33 (Nat.le_of_ble_eq_true rfl) (Nat.le_of_ble_eq_true rfl) (hB _ _ ⟨congrArg (fun z => some (Value.int z)) (by first | exact (if_neg (fun h => hno2 h.1)).symm | exact (if_neg (fun h => h19 h.2.1)).symm | exact (if_neg (fun h => h28 h.2.2)).symm), by rfl⟩)
  · skip
    refine V_astoreN (L2 := [(0, .ref (Z.2.2.2 99)), (1, .int a_), (2, .int w_), (3, .int v_)]) (pc := 5) dX10_windows_5  (by decide) rfl ?_
    refine V_aloadN (pc := 7) dX10_windows_7 0 rfl ?_
    refine V_ifnullN (pc := 9) (tgt := 31) dX10_windows_9 (by decide) ?_
    refine V_bipush (v := (-2)) (pc := 31) dX10_windows_31 (by decide) ?_
    exact V_iret (pc := 33) dX10_windows_33 (Nat.le_of_ble_eq_true rfl) (Nat.le_of_ble_eq_true rfl) (hB _ _ ⟨congrArg (fun z => some (Value.int z)) (by first | exact (if_neg (fun h => hno2 h.1)).symm | exact (if_neg (fun h => h19 h.2.1)).symm | exact (if_neg (fun h => h28 h.2.2)).symm), by rfl⟩)
set_option maxHeartbeats 4000000 in
set_option maxRecDepth 100000 in
theorem c_X10_runs (Z : VZ) (S : XS) (a_ : Int32) (v_ : Int32) (g_ : Int32) (hz : zOK S) : CtF XW Z yX10_runs cX10_runs 5 (some .int) 2 0 0 [.ref (Z.2.2.2 99), .int a_, .int v_, .int g_] (S) (some (.int (if ((0 ≤ a_ ∧ a_ ≤ 3) ∧ (-1 ≤ v_ ∧ v_ ≤ 1)) then (if (S.1 (10 + a_.toNatClampNeg) = -1) then -11 else if v_ = -1 then lbc (urX (btL (S.2.2.1 (20 + a_.toNatClampNeg)) (S.1 (20 + a_.toNatClampNeg)).toNatClampNeg) (S.1 (20 + a_.toNatClampNeg)).toNatClampNeg (S.1 (20 + a_.toNatClampNeg)).toNatClampNeg).1 + lbc (urX (btL (S.2.2.1 (20 + a_.toNatClampNeg)) (S.1 (20 + a_.toNatClampNeg)).toNatClampNeg) (S.1 (20 + a_.toNatClampNeg)).toNatClampNeg (S.1 (20 + a_.toNatClampNeg)).toNatClampNeg).2 else rsX (btL (S.2.2.1 (20 + a_.toNatClampNeg)) (S.1 (20 + a_.toNatClampNeg)).toNatClampNeg) (S.1 (20 + a_.toNatClampNeg)).toNatClampNeg v_ g_ (S.1 (20 + a_.toNatClampNeg)).toNatClampNeg) else -2))) (S) := by
  refine V_entry (own := RX10) (by decide) rfl (Nat.le_of_ble_eq_true rfl) ?_
  intro B hB
  refine V_sub (L' := [(0, .ref (Z.2.2.2 99)), (1, .int a_), (2, .int v_), (3, .int g_)]) [0, 1, 2, 3] rfl ?_
  refine V_aload_n (pc := 0) dX10_runs_0 0 rfl rfl ?_
  refine V_iload_n (pc := 1) dX10_runs_1 1 rfl rfl ?_
  refine V_callV (q0 := 0) (ci := 10) (C := RX10) (T := TX10) (N := 9) (pc := 2) dX10_runs_2 (c_X10_sheetAt Z _ _) kX10_118 rfl rfl rfl rfl (Nat.le_of_ble_eq_true rfl) (by decide) (by decide) (Nat.le_of_ble_eq_true rfl) (Nat.le_of_ble_eq_true rfl) (fun v2 S2 hp2 => ?_)
  refine V_widen (n' := 0) (k' := 0) (Nat.le_refl _) (Nat.le_refl _) ?_
  obtain ⟨rfl, ⟨hv2, hs2, hi2, rfl⟩ | ⟨hno2, rfl⟩⟩ := hp2
  · skip
    refine V_astore (pc := 5) (L2 := [(0, .ref (Z.2.2.2 99)), (1, .int a_), (2, .int v_), (3, .int g_)]) dX10_runs_5 (by decide) rfl (fun x4_5 ex4_5 => ?_)
    subst ex4_5
    refine V_aload (pc := 7) dX10_runs_7 0 rfl ?_
    refine V_ifnull (pc := 9) dX10_runs_9 ?_
    refine V_iload_n (pc := 12) dX10_runs_12 3 rfl rfl ?_
    refine V_iconst (v := (-1)) (pc := 13) dX10_runs_13 (by decide) ?_
    refine V_iconst (v := 1) (pc := 14) dX10_runs_14 (by decide) ?_
    refine V_callSi (pc := 15) dX10_runs_15 (c_X10_between Z _ _ _ _) kX10_60 rfl (Nat.le_of_ble_eq_true rfl) (by decide) (by decide) (Nat.le_of_ble_eq_true rfl) (Nat.le_of_ble_eq_true rfl) ?_
    refine V_bif_ne (pc := 18) (tgt := 24) dX10_runs_18 (by decide) (fun h18 => ?_) (fun h18 => ?_)
    · skip
      refine V_aload (pc := 24) dX10_runs_24 0 rfl ?_
      refine V_callVi (ci := 8) (C := RX8) (T := TX8) (N := 3) (pc := 26) dX10_runs_26 (c_X8_isMissing Z _ _ (by exact hs2)) kX10_134 (x_sh Z _ (by exact hs2)) rfl rfl rfl (Nat.le_of_ble_eq_true rfl) (by decide) (by decide) (Nat.le_of_ble_eq_true rfl) (Nat.le_of_ble_eq_true rfl) ?_
      refine V_bif_eq (pc := 29) (tgt := 35) dX10_runs_29 (by decide) (fun h29 => ?_) (fun h29 => ?_)
      · skip
        refine V_iload_n (pc := 35) dX10_runs_35 3 rfl rfl ?_
        refine V_iconst (v := (-1)) (pc := 36) dX10_runs_36 (by decide) ?_
        refine V_icmp_ne (pc := 37) (tgt := 56) dX10_runs_37 (by decide) (fun h37 => ?_) (fun h37 => ?_)
        · skip
          refine V_aload (pc := 56) dX10_runs_56 0 rfl ?_
          refine V_callVl (ci := 8) (C := RX8) (T := TX8) (N := 3) (pc := 58) dX10_runs_58 (c_X8_bits Z _ _ (by exact hs2) (by exact zOK_le hz hs2)) kX10_140 (x_sh Z _ (by exact hs2)) rfl rfl rfl (Nat.le_of_ble_eq_true rfl) (by decide) (by decide) (Nat.le_of_ble_eq_true rfl) (Nat.le_of_ble_eq_true rfl) ?_
          refine V_aload (pc := 61) dX10_runs_61 0 rfl ?_
          refine Xg_X10_161 (pc := 63) (v := (S.1 (20 + (a_).toNatClampNeg))) (by exact hs2) rfl dX10_runs_63 ?_
          refine V_iload_n (pc := 66) dX10_runs_66 3 rfl rfl ?_
          refine V_iload_n (pc := 67) dX10_runs_67 4 rfl rfl ?_
          refine V_callSi (pc := 68) dX10_runs_68 (c_X10_runsOf Z _ _ _ _ _) kX10_212 rfl (Nat.le_of_ble_eq_true rfl) (by decide) (by decide) (Nat.le_of_ble_eq_true rfl) (Nat.le_of_ble_eq_true rfl) ?_
          exact V_iret (pc := 71) dX10_runs_71 (Nat.le_of_ble_eq_true rfl) (Nat.le_of_ble_eq_true rfl) (hB _ _ ⟨congrArg (fun z => some (Value.int z)) (by rw [if_pos ⟨hi2, h18⟩, if_neg h29]; first | exact (if_pos h37).symm | exact (if_neg h37).symm), by rfl⟩)
        · skip
          refine V_aload (pc := 40) dX10_runs_40 0 rfl ?_
          refine V_callVl (ci := 8) (C := RX8) (T := TX8) (N := 3) (pc := 42) dX10_runs_42 (c_X8_bits Z _ _ (by exact hs2) (by exact zOK_le hz hs2)) kX10_140 (x_sh Z _ (by exact hs2)) rfl rfl rfl (Nat.le_of_ble_eq_true rfl) (by decide) (by decide) (Nat.le_of_ble_eq_true rfl) (Nat.le_of_ble_eq_true rfl) ?_
          refine V_aload (pc := 45) dX10_runs_45 0 rfl ?_
          refine Xg_X10_161 (pc := 47) (v := (S.1 (20 + (a_).toNatClampNeg))) (by exact hs2) rfl dX10_runs_47 ?_
          refine V_callSi (pc := 50) dX10_runs_50 (c_X10_unlikeRuns Z _ _ _) kX10_208 rfl (Nat.le_of_ble_eq_true rfl) (by decide) (by decide) (Nat.le_of_ble_eq_true rfl) (Nat.le_of_ble_eq_true rfl) ?_
          refine V_goto (pc := 53) (tgt := 71) dX10_runs_53 (by decide) ?_
          exact V_iret (pc := 71) dX10_runs_71 (Nat.le_of_ble_eq_true rfl) (Nat.le_of_ble_eq_true rfl) (hB _ _ ⟨congrArg (fun z => some (Value.int z)) (by rw [if_pos ⟨hi2, h18⟩, if_neg h29]; first | exact (if_pos h37).symm | exact (if_neg h37).symm), by rfl⟩)
      · skip
        refine V_bipush (v := (-11)) (pc := 32) dX10_runs_32 (by decide) ?_
        exact V_iret (pc := 34) dX10_runs_34 (Nat.le_of_ble_eq_true rfl) (Nat.le_of_ble_eq_true rfl) (hB _ _ ⟨congrArg (fun z => some (Value.int z)) (by rw [if_pos ⟨hi2, h18⟩, if_pos h29]), by rfl⟩)
    · skip
      refine V_bipush (v := (-2)) (pc := 21) dX10_runs_21 (by decide) ?_
      exact V_iret (pc := 23) dX10_runs_23 (Nat.le_of_ble_eq_true rfl) (Nat.le_of_ble_eq_true rfl) (hB _ _ ⟨congrArg (fun z => some (Value.int z)) (by first | exact (if_neg (fun h => hno2 h.1)).symm | exact (if_neg (fun h => h18 h.2)).symm), by rfl⟩)
  · skip
    refine V_astoreN (L2 := [(0, .ref (Z.2.2.2 99)), (1, .int a_), (2, .int v_), (3, .int g_)]) (pc := 5) dX10_runs_5  (by decide) rfl ?_
    refine V_aloadN (pc := 7) dX10_runs_7 0 rfl ?_
    refine V_ifnullN (pc := 9) (tgt := 21) dX10_runs_9 (by decide) ?_
    refine V_bipush (v := (-2)) (pc := 21) dX10_runs_21 (by decide) ?_
    exact V_iret (pc := 23) dX10_runs_23 (Nat.le_of_ble_eq_true rfl) (Nat.le_of_ble_eq_true rfl) (hB _ _ ⟨congrArg (fun z => some (Value.int z)) (by first | exact (if_neg (fun h => hno2 h.1)).symm | exact (if_neg (fun h => h18 h.2)).symm), by rfl⟩)
set_option maxHeartbeats 4000000 in
set_option maxRecDepth 100000 in
theorem c_X10_spoilt (Z : VZ) (S : XS) (l_ : Nat) (b_ : Int64) (z_ : Int32) (n_ : Int32) (hl : 0 < l_ ∧ l_ ≤ 40) : CtF XW Z yX10_spoilt cX10_spoilt 9 (some .long) 0 0 0 [.long b_, .int (nI l_), .int z_, .int n_] (S) (some (.long (slX b_ z_ l_ n_.toNatClampNeg))) (S) := by
  refine V_entry (own := RX10) (by decide) rfl (Nat.le_of_ble_eq_true rfl) ?_
  intro B hB
  refine V_sub (L' := [(0, .long b_), (2, .int (nI l_)), (3, .int z_), (4, .int n_)]) [0, 1, 2, 3] rfl ?_
  refine V_lload_n (pc := 0) dX10_spoilt_0 0 rfl rfl ?_
  refine V_lstore (pc := 1) (L2 := [(0, .long b_), (2, .int (nI l_)), (3, .int z_), (4, .int n_)]) dX10_spoilt_1 (by decide) rfl (fun x5_1 ex5_1 => ?_)
  subst ex5_1
  refine V_iload_n (pc := 3) dX10_spoilt_3 3 rfl rfl ?_
  refine V_istore (pc := 4) (L2 := [(5, .long b_), (0, .long b_), (2, .int (nI l_)), (3, .int z_), (4, .int n_)]) dX10_spoilt_4 (by decide) rfl (fun x7_4 ex7_4 => ?_)
  subst ex7_4
  refine V_iconst (v := 0) (pc := 6) dX10_spoilt_6 (by decide) ?_
  refine V_istore (pc := 7) (L2 := [(7, .int z_), (5, .long b_), (0, .long b_), (2, .int (nI l_)), (3, .int z_), (4, .int n_)]) dX10_spoilt_7 (by decide) rfl (fun x8_7 ex8_7 => ?_)
  subst ex8_7
  refine V_sub (L' := [(8, .int (nI 0)), (7, .int z_), (5, .long b_), (0, .long b_), (2, .int (nI l_)), (3, .int z_), (4, .int n_)]) [0, 1, 2, 3, 4, 5, 6] rfl ?_
  refine Vloop (σ := Nat × Int32 × Int64) (fun x => (x.1) ≤ n_.toNatClampNeg ∧ (x.2.2) = slX b_ z_ l_ (x.1) ∧ (x.2.1) = zs z_ (x.1)) (fun x => n_.toNatClampNeg - (x.1)) (fun x => V XW Z cX10_spoilt RX10 9 (some .long) 0 0 0 B 0 0 9 [(8, .int (nI (x.1))), (7, .int (x.2.1)), (5, .long (x.2.2)), (0, .long b_), (2, .int (nI l_)), (3, .int z_), (4, .int n_)] [] (S)) ?_ (0, z_, b_) (by exact ⟨Nat.zero_le _, rfl, rfl⟩)
  rintro ⟨j, y_, u⟩ hI9 ih9
  have hI9 : j ≤ n_.toNatClampNeg ∧ u = slX b_ z_ l_ j ∧ y_ = zs z_ j := hI9
  show V XW Z cX10_spoilt RX10 9 (some .long) 0 0 0 B 0 0 9 [(8, .int (nI j)), (7, .int y_), (5, .long u), (0, .long b_), (2, .int (nI l_)), (3, .int z_), (4, .int n_)] [] (S)
  refine V_iload (pc := 9) dX10_spoilt_9 0 rfl ?_
  refine V_iload (pc := 11) dX10_spoilt_11 6 rfl ?_
  refine V_icmp_ge (pc := 13) (tgt := 52) dX10_spoilt_13 (by decide) (fun h13 => ?_) (fun h13 => ?_)
  · skip
    have hj : n_.toNatClampNeg ≤ j := jge h13 (Nat.lt_of_le_of_lt hI9.1 (clampLt _))
    have ej : j = n_.toNatClampNeg := Nat.le_antisymm hI9.1 hj
    refine V_lload (pc := 52) dX10_spoilt_52 2 rfl ?_
    exact V_lret (pc := 54) dX10_spoilt_54 (Nat.le_of_ble_eq_true rfl) (Nat.le_of_ble_eq_true rfl) (hB _ _ ⟨congrArg (fun z => some (Value.long z)) (by rw [hI9.2.1, ej]), by rfl⟩)
  · skip
    have hj : j < n_.toNatClampNeg := jlt h13 (Nat.lt_of_le_of_lt hI9.1 (clampLt _))
    refine V_iload_n (pc := 16) dX10_spoilt_16 4 rfl rfl ?_
    refine V_if_le (pc := 17) (tgt := 52) dX10_spoilt_17 (by decide) (fun h17 => ?_) (fun h17 => ?_)
    · skip
      exact absurd h17 (nI_nle hl.1 (by omega))
    · skip
      refine V_iload (pc := 20) dX10_spoilt_20 1 rfl ?_
      refine V_ldcw (pc := 22) dX10_spoilt_22 tw_669 ?_
      refine V_imul (pc := 25) dX10_spoilt_25 ?_
      refine V_sipush (v := 12345) (pc := 26) dX10_spoilt_26 (by decide) ?_
      refine V_iadd (pc := 29) dX10_spoilt_29 ?_
      refine V_istore (pc := 30) (L2 := [(8, .int (nI j)), (5, .long u), (0, .long b_), (2, .int (nI l_)), (3, .int z_), (4, .int n_)]) dX10_spoilt_30 (by decide) rfl (fun x7_30 ex7_30 => ?_)
      subst ex7_30
      have ez : y_ * 1103515245 + 12345 = zs z_ (j + 1) := by rw [hI9.2.2]; rfl
      have zq := zix_eq z_ j hl.1 hl.2
      rw [← ez] at zq
      refine V_lload (pc := 32) dX10_spoilt_32 2 rfl ?_
      refine V_lconst (v := 1) (pc := 34) dX10_spoilt_34 (by decide) ?_
      refine V_iload (pc := 35) dX10_spoilt_35 0 rfl ?_
      refine V_bipush (v := 9) (pc := 37) dX10_spoilt_37 (by decide) ?_
      refine V_iushr (pc := 39) dX10_spoilt_39 rfl ?_
      refine V_iload_n (pc := 40) dX10_spoilt_40 4 rfl rfl ?_
      refine V_irem (pc := 41) dX10_spoilt_41 (by exact nI_ne0 hl.1 (by omega)) ?_
      refine V_eqi (nI (zix z_ j l_)) zq ?_
      refine V_lshl (pc := 42) dX10_spoilt_42 rfl ?_
      refine V_lxor (pc := 43) dX10_spoilt_43 ?_
      refine V_lstore (pc := 44) (L2 := [(7, .int ((y_ * (1103515245)) + 12345)), (8, .int (nI j)), (0, .long b_), (2, .int (nI l_)), (3, .int z_), (4, .int n_)]) dX10_spoilt_44 (by decide) rfl (fun x5_44 ex5_44 => ?_)
      subst ex5_44
      refine V_iinc (pc := 46) (v := 1) (L2 := [(5, .long (u ^^^ (1 <<< (Int32.toInt64 (nI (zix z_ j l_)) &&& 63)))), (7, .int ((y_ * (1103515245)) + 12345)), (0, .long b_), (2, .int (nI l_)), (3, .int z_), (4, .int n_)]) dX10_spoilt_46 2 rfl (by decide) (by decide) rfl (fun x8_46 ex8_46 => ?_)
      rw [nI_1] at ex8_46
      subst ex8_46
      refine V_goto (pc := 49) (tgt := 9) dX10_spoilt_49 (by decide) ?_
      refine V_sub (L' := [(8, .int (nI (j + 1))), (7, .int ((y_ * (1103515245)) + 12345)), (5, .long (u ^^^ (1 <<< (Int32.toInt64 (nI (zix z_ j l_)) &&& 63)))), (0, .long b_), (2, .int (nI l_)), (3, .int z_), (4, .int n_)]) [0, 2, 1, 3, 4, 5, 6] rfl ?_
      refine ih9 (((j + 1)), _, _) ?_ ?_
      · show ((j + 1)) ≤ n_.toNatClampNeg ∧ ((u ^^^ (1 <<< (Int32.toInt64 (nI (zix z_ j l_)) &&& 63)))) = slX b_ z_ l_ ((j + 1)) ∧ (((y_ * (1103515245)) + 12345)) = zs z_ ((j + 1))
        refine ⟨hj, ?_, ?_⟩
        · rw [hI9.2.1]; rfl
        · rw [hI9.2.2]; rfl
      · show n_.toNatClampNeg - (j + 1) < n_.toNatClampNeg - j
        omega
theorem xF_xF (S : XS) (k : Nat) (a b : Int32) : xF (xF S k a) k b = xF S k b := by
  show (va_up (va_up S.1 k a) k b, S.2) = (va_up S.1 k b, S.2)
  rw [bx_uu]
set_option maxHeartbeats 4000000 in
set_option maxRecDepth 100000 in
theorem c_X3_find (Z : VZ) (S : XS) (b_ : Int64) (n_ : Int32) : CtF XW Z yX3_find cX3_find 14 none 1 0 0 [.ref (Z.2.2.2 7), .long b_, .int n_] (S) none (xLw S (lfX b_ n_.toNatClampNeg).2.2.2.2 (us64 (lfX b_ n_.toNatClampNeg).1 1)) := by
  refine V_entry (own := RX3) (by decide) rfl (Nat.le_of_ble_eq_true rfl) ?_
  intro B hB
  refine V_sub (L' := [(0, .ref (Z.2.2.2 7)), (1, .long b_), (3, .int n_)]) [0, 1, 2] rfl ?_
  refine V_lconst (v := 1) (pc := 0) dX3_find_0 (by decide) ?_
  refine V_lstore (pc := 1) (L2 := [(0, .ref (Z.2.2.2 7)), (1, .long b_), (3, .int n_)]) dX3_find_1 (by decide) rfl (fun x4_1 ex4_1 => ?_)
  subst ex4_1
  refine V_lconst (v := 1) (pc := 3) dX3_find_3 (by decide) ?_
  refine V_lstore (pc := 4) (L2 := [(4, .long 1), (0, .ref (Z.2.2.2 7)), (1, .long b_), (3, .int n_)]) dX3_find_4 (by decide) rfl (fun x6_4 ex6_4 => ?_)
  subst ex6_4
  refine V_lconst (v := 0) (pc := 6) dX3_find_6 (by decide) ?_
  refine V_lstore (pc := 7) (L2 := [(6, .long 1), (4, .long 1), (0, .ref (Z.2.2.2 7)), (1, .long b_), (3, .int n_)]) dX3_find_7 (by decide) rfl (fun x8_7 ex8_7 => ?_)
  subst ex8_7
  refine V_iconst (v := 1) (pc := 9) dX3_find_9 (by decide) ?_
  refine V_istore (pc := 10) (L2 := [(8, .long 0), (6, .long 1), (4, .long 1), (0, .ref (Z.2.2.2 7)), (1, .long b_), (3, .int n_)]) dX3_find_10 (by decide) rfl (fun x10_10 ex10_10 => ?_)
  subst ex10_10
  refine V_aload_n (pc := 12) dX3_find_12 4 rfl rfl ?_
  refine V_iconst (v := 0) (pc := 13) dX3_find_13 (by decide) ?_
  refine Xp_X3_7 (pc := 14) dX3_find_14 ?_
  refine V_iconst (v := 0) (pc := 17) dX3_find_17 (by decide) ?_
  refine V_istore (pc := 18) (L2 := [(10, .int 1), (8, .long 0), (6, .long 1), (4, .long 1), (0, .ref (Z.2.2.2 7)), (1, .long b_), (3, .int n_)]) dX3_find_18 (by decide) rfl (fun x11_18 ex11_18 => ?_)
  subst ex11_18
  refine V_sub (L' := [(11, .int (nI 0)), (10, .int 1), (8, .long 0), (6, .long 1), (4, .long 1), (0, .ref (Z.2.2.2 7)), (1, .long b_), (3, .int n_)]) [0, 1, 2, 3, 4, 5, 6, 7] rfl ?_
  refine Vloop (σ := Nat × Int32 × Int64 × Int64 × Int64) (fun x => (x.1) ≤ n_.toNatClampNeg ∧ (x.2.2.2.2) = (lfX b_ (x.1)).1 ∧ (x.2.2.2.1) = (lfX b_ (x.1)).2.1 ∧ (x.2.2.1) = (lfX b_ (x.1)).2.2.1 ∧ (x.2.1) = (lfX b_ (x.1)).2.2.2.1) (fun x => n_.toNatClampNeg - (x.1)) (fun x => V XW Z cX3_find RX3 14 none 1 0 0 B 0 0 20 [(11, .int (nI (x.1))), (10, .int (x.2.1)), (8, .long (x.2.2.1)), (6, .long (x.2.2.2.1)), (4, .long (x.2.2.2.2)), (0, .ref (Z.2.2.2 7)), (1, .long b_), (3, .int n_)] [] (xF S 40 (lfX b_ (x.1)).2.2.2.2)) ?_ (0, 1, 0, 1, 1) (by exact ⟨Nat.zero_le _, rfl, rfl, rfl, rfl⟩)
  rintro ⟨j, y_, w_, v_, u⟩ hI20 ih20
  have hI20 : j ≤ n_.toNatClampNeg ∧ u = (lfX b_ j).1 ∧ v_ = (lfX b_ j).2.1 ∧ w_ = (lfX b_ j).2.2.1 ∧ y_ = (lfX b_ j).2.2.2.1 := hI20
  show V XW Z cX3_find RX3 14 none 1 0 0 B 0 0 20 [(11, .int (nI j)), (10, .int y_), (8, .long w_), (6, .long v_), (4, .long u), (0, .ref (Z.2.2.2 7)), (1, .long b_), (3, .int n_)] [] (xF S 40 (lfX b_ j).2.2.2.2)
  refine V_iload (pc := 20) dX3_find_20 0 rfl ?_
  refine V_iload_n (pc := 22) dX3_find_22 7 rfl rfl ?_
  refine V_icmp_ge (pc := 23) (tgt := 125) dX3_find_23 (by decide) (fun h23 => ?_) (fun h23 => ?_)
  · skip
    have hj : n_.toNatClampNeg ≤ j := jge h23 (Nat.lt_of_le_of_lt hI20.1 (clampLt _))
    have ej : j = n_.toNatClampNeg := Nat.le_antisymm hI20.1 hj
    refine V_aload_n (pc := 125) dX3_find_125 5 rfl rfl ?_
    refine V_lload (pc := 126) dX3_find_126 4 rfl ?_
    refine V_iconst (v := 1) (pc := 128) dX3_find_128 (by decide) ?_
    refine V_lushr (pc := 129) dX3_find_129 rfl ?_
    refine Xp_X3_13 (pc := 130) dX3_find_130 ?_
    exact V_vret (pc := 133) dX3_find_133 (Nat.le_of_ble_eq_true rfl) (Nat.le_of_ble_eq_true rfl) (hB _ _ ⟨rfl, by rw [hI20.2.1, ej]; rfl⟩)
  · skip
    have hj : j < n_.toNatClampNeg := jlt h23 (Nat.lt_of_le_of_lt hI20.1 (clampLt _))
    have e0 : lfX b_ j = (u, v_, w_, y_, (lfX b_ j).2.2.2.2) := by rw [hI20.2.1, hI20.2.2.1, hI20.2.2.2.1, hI20.2.2.2.2]
    refine V_lload (pc := 26) dX3_find_26 2 rfl ?_
    refine V_iconst (v := 1) (pc := 28) dX3_find_28 (by decide) ?_
    refine V_lshl (pc := 29) dX3_find_29 rfl ?_
    refine V_lload_n (pc := 30) dX3_find_30 6 rfl rfl ?_
    refine V_iload (pc := 31) dX3_find_31 0 rfl ?_
    refine V_lushr (pc := 33) dX3_find_33 rfl ?_
    refine V_lconst (v := 1) (pc := 34) dX3_find_34 (by decide) ?_
    refine V_land (pc := 35) dX3_find_35 ?_
    refine V_lor (pc := 36) dX3_find_36 ?_
    refine V_lstore (pc := 37) (L2 := [(11, .int (nI j)), (10, .int y_), (6, .long v_), (4, .long u), (0, .ref (Z.2.2.2 7)), (1, .long b_), (3, .int n_)]) dX3_find_37 (by decide) rfl (fun x8_37 ex8_37 => ?_)
    subst ex8_37
    refine V_lload (pc := 39) dX3_find_39 4 rfl ?_
    refine V_lload (pc := 41) dX3_find_41 0 rfl ?_
    refine V_land (pc := 43) dX3_find_43 ?_
    refine V_callSi (pc := 44) dX3_find_44 (c_J13_bitCount_95d88 Z _ _) kX3_17 rfl (Nat.le_of_ble_eq_true rfl) (by decide) (by decide) (Nat.le_of_ble_eq_true rfl) (Nat.le_of_ble_eq_true rfl) ?_
    refine V_iconst (v := 1) (pc := 47) dX3_find_47 (by decide) ?_
    refine V_iand (pc := 48) dX3_find_48 ?_
    refine V_if_ne (pc := 49) (tgt := 58) dX3_find_49 (by decide) (fun h49 => ?_) (fun h49 => ?_)
    · skip
      refine V_iconst (v := 2) (pc := 58) dX3_find_58 (by decide) ?_
      refine V_aload_n (pc := 59) dX3_find_59 5 rfl rfl ?_
      refine Xg_X3_7 (pc := 60) (v := (lfX b_ j).2.2.2.2) (va_up_self S.1 40 _) dX3_find_60 ?_
      refine V_imul (pc := 63) dX3_find_63 ?_
      refine V_iload (pc := 64) dX3_find_64 1 rfl ?_
      refine V_icmp_gt (pc := 66) (tgt := 106) dX3_find_66 (by decide) (fun h66 => ?_) (fun h66 => ?_)
      · skip
        have e9 : lfX b_ (j + 1) = ((u ^^^ v_ <<< (y_.toInt64 &&& 63)), v_, (w_ <<< (Int32.toInt64 1 &&& 63) ||| lbt b_ (nI j)), y_ + 1, (lfX b_ j).2.2.2.2) := by
          rw [lfX_s, e0]
          unfold lfS
          exact (if_neg h49).trans (if_pos h66)
        refine V_eqS (xF S 40 (lfX b_ (j + 1)).2.2.2.2) (by rw [e9]) ?_
        refine V_lload (pc := 106) dX3_find_106 4 rfl ?_
        refine V_lload (pc := 108) dX3_find_108 3 rfl ?_
        refine V_iload (pc := 110) dX3_find_110 2 rfl ?_
        refine V_lshl (pc := 112) dX3_find_112 rfl ?_
        refine V_lxor (pc := 113) dX3_find_113 ?_
        refine V_lstore (pc := 114) (L2 := [(8, .long ((w_ <<< (Int32.toInt64 1 &&& 63)) ||| ((Int64.toUInt64 b_ >>> ((Int32.toInt64 (nI j)).toUInt64 &&& Int64.toUInt64 63)).toInt64 &&& 1))), (11, .int (nI j)), (10, .int y_), (6, .long v_), (0, .ref (Z.2.2.2 7)), (1, .long b_), (3, .int n_)]) dX3_find_114 (by decide) rfl (fun x4_114 ex4_114 => ?_)
        subst ex4_114
        refine V_iinc (pc := 116) (v := 1) (L2 := [(4, .long (u ^^^ (v_ <<< (Int32.toInt64 y_ &&& 63)))), (8, .long ((w_ <<< (Int32.toInt64 1 &&& 63)) ||| ((Int64.toUInt64 b_ >>> ((Int32.toInt64 (nI j)).toUInt64 &&& Int64.toUInt64 63)).toInt64 &&& 1))), (11, .int (nI j)), (6, .long v_), (0, .ref (Z.2.2.2 7)), (1, .long b_), (3, .int n_)]) dX3_find_116 3 rfl (by decide) (by decide) rfl (fun x10_116 ex10_116 => ?_)
        subst ex10_116
        refine V_iinc (pc := 119) (v := 1) (L2 := [(10, .int (y_ + 1)), (4, .long (u ^^^ (v_ <<< (Int32.toInt64 y_ &&& 63)))), (8, .long ((w_ <<< (Int32.toInt64 1 &&& 63)) ||| ((Int64.toUInt64 b_ >>> ((Int32.toInt64 (nI j)).toUInt64 &&& Int64.toUInt64 63)).toInt64 &&& 1))), (6, .long v_), (0, .ref (Z.2.2.2 7)), (1, .long b_), (3, .int n_)]) dX3_find_119 3 rfl (by decide) (by decide) rfl (fun x11_119 ex11_119 => ?_)
        rw [nI_1] at ex11_119
        subst ex11_119
        refine V_goto (pc := 122) (tgt := 20) dX3_find_122 (by decide) ?_
        refine V_sub (L' := [(11, .int (nI (j + 1))), (10, .int (y_ + 1)), (8, .long ((w_ <<< (Int32.toInt64 1 &&& 63)) ||| ((Int64.toUInt64 b_ >>> ((Int32.toInt64 (nI j)).toUInt64 &&& Int64.toUInt64 63)).toInt64 &&& 1))), (6, .long v_), (4, .long (u ^^^ (v_ <<< (Int32.toInt64 y_ &&& 63)))), (0, .ref (Z.2.2.2 7)), (1, .long b_), (3, .int n_)]) [0, 1, 3, 4, 2, 5, 6, 7] rfl ?_
        refine ih20 (((j + 1)), _, _, _, _) ?_ ?_
        · show ((j + 1)) ≤ n_.toNatClampNeg ∧ ((u ^^^ (v_ <<< (Int32.toInt64 y_ &&& 63)))) = (lfX b_ ((j + 1))).1 ∧ (v_) = (lfX b_ ((j + 1))).2.1 ∧ (((w_ <<< (Int32.toInt64 1 &&& 63)) ||| ((Int64.toUInt64 b_ >>> ((Int32.toInt64 (nI j)).toUInt64 &&& Int64.toUInt64 63)).toInt64 &&& 1))) = (lfX b_ ((j + 1))).2.2.1 ∧ ((y_ + 1)) = (lfX b_ ((j + 1))).2.2.2.1
          rw [e9]
          exact ⟨hj, rfl, rfl, rfl, rfl⟩
        · show n_.toNatClampNeg - (j + 1) < n_.toNatClampNeg - j
          omega
      · skip
        have e9 : lfX b_ (j + 1) = ((u ^^^ v_ <<< (y_.toInt64 &&& 63)), u, (w_ <<< (Int32.toInt64 1 &&& 63) ||| lbt b_ (nI j)), 1, nI j + 1 - (lfX b_ j).2.2.2.2) := by
          rw [lfX_s, e0]
          unfold lfS
          exact (if_neg h49).trans (if_neg h66)
        refine V_lload (pc := 69) dX3_find_69 4 rfl ?_
        refine V_lstore (pc := 71) (L2 := [(8, .long ((w_ <<< (Int32.toInt64 1 &&& 63)) ||| ((Int64.toUInt64 b_ >>> ((Int32.toInt64 (nI j)).toUInt64 &&& Int64.toUInt64 63)).toInt64 &&& 1))), (11, .int (nI j)), (10, .int y_), (6, .long v_), (4, .long u), (0, .ref (Z.2.2.2 7)), (1, .long b_), (3, .int n_)]) dX3_find_71 (by decide) rfl (fun x12_71 ex12_71 => ?_)
        subst ex12_71
        refine V_lload (pc := 73) dX3_find_73 5 rfl ?_
        refine V_lload (pc := 75) dX3_find_75 4 rfl ?_
        refine V_iload (pc := 77) dX3_find_77 3 rfl ?_
        refine V_lshl (pc := 79) dX3_find_79 rfl ?_
        refine V_lxor (pc := 80) dX3_find_80 ?_
        refine V_lstore (pc := 81) (L2 := [(12, .long u), (8, .long ((w_ <<< (Int32.toInt64 1 &&& 63)) ||| ((Int64.toUInt64 b_ >>> ((Int32.toInt64 (nI j)).toUInt64 &&& Int64.toUInt64 63)).toInt64 &&& 1))), (11, .int (nI j)), (10, .int y_), (6, .long v_), (0, .ref (Z.2.2.2 7)), (1, .long b_), (3, .int n_)]) dX3_find_81 (by decide) rfl (fun x4_81 ex4_81 => ?_)
        subst ex4_81
        refine V_lload (pc := 83) dX3_find_83 1 rfl ?_
        refine V_lstore (pc := 85) (L2 := [(4, .long (u ^^^ (v_ <<< (Int32.toInt64 y_ &&& 63)))), (12, .long u), (8, .long ((w_ <<< (Int32.toInt64 1 &&& 63)) ||| ((Int64.toUInt64 b_ >>> ((Int32.toInt64 (nI j)).toUInt64 &&& Int64.toUInt64 63)).toInt64 &&& 1))), (11, .int (nI j)), (10, .int y_), (0, .ref (Z.2.2.2 7)), (1, .long b_), (3, .int n_)]) dX3_find_85 (by decide) rfl (fun x6_85 ex6_85 => ?_)
        subst ex6_85
        refine V_aload_n (pc := 87) dX3_find_87 6 rfl rfl ?_
        refine V_iload (pc := 88) dX3_find_88 4 rfl ?_
        refine V_iconst (v := 1) (pc := 90) dX3_find_90 (by decide) ?_
        refine V_iadd (pc := 91) dX3_find_91 ?_
        refine V_aload_n (pc := 92) dX3_find_92 6 rfl rfl ?_
        refine Xg_X3_7 (pc := 93) (v := (lfX b_ j).2.2.2.2) (va_up_self S.1 40 _) dX3_find_93 ?_
        refine V_isub (pc := 96) dX3_find_96 ?_
        refine Xp_X3_7 (pc := 97) dX3_find_97 ?_
        refine V_eqS (xF S 40 (lfX b_ (j + 1)).2.2.2.2) (by rw [e9]; exact xF_xF S 40 _ _) ?_
        refine V_iconst (v := 1) (pc := 100) dX3_find_100 (by decide) ?_
        refine V_istore (pc := 101) (L2 := [(6, .long u), (4, .long (u ^^^ (v_ <<< (Int32.toInt64 y_ &&& 63)))), (12, .long u), (8, .long ((w_ <<< (Int32.toInt64 1 &&& 63)) ||| ((Int64.toUInt64 b_ >>> ((Int32.toInt64 (nI j)).toUInt64 &&& Int64.toUInt64 63)).toInt64 &&& 1))), (11, .int (nI j)), (0, .ref (Z.2.2.2 7)), (1, .long b_), (3, .int n_)]) dX3_find_101 (by decide) rfl (fun x10_101 ex10_101 => ?_)
        subst ex10_101
        refine V_goto (pc := 103) (tgt := 119) dX3_find_103 (by decide) ?_
        refine V_iinc (pc := 119) (v := 1) (L2 := [(10, .int 1), (6, .long u), (4, .long (u ^^^ (v_ <<< (Int32.toInt64 y_ &&& 63)))), (12, .long u), (8, .long ((w_ <<< (Int32.toInt64 1 &&& 63)) ||| ((Int64.toUInt64 b_ >>> ((Int32.toInt64 (nI j)).toUInt64 &&& Int64.toUInt64 63)).toInt64 &&& 1))), (0, .ref (Z.2.2.2 7)), (1, .long b_), (3, .int n_)]) dX3_find_119 5 rfl (by decide) (by decide) rfl (fun x11_119 ex11_119 => ?_)
        rw [nI_1] at ex11_119
        subst ex11_119
        refine V_goto (pc := 122) (tgt := 20) dX3_find_122 (by decide) ?_
        refine V_sub (L' := [(11, .int (nI (j + 1))), (10, .int 1), (8, .long ((w_ <<< (Int32.toInt64 1 &&& 63)) ||| ((Int64.toUInt64 b_ >>> ((Int32.toInt64 (nI j)).toUInt64 &&& Int64.toUInt64 63)).toInt64 &&& 1))), (6, .long u), (4, .long (u ^^^ (v_ <<< (Int32.toInt64 y_ &&& 63)))), (0, .ref (Z.2.2.2 7)), (1, .long b_), (3, .int n_)]) [0, 1, 5, 2, 3, 6, 7, 8] rfl ?_
        refine ih20 (((j + 1)), _, _, _, _) ?_ ?_
        · show ((j + 1)) ≤ n_.toNatClampNeg ∧ ((u ^^^ (v_ <<< (Int32.toInt64 y_ &&& 63)))) = (lfX b_ ((j + 1))).1 ∧ (u) = (lfX b_ ((j + 1))).2.1 ∧ (((w_ <<< (Int32.toInt64 1 &&& 63)) ||| ((Int64.toUInt64 b_ >>> ((Int32.toInt64 (nI j)).toUInt64 &&& Int64.toUInt64 63)).toInt64 &&& 1))) = (lfX b_ ((j + 1))).2.2.1 ∧ (1) = (lfX b_ ((j + 1))).2.2.2.1
          rw [e9]
          exact ⟨hj, rfl, rfl, rfl, rfl⟩
        · show n_.toNatClampNeg - (j + 1) < n_.toNatClampNeg - j
          omega
    · skip
      have e9 : lfX b_ (j + 1) = (u, v_, (w_ <<< (Int32.toInt64 1 &&& 63) ||| lbt b_ (nI j)), y_ + 1, (lfX b_ j).2.2.2.2) := by
        rw [lfX_s, e0]
        unfold lfS
        exact if_pos h49
      refine V_eqS (xF S 40 (lfX b_ (j + 1)).2.2.2.2) (by rw [e9]) ?_
      refine V_iinc (pc := 52) (v := 1) (L2 := [(8, .long ((w_ <<< (Int32.toInt64 1 &&& 63)) ||| ((Int64.toUInt64 b_ >>> ((Int32.toInt64 (nI j)).toUInt64 &&& Int64.toUInt64 63)).toInt64 &&& 1))), (11, .int (nI j)), (6, .long v_), (4, .long u), (0, .ref (Z.2.2.2 7)), (1, .long b_), (3, .int n_)]) dX3_find_52 2 rfl (by decide) (by decide) rfl (fun x10_52 ex10_52 => ?_)
      subst ex10_52
      refine V_goto (pc := 55) (tgt := 119) dX3_find_55 (by decide) ?_
      refine V_iinc (pc := 119) (v := 1) (L2 := [(10, .int (y_ + 1)), (8, .long ((w_ <<< (Int32.toInt64 1 &&& 63)) ||| ((Int64.toUInt64 b_ >>> ((Int32.toInt64 (nI j)).toUInt64 &&& Int64.toUInt64 63)).toInt64 &&& 1))), (6, .long v_), (4, .long u), (0, .ref (Z.2.2.2 7)), (1, .long b_), (3, .int n_)]) dX3_find_119 2 rfl (by decide) (by decide) rfl (fun x11_119 ex11_119 => ?_)
      rw [nI_1] at ex11_119
      subst ex11_119
      refine V_goto (pc := 122) (tgt := 20) dX3_find_122 (by decide) ?_
      refine V_sub (L' := [(11, .int (nI (j + 1))), (10, .int (y_ + 1)), (8, .long ((w_ <<< (Int32.toInt64 1 &&& 63)) ||| ((Int64.toUInt64 b_ >>> ((Int32.toInt64 (nI j)).toUInt64 &&& Int64.toUInt64 63)).toInt64 &&& 1))), (6, .long v_), (4, .long u), (0, .ref (Z.2.2.2 7)), (1, .long b_), (3, .int n_)]) [0, 1, 2, 3, 4, 5, 6, 7] rfl ?_
      refine ih20 (((j + 1)), _, _, _, _) ?_ ?_
      · show ((j + 1)) ≤ n_.toNatClampNeg ∧ (u) = (lfX b_ ((j + 1))).1 ∧ (v_) = (lfX b_ ((j + 1))).2.1 ∧ (((w_ <<< (Int32.toInt64 1 &&& 63)) ||| ((Int64.toUInt64 b_ >>> ((Int32.toInt64 (nI j)).toUInt64 &&& Int64.toUInt64 63)).toInt64 &&& 1))) = (lfX b_ ((j + 1))).2.2.1 ∧ ((y_ + 1)) = (lfX b_ ((j + 1))).2.2.2.1
        rw [e9]
        exact ⟨hj, rfl, rfl, rfl, rfl⟩
      · show n_.toNatClampNeg - (j + 1) < n_.toNatClampNeg - j
        omega
