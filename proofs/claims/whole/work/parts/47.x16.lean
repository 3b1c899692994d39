/-- the machine tells the row's bits -/
abbrev trX (c : Nat) (g : Nat → Int32) (b : Int64) (n : Nat) : Prop := ∀ i, i < n → advN c i g 3 &&& 1 = (lbt b (nI i)).toInt32
def gOff (g h : Nat → Int32) : Prop := ∀ i, i ≠ 3 → i ≠ 4 → g i = h i
theorem adv_off (c : Nat) (g : Nat → Int32) {i : Nat} (h3 : i ≠ 3) (h4 : i ≠ 4) : adv c g i = g i := by
  unfold adv
  simp only [upd]
  rw [if_neg h4, if_neg h3]
theorem advN_off (c n : Nat) (g : Nat → Int32) : gOff (advN c n g) g := by
  intro i h3 h4
  induction n with
  | zero => rfl
  | succ n ih => exact (adv_off c _ h3 h4).trans ih
theorem gOff_tr {a b c : Nat → Int32} (h : gOff a b) (k : gOff b c) : gOff a c := fun i h3 h4 => (h i h3 h4).trans (k i h3 h4)
theorem gOff_gM (k c t s y s' y' : Int32) : gOff (gM k c t s y) (gM k c t s' y') := by
  intro i h3 h4
  simp only [gM, gG]
  repeat' split
  all_goals first | rfl | omega
theorem gOff_up {g : Nat → Int32} {k c t s0 y0 : Int32} (h : gOff g (gM k c t s0 y0)) (s y : Int32) : upd (upd g 3 s) 4 y = gM k c t s y := by
  funext j
  simp only [upd]
  by_cases e4 : j = 4
  · rw [if_pos e4, e4]; rfl
  · rw [if_neg e4]
    by_cases e3 : j = 3
    · rw [if_pos e3, e3]; rfl
    · rw [if_neg e3, h j e3 e4]
      exact gOff_gM k c t s0 y0 s y j e3 e4
theorem gOff_u {g h : Nat → Int32} (k : gOff g h) (s y : Int32) : upd (upd g 3 s) 4 y = upd (upd h 3 s) 4 y := by
  funext j
  simp only [upd]
  by_cases e4 : j = 4
  · rw [if_pos e4, if_pos e4]
  · rw [if_neg e4, if_neg e4]
    by_cases e3 : j = 3
    · rw [if_pos e3, if_pos e3]
    · rw [if_neg e3, if_neg e3, k j e3 e4]
theorem gOff_uu (h : Nat → Int32) (s y : Int32) : gOff (upd (upd h 3 s) 4 y) h := by
  intro i h3 h4
  simp only [upd]
  rw [if_neg h4, if_neg h3]
def rkX (S : XS) (a : Nat) (b : Int64) (n j : Nat) : Int32 := it (fun i (u : Int32) => if trX (kc (nI i)) (gM (nI i) (mfo S a 1) (mfo S a 2) (mfo S a 3) (mfo S a 4)) b n then u ||| 1 <<< (nI i &&& 31) else u) j 0
def rcX (S : XS) (a : Nat) (b : Int64) (n j : Nat) : Int32 := it (fun i (u : Int32) => if trX (kc (mfo S a 0)) (gM (mfo S a 0) (mfo S a 1) (mfo S a 2) (mfo S a 3) (nI i - 9)) b n then u ||| 1 <<< (nI i &&& 31) else u) j 0
theorem s9 (j : Nat) : nI j - 9 + 9 = nI j := Int32.sub_add_cancel _ _
/-- the machine at hand in a search -/
def gR (k c s t y : Int32) : Nat → Int32 := upd (upd (upd (gM k c 1 s 0) 2 t) 3 s) 4 y
def fsP (b : Int64) (n : Nat) (k c s : Int32) (t jc : Nat) : Bool := decide (trX (kc k) (gR k c s (nI t) (nI jc - 9)) b n)
def fO (P : Nat → Nat → Bool) : Nat → Nat → Int32
  | 0, _ => -1
  | g + 1, t => match ff (P t) 19 0 with
    | some jc => 100 * nI t + (nI jc - 9) + 9
    | none => fO P g (t + 1)
theorem fO_s {P : Nat → Nat → Bool} {g t jc : Nat} (h : ff (P t) 19 0 = some jc) : fO P (g + 1) t = 100 * nI t + (nI jc - 9) + 9 := by simp only [fO, h]
theorem fO_n {P : Nat → Nat → Bool} {g t : Nat} (h : ff (P t) 19 0 = none) : fO P (g + 1) t = fO P g (t + 1) := by simp only [fO, h]
theorem alC {c : Int32} (h : 1 ≤ c ∧ c ≤ 6) : ∃ m : Nat, 1 ≤ m ∧ m ≤ 63 ∧ (1 <<< (c &&& 31) - 1 : Int32) = nI m := by
  obtain ⟨k, hk, rfl⟩ := nI_of2 (x := c) (M := 6) (n := 6) rfl (Int32.not_lt.mpr (Int32.le_trans (by decide) h.1)) h.2
  have h1 : ¬ k = 0 := by
    rintro rfl
    exact absurd h.1 (by decide)
  obtain rfl | rfl | rfl | rfl | rfl | rfl : k = 1 ∨ k = 2 ∨ k = 3 ∨ k = 4 ∨ k = 5 ∨ k = 6 := by omega
  · exact ⟨1, by decide, by decide, by decide⟩
  · exact ⟨3, by decide, by decide, by decide⟩
  · exact ⟨7, by decide, by decide, by decide⟩
  · exact ⟨15, by decide, by decide, by decide⟩
  · exact ⟨31, by decide, by decide, by decide⟩
  · exact ⟨63, by decide, by decide, by decide⟩
set_option maxHeartbeats 4000000 in
set_option maxRecDepth 100000 in
theorem c_X10_tellsRow (Z : VZ) (S : XS) (a_ : Nat) (b_ : Int64) (n_ : Int32) (ha : a_ ∈ xL S) (hm : mcl (xmk S a_)) : Ct XW Z yX10_tellsRow cX10_tellsRow 5 (some .boolean) 4 0 0 [.ref (a_), .long b_, .int n_] (S) (fun v S' => v = some (.int (bI (trX (xmk S a_) (mfo S a_) b_ n_.toNatClampNeg))) ∧ ∃ j, S' = xM S a_ (advN (xmk S a_) j (mfo S a_))) := by
  refine V_entry (own := RX10) (by decide) rfl (Nat.le_of_ble_eq_true rfl) ?_
  intro B hB
  refine V_sub (L' := [(0, .ref (a_)), (1, .long b_), (3, .int n_)]) [0, 1, 2] rfl ?_
  refine V_iconst (v := 0) (pc := 0) dX10_tellsRow_0 (by decide) ?_
  refine V_istore (pc := 1) (L2 := [(0, .ref (a_)), (1, .long b_), (3, .int n_)]) dX10_tellsRow_1 (by decide) rfl (fun x4_1 ex4_1 => ?_)
  subst ex4_1
  refine V_eqS _ (xM_self S a_) ?_
  refine V_sub (L' := [(4, .int (nI 0)), (0, .ref (a_)), (1, .long b_), (3, .int n_)]) [0, 1, 2, 3] rfl ?_
  refine Vloop (σ := Nat) (fun x => x ≤ n_.toNatClampNeg ∧ ∀ i, i < x → advN (xmk S a_) i (mfo S a_) 3 &&& 1 = (lbt b_ (nI i)).toInt32) (fun x => n_.toNatClampNeg - x) (fun x => V XW Z cX10_tellsRow RX10 5 (some .boolean) 4 0 0 B 0 0 3 [(4, .int (nI x)), (0, .ref (a_)), (1, .long b_), (3, .int n_)] [] (xM S a_ (advN (xmk S a_) x (mfo S a_)))) ?_ 0 (by exact ⟨Nat.zero_le _, fun i hi => absurd hi (Nat.not_lt_zero _)⟩)
  rintro j hI3 ih3
  have hI3 : j ≤ n_.toNatClampNeg ∧ ∀ i, i < j → advN (xmk S a_) i (mfo S a_) 3 &&& 1 = (lbt b_ (nI i)).toInt32 := hI3
  show V XW Z cX10_tellsRow RX10 5 (some .boolean) 4 0 0 B 0 0 3 [(4, .int (nI j)), (0, .ref (a_)), (1, .long b_), (3, .int n_)] [] (xM S a_ (advN (xmk S a_) j (mfo S a_)))
  refine V_iload (pc := 3) dX10_tellsRow_3 0 rfl ?_
  refine V_iload_n (pc := 5) dX10_tellsRow_5 3 rfl rfl ?_
  refine V_icmp_ge (pc := 6) (tgt := 31) dX10_tellsRow_6 (by decide) (fun h6 => ?_) (fun h6 => ?_)
  · skip
    have hj : n_.toNatClampNeg ≤ j := jge h6 (Nat.lt_of_le_of_lt hI3.1 (clampLt _))
    refine V_iconst (v := 1) (pc := 31) dX10_tellsRow_31 (by decide) ?_
    exact V_zret (pc := 32) dX10_tellsRow_32 (Nat.le_of_ble_eq_true rfl) (Nat.le_of_ble_eq_true rfl) (Or.inr rfl) (hB _ _ ⟨congrArg (fun z => some (Value.int z)) (by exact (bI_t (fun i hi => hI3.2 i (by omega))).symm), by exact ⟨j, rfl⟩⟩)
  · skip
    have hj : j < n_.toNatClampNeg := jlt h6 (Nat.lt_of_le_of_lt hI3.1 (clampLt _))
    refine V_aload_n (pc := 9) dX10_tellsRow_9 1 rfl rfl ?_
    refine Xv_advance (pc := 10) (by exact ha) (by exact hm) dX10_tellsRow_10 (Nat.le_of_ble_eq_true rfl) (by decide) (Nat.le_of_ble_eq_true rfl) (Nat.le_of_ble_eq_true rfl) ?_
    refine V_eqS (xM S a_ (advN (xmk S a_) (j + 1) (mfo S a_))) (by refine (xM_xM _ _ _ _).trans ?_; rw [mfo_xM]; rfl) ?_
    refine V_eqi (advN (xmk S a_) j (mfo S a_) 3 &&& 1) (by rw [mfo_xM]) ?_
    refine V_lload_n (pc := 13) dX10_tellsRow_13 2 rfl rfl ?_
    refine V_iload (pc := 14) dX10_tellsRow_14 0 rfl ?_
    refine V_lushr (pc := 16) dX10_tellsRow_16 rfl ?_
    refine V_lconst (v := 1) (pc := 17) dX10_tellsRow_17 (by decide) ?_
    refine V_land (pc := 18) dX10_tellsRow_18 ?_
    refine V_l2i (pc := 19) dX10_tellsRow_19 rfl ?_
    refine V_icmp_eq (pc := 20) (tgt := 25) dX10_tellsRow_20 (by decide) (fun h20 => ?_) (fun h20 => ?_)
    · skip
      refine V_iinc (pc := 25) (v := 1) (L2 := [(0, .ref (a_)), (1, .long b_), (3, .int n_)]) dX10_tellsRow_25 0 rfl (by decide) (by decide) rfl (fun x4_25 ex4_25 => ?_)
      rw [nI_1] at ex4_25
      subst ex4_25
      refine V_goto (pc := 28) (tgt := 3) dX10_tellsRow_28 (by decide) ?_
      refine V_sub (L' := [(4, .int (nI (j + 1))), (0, .ref (a_)), (1, .long b_), (3, .int n_)]) [0, 1, 2, 3] rfl ?_
      refine ih3 ((j + 1)) ?_ ?_
      · refine ⟨hj, fun i hi => ?_⟩
        by_cases e : i = j
        · rw [e]; exact h20
        · exact hI3.2 i (by omega)
      · show n_.toNatClampNeg - (j + 1) < n_.toNatClampNeg - j
        omega
    · skip
      refine V_iconst (v := 0) (pc := 23) dX10_tellsRow_23 (by decide) ?_
      exact V_zret (pc := 24) dX10_tellsRow_24 (Nat.le_of_ble_eq_true rfl) (Nat.le_of_ble_eq_true rfl) (Or.inl rfl) (hB _ _ ⟨congrArg (fun z => some (Value.int z)) (by exact (bI_f (fun h => h20 (h j hj))).symm), by exact ⟨j + 1, rfl⟩⟩)
set_option maxHeartbeats 4000000 in
set_option maxRecDepth 100000 in
theorem c_X10_replayingKinds (Z : VZ) (S : XS) (a_ : Nat) (b_ : Int64) (n_ : Int32) (ha : a_ ∈ xL S) (hm : mcl (xmk S a_)) : Ct XW Z yX10_replayingKinds cX10_replayingKinds 6 (some .int) 6 6 36 [.ref (a_), .long b_, .int n_] (S) (fun v S' => v = some (.int (rkX S a_ b_ n_.toNatClampNeg 6)) ∧ xCor S S') := by
  refine V_entry (own := RX10) (by decide) rfl (Nat.le_of_ble_eq_true rfl) ?_
  intro B hB
  refine V_sub (L' := [(0, .ref (a_)), (1, .long b_), (3, .int n_)]) [0, 1, 2] rfl ?_
  refine V_iconst (v := 0) (pc := 0) dX10_replayingKinds_0 (by decide) ?_
  refine V_istore (pc := 1) (L2 := [(0, .ref (a_)), (1, .long b_), (3, .int n_)]) dX10_replayingKinds_1 (by decide) rfl (fun x4_1 ex4_1 => ?_)
  subst ex4_1
  refine V_iconst (v := 0) (pc := 3) dX10_replayingKinds_3 (by decide) ?_
  refine V_istore (pc := 4) (L2 := [(4, .int 0), (0, .ref (a_)), (1, .long b_), (3, .int n_)]) dX10_replayingKinds_4 (by decide) rfl (fun x5_4 ex5_4 => ?_)
  subst ex5_4
  refine V_sub (L' := [(5, .int (nI 0)), (4, .int 0), (0, .ref (a_)), (1, .long b_), (3, .int n_)]) [0, 1, 2, 3, 4] rfl ?_
  refine V_widen (n' := ((0))) (k' := (6 * (0))) (by omega) (by omega) ?_
  refine Vloop (σ := Nat × Int32 × XS) (fun x => (x.1) ≤ 6 ∧ (x.2.1) = rkX S a_ b_ n_.toNatClampNeg (x.1) ∧ xCor S (x.2.2)) (fun x => 6 - (x.1)) (fun x => V XW Z cX10_replayingKinds RX10 6 (some .int) 6 6 36 B ((x.1)) (6 * (x.1)) 6 [(5, .int (nI (x.1))), (4, .int (x.2.1)), (0, .ref (a_)), (1, .long b_), (3, .int n_)] [] ((x.2.2))) ?_ (0, 0, _) (by exact ⟨Nat.zero_le _, rfl, xCor_rfl S⟩)
  rintro ⟨j, u, U_⟩ hI6 ih6
  have hI6 : j ≤ 6 ∧ u = rkX S a_ b_ n_.toNatClampNeg j ∧ xCor S U_ := hI6
  show V XW Z cX10_replayingKinds RX10 6 (some .int) 6 6 36 B (j) (6 * j) 6 [(5, .int (nI j)), (4, .int u), (0, .ref (a_)), (1, .long b_), (3, .int n_)] [] (U_)
  obtain ⟨a1_, a2_, a3_⟩ := hI6.2.2.2.2.2 a_ ha
  refine V_iload (pc := 6) dX10_replayingKinds_6 0 rfl ?_
  refine V_iconst (v := 5) (pc := 8) dX10_replayingKinds_8 (by decide) ?_
  refine V_icmp_gt (pc := 9) (tgt := 56) dX10_replayingKinds_9 (by decide) (fun h9 => ?_) (fun h9 => ?_)
  · skip
    have hj : 5 < j := jgt (b := 5) (by decide) (by omega) h9
    have ej : j = 6 := by omega
    refine V_iload (pc := 56) dX10_replayingKinds_56 1 rfl ?_
    exact V_iret (pc := 58) dX10_replayingKinds_58 (by omega) (by omega) (hB _ _ ⟨congrArg (fun z => some (Value.int z)) (by rw [hI6.2.1, ej]), by exact hI6.2.2⟩)
  · skip
    have hj : j < 6 := Nat.lt_succ_of_le (jngt (b := 5) (by decide) (by omega) h9)
    refine V_iload (pc := 12) dX10_replayingKinds_12 0 rfl ?_
    refine V_aload_n (pc := 14) dX10_replayingKinds_14 2 rfl rfl ?_
    refine Xmg_cells (pc := 15) (v := (mfo S a_ 1)) (by exact a1_) (by exact (congrArg mcl a2_).mpr hm) (by exact congrFun a3_ 1) dX10_replayingKinds_15 tw_202 (Or.inl rfl) ?_
    refine V_aload_n (pc := 18) dX10_replayingKinds_18 2 rfl rfl ?_
    refine Xmg_taps (pc := 19) (v := (mfo S a_ 2)) (by exact a1_) (by exact (congrArg mcl a2_).mpr hm) (by exact congrFun a3_ 2) dX10_replayingKinds_19 tw_206 (Or.inl rfl) ?_
    refine V_aload_n (pc := 22) dX10_replayingKinds_22 2 rfl rfl ?_
    refine Xmg_state (pc := 23) (v := (mfo S a_ 3)) (by exact a1_) (by exact (congrArg mcl a2_).mpr hm) (by exact congrFun a3_ 3) dX10_replayingKinds_23 tw_210 (Or.inl rfl) ?_
    refine V_aload_n (pc := 26) dX10_replayingKinds_26 2 rfl rfl ?_
    refine Xmg_carry (pc := 27) (v := (mfo S a_ 4)) (by exact a1_) (by exact (congrArg mcl a2_).mpr hm) (by exact congrFun a3_ 4) dX10_replayingKinds_27 tw_218 (Or.inl rfl) ?_
    refine V_callS (pc := 30) dX10_replayingKinds_30 (c_X10_made Z _ _ _ _ _ _) kX10_68 rfl (Nat.le_of_ble_eq_true rfl) (by decide) (by decide) (by omega) (by omega) (fun v30 S30 hp30 => ?_)
    refine V_widen (n' := ((j) + 1)) (k' := ((6 * j) + 6)) (Nat.le_refl _) (Nat.le_refl _) ?_
    obtain ⟨q_, rfl, hq_, rfl⟩ := hp30
    refine V_lload_n (pc := 33) dX10_replayingKinds_33 3 rfl rfl ?_
    refine V_iload_n (pc := 34) dX10_replayingKinds_34 4 rfl rfl ?_
    refine V_callS (pc := 35) dX10_replayingKinds_35 (c_X10_tellsRow Z _ _ _ _ (by exact in_xN _ _ _ _) (by exact mcl_xN _ _ _ _)) kX10_323 rfl (Nat.le_of_ble_eq_true rfl) (by decide) (by decide) (by omega) (by omega) (fun v35 S35 hp35 => ?_)
    obtain ⟨rfl, jj_, rfl⟩ := hp35
    refine V_eqS (xN U_ q_ _ _) (xN_M _ _ _ _ _) ?_
    refine V_bif_eq (pc := 38) (tgt := 50) dX10_replayingKinds_38 (by decide) (fun h38 => ?_) (fun h38 => ?_)
    · skip
      rw [xmk_xN, mfo_xN] at h38
      refine V_iinc (pc := 50) (v := 1) (L2 := [(4, .int u), (0, .ref (a_)), (1, .long b_), (3, .int n_)]) dX10_replayingKinds_50 0 rfl (by decide) (by decide) rfl (fun x5_50 ex5_50 => ?_)
      rw [nI_1] at ex5_50
      subst ex5_50
      refine V_goto (pc := 53) (tgt := 6) dX10_replayingKinds_53 (by decide) ?_
      refine V_sub (L' := [(5, .int (nI (j + 1))), (4, .int u), (0, .ref (a_)), (1, .long b_), (3, .int n_)]) [0, 1, 2, 3, 4] rfl ?_
      refine V_widen (n' := (((j + 1)))) (k' := (6 * ((j + 1)))) (by omega) (by omega) ?_
      refine ih6 (((j + 1)), _, _) ?_ ?_
      · refine ⟨hj, ?_, xCor_tr hI6.2.2 (xCor_xN U_ _ _ hq_)⟩
        rw [hI6.2.1]
        first | exact (if_pos h38).symm | exact (if_neg h38).symm
      · show 6 - (j + 1) < 6 - j
        omega
    · skip
      rw [xmk_xN, mfo_xN] at h38
      refine V_iload (pc := 41) dX10_replayingKinds_41 1 rfl ?_
      refine V_iconst (v := 1) (pc := 43) dX10_replayingKinds_43 (by decide) ?_
      refine V_iload (pc := 44) dX10_replayingKinds_44 0 rfl ?_
      refine V_ishl (pc := 46) dX10_replayingKinds_46 ?_
      refine V_ior (pc := 47) dX10_replayingKinds_47 ?_
      refine V_istore (pc := 48) (L2 := [(5, .int (nI j)), (0, .ref (a_)), (1, .long b_), (3, .int n_)]) dX10_replayingKinds_48 (by decide) rfl (fun x4_48 ex4_48 => ?_)
      subst ex4_48
      refine V_iinc (pc := 50) (v := 1) (L2 := [(4, .int (u ||| (1 <<< ((nI j) &&& 31)))), (0, .ref (a_)), (1, .long b_), (3, .int n_)]) dX10_replayingKinds_50 1 rfl (by decide) (by decide) rfl (fun x5_50 ex5_50 => ?_)
      rw [nI_1] at ex5_50
      subst ex5_50
      refine V_goto (pc := 53) (tgt := 6) dX10_replayingKinds_53 (by decide) ?_
      refine V_sub (L' := [(5, .int (nI (j + 1))), (4, .int (u ||| (1 <<< ((nI j) &&& 31)))), (0, .ref (a_)), (1, .long b_), (3, .int n_)]) [0, 1, 2, 3, 4] rfl ?_
      refine V_widen (n' := (((j + 1)))) (k' := (6 * ((j + 1)))) (by omega) (by omega) ?_
      refine ih6 (((j + 1)), _, _) ?_ ?_
      · refine ⟨hj, ?_, xCor_tr hI6.2.2 (xCor_xN U_ _ _ hq_)⟩
        rw [hI6.2.1]
        first | exact (if_pos h38).symm | exact (if_neg h38).symm
      · show 6 - (j + 1) < 6 - j
        omega
set_option maxHeartbeats 4000000 in
set_option maxRecDepth 100000 in
theorem c_X10_replayingCarries (Z : VZ) (S : XS) (a_ : Nat) (b_ : Int64) (n_ : Int32) (ha : a_ ∈ xL S) (hm : mcl (xmk S a_)) : Ct XW Z yX10_replayingCarries cX10_replayingCarries 7 (some .int) 7 1 6 [.ref (a_), .long b_, .int n_] (S) (fun v S' => v = some (.int (rcX S a_ b_ n_.toNatClampNeg 19)) ∧ xCor S S') := by
  refine V_entry (own := RX10) (by decide) rfl (Nat.le_of_ble_eq_true rfl) ?_
  intro B hB
  refine V_sub (L' := [(0, .ref (a_)), (1, .long b_), (3, .int n_)]) [0, 1, 2] rfl ?_
  refine V_aload_n (pc := 0) dX10_replayingCarries_0 0 rfl rfl ?_
  refine V_callS (pc := 1) dX10_replayingCarries_1 (c_X10_thoughtOf Z _ _ (by exact ha) (by exact hm)) kX10_114 rfl (Nat.le_of_ble_eq_true rfl) (by decide) (by decide) (Nat.le_of_ble_eq_true rfl) (Nat.le_of_ble_eq_true rfl) (fun v1 S1 hp1 => ?_)
  refine V_widen (n' := 1) (k' := 6) (Nat.le_refl _) (Nat.le_refl _) ?_
  obtain ⟨q_, rfl, hq_, rfl⟩ := hp1
  refine V_astore (pc := 4) (L2 := [(0, .ref (a_)), (1, .long b_), (3, .int n_)]) dX10_replayingCarries_4 (by decide) rfl (fun x4_4 ex4_4 => ?_)
  subst ex4_4
  refine V_iconst (v := 0) (pc := 6) dX10_replayingCarries_6 (by decide) ?_
  refine V_istore (pc := 7) (L2 := [(4, .ref (q_)), (0, .ref (a_)), (1, .long b_), (3, .int n_)]) dX10_replayingCarries_7 (by decide) rfl (fun x5_7 ex5_7 => ?_)
  subst ex5_7
  refine V_bipush (v := (-9)) (pc := 9) dX10_replayingCarries_9 (by decide) ?_
  refine V_istore (pc := 11) (L2 := [(5, .int 0), (4, .ref (q_)), (0, .ref (a_)), (1, .long b_), (3, .int n_)]) dX10_replayingCarries_11 (by decide) rfl (fun x6_11 ex6_11 => ?_)
  subst ex6_11
  refine Vloop (σ := Nat × ((Nat → Int32)) × Int32 × Int32) (fun x => (x.1) ≤ 19 ∧ (x.2.2.1) = nI (x.1) - 9 ∧ (x.2.2.2) = rcX S a_ b_ n_.toNatClampNeg (x.1) ∧ gOff (x.2.1) (gT S a_)) (fun x => 19 - (x.1)) (fun x => V XW Z cX10_replayingCarries RX10 7 (some .int) 7 1 6 B 1 6 13 [(6, .int (x.2.2.1)), (5, .int (x.2.2.2)), (4, .ref (q_)), (0, .ref (a_)), (1, .long b_), (3, .int n_)] [] (xN S q_ (kc (mfo S a_ 0)) (x.2.1))) ?_ (0, (gT S a_), (-9), 0) (by exact ⟨Nat.zero_le _, by show (-9 : Int32) = nI 0 - 9; decide, rfl, fun _ _ _ => rfl⟩)
  rintro ⟨j, g_, y_, u⟩ hI13 ih13
  have hI13 : j ≤ 19 ∧ y_ = nI j - 9 ∧ u = rcX S a_ b_ n_.toNatClampNeg j ∧ gOff g_ (gT S a_) := hI13
  show V XW Z cX10_replayingCarries RX10 7 (some .int) 7 1 6 B 1 6 13 [(6, .int y_), (5, .int u), (4, .ref (q_)), (0, .ref (a_)), (1, .long b_), (3, .int n_)] [] (xN S q_ (kc (mfo S a_ 0)) g_)
  refine V_iload (pc := 13) dX10_replayingCarries_13 0 rfl ?_
  refine V_bipush (v := 9) (pc := 15) dX10_replayingCarries_15 (by decide) ?_
  refine V_icmp_gt (pc := 17) (tgt := 64) dX10_replayingCarries_17 (by decide) (fun h17 => ?_) (fun h17 => ?_)
  · skip
    have hj : j = 19 := gt9 hI13.1 (by rw [← hI13.2.1]; exact h17)
    refine V_iload (pc := 64) dX10_replayingCarries_64 1 rfl ?_
    exact V_iret (pc := 66) dX10_replayingCarries_66 (Nat.le_of_ble_eq_true rfl) (Nat.le_of_ble_eq_true rfl) (hB _ _ ⟨congrArg (fun z => some (Value.int z)) (by rw [hI13.2.2.1, hj]), by exact xCor_xN S _ _ hq_⟩)
  · skip
    have hj : j ≤ 18 := le9 hI13.1 (by rw [← hI13.2.1]; exact h17)
    refine V_aload (pc := 20) dX10_replayingCarries_20 2 rfl ?_
    refine V_aload_n (pc := 22) dX10_replayingCarries_22 3 rfl rfl ?_
    refine Xmg_state (pc := 23) (v := (mfo S a_ 3)) (by exact List.mem_append_left _ ha) (by exact mclN_ne hq_ ha hm) (by exact mfoN_ne hq_ ha 3) dX10_replayingCarries_23 tw_210 (Or.inl rfl) ?_
    refine Xmp_state (pc := 26) (by exact in_xN _ _ _ _) (by exact mcl_xN _ _ _ _) dX10_replayingCarries_26 tw_210 (Or.inl rfl) ?_
    refine V_eqS _ (xN_put _ _ _ _ _ _) ?_
    refine V_aload (pc := 29) dX10_replayingCarries_29 2 rfl ?_
    refine V_iload (pc := 31) dX10_replayingCarries_31 0 rfl ?_
    refine Xmp_carry (pc := 33) (by exact in_xN _ _ _ _) (by exact mcl_xN _ _ _ _) dX10_replayingCarries_33 tw_218 (Or.inl rfl) ?_
    refine V_eqS _ (xN_put _ _ _ _ _ _) ?_
    refine V_eqS (xN S q_ (kc (mfo S a_ 0)) (gM (mfo S a_ 0) (mfo S a_ 1) (mfo S a_ 2) (mfo S a_ 3) y_)) (by rw [gOff_up hI13.2.2.2]) ?_
    refine V_aload (pc := 36) dX10_replayingCarries_36 2 rfl ?_
    refine V_lload_n (pc := 38) dX10_replayingCarries_38 4 rfl rfl ?_
    refine V_iload_n (pc := 39) dX10_replayingCarries_39 5 rfl rfl ?_
    refine V_callS (pc := 40) dX10_replayingCarries_40 (c_X10_tellsRow Z _ _ _ _ (by exact in_xN _ _ _ _) (by exact mcl_xN _ _ _ _)) kX10_323 rfl (Nat.le_of_ble_eq_true rfl) (by decide) (by decide) (Nat.le_of_ble_eq_true rfl) (Nat.le_of_ble_eq_true rfl) (fun v40 S40 hp40 => ?_)
    obtain ⟨rfl, jj_, rfl⟩ := hp40
    refine V_eqS (xN S q_ _ _) (xN_M _ _ _ _ _) ?_
    refine V_bif_eq (pc := 43) (tgt := 58) dX10_replayingCarries_43 (by decide) (fun h43 => ?_) (fun h43 => ?_)
    · skip
      rw [xmk_xN, mfo_xN] at h43
      refine V_iinc (pc := 58) (v := 1) (L2 := [(5, .int u), (4, .ref (q_)), (0, .ref (a_)), (1, .long b_), (3, .int n_)]) dX10_replayingCarries_58 0 rfl (by decide) (by decide) rfl (fun x6_58 ex6_58 => ?_)
      subst ex6_58
      refine V_goto (pc := 61) (tgt := 13) dX10_replayingCarries_61 (by decide) ?_
      refine V_sub (L' := [(6, .int (y_ + 1)), (5, .int u), (4, .ref (q_)), (0, .ref (a_)), (1, .long b_), (3, .int n_)]) [0, 1, 2, 3, 4, 5] rfl ?_
      refine ih13 ((j + 1), _, _, _) ?_ ?_
      · refine ⟨by show j + 1 ≤ 19; omega, by show y_ + 1 = nI (j + 1) - 9; rw [hI13.2.1, j9], ?_, gOff_tr (advN_off _ _ _) (by rw [mfo_xN]; exact gOff_gM _ _ _ _ _ _ _)⟩
        first | (show _ = rcX S a_ b_ n_.toNatClampNeg (j + 1); rw [hI13.2.2.1, hI13.2.1, s9]; rw [hI13.2.1] at h43; exact (if_pos h43).symm) | (show u = rcX S a_ b_ n_.toNatClampNeg (j + 1); rw [hI13.2.2.1]; rw [hI13.2.1] at h43; exact (if_neg h43).symm)
      · show 19 - (j + 1) < 19 - j
        omega
    · skip
      rw [xmk_xN, mfo_xN] at h43
      refine V_iload (pc := 46) dX10_replayingCarries_46 1 rfl ?_
      refine V_iconst (v := 1) (pc := 48) dX10_replayingCarries_48 (by decide) ?_
      refine V_iload (pc := 49) dX10_replayingCarries_49 0 rfl ?_
      refine V_bipush (v := 9) (pc := 51) dX10_replayingCarries_51 (by decide) ?_
      refine V_iadd (pc := 53) dX10_replayingCarries_53 ?_
      refine V_ishl (pc := 54) dX10_replayingCarries_54 ?_
      refine V_ior (pc := 55) dX10_replayingCarries_55 ?_
      refine V_istore (pc := 56) (L2 := [(6, .int y_), (4, .ref (q_)), (0, .ref (a_)), (1, .long b_), (3, .int n_)]) dX10_replayingCarries_56 (by decide) rfl (fun x5_56 ex5_56 => ?_)
      subst ex5_56
      refine V_iinc (pc := 58) (v := 1) (L2 := [(5, .int (u ||| (1 <<< ((y_ + 9) &&& 31)))), (4, .ref (q_)), (0, .ref (a_)), (1, .long b_), (3, .int n_)]) dX10_replayingCarries_58 1 rfl (by decide) (by decide) rfl (fun x6_58 ex6_58 => ?_)
      subst ex6_58
      refine V_goto (pc := 61) (tgt := 13) dX10_replayingCarries_61 (by decide) ?_
      refine V_sub (L' := [(6, .int (y_ + 1)), (5, .int (u ||| (1 <<< ((y_ + 9) &&& 31)))), (4, .ref (q_)), (0, .ref (a_)), (1, .long b_), (3, .int n_)]) [0, 1, 2, 3, 4, 5] rfl ?_
      refine ih13 ((j + 1), _, _, _) ?_ ?_
      · refine ⟨by show j + 1 ≤ 19; omega, by show y_ + 1 = nI (j + 1) - 9; rw [hI13.2.1, j9], ?_, gOff_tr (advN_off _ _ _) (by rw [mfo_xN]; exact gOff_gM _ _ _ _ _ _ _)⟩
        first | (show _ = rcX S a_ b_ n_.toNatClampNeg (j + 1); rw [hI13.2.2.1, hI13.2.1, s9]; rw [hI13.2.1] at h43; exact (if_pos h43).symm) | (show u = rcX S a_ b_ n_.toNatClampNeg (j + 1); rw [hI13.2.2.1]; rw [hI13.2.1] at h43; exact (if_neg h43).symm)
      · show 19 - (j + 1) < 19 - j
        omega
set_option maxHeartbeats 4000000 in
set_option maxRecDepth 100000 in
theorem c_X10_firstReplaying (Z : VZ) (S : XS) (b_ : Int64) (n_ : Int32) (k_ : Int32) (c_ : Int32) (hc : 1 ≤ c_ ∧ c_ ≤ 6) : Ct XW Z yX10_firstReplaying cX10_firstReplaying 9 (some .int) 6 1 6 [.long b_, .int n_, .int k_, .int c_] (S) (fun v S' => v = some (.int (fO (fsP b_ n_.toNatClampNeg k_ c_ ((b_ &&& Int32.toInt64 (1 <<< (c_ &&& 31) - 1)).toInt32)) (1 <<< (c_ &&& 31) - 1 : Int32).toNatClampNeg 1)) ∧ xCor S S') := by
  refine V_entry (own := RX10) (by decide) rfl (Nat.le_of_ble_eq_true rfl) ?_
  intro B hB
  obtain ⟨m_, hm1, hm2, em_⟩ := alC hc
  refine V_sub (L' := [(0, .long b_), (2, .int n_), (3, .int k_), (4, .int c_)]) [0, 1, 2, 3] rfl ?_
  refine V_lload_n (pc := 0) dX10_firstReplaying_0 0 rfl rfl ?_
  refine V_iload (pc := 1) dX10_firstReplaying_1 3 rfl ?_
  refine V_callSi (pc := 3) dX10_firstReplaying_3 (c_X10_allCells Z _ _) kX10_64 rfl (Nat.le_of_ble_eq_true rfl) (by decide) (by decide) (Nat.le_of_ble_eq_true rfl) (Nat.le_of_ble_eq_true rfl) ?_
  refine V_i2l (pc := 6) dX10_firstReplaying_6 rfl ?_
  refine V_land (pc := 7) dX10_firstReplaying_7 ?_
  refine V_l2i (pc := 8) dX10_firstReplaying_8 rfl ?_
  refine V_istore (pc := 9) (L2 := [(0, .long b_), (2, .int n_), (3, .int k_), (4, .int c_)]) dX10_firstReplaying_9 (by decide) rfl (fun x5_9 ex5_9 => ?_)
  subst ex5_9
  refine V_iload_n (pc := 11) dX10_firstReplaying_11 3 rfl rfl ?_
  refine V_iload (pc := 12) dX10_firstReplaying_12 4 rfl ?_
  refine V_iconst (v := 1) (pc := 14) dX10_firstReplaying_14 (by decide) ?_
  refine V_iload (pc := 15) dX10_firstReplaying_15 0 rfl ?_
  refine V_iconst (v := 0) (pc := 17) dX10_firstReplaying_17 (by decide) ?_
  refine V_callS (pc := 18) dX10_firstReplaying_18 (c_X10_made Z _ _ _ _ _ _) kX10_68 rfl (Nat.le_of_ble_eq_true rfl) (by decide) (by decide) (Nat.le_of_ble_eq_true rfl) (Nat.le_of_ble_eq_true rfl) (fun v18 S18 hp18 => ?_)
  refine V_widen (n' := 1) (k' := 6) (Nat.le_refl _) (Nat.le_refl _) ?_
  obtain ⟨q_, rfl, hq_, rfl⟩ := hp18
  refine V_astore (pc := 21) (L2 := [(5, .int (Int64.toInt32 (b_ &&& (Int32.toInt64 (1 <<< (c_ &&& 31) - 1))))), (0, .long b_), (2, .int n_), (3, .int k_), (4, .int c_)]) dX10_firstReplaying_21 (by decide) rfl (fun x6_21 ex6_21 => ?_)
  subst ex6_21
  refine V_iconst (v := 1) (pc := 23) dX10_firstReplaying_23 (by decide) ?_
  refine V_istore (pc := 24) (L2 := [(6, .ref (q_)), (5, .int (Int64.toInt32 (b_ &&& (Int32.toInt64 (1 <<< (c_ &&& 31) - 1))))), (0, .long b_), (2, .int n_), (3, .int k_), (4, .int c_)]) dX10_firstReplaying_24 (by decide) rfl (fun x7_24 ex7_24 => ?_)
  subst ex7_24
  refine V_sub (L' := [(7, .int (nI 1)), (6, .ref (q_)), (5, .int (Int64.toInt32 (b_ &&& (Int32.toInt64 (1 <<< (c_ &&& 31) - 1))))), (0, .long b_), (2, .int n_), (3, .int k_), (4, .int c_)]) [0, 1, 2, 3, 4, 5, 6] rfl ?_
  refine Vloop (σ := ((Nat → Int32)) × Nat) (fun x => 1 ≤ (x.2) ∧ (x.2) ≤ m_ + 1 ∧ (∀ i, i ≠ 2 → i ≠ 3 → i ≠ 4 → (x.1) i = (gM k_ c_ 1 ((b_ &&& Int32.toInt64 (1 <<< (c_ &&& 31) - 1)).toInt32) 0) i) ∧ fO (fsP b_ n_.toNatClampNeg k_ c_ ((b_ &&& Int32.toInt64 (1 <<< (c_ &&& 31) - 1)).toInt32)) (m_ + 1 - (x.2)) (x.2) = fO (fsP b_ n_.toNatClampNeg k_ c_ ((b_ &&& Int32.toInt64 (1 <<< (c_ &&& 31) - 1)).toInt32)) m_ 1) (fun x => m_ + 1 - (x.2)) (fun x => V XW Z cX10_firstReplaying RX10 9 (some .int) 6 1 6 B 1 6 26 [(7, .int (nI (x.2))), (6, .ref (q_)), (5, .int (Int64.toInt32 (b_ &&& (Int32.toInt64 (1 <<< (c_ &&& 31) - 1))))), (0, .long b_), (2, .int n_), (3, .int k_), (4, .int c_)] [] (xN S q_ (kc k_) (x.1))) ?_ ((gM k_ c_ 1 ((b_ &&& Int32.toInt64 (1 <<< (c_ &&& 31) - 1)).toInt32) 0), 1) (by exact ⟨Nat.le_refl _, by omega, fun _ _ _ _ => rfl, rfl⟩)
  rintro ⟨g_, jt⟩ hI26 ih26
  have hI26 : 1 ≤ jt ∧ jt ≤ m_ + 1 ∧ (∀ i, i ≠ 2 → i ≠ 3 → i ≠ 4 → g_ i = (gM k_ c_ 1 ((b_ &&& Int32.toInt64 (1 <<< (c_ &&& 31) - 1)).toInt32) 0) i) ∧ fO (fsP b_ n_.toNatClampNeg k_ c_ ((b_ &&& Int32.toInt64 (1 <<< (c_ &&& 31) - 1)).toInt32)) (m_ + 1 - jt) jt = fO (fsP b_ n_.toNatClampNeg k_ c_ ((b_ &&& Int32.toInt64 (1 <<< (c_ &&& 31) - 1)).toInt32)) m_ 1 := hI26
  show V XW Z cX10_firstReplaying RX10 9 (some .int) 6 1 6 B 1 6 26 [(7, .int (nI jt)), (6, .ref (q_)), (5, .int (Int64.toInt32 (b_ &&& (Int32.toInt64 (1 <<< (c_ &&& 31) - 1))))), (0, .long b_), (2, .int n_), (3, .int k_), (4, .int c_)] [] (xN S q_ (kc k_) g_)
  refine V_iload (pc := 26) dX10_firstReplaying_26 0 rfl ?_
  refine V_iload (pc := 28) dX10_firstReplaying_28 6 rfl ?_
  refine V_callSi (pc := 30) dX10_firstReplaying_30 (c_X10_allCells Z _ _) kX10_64 rfl (Nat.le_of_ble_eq_true rfl) (by decide) (by decide) (Nat.le_of_ble_eq_true rfl) (Nat.le_of_ble_eq_true rfl) ?_
  refine V_icmp_gt (pc := 33) (tgt := 102) dX10_firstReplaying_33 (by decide) (fun h33 => ?_) (fun h33 => ?_)
  · skip
    rw [em_] at h33
    have hjt : m_ < jt := jgt (by omega) (by omega) h33
    refine V_iconst (v := (-1)) (pc := 102) dX10_firstReplaying_102 (by decide) ?_
    exact V_iret (pc := 103) dX10_firstReplaying_103 (Nat.le_of_ble_eq_true rfl) (Nat.le_of_ble_eq_true rfl) (hB _ _ ⟨congrArg (fun z => some (Value.int z)) (by rw [show (1 <<< (c_ &&& 31) - 1 : Int32).toNatClampNeg = m_ from by rw [em_, nI_clamp (by omega)], ← hI26.2.2.2, show m_ + 1 - jt = 0 by omega]; rfl), by exact xCor_xN S _ _ hq_⟩)
  · skip
    rw [em_] at h33
    have hjt : jt ≤ m_ := jngt (by omega) (by omega) h33
    refine V_aload (pc := 36) dX10_firstReplaying_36 1 rfl ?_
    refine V_iload (pc := 38) dX10_firstReplaying_38 0 rfl ?_
    refine Xmp_taps (pc := 40) (by exact in_xN _ _ _ _) (by exact mcl_xN _ _ _ _) dX10_firstReplaying_40 tw_206 (Or.inl rfl) ?_
    refine V_eqS _ (xN_put _ _ _ _ _ _) ?_
    have w2 : gOff (upd g_ 2 (nI jt)) (upd (gM k_ c_ 1 ((b_ &&& Int32.toInt64 (1 <<< (c_ &&& 31) - 1)).toInt32) 0) 2 (nI jt)) := by
      intro i e3 e4
      simp only [upd]
      by_cases e2 : i = 2
      · rw [if_pos e2, if_pos e2]
      · rw [if_neg e2, if_neg e2]; exact hI26.2.2.1 i e2 e3 e4
    refine V_bipush (v := (-9)) (pc := 43) dX10_firstReplaying_43 (by decide) ?_
    refine V_istore (pc := 45) (L2 := [(7, .int (nI jt)), (6, .ref (q_)), (5, .int (Int64.toInt32 (b_ &&& (Int32.toInt64 (1 <<< (c_ &&& 31) - 1))))), (0, .long b_), (2, .int n_), (3, .int k_), (4, .int c_)]) dX10_firstReplaying_45 (by decide) rfl (fun x8_45 ex8_45 => ?_)
    subst ex8_45
    refine Vloop (σ := Nat × ((Nat → Int32)) × Int32) (fun x => (x.1) ≤ 19 ∧ (x.2.2) = nI (x.1) - 9 ∧ ff ((fsP b_ n_.toNatClampNeg k_ c_ ((b_ &&& Int32.toInt64 (1 <<< (c_ &&& 31) - 1)).toInt32)) jt) (19 - (x.1)) (x.1) = ff ((fsP b_ n_.toNatClampNeg k_ c_ ((b_ &&& Int32.toInt64 (1 <<< (c_ &&& 31) - 1)).toInt32)) jt) 19 0 ∧ gOff (x.2.1) (upd (gM k_ c_ 1 ((b_ &&& Int32.toInt64 (1 <<< (c_ &&& 31) - 1)).toInt32) 0) 2 (nI jt))) (fun x => 19 - (x.1)) (fun x => V XW Z cX10_firstReplaying RX10 9 (some .int) 6 1 6 B 1 6 47 [(8, .int (x.2.2)), (7, .int (nI jt)), (6, .ref (q_)), (5, .int (Int64.toInt32 (b_ &&& (Int32.toInt64 (1 <<< (c_ &&& 31) - 1))))), (0, .long b_), (2, .int n_), (3, .int k_), (4, .int c_)] [] (xN S q_ (kc k_) (x.2.1))) ?_ (0, _, (-9)) (by exact ⟨Nat.zero_le _, by show (-9 : Int32) = nI 0 - 9; decide, rfl, w2⟩)
    rintro ⟨jc, g2_, y_⟩ hI47 ih47
    have hI47 : jc ≤ 19 ∧ y_ = nI jc - 9 ∧ ff ((fsP b_ n_.toNatClampNeg k_ c_ ((b_ &&& Int32.toInt64 (1 <<< (c_ &&& 31) - 1)).toInt32)) jt) (19 - jc) jc = ff ((fsP b_ n_.toNatClampNeg k_ c_ ((b_ &&& Int32.toInt64 (1 <<< (c_ &&& 31) - 1)).toInt32)) jt) 19 0 ∧ gOff g2_ (upd (gM k_ c_ 1 ((b_ &&& Int32.toInt64 (1 <<< (c_ &&& 31) - 1)).toInt32) 0) 2 (nI jt)) := hI47
    show V XW Z cX10_firstReplaying RX10 9 (some .int) 6 1 6 B 1 6 47 [(8, .int y_), (7, .int (nI jt)), (6, .ref (q_)), (5, .int (Int64.toInt32 (b_ &&& (Int32.toInt64 (1 <<< (c_ &&& 31) - 1))))), (0, .long b_), (2, .int n_), (3, .int k_), (4, .int c_)] [] (xN S q_ (kc k_) g2_)
    refine V_iload (pc := 47) dX10_firstReplaying_47 0 rfl ?_
    refine V_bipush (v := 9) (pc := 49) dX10_firstReplaying_49 (by decide) ?_
    refine V_icmp_gt (pc := 51) (tgt := 96) dX10_firstReplaying_51 (by decide) (fun h51 => ?_) (fun h51 => ?_)
    · skip
      have hjc : jc = 19 := gt9 hI47.1 (by rw [← hI47.2.1]; exact h51)
      have hnone : ff ((fsP b_ n_.toNatClampNeg k_ c_ ((b_ &&& Int32.toInt64 (1 <<< (c_ &&& 31) - 1)).toInt32)) jt) 19 0 = none := by rw [← hI47.2.2.1, hjc]; rfl
      refine V_iinc (pc := 96) (v := 1) (L2 := [(8, .int y_), (6, .ref (q_)), (5, .int (Int64.toInt32 (b_ &&& (Int32.toInt64 (1 <<< (c_ &&& 31) - 1))))), (0, .long b_), (2, .int n_), (3, .int k_), (4, .int c_)]) dX10_firstReplaying_96 1 rfl (by decide) (by decide) rfl (fun x7_96 ex7_96 => ?_)
      rw [nI_1] at ex7_96
      subst ex7_96
      refine V_goto (pc := 99) (tgt := 26) dX10_firstReplaying_99 (by decide) ?_
      refine V_sub (L' := [(7, .int (nI (jt + 1))), (6, .ref (q_)), (5, .int (Int64.toInt32 (b_ &&& (Int32.toInt64 (1 <<< (c_ &&& 31) - 1))))), (0, .long b_), (2, .int n_), (3, .int k_), (4, .int c_)]) [0, 2, 3, 4, 5, 6, 7] rfl ?_
      refine ih26 (_, ((jt + 1))) ?_ ?_
      · refine ⟨by show 1 ≤ jt + 1; omega, by show jt + 1 ≤ m_ + 1; omega, fun i e2 e3 e4 => (hI47.2.2.2 i e3 e4).trans (by simp only [upd]; rw [if_neg e2]), ?_⟩
        show fO _ (m_ + 1 - (jt + 1)) (jt + 1) = _
        rw [← hI26.2.2.2, show m_ + 1 - jt = m_ + 1 - (jt + 1) + 1 by omega, fO_n]
        exact hnone
      · show m_ + 1 - (jt + 1) < m_ + 1 - jt
        omega
    · skip
      have hjc : jc ≤ 18 := le9 hI47.1 (by rw [← hI47.2.1]; exact h51)
      refine V_aload (pc := 54) dX10_firstReplaying_54 2 rfl ?_
      refine V_iload (pc := 56) dX10_firstReplaying_56 3 rfl ?_
      refine Xmp_state (pc := 58) (by exact in_xN _ _ _ _) (by exact mcl_xN _ _ _ _) dX10_firstReplaying_58 tw_210 (Or.inl rfl) ?_
      refine V_eqS _ (xN_put _ _ _ _ _ _) ?_
      refine V_aload (pc := 61) dX10_firstReplaying_61 2 rfl ?_
      refine V_iload (pc := 63) dX10_firstReplaying_63 0 rfl ?_
      refine Xmp_carry (pc := 65) (by exact in_xN _ _ _ _) (by exact mcl_xN _ _ _ _) dX10_firstReplaying_65 tw_218 (Or.inl rfl) ?_
      refine V_eqS _ (xN_put _ _ _ _ _ _) ?_
      refine V_eqS (xN S q_ (kc k_) (upd (upd (upd (gM k_ c_ 1 ((b_ &&& Int32.toInt64 (1 <<< (c_ &&& 31) - 1)).toInt32) 0) 2 (nI jt)) 3 ((b_ &&& Int32.toInt64 (1 <<< (c_ &&& 31) - 1)).toInt32)) 4 y_)) (by rw [gOff_u hI47.2.2.2]) ?_
      refine V_aload (pc := 68) dX10_firstReplaying_68 2 rfl ?_
      refine V_lload_n (pc := 70) dX10_firstReplaying_70 4 rfl rfl ?_
      refine V_iload_n (pc := 71) dX10_firstReplaying_71 5 rfl rfl ?_
      refine V_callS (pc := 72) dX10_firstReplaying_72 (c_X10_tellsRow Z _ _ _ _ (by exact in_xN _ _ _ _) (by exact mcl_xN _ _ _ _)) kX10_323 rfl (Nat.le_of_ble_eq_true rfl) (by decide) (by decide) (Nat.le_of_ble_eq_true rfl) (Nat.le_of_ble_eq_true rfl) (fun v72 S72 hp72 => ?_)
      obtain ⟨rfl, jj_, rfl⟩ := hp72
      refine V_eqS (xN S q_ _ _) (xN_M _ _ _ _ _) ?_
      refine V_bif_eq (pc := 75) (tgt := 90) dX10_firstReplaying_75 (by decide) (fun h75 => ?_) (fun h75 => ?_)
      · skip
        rw [xmk_xN, mfo_xN] at h75
        refine V_iinc (pc := 90) (v := 1) (L2 := [(7, .int (nI jt)), (6, .ref (q_)), (5, .int (Int64.toInt32 (b_ &&& (Int32.toInt64 (1 <<< (c_ &&& 31) - 1))))), (0, .long b_), (2, .int n_), (3, .int k_), (4, .int c_)]) dX10_firstReplaying_90 0 rfl (by decide) (by decide) rfl (fun x8_90 ex8_90 => ?_)
        subst ex8_90
        refine V_goto (pc := 93) (tgt := 47) dX10_firstReplaying_93 (by decide) ?_
        refine V_sub (L' := [(8, .int (y_ + 1)), (7, .int (nI jt)), (6, .ref (q_)), (5, .int (Int64.toInt32 (b_ &&& (Int32.toInt64 (1 <<< (c_ &&& 31) - 1))))), (0, .long b_), (2, .int n_), (3, .int k_), (4, .int c_)]) [0, 1, 2, 3, 4, 5, 6, 7] rfl ?_
        refine ih47 ((jc + 1), _, _) ?_ ?_
        · refine ⟨by show jc + 1 ≤ 19; omega, by show y_ + 1 = nI (jc + 1) - 9; rw [hI47.2.1, j9], ?_, gOff_tr (advN_off _ _ _) (by rw [mfo_xN]; exact gOff_uu _ _ _)⟩
          show ff _ (19 - (jc + 1)) (jc + 1) = _
          rw [← hI47.2.2.1, show 19 - jc = 19 - (jc + 1) + 1 by omega, ff_f (by simp only [fsP, gR]; rw [← hI47.2.1]; simpa using h75)]
        · show 19 - (jc + 1) < 19 - jc
          omega
      · skip
        rw [xmk_xN, mfo_xN] at h75
        refine V_bipush (v := 100) (pc := 78) dX10_firstReplaying_78 (by decide) ?_
        refine V_iload (pc := 80) dX10_firstReplaying_80 1 rfl ?_
        refine V_imul (pc := 82) dX10_firstReplaying_82 ?_
        refine V_iload (pc := 83) dX10_firstReplaying_83 0 rfl ?_
        refine V_iadd (pc := 85) dX10_firstReplaying_85 ?_
        refine V_bipush (v := 9) (pc := 86) dX10_firstReplaying_86 (by decide) ?_
        refine V_iadd (pc := 88) dX10_firstReplaying_88 ?_
        exact V_iret (pc := 89) dX10_firstReplaying_89 (Nat.le_of_ble_eq_true rfl) (Nat.le_of_ble_eq_true rfl) (hB _ _ ⟨congrArg (fun z => some (Value.int z)) (by rw [show (1 <<< (c_ &&& 31) - 1 : Int32).toNatClampNeg = m_ from by rw [em_, nI_clamp (by omega)], ← hI26.2.2.2, show m_ + 1 - jt = m_ + 1 - (jt + 1) + 1 by omega, fO_s (jc := jc) (by rw [← hI47.2.2.1, show 19 - jc = 18 - jc + 1 by omega, ff_t (by simp only [fsP, gR]; rw [← hI47.2.1]; simpa using h75)]), hI47.2.1]), by exact xCor_xN S _ _ hq_⟩)
def foX (S : XS) (a : Nat) (b : Int64) (n : Nat) : Int32 := if tlL (kc (mfo S a 0)) (gT S a) n ^^^ b = 0 then -1 else ntzL (tlL (kc (mfo S a 0)) (gT S a) n ^^^ b)
set_option maxHeartbeats 4000000 in
set_option maxRecDepth 100000 in
theorem c_X10_firstOtherwise (Z : VZ) (S : XS) (a_ : Nat) (b_ : Int64) (n_ : Int32) (ha : a_ ∈ xL S) (hm : mcl (xmk S a_)) : Ct XW Z yX10_firstOtherwise cX10_firstOtherwise 6 (some .int) 7 1 6 [.ref (a_), .long b_, .int n_] (S) (fun v S' => v = some (.int (foX S a_ b_ n_.toNatClampNeg)) ∧ xCor S S') := by
  refine V_entry (own := RX10) (by decide) rfl (Nat.le_of_ble_eq_true rfl) ?_
  intro B hB
  refine V_sub (L' := [(0, .ref (a_)), (1, .long b_), (3, .int n_)]) [0, 1, 2] rfl ?_
  refine V_aload_n (pc := 0) dX10_firstOtherwise_0 0 rfl rfl ?_
  refine V_callS (pc := 1) dX10_firstOtherwise_1 (c_X10_thoughtOf Z _ _ (by exact ha) (by exact hm)) kX10_114 rfl (Nat.le_of_ble_eq_true rfl) (by decide) (by decide) (Nat.le_of_ble_eq_true rfl) (Nat.le_of_ble_eq_true rfl) (fun v1 S1 hp1 => ?_)
  refine V_widen (n' := 1) (k' := 6) (Nat.le_refl _) (Nat.le_refl _) ?_
  obtain ⟨q_, rfl, hq_, rfl⟩ := hp1
  refine V_iload_n (pc := 4) dX10_firstOtherwise_4 2 rfl rfl ?_
  refine V_callSl (pc := 5) dX10_firstOtherwise_5 (c_X10_tell Z _ _ _ (by exact in_xN _ _ _ _) (by exact mcl_xN _ _ _ _)) kX10_110 rfl (Nat.le_of_ble_eq_true rfl) (by decide) (by decide) (Nat.le_of_ble_eq_true rfl) (Nat.le_of_ble_eq_true rfl) ?_
  refine V_eqS (xN S q_ (kc (mfo S a_ 0)) (advN (kc (mfo S a_ 0)) n_.toNatClampNeg (gT S a_))) (by rw [xN_M, xmk_xN, mfo_xN]) ?_
  refine V_eql (tlL (kc (mfo S a_ 0)) (gT S a_) n_.toNatClampNeg) (by rw [xmk_xN, mfo_xN]) ?_
  refine V_lload_n (pc := 8) dX10_firstOtherwise_8 1 rfl rfl ?_
  refine V_lxor (pc := 9) dX10_firstOtherwise_9 ?_
  refine V_lstore (pc := 10) (L2 := [(0, .ref (a_)), (1, .long b_), (3, .int n_)]) dX10_firstOtherwise_10 (by decide) rfl (fun x4_10 ex4_10 => ?_)
  subst ex4_10
  refine V_lload (pc := 12) dX10_firstOtherwise_12 0 rfl ?_
  refine V_lconst (v := 0) (pc := 14) dX10_firstOtherwise_14 (by decide) ?_
  refine V_lcmp (pc := 15) dX10_firstOtherwise_15 ?_
  refine V_if_ne (pc := 16) (tgt := 23) dX10_firstOtherwise_16 (by decide) (fun h16 => ?_) (fun h16 => ?_)
  · skip
    refine V_lload (pc := 23) dX10_firstOtherwise_23 0 rfl ?_
    refine V_callSi (pc := 25) dX10_firstOtherwise_25 (c_J13_numberOfTrailingZeros_95d88 Z _ _) kX10_320 rfl (Nat.le_of_ble_eq_true rfl) (by decide) (by decide) (Nat.le_of_ble_eq_true rfl) (Nat.le_of_ble_eq_true rfl) ?_
    exact V_iret (pc := 28) dX10_firstOtherwise_28 (Nat.le_of_ble_eq_true rfl) (Nat.le_of_ble_eq_true rfl) (hB _ _ ⟨congrArg (fun z => some (Value.int z)) (by unfold foX; first | exact (if_pos ((lg_cmp_eq _ _).mp h16)).symm | exact (if_neg (fun z => h16 ((lg_cmp_eq _ _).mpr z))).symm), by exact xCor_xN S _ _ hq_⟩)
  · skip
    refine V_iconst (v := (-1)) (pc := 19) dX10_firstOtherwise_19 (by decide) ?_
    refine V_goto (pc := 20) (tgt := 28) dX10_firstOtherwise_20 (by decide) ?_
    exact V_iret (pc := 28) dX10_firstOtherwise_28 (Nat.le_of_ble_eq_true rfl) (Nat.le_of_ble_eq_true rfl) (hB _ _ ⟨congrArg (fun z => some (Value.int z)) (by unfold foX; first | exact (if_pos ((lg_cmp_eq _ _).mp h16)).symm | exact (if_neg (fun z => h16 ((lg_cmp_eq _ _).mpr z))).symm), by exact xCor_xN S _ _ hq_⟩)
set_option maxHeartbeats 4000000 in
set_option maxRecDepth 100000 in
theorem c_X10_replays (Z : VZ) (S : XS) (m_ : Int32) (b_ : Int32) (w_ : Int32) (hx : xOK S) (hz : zOK S) : Ct XW Z yX10_replays cX10_replays 6 (some .int) 8 6 36 [.ref (Z.2.2.2 99), .int m_, .int b_, .int w_] (S) (fun v S' => v = some (.int (if ((0 ≤ m_ ∧ m_ < S.1 1) ∧ (0 ≤ b_ ∧ b_ ≤ 3) ∧ (0 ≤ w_ ∧ w_ ≤ 2)) then (if (S.1 (10 + b_.toNatClampNeg) = -1) then -11 else if w_ = 0 then foX S (xAd S m_) (btL (S.2.2.1 (20 + b_.toNatClampNeg)) (S.1 (20 + b_.toNatClampNeg)).toNatClampNeg) (S.1 (20 + b_.toNatClampNeg)).toNatClampNeg else if w_ = 1 then rkX S (xAd S m_) (btL (S.2.2.1 (20 + b_.toNatClampNeg)) (S.1 (20 + b_.toNatClampNeg)).toNatClampNeg) (S.1 (20 + b_.toNatClampNeg)).toNatClampNeg 6 else rcX S (xAd S m_) (btL (S.2.2.1 (20 + b_.toNatClampNeg)) (S.1 (20 + b_.toNatClampNeg)).toNatClampNeg) (S.1 (20 + b_.toNatClampNeg)).toNatClampNeg 19) else -2)) ∧ xCor S S') := by
  refine V_entry (own := RX10) (by decide) rfl (Nat.le_of_ble_eq_true rfl) ?_
  intro B hB
  refine V_sub (L' := [(0, .ref (Z.2.2.2 99)), (1, .int m_), (2, .int b_), (3, .int w_)]) [0, 1, 2, 3] rfl ?_
  refine V_aload_n (pc := 0) dX10_replays_0 0 rfl rfl ?_
  refine V_iload_n (pc := 1) dX10_replays_1 1 rfl rfl ?_
  refine V_callV (q0 := 0) (ci := 10) (C := RX10) (T := TX10) (N := 9) (pc := 2) dX10_replays_2 (c_X10_machineAt Z _ _ (by exact hx)) kX10_76 rfl rfl rfl rfl (Nat.le_of_ble_eq_true rfl) (by decide) (by decide) (Nat.le_of_ble_eq_true rfl) (Nat.le_of_ble_eq_true rfl) (fun v2 S2 hp2 => ?_)
  refine V_widen (n' := 0) (k' := 0) (Nat.le_refl _) (Nat.le_refl _) ?_
  obtain ⟨rfl, ⟨ma_, hvma_, hima_, hMma_, hama_, hmma_, rfl⟩ | ⟨hno2, rfl⟩⟩ := hp2
  · skip
    refine V_astore (pc := 5) (L2 := [(0, .ref (Z.2.2.2 99)), (1, .int m_), (2, .int b_), (3, .int w_)]) dX10_replays_5 (by decide) rfl (fun x4_5 ex4_5 => ?_)
    subst ex4_5
    refine V_aload_n (pc := 7) dX10_replays_7 1 rfl rfl ?_
    refine V_iload_n (pc := 8) dX10_replays_8 3 rfl rfl ?_
    refine V_callV (q0 := 0) (ci := 10) (C := RX10) (T := TX10) (N := 9) (pc := 9) dX10_replays_9 (c_X10_sheetAt Z _ _) kX10_118 rfl rfl rfl rfl (Nat.le_of_ble_eq_true rfl) (by decide) (by decide) (Nat.le_of_ble_eq_true rfl) (Nat.le_of_ble_eq_true rfl) (fun v9 S9 hp9 => ?_)
    refine V_widen (n' := 0) (k' := 0) (Nat.le_refl _) (Nat.le_refl _) ?_
    obtain ⟨rfl, ⟨hv9, hs9, hi9, rfl⟩ | ⟨hno9, rfl⟩⟩ := hp9
    · skip
      refine V_astore (pc := 12) (L2 := [(4, .ref (ma_)), (0, .ref (Z.2.2.2 99)), (1, .int m_), (2, .int b_), (3, .int w_)]) dX10_replays_12 (by decide) rfl (fun x5_12 ex5_12 => ?_)
      subst ex5_12
      refine V_aload (pc := 14) dX10_replays_14 1 rfl ?_
      refine V_ifnull (pc := 16) dX10_replays_16 ?_
      refine V_aload (pc := 19) dX10_replays_19 0 rfl ?_
      refine V_ifnull (pc := 21) dX10_replays_21 ?_
      refine V_iload_n (pc := 24) dX10_replays_24 5 rfl rfl ?_
      refine V_iconst (v := 0) (pc := 25) dX10_replays_25 (by decide) ?_
      refine V_iconst (v := 2) (pc := 26) dX10_replays_26 (by decide) ?_
      refine V_callSi (pc := 27) dX10_replays_27 (c_X10_between Z _ _ _ _) kX10_60 rfl (Nat.le_of_ble_eq_true rfl) (by decide) (by decide) (Nat.le_of_ble_eq_true rfl) (Nat.le_of_ble_eq_true rfl) ?_
      refine V_bif_ne (pc := 30) (tgt := 36) dX10_replays_30 (by decide) (fun h30 => ?_) (fun h30 => ?_)
      · skip
        refine V_aload (pc := 36) dX10_replays_36 0 rfl ?_
        refine V_callVi (ci := 8) (C := RX8) (T := TX8) (N := 3) (pc := 38) dX10_replays_38 (c_X8_isMissing Z _ _ (by exact hs9)) kX10_134 (x_sh Z _ (by exact hs9)) rfl rfl rfl (Nat.le_of_ble_eq_true rfl) (by decide) (by decide) (Nat.le_of_ble_eq_true rfl) (Nat.le_of_ble_eq_true rfl) ?_
        refine V_bif_eq (pc := 41) (tgt := 47) dX10_replays_41 (by decide) (fun h41 => ?_) (fun h41 => ?_)
        · skip
          refine V_iload_n (pc := 47) dX10_replays_47 5 rfl rfl ?_
          by_cases h48_0 : w_ = 0
          · refine V_eqi 0 h48_0 ?_
            refine V_lookup (pc := 48) (tgt := 76) dX10_replays_48 (by decide) rfl (by decide) ?_
            refine V_aload (pc := 76) dX10_replays_76 1 rfl ?_
            refine V_aload (pc := 78) dX10_replays_78 0 rfl ?_
            refine V_callVl (ci := 8) (C := RX8) (T := TX8) (N := 3) (pc := 80) dX10_replays_80 (c_X8_bits Z _ _ (by exact hs9) (by exact zOK_le hz hs9)) kX10_140 (x_sh Z _ (by exact hs9)) rfl rfl rfl (Nat.le_of_ble_eq_true rfl) (by decide) (by decide) (Nat.le_of_ble_eq_true rfl) (Nat.le_of_ble_eq_true rfl) ?_
            refine V_aload (pc := 83) dX10_replays_83 0 rfl ?_
            refine Xg_X10_161 (pc := 85) (v := (S.1 (20 + (b_).toNatClampNeg))) (by exact hs9) rfl dX10_replays_85 ?_
            refine V_callS (pc := 88) dX10_replays_88 (c_X10_firstOtherwise Z _ _ _ _ (by exact hama_) (by exact hmma_)) kX10_215 rfl (Nat.le_of_ble_eq_true rfl) (by decide) (by decide) (Nat.le_of_ble_eq_true rfl) (Nat.le_of_ble_eq_true rfl) (fun v88 S88 hp88 => ?_)
            refine V_widen (n' := 1) (k' := 6) (Nat.le_refl _) (Nat.le_refl _) ?_
            obtain ⟨rfl, hc9⟩ := hp88
            exact V_iret (pc := 91) dX10_replays_91 (Nat.le_of_ble_eq_true rfl) (Nat.le_of_ble_eq_true rfl) (hB _ _ ⟨congrArg (fun z => some (Value.int z)) (by rw [if_pos ⟨hima_, hi9, h30⟩, if_neg h41, if_pos h48_0, xAd_eq hMma_]), by exact hc9⟩)
          by_cases h48_1 : w_ = 1
          · refine V_eqi 1 h48_1 ?_
            refine V_lookup (pc := 48) (tgt := 92) dX10_replays_48 (by decide) rfl (by decide) ?_
            refine V_aload (pc := 92) dX10_replays_92 1 rfl ?_
            refine V_aload (pc := 94) dX10_replays_94 0 rfl ?_
            refine V_callVl (ci := 8) (C := RX8) (T := TX8) (N := 3) (pc := 96) dX10_replays_96 (c_X8_bits Z _ _ (by exact hs9) (by exact zOK_le hz hs9)) kX10_140 (x_sh Z _ (by exact hs9)) rfl rfl rfl (Nat.le_of_ble_eq_true rfl) (by decide) (by decide) (Nat.le_of_ble_eq_true rfl) (Nat.le_of_ble_eq_true rfl) ?_
            refine V_aload (pc := 99) dX10_replays_99 0 rfl ?_
            refine Xg_X10_161 (pc := 101) (v := (S.1 (20 + (b_).toNatClampNeg))) (by exact hs9) rfl dX10_replays_101 ?_
            refine V_callS (pc := 104) dX10_replays_104 (c_X10_replayingKinds Z _ _ _ _ (by exact hama_) (by exact hmma_)) kX10_219 rfl (Nat.le_of_ble_eq_true rfl) (by decide) (by decide) (Nat.le_of_ble_eq_true rfl) (Nat.le_of_ble_eq_true rfl) (fun v104 S104 hp104 => ?_)
            refine V_widen (n' := 6) (k' := 36) (Nat.le_refl _) (Nat.le_refl _) ?_
            obtain ⟨rfl, hc9⟩ := hp104
            exact V_iret (pc := 107) dX10_replays_107 (Nat.le_of_ble_eq_true rfl) (Nat.le_of_ble_eq_true rfl) (hB _ _ ⟨congrArg (fun z => some (Value.int z)) (by rw [if_pos ⟨hima_, hi9, h30⟩, if_neg h41, if_neg h48_0, if_pos h48_1, xAd_eq hMma_]), by exact hc9⟩)
          refine V_lookup (pc := 48) (tgt := 108) (off := 60) dX10_replays_48 (by decide) (by exact (lv_osw h48_0 rfl).trans ((lv_osw h48_1 rfl).trans (rfl))) (by decide) ?_
          refine V_aload (pc := 108) dX10_replays_108 1 rfl ?_
          refine V_aload (pc := 110) dX10_replays_110 0 rfl ?_
          refine V_callVl (ci := 8) (C := RX8) (T := TX8) (N := 3) (pc := 112) dX10_replays_112 (c_X8_bits Z _ _ (by exact hs9) (by exact zOK_le hz hs9)) kX10_140 (x_sh Z _ (by exact hs9)) rfl rfl rfl (Nat.le_of_ble_eq_true rfl) (by decide) (by decide) (Nat.le_of_ble_eq_true rfl) (Nat.le_of_ble_eq_true rfl) ?_
          refine V_aload (pc := 115) dX10_replays_115 0 rfl ?_
          refine Xg_X10_161 (pc := 117) (v := (S.1 (20 + (b_).toNatClampNeg))) (by exact hs9) rfl dX10_replays_117 ?_
          refine V_callS (pc := 120) dX10_replays_120 (c_X10_replayingCarries Z _ _ _ _ (by exact hama_) (by exact hmma_)) kX10_222 rfl (Nat.le_of_ble_eq_true rfl) (by decide) (by decide) (Nat.le_of_ble_eq_true rfl) (Nat.le_of_ble_eq_true rfl) (fun v120 S120 hp120 => ?_)
          refine V_widen (n' := 1) (k' := 6) (Nat.le_refl _) (Nat.le_refl _) ?_
          obtain ⟨rfl, hc9⟩ := hp120
          exact V_iret (pc := 123) dX10_replays_123 (Nat.le_of_ble_eq_true rfl) (Nat.le_of_ble_eq_true rfl) (hB _ _ ⟨congrArg (fun z => some (Value.int z)) (by rw [if_pos ⟨hima_, hi9, h30⟩, if_neg h41, if_neg h48_0, if_neg h48_1, xAd_eq hMma_]), by exact hc9⟩)
        · skip
          refine V_bipush (v := (-11)) (pc := 44) dX10_replays_44 (by decide) ?_
          exact V_iret (pc := 46) dX10_replays_46 (Nat.le_of_ble_eq_true rfl) (Nat.le_of_ble_eq_true rfl) (hB _ _ ⟨congrArg (fun z => some (Value.int z)) (by rw [if_pos ⟨hima_, hi9, h30⟩, if_pos h41]), by exact xCor_rfl _⟩)
      · skip
        refine V_bipush (v := (-2)) (pc := 33) dX10_replays_33 (by decide) ?_
        exact V_iret (pc := 35) dX10_replays_35 (Nat.le_of_ble_eq_true rfl) (Nat.le_of_ble_eq_true rfl) (hB _ _ ⟨congrArg (fun z => some (Value.int z)) (by first | exact (if_neg (fun h => hno2 h.1)).symm | exact (if_neg (fun h => hno9 h.2.1)).symm | exact (if_neg (fun h => h30 h.2.2)).symm), by exact xCor_rfl _⟩)
    · skip
      refine V_astoreN (L2 := [(4, .ref (ma_)), (0, .ref (Z.2.2.2 99)), (1, .int m_), (2, .int b_), (3, .int w_)]) (pc := 12) dX10_replays_12  (by decide) rfl ?_
      refine V_aload (pc := 14) dX10_replays_14 1 rfl ?_
      refine V_ifnull (pc := 16) dX10_replays_16 ?_
      refine V_aloadN (pc := 19) dX10_replays_19 0 rfl ?_
      refine V_ifnullN (pc := 21) (tgt := 33) dX10_replays_21 (by decide) ?_
      refine V_bipush (v := (-2)) (pc := 33) dX10_replays_33 (by decide) ?_
      exact V_iret (pc := 35) dX10_replays_35 (Nat.le_of_ble_eq_true rfl) (Nat.le_of_ble_eq_true rfl) (hB _ _ ⟨congrArg (fun z => some (Value.int z)) (by first | exact (if_neg (fun h => hno2 h.1)).symm | exact (if_neg (fun h => hno9 h.2.1)).symm | exact (if_neg (fun h => h30 h.2.2)).symm), by exact xCor_rfl _⟩)
  · skip
    refine V_astoreN (L2 := [(0, .ref (Z.2.2.2 99)), (1, .int m_), (2, .int b_), (3, .int w_)]) (pc := 5) dX10_replays_5  (by decide) rfl ?_
    refine V_aload_n (pc := 7) dX10_replays_7 1 rfl rfl ?_
    refine V_iload_n (pc := 8) dX10_replays_8 3 rfl rfl ?_
    refine V_callV (q0 := 0) (ci := 10) (C := RX10) (T := TX10) (N := 9) (pc := 9) dX10_replays_9 (c_X10_sheetAt Z _ _) kX10_118 rfl rfl rfl rfl (Nat.le_of_ble_eq_true rfl) (by decide) (by decide) (Nat.le_of_ble_eq_true rfl) (Nat.le_of_ble_eq_true rfl) (fun v9 S9 hp9 => ?_)
    refine V_widen (n' := 0) (k' := 0) (Nat.le_refl _) (Nat.le_refl _) ?_
    obtain ⟨rfl, ⟨hv9, hs9, hi9, rfl⟩ | ⟨hno9, rfl⟩⟩ := hp9
    · skip
      refine V_astore (pc := 12) (L2 := [(4, .null), (0, .ref (Z.2.2.2 99)), (1, .int m_), (2, .int b_), (3, .int w_)]) dX10_replays_12 (by decide) rfl (fun x5_12 ex5_12 => ?_)
      subst ex5_12
      refine V_aloadN (pc := 14) dX10_replays_14 1 rfl ?_
      refine V_ifnullN (pc := 16) (tgt := 33) dX10_replays_16 (by decide) ?_
      refine V_bipush (v := (-2)) (pc := 33) dX10_replays_33 (by decide) ?_
      exact V_iret (pc := 35) dX10_replays_35 (Nat.le_of_ble_eq_true rfl) (Nat.le_of_ble_eq_true rfl) (hB _ _ ⟨congrArg (fun z => some (Value.int z)) (by first | exact (if_neg (fun h => hno2 h.1)).symm | exact (if_neg (fun h => hno9 h.2.1)).symm | exact (if_neg (fun h => h30 h.2.2)).symm), by exact xCor_rfl _⟩)
    · skip
      refine V_astoreN (L2 := [(4, .null), (0, .ref (Z.2.2.2 99)), (1, .int m_), (2, .int b_), (3, .int w_)]) (pc := 12) dX10_replays_12  (by decide) rfl ?_
      refine V_aloadN (pc := 14) dX10_replays_14 1 rfl ?_
      refine V_ifnullN (pc := 16) (tgt := 33) dX10_replays_16 (by decide) ?_
      refine V_bipush (v := (-2)) (pc := 33) dX10_replays_33 (by decide) ?_
      exact V_iret (pc := 35) dX10_replays_35 (Nat.le_of_ble_eq_true rfl) (Nat.le_of_ble_eq_true rfl) (hB _ _ ⟨congrArg (fun z => some (Value.int z)) (by first | exact (if_neg (fun h => hno2 h.1)).symm | exact (if_neg (fun h => hno9 h.2.1)).symm | exact (if_neg (fun h => h30 h.2.2)).symm), by exact xCor_rfl _⟩)
set_option maxHeartbeats 4000000 in
set_option maxRecDepth 100000 in
theorem c_X10_search (Z : VZ) (S : XS) (a_ : Int32) (k_ : Int32) (c_ : Int32) (hz : zOK S) : Ct XW Z yX10_search cX10_search 5 (some .int) 7 1 6 [.ref (Z.2.2.2 99), .int a_, .int k_, .int c_] (S) (fun v S' => v = some (.int (if ((0 ≤ a_ ∧ a_ ≤ 3) ∧ (0 ≤ k_ ∧ k_ ≤ 5) ∧ (1 ≤ c_ ∧ c_ ≤ 6)) then (if (S.1 (10 + a_.toNatClampNeg) = -1) then -11 else if c_ ≤ S.1 (20 + a_.toNatClampNeg) then fO (fsP (btL (S.2.2.1 (20 + a_.toNatClampNeg)) (S.1 (20 + a_.toNatClampNeg)).toNatClampNeg) (S.1 (20 + a_.toNatClampNeg)).toNatClampNeg k_ c_ (((btL (S.2.2.1 (20 + a_.toNatClampNeg)) (S.1 (20 + a_.toNatClampNeg)).toNatClampNeg) &&& Int32.toInt64 (1 <<< (c_ &&& 31) - 1)).toInt32)) (1 <<< (c_ &&& 31) - 1 : Int32).toNatClampNeg 1 else -3) else -2)) ∧ xCor S S') := by
  refine V_entry (own := RX10) (by decide) rfl (Nat.le_of_ble_eq_true rfl) ?_
  intro B hB
  refine V_sub (L' := [(0, .ref (Z.2.2.2 99)), (1, .int a_), (2, .int k_), (3, .int c_)]) [0, 1, 2, 3] rfl ?_
  refine V_aload_n (pc := 0) dX10_search_0 0 rfl rfl ?_
  refine V_iload_n (pc := 1) dX10_search_1 1 rfl rfl ?_
  refine V_callV (q0 := 0) (ci := 10) (C := RX10) (T := TX10) (N := 9) (pc := 2) dX10_search_2 (c_X10_sheetAt Z _ _) kX10_118 rfl rfl rfl rfl (Nat.le_of_ble_eq_true rfl) (by decide) (by decide) (Nat.le_of_ble_eq_true rfl) (Nat.le_of_ble_eq_true rfl) (fun v2 S2 hp2 => ?_)
  refine V_widen (n' := 0) (k' := 0) (Nat.le_refl _) (Nat.le_refl _) ?_
  obtain ⟨rfl, ⟨hv2, hs2, hi2, rfl⟩ | ⟨hno2, rfl⟩⟩ := hp2
  · skip
    refine V_astore (pc := 5) (L2 := [(0, .ref (Z.2.2.2 99)), (1, .int a_), (2, .int k_), (3, .int c_)]) dX10_search_5 (by decide) rfl (fun x4_5 ex4_5 => ?_)
    subst ex4_5
    refine V_aload (pc := 7) dX10_search_7 0 rfl ?_
    refine V_ifnull (pc := 9) dX10_search_9 ?_
    refine V_iload_n (pc := 12) dX10_search_12 3 rfl rfl ?_
    refine V_iconst (v := 0) (pc := 13) dX10_search_13 (by decide) ?_
    refine V_iconst (v := 5) (pc := 14) dX10_search_14 (by decide) ?_
    refine V_callSi (pc := 15) dX10_search_15 (c_X10_between Z _ _ _ _) kX10_60 rfl (Nat.le_of_ble_eq_true rfl) (by decide) (by decide) (Nat.le_of_ble_eq_true rfl) (Nat.le_of_ble_eq_true rfl) ?_
    refine V_bif_eq (pc := 18) (tgt := 31) dX10_search_18 (by decide) (fun h18 => ?_) (fun h18 => ?_)
    · skip
      refine V_bipush (v := (-2)) (pc := 31) dX10_search_31 (by decide) ?_
      exact V_iret (pc := 33) dX10_search_33 (Nat.le_of_ble_eq_true rfl) (Nat.le_of_ble_eq_true rfl) (hB _ _ ⟨congrArg (fun z => some (Value.int z)) (by first | exact (if_neg (fun h => hno2 h.1)).symm | exact (if_neg (fun h => h18 h.2.1)).symm | exact (if_neg (fun h => h28 h.2.2)).symm), by exact xCor_rfl _⟩)
    · skip
      refine V_iload_n (pc := 21) dX10_search_21 4 rfl rfl ?_
      refine V_iconst (v := 1) (pc := 22) dX10_search_22 (by decide) ?_
      refine V_bipush (v := 6) (pc := 23) dX10_search_23 (by decide) ?_
      refine V_callSi (pc := 25) dX10_search_25 (c_X10_between Z _ _ _ _) kX10_60 rfl (Nat.le_of_ble_eq_true rfl) (by decide) (by decide) (Nat.le_of_ble_eq_true rfl) (Nat.le_of_ble_eq_true rfl) ?_
      refine V_bif_ne (pc := 28) (tgt := 34) dX10_search_28 (by decide) (fun h28 => ?_) (fun h28 => ?_)
      · skip
        refine V_aload (pc := 34) dX10_search_34 0 rfl ?_
        refine V_callVi (ci := 8) (C := RX8) (T := TX8) (N := 3) (pc := 36) dX10_search_36 (c_X8_isMissing Z _ _ (by exact hs2)) kX10_134 (x_sh Z _ (by exact hs2)) rfl rfl rfl (Nat.le_of_ble_eq_true rfl) (by decide) (by decide) (Nat.le_of_ble_eq_true rfl) (Nat.le_of_ble_eq_true rfl) ?_
        refine V_bif_eq (pc := 39) (tgt := 45) dX10_search_39 (by decide) (fun h39 => ?_) (fun h39 => ?_)
        · skip
          refine V_aload (pc := 45) dX10_search_45 0 rfl ?_
          refine Xg_X10_161 (pc := 47) (v := (S.1 (20 + (a_).toNatClampNeg))) (by exact hs2) rfl dX10_search_47 ?_
          refine V_iload_n (pc := 50) dX10_search_50 4 rfl rfl ?_
          refine V_icmp_ge (pc := 51) (tgt := 57) dX10_search_51 (by decide) (fun h51 => ?_) (fun h51 => ?_)
          · skip
            refine V_aload (pc := 57) dX10_search_57 0 rfl ?_
            refine V_callVl (ci := 8) (C := RX8) (T := TX8) (N := 3) (pc := 59) dX10_search_59 (c_X8_bits Z _ _ (by exact hs2) (by exact zOK_le hz hs2)) kX10_140 (x_sh Z _ (by exact hs2)) rfl rfl rfl (Nat.le_of_ble_eq_true rfl) (by decide) (by decide) (Nat.le_of_ble_eq_true rfl) (Nat.le_of_ble_eq_true rfl) ?_
            refine V_aload (pc := 62) dX10_search_62 0 rfl ?_
            refine Xg_X10_161 (pc := 64) (v := (S.1 (20 + (a_).toNatClampNeg))) (by exact hs2) rfl dX10_search_64 ?_
            refine V_iload_n (pc := 67) dX10_search_67 3 rfl rfl ?_
            refine V_iload_n (pc := 68) dX10_search_68 4 rfl rfl ?_
            refine V_callS (pc := 69) dX10_search_69 (c_X10_firstReplaying Z _ _ _ _ _ (by exact h28)) kX10_225 rfl (Nat.le_of_ble_eq_true rfl) (by decide) (by decide) (Nat.le_of_ble_eq_true rfl) (Nat.le_of_ble_eq_true rfl) (fun v69 S69 hp69 => ?_)
            refine V_widen (n' := 1) (k' := 6) (Nat.le_refl _) (Nat.le_refl _) ?_
            obtain ⟨rfl, hc9⟩ := hp69
            exact V_iret (pc := 72) dX10_search_72 (Nat.le_of_ble_eq_true rfl) (Nat.le_of_ble_eq_true rfl) (hB _ _ ⟨congrArg (fun z => some (Value.int z)) (by rw [if_pos ⟨hi2, h18, h28⟩, if_neg h39, if_pos h51]), by exact hc9⟩)
          · skip
            refine V_bipush (v := (-3)) (pc := 54) dX10_search_54 (by decide) ?_
            exact V_iret (pc := 56) dX10_search_56 (Nat.le_of_ble_eq_true rfl) (Nat.le_of_ble_eq_true rfl) (hB _ _ ⟨congrArg (fun z => some (Value.int z)) (by rw [if_pos ⟨hi2, h18, h28⟩, if_neg h39, if_neg h51]), by exact xCor_rfl _⟩)
        · skip
          refine V_bipush (v := (-11)) (pc := 42) dX10_search_42 (by decide) ?_
          exact V_iret (pc := 44) dX10_search_44 (Nat.le_of_ble_eq_true rfl) (Nat.le_of_ble_eq_true rfl) (hB _ _ ⟨congrArg (fun z => some (Value.int z)) (by rw [if_pos ⟨hi2, h18, h28⟩, if_pos h39]), by exact xCor_rfl _⟩)
      · skip
        refine V_bipush (v := (-2)) (pc := 31) dX10_search_31 (by decide) ?_
        exact V_iret (pc := 33) dX10_search_33 (Nat.le_of_ble_eq_true rfl) (Nat.le_of_ble_eq_true rfl) (hB _ _ ⟨congrArg (fun z => some (Value.int z)) (by first | exact (if_neg (fun h => hno2 h.1)).symm | exact (if_neg (fun h => h18 h.2.1)).symm | exact (if_neg (fun h => h28 h.2.2)).symm), by exact xCor_rfl _⟩)
  · skip
    refine V_astoreN (L2 := [(0, .ref (Z.2.2.2 99)), (1, .int a_), (2, .int k_), (3, .int c_)]) (pc := 5) dX10_search_5  (by decide) rfl ?_
    refine V_aloadN (pc := 7) dX10_search_7 0 rfl ?_
    refine V_ifnullN (pc := 9) (tgt := 31) dX10_search_9 (by decide) ?_
    refine V_bipush (v := (-2)) (pc := 31) dX10_search_31 (by decide) ?_
    exact V_iret (pc := 33) dX10_search_33 (Nat.le_of_ble_eq_true rfl) (Nat.le_of_ble_eq_true rfl) (hB _ _ ⟨congrArg (fun z => some (Value.int z)) (by first | exact (if_neg (fun h => hno2 h.1)).symm | exact (if_neg (fun h => h18 h.2.1)).symm | exact (if_neg (fun h => h28 h.2.2)).symm), by exact xCor_rfl _⟩)
