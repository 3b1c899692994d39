theorem mfo_raw (S : XS) (a : Nat) (g : Nat → Int32) : (xM S a g).2.2.2.2.2.2.2 a = g := va_up_self _ _ _
theorem xM_put (S : XS) (a : Nat) (g : Nat → Int32) (f : Nat) (x : Int32) : xM (xM S a g) a (upd ((xM S a g).2.2.2.2.2.2.2 a) f x) = xM S a (upd g f x) := by rw [xM_xM, mfo_raw]
theorem xM_lv (S : XS) (a : Nat) (g : Nat → Int32) (x : Int32) : xM (xM S a g) a (upd ((xM S a g).2.2.2.2.2.2.2 a) 5 ((xM S a g).2.2.2.2.2.2.2 a 5 * 10 + x)) = xM S a (upd g 5 (g 5 * 10 + x)) := by rw [xM_xM, mfo_raw]
def bcA (x : Int32) : Int32 := x - ((Int32.toUInt32 x >>> (Int32.toUInt32 1 &&& Int32.toUInt32 31)).toInt32 &&& 1431655765)
def bcB (x : Int32) : Int32 := (x &&& 858993459) + ((Int32.toUInt32 x >>> (Int32.toUInt32 2 &&& Int32.toUInt32 31)).toInt32 &&& 858993459)
def bcC (x : Int32) : Int32 := (x + (Int32.toUInt32 x >>> (Int32.toUInt32 4 &&& Int32.toUInt32 31)).toInt32) &&& 252645135
def bcD (x : Int32) : Int32 := x + (Int32.toUInt32 x >>> (Int32.toUInt32 8 &&& Int32.toUInt32 31)).toInt32
def bcE (x : Int32) : Int32 := (x + (Int32.toUInt32 x >>> (Int32.toUInt32 16 &&& Int32.toUInt32 31)).toInt32) &&& 63
def bcI (x : Int32) : Int32 := bcE (bcD (bcC (bcB (bcA x))))
set_option maxHeartbeats 4000000 in
set_option maxRecDepth 100000 in
theorem c_J6_bitCount_0f7a4 (Z : VZ) (S : XS) (x_ : Int32) : CtF XW Z yJ6_bitCount_0f7a4 cJ6_bitCount_0f7a4 1 (some .int) 0 0 0 [.int x_] (S) (some (.int (bcI x_))) (S) := by
  refine V_entry (own := RJ6) (by decide) rfl (Nat.le_of_ble_eq_true rfl) ?_
  intro B hB
  refine V_sub (L' := [(0, .int x_)]) [0] rfl ?_
  refine V_iload_n (pc := 0) dJ6_bitCount_0f7a4_0 0 rfl rfl ?_
  refine V_iload_n (pc := 1) dJ6_bitCount_0f7a4_1 0 rfl rfl ?_
  refine V_iconst (v := 1) (pc := 2) dJ6_bitCount_0f7a4_2 (by decide) ?_
  refine V_iushr (pc := 3) dJ6_bitCount_0f7a4_3 rfl ?_
  refine V_ldcw (pc := 4) dJ6_bitCount_0f7a4_4 tw_369 ?_
  refine V_iand (pc := 7) dJ6_bitCount_0f7a4_7 ?_
  refine V_isub (pc := 8) dJ6_bitCount_0f7a4_8 ?_
  refine V_istore_n (pc := 9) (L2 := []) dJ6_bitCount_0f7a4_9 rfl (by decide) rfl (fun n1_ en1_ => ?_)
  refine V_iload_n (pc := 10) dJ6_bitCount_0f7a4_10 0 rfl rfl ?_
  refine V_ldcw (pc := 11) dJ6_bitCount_0f7a4_11 tw_370 ?_
  refine V_iand (pc := 14) dJ6_bitCount_0f7a4_14 ?_
  refine V_iload_n (pc := 15) dJ6_bitCount_0f7a4_15 0 rfl rfl ?_
  refine V_iconst (v := 2) (pc := 16) dJ6_bitCount_0f7a4_16 (by decide) ?_
  refine V_iushr (pc := 17) dJ6_bitCount_0f7a4_17 rfl ?_
  refine V_ldcw (pc := 18) dJ6_bitCount_0f7a4_18 tw_370 ?_
  refine V_iand (pc := 21) dJ6_bitCount_0f7a4_21 ?_
  refine V_iadd (pc := 22) dJ6_bitCount_0f7a4_22 ?_
  refine V_istore_n (pc := 23) (L2 := []) dJ6_bitCount_0f7a4_23 rfl (by decide) rfl (fun n2_ en2_ => ?_)
  refine V_iload_n (pc := 24) dJ6_bitCount_0f7a4_24 0 rfl rfl ?_
  refine V_iload_n (pc := 25) dJ6_bitCount_0f7a4_25 0 rfl rfl ?_
  refine V_iconst (v := 4) (pc := 26) dJ6_bitCount_0f7a4_26 (by decide) ?_
  refine V_iushr (pc := 27) dJ6_bitCount_0f7a4_27 rfl ?_
  refine V_iadd (pc := 28) dJ6_bitCount_0f7a4_28 ?_
  refine V_ldcw (pc := 29) dJ6_bitCount_0f7a4_29 tw_371 ?_
  refine V_iand (pc := 32) dJ6_bitCount_0f7a4_32 ?_
  refine V_istore_n (pc := 33) (L2 := []) dJ6_bitCount_0f7a4_33 rfl (by decide) rfl (fun n3_ en3_ => ?_)
  refine V_iload_n (pc := 34) dJ6_bitCount_0f7a4_34 0 rfl rfl ?_
  refine V_iload_n (pc := 35) dJ6_bitCount_0f7a4_35 0 rfl rfl ?_
  refine V_bipush (v := 8) (pc := 36) dJ6_bitCount_0f7a4_36 (by decide) ?_
  refine V_iushr (pc := 38) dJ6_bitCount_0f7a4_38 rfl ?_
  refine V_iadd (pc := 39) dJ6_bitCount_0f7a4_39 ?_
  refine V_istore_n (pc := 40) (L2 := []) dJ6_bitCount_0f7a4_40 rfl (by decide) rfl (fun n4_ en4_ => ?_)
  refine V_iload_n (pc := 41) dJ6_bitCount_0f7a4_41 0 rfl rfl ?_
  refine V_iload_n (pc := 42) dJ6_bitCount_0f7a4_42 0 rfl rfl ?_
  refine V_bipush (v := 16) (pc := 43) dJ6_bitCount_0f7a4_43 (by decide) ?_
  refine V_iushr (pc := 45) dJ6_bitCount_0f7a4_45 rfl ?_
  refine V_iadd (pc := 46) dJ6_bitCount_0f7a4_46 ?_
  refine V_istore_n (pc := 47) (L2 := []) dJ6_bitCount_0f7a4_47 rfl (by decide) rfl (fun n5_ en5_ => ?_)
  refine V_iload_n (pc := 48) dJ6_bitCount_0f7a4_48 0 rfl rfl ?_
  refine V_bipush (v := 63) (pc := 49) dJ6_bitCount_0f7a4_49 (by decide) ?_
  refine V_iand (pc := 51) dJ6_bitCount_0f7a4_51 ?_
  exact V_iret (pc := 52) dJ6_bitCount_0f7a4_52 (Nat.le_of_ble_eq_true rfl) (Nat.le_of_ble_eq_true rfl) (hB _ _ ⟨congrArg (fun z => some (Value.int z)) (by subst_vars; rfl), by rfl⟩)
set_option maxHeartbeats 4000000 in
set_option maxRecDepth 100000 in
theorem c_X1_init (Z : VZ) (S : XS) (a_ : Nat) (k_ : Int32) (c_ : Int32) (t_ : Int32) (ha : a_ ∈ xL S) (hm : mcl (xmk S a_)) : CtF XW Z yX1_init cX1_init 4 none 2 0 0 [.ref (a_), .int k_, .int c_, .int t_] (S) none (xM S a_ (gG (mfo S a_) k_ c_ t_ 0 0 (if t_ = 1 then 132 else 13))) := by
  refine V_entryI (own := RX1) (by decide) rfl (Nat.le_of_ble_eq_true rfl) ?_
  intro B hB hnm
  refine V_sub (L' := [(0, .ref (a_)), (1, .int k_), (2, .int c_), (3, .int t_)]) [0, 1, 2, 3] rfl ?_
  refine V_aload_n (pc := 0) dX1_init_0 0 rfl rfl ?_
  refine V_objI (pc := 1) dX1_init_1 tw_181 tw_27 tw_28 (Nat.le_of_ble_eq_true rfl) (Nat.le_of_ble_eq_true rfl) ?_
  refine V_aload_n (pc := 4) dX1_init_4 0 rfl rfl ?_
  refine V_iconst (v := 0) (pc := 5) dX1_init_5 (by decide) ?_
  refine Xmp_state (pc := 6) (by exact ha) (by exact hm) dX1_init_6 tw_207 (Or.inl rfl) ?_
  refine V_eqS (xM S a_ (upd (mfo S a_) 3 0)) (by first | rfl | exact xM_put _ _ _ _ _) ?_
  refine V_aload_n (pc := 9) dX1_init_9 0 rfl rfl ?_
  refine V_iconst (v := 0) (pc := 10) dX1_init_10 (by decide) ?_
  refine Xmp_carry (pc := 11) (by exact ha) (by exact hm) dX1_init_11 tw_211 (Or.inl rfl) ?_
  refine V_eqS (xM S a_ (upd (upd (mfo S a_) 3 0) 4 0)) (by first | rfl | exact xM_put _ _ _ _ _) ?_
  refine V_aload_n (pc := 14) dX1_init_14 0 rfl rfl ?_
  refine V_iconst (v := 0) (pc := 15) dX1_init_15 (by decide) ?_
  refine Xmp_digits (pc := 16) (by exact ha) (by exact hm) dX1_init_16 tw_219 (Or.inl rfl) ?_
  refine V_eqS (xM S a_ (upd (upd (upd (mfo S a_) 3 0) 4 0) 5 0)) (by first | rfl | exact xM_put _ _ _ _ _) ?_
  refine V_aload_n (pc := 19) dX1_init_19 0 rfl rfl ?_
  refine V_iload_n (pc := 20) dX1_init_20 1 rfl rfl ?_
  refine Xmp_kind (pc := 21) (by exact ha) (by exact hm) dX1_init_21 tw_197 (Or.inl rfl) hnm rfl ?_
  refine V_eqS (xM S a_ (upd (upd (upd (upd (mfo S a_) 3 0) 4 0) 5 0) 0 k_)) (by first | rfl | exact xM_put _ _ _ _ _) ?_
  refine V_aload_n (pc := 24) dX1_init_24 0 rfl rfl ?_
  refine V_iload_n (pc := 25) dX1_init_25 2 rfl rfl ?_
  refine Xmp_cells (pc := 26) (by exact ha) (by exact hm) dX1_init_26 tw_199 (Or.inl rfl) hnm rfl ?_
  refine V_eqS (xM S a_ (upd (upd (upd (upd (upd (mfo S a_) 3 0) 4 0) 5 0) 0 k_) 1 c_)) (by first | rfl | exact xM_put _ _ _ _ _) ?_
  refine V_aload_n (pc := 29) dX1_init_29 0 rfl rfl ?_
  refine V_iload_n (pc := 30) dX1_init_30 3 rfl rfl ?_
  refine Xmp_taps (pc := 31) (by exact ha) (by exact hm) dX1_init_31 tw_203 (Or.inl rfl) ?_
  refine V_eqS (xM S a_ (upd (upd (upd (upd (upd (upd (mfo S a_) 3 0) 4 0) 5 0) 0 k_) 1 c_) 2 t_)) (by first | rfl | exact xM_put _ _ _ _ _) ?_
  refine V_aload_n (pc := 34) dX1_init_34 0 rfl rfl ?_
  refine V_iconst (v := 1) (pc := 35) dX1_init_35 (by decide) ?_
  refine Xv_leave_X1 (pc := 36) (by exact ha) (by exact hm) dX1_init_36 (Nat.le_of_ble_eq_true rfl) (by decide) (Nat.le_of_ble_eq_true rfl) (Nat.le_of_ble_eq_true rfl) ?_
  refine V_eqS (xM S a_ (gG (mfo S a_) k_ c_ t_ 0 0 1)) (by
      refine (xM_lv _ _ _ _).trans ?_
      refine congrArg (xM S a_) (funext fun j => ?_)
      simp only [gG, upd]
      repeat' split
      all_goals first | rfl | (simp; done) | (simp_all; done) | omega) ?_
  refine V_aload_n (pc := 39) dX1_init_39 0 rfl rfl ?_
  refine V_iconst (v := 3) (pc := 40) dX1_init_40 (by decide) ?_
  refine Xv_leave_X1 (pc := 41) (by exact ha) (by exact hm) dX1_init_41 (Nat.le_of_ble_eq_true rfl) (by decide) (Nat.le_of_ble_eq_true rfl) (Nat.le_of_ble_eq_true rfl) ?_
  refine V_eqS (xM S a_ (gG (mfo S a_) k_ c_ t_ 0 0 13)) (by
      refine (xM_lv _ _ _ _).trans ?_
      refine congrArg (xM S a_) (funext fun j => ?_)
      simp only [gG, upd]
      repeat' split
      all_goals first | rfl | (simp; done) | (simp_all; done) | omega) ?_
  refine V_iload_n (pc := 44) dX1_init_44 3 rfl rfl ?_
  refine V_iconst (v := 1) (pc := 45) dX1_init_45 (by decide) ?_
  refine V_icmp_ne (pc := 46) (tgt := 54) dX1_init_46 (by decide) (fun h46 => ?_) (fun h46 => ?_)
  · skip
    exact V_vret (pc := 54) dX1_init_54 (Nat.le_of_ble_eq_true rfl) (Nat.le_of_ble_eq_true rfl) (hB _ _ ⟨rfl, by first | (rw [if_pos h46]; done) | (rw [if_neg h46]; done) | (rw [if_pos h46]; rfl) | (rw [if_neg h46]; rfl)⟩)
  · skip
    refine V_aload_n (pc := 49) dX1_init_49 0 rfl rfl ?_
    refine V_iconst (v := 2) (pc := 50) dX1_init_50 (by decide) ?_
    refine Xv_leave_X1 (pc := 51) (by exact ha) (by exact hm) dX1_init_51 (Nat.le_of_ble_eq_true rfl) (by decide) (Nat.le_of_ble_eq_true rfl) (Nat.le_of_ble_eq_true rfl) ?_
    refine V_eqS (xM S a_ (gG (mfo S a_) k_ c_ t_ 0 0 132)) (by
        refine (xM_lv _ _ _ _).trans ?_
        refine congrArg (xM S a_) (funext fun j => ?_)
        simp only [gG, upd]
        repeat' split
        all_goals first | rfl | (simp; done) | (simp_all; done) | omega) ?_
    exact V_vret (pc := 54) dX1_init_54 (Nat.le_of_ble_eq_true rfl) (Nat.le_of_ble_eq_true rfl) (hB _ _ ⟨rfl, by first | (rw [if_pos h46]; done) | (rw [if_neg h46]; done) | (rw [if_pos h46]; rfl) | (rw [if_neg h46]; rfl)⟩)
set_option maxHeartbeats 4000000 in
set_option maxRecDepth 100000 in
theorem c_X5_init (Z : VZ) (S : XS) (a_ : Nat) (k_ : Int32) (c_ : Int32) (t_ : Int32) (ha : a_ ∈ xL S) (hm : mcl (xmk S a_)) (hc : xmk S a_ = 5 ∨ xmk S a_ = 9) : CtF XW Z yX5_init cX5_init 4 none 3 0 0 [.ref (a_), .int k_, .int c_, .int t_] (S) none (xM S a_ (gG (mfo S a_) k_ c_ t_ 0 0 ((if t_ = 1 then 132 else 13) * 10 + 4))) := by
  refine V_entryI (own := RX5) (by decide) rfl (Nat.le_of_ble_eq_true rfl) ?_
  intro B hB hnm
  refine V_sub (L' := [(0, .ref (a_)), (1, .int k_), (2, .int c_), (3, .int t_)]) [0, 1, 2, 3] rfl ?_
  refine V_aload_n (pc := 0) dX5_init_0 0 rfl rfl ?_
  refine V_iload_n (pc := 1) dX5_init_1 1 rfl rfl ?_
  refine V_iload_n (pc := 2) dX5_init_2 2 rfl rfl ?_
  refine V_iload_n (pc := 3) dX5_init_3 3 rfl rfl ?_
  refine V_callIv (pc := 4) dX5_init_4 (c_X1_init Z _ _ _ _ _ (by exact ha) (by exact hm)) kX5_1 rfl (Nat.le_of_ble_eq_true rfl) (by decide) (by decide) (Nat.le_of_ble_eq_true rfl) (Nat.le_of_ble_eq_true rfl) ?_
  refine V_aload_n (pc := 7) dX5_init_7 0 rfl rfl ?_
  refine V_iconst (v := 4) (pc := 8) dX5_init_8 (by decide) ?_
  refine Xv_leave_X5 (pc := 9) (by exact ha) (by exact hm) hc dX5_init_9 (Nat.le_of_ble_eq_true rfl) (by decide) (Nat.le_of_ble_eq_true rfl) (Nat.le_of_ble_eq_true rfl) ?_
  refine V_eqS (xM S a_ (gG (mfo S a_) k_ c_ t_ 0 0 ((if t_ = 1 then 132 else 13) * 10 + 4))) (by
      refine (xM_lv _ _ _ _).trans ?_
      refine congrArg (xM S a_) (funext fun j => ?_)
      simp only [gG, upd]
      repeat' split
      all_goals first | rfl | (simp; done) | (simp_all; done) | omega) ?_
  exact V_vret (pc := 12) dX5_init_12 (Nat.le_of_ble_eq_true rfl) (Nat.le_of_ble_eq_true rfl) (hB _ _ ⟨rfl, by rfl⟩)
set_option maxHeartbeats 4000000 in
set_option maxRecDepth 100000 in
theorem c_X9_init (Z : VZ) (S : XS) (a_ : Nat) (c_ : Int32) (t_ : Int32) (ha : a_ ∈ xL S) (hm : mcl (xmk S a_)) (hc : xmk S a_ = 9) : CtF XW Z yX9_init cX9_init 3 none 4 0 0 [.ref (a_), .int c_, .int t_] (S) none (xM S a_ (gG (mfo S a_) 2 c_ t_ 0 0 (((if t_ = 1 then 132 else 13) * 10 + 4) * 10 + 5))) := by
  refine V_entryI (own := RX9) (by decide) rfl (Nat.le_of_ble_eq_true rfl) ?_
  intro B hB hnm
  refine V_sub (L' := [(0, .ref (a_)), (1, .int c_), (2, .int t_)]) [0, 1, 2] rfl ?_
  refine V_aload_n (pc := 0) dX9_init_0 0 rfl rfl ?_
  refine V_iconst (v := 2) (pc := 1) dX9_init_1 (by decide) ?_
  refine V_iload_n (pc := 2) dX9_init_2 1 rfl rfl ?_
  refine V_iload_n (pc := 3) dX9_init_3 2 rfl rfl ?_
  refine V_callIv (pc := 4) dX9_init_4 (c_X5_init Z _ _ _ _ _ (by exact ha) (by exact hm) (by exact Or.inr hc)) kX9_3 rfl (Nat.le_of_ble_eq_true rfl) (by decide) (by decide) (Nat.le_of_ble_eq_true rfl) (Nat.le_of_ble_eq_true rfl) ?_
  refine V_aload_n (pc := 7) dX9_init_7 0 rfl rfl ?_
  refine V_iconst (v := 5) (pc := 8) dX9_init_8 (by decide) ?_
  refine Xv_leave_X9 (pc := 9) (by exact ha) (by exact hm) hc dX9_init_9 (Nat.le_of_ble_eq_true rfl) (by decide) (Nat.le_of_ble_eq_true rfl) (Nat.le_of_ble_eq_true rfl) ?_
  refine V_eqS (xM S a_ (gG (mfo S a_) 2 c_ t_ 0 0 (((if t_ = 1 then 132 else 13) * 10 + 4) * 10 + 5))) (by
      refine (xM_lv _ _ _ _).trans ?_
      refine congrArg (xM S a_) (funext fun j => ?_)
      simp only [gG, upd]
      repeat' split
      all_goals first | rfl | (simp; done) | (simp_all; done) | omega) ?_
  exact V_vret (pc := 12) dX9_init_12 (Nat.le_of_ble_eq_true rfl) (Nat.le_of_ble_eq_true rfl) (hB _ _ ⟨rfl, by rfl⟩)
set_option maxHeartbeats 4000000 in
set_option maxRecDepth 100000 in
theorem c_X0_init (Z : VZ) (S : XS) (a_ : Nat) (c_ : Int32) (t_ : Int32) (ha : a_ ∈ xL S) (hm : mcl (xmk S a_)) (hc : xmk S a_ = 0) : CtF XW Z yX0_init cX0_init 3 none 3 0 0 [.ref (a_), .int c_, .int t_] (S) none (xM S a_ (gG (mfo S a_) 3 c_ t_ 0 0 ((if t_ = 1 then 132 else 13) * 10 + 6))) := by
  refine V_entryI (own := RX0) (by decide) rfl (Nat.le_of_ble_eq_true rfl) ?_
  intro B hB hnm
  refine V_sub (L' := [(0, .ref (a_)), (1, .int c_), (2, .int t_)]) [0, 1, 2] rfl ?_
  refine V_aload_n (pc := 0) dX0_init_0 0 rfl rfl ?_
  refine V_iconst (v := 3) (pc := 1) dX0_init_1 (by decide) ?_
  refine V_iload_n (pc := 2) dX0_init_2 1 rfl rfl ?_
  refine V_iload_n (pc := 3) dX0_init_3 2 rfl rfl ?_
  refine V_callIv (pc := 4) dX0_init_4 (c_X1_init Z _ _ _ _ _ (by exact ha) (by exact hm)) kX0_3 rfl (Nat.le_of_ble_eq_true rfl) (by decide) (by decide) (Nat.le_of_ble_eq_true rfl) (Nat.le_of_ble_eq_true rfl) ?_
  refine V_aload_n (pc := 7) dX0_init_7 0 rfl rfl ?_
  refine V_bipush (v := 6) (pc := 8) dX0_init_8 (by decide) ?_
  refine Xv_leave_X0 (pc := 10) (by exact ha) (by exact hm) hc dX0_init_10 (Nat.le_of_ble_eq_true rfl) (by decide) (Nat.le_of_ble_eq_true rfl) (Nat.le_of_ble_eq_true rfl) ?_
  refine V_eqS (xM S a_ (gG (mfo S a_) 3 c_ t_ 0 0 ((if t_ = 1 then 132 else 13) * 10 + 6))) (by
      refine (xM_lv _ _ _ _).trans ?_
      refine congrArg (xM S a_) (funext fun j => ?_)
      simp only [gG, upd]
      repeat' split
      all_goals first | rfl | (simp; done) | (simp_all; done) | omega) ?_
  exact V_vret (pc := 13) dX0_init_13 (Nat.le_of_ble_eq_true rfl) (Nat.le_of_ble_eq_true rfl) (hB _ _ ⟨rfl, by rfl⟩)
set_option maxHeartbeats 4000000 in
set_option maxRecDepth 100000 in
theorem c_X2_init (Z : VZ) (S : XS) (a_ : Nat) (c_ : Int32) (t_ : Int32) (ha : a_ ∈ xL S) (hm : mcl (xmk S a_)) (hc : xmk S a_ = 2) : CtF XW Z yX2_init cX2_init 3 none 3 0 0 [.ref (a_), .int c_, .int t_] (S) none (xM S a_ (gG (mfo S a_) 4 c_ t_ 0 0 ((if t_ = 1 then 132 else 13) * 10 + 7))) := by
  refine V_entryI (own := RX2) (by decide) rfl (Nat.le_of_ble_eq_true rfl) ?_
  intro B hB hnm
  refine V_sub (L' := [(0, .ref (a_)), (1, .int c_), (2, .int t_)]) [0, 1, 2] rfl ?_
  refine V_aload_n (pc := 0) dX2_init_0 0 rfl rfl ?_
  refine V_iconst (v := 4) (pc := 1) dX2_init_1 (by decide) ?_
  refine V_iload_n (pc := 2) dX2_init_2 1 rfl rfl ?_
  refine V_iload_n (pc := 3) dX2_init_3 2 rfl rfl ?_
  refine V_callIv (pc := 4) dX2_init_4 (c_X1_init Z _ _ _ _ _ (by exact ha) (by exact hm)) kX2_3 rfl (Nat.le_of_ble_eq_true rfl) (by decide) (by decide) (Nat.le_of_ble_eq_true rfl) (Nat.le_of_ble_eq_true rfl) ?_
  refine V_aload_n (pc := 7) dX2_init_7 0 rfl rfl ?_
  refine V_bipush (v := 7) (pc := 8) dX2_init_8 (by decide) ?_
  refine Xv_leave_X2 (pc := 10) (by exact ha) (by exact hm) hc dX2_init_10 (Nat.le_of_ble_eq_true rfl) (by decide) (Nat.le_of_ble_eq_true rfl) (Nat.le_of_ble_eq_true rfl) ?_
  refine V_eqS (xM S a_ (gG (mfo S a_) 4 c_ t_ 0 0 ((if t_ = 1 then 132 else 13) * 10 + 7))) (by
      refine (xM_lv _ _ _ _).trans ?_
      refine congrArg (xM S a_) (funext fun j => ?_)
      simp only [gG, upd]
      repeat' split
      all_goals first | rfl | (simp; done) | (simp_all; done) | omega) ?_
  exact V_vret (pc := 13) dX2_init_13 (Nat.le_of_ble_eq_true rfl) (Nat.le_of_ble_eq_true rfl) (hB _ _ ⟨rfl, by rfl⟩)
set_option maxHeartbeats 4000000 in
set_option maxRecDepth 100000 in
theorem c_X6_init (Z : VZ) (S : XS) (a_ : Nat) (c_ : Int32) (t_ : Int32) (ha : a_ ∈ xL S) (hm : mcl (xmk S a_)) (hc : xmk S a_ = 6) : CtF XW Z yX6_init cX6_init 3 none 3 0 0 [.ref (a_), .int c_, .int t_] (S) none (xM S a_ (gG (mfo S a_) 5 c_ t_ 0 0 ((if t_ = 1 then 132 else 13) * 10 + 8))) := by
  refine V_entryI (own := RX6) (by decide) rfl (Nat.le_of_ble_eq_true rfl) ?_
  intro B hB hnm
  refine V_sub (L' := [(0, .ref (a_)), (1, .int c_), (2, .int t_)]) [0, 1, 2] rfl ?_
  refine V_aload_n (pc := 0) dX6_init_0 0 rfl rfl ?_
  refine V_iconst (v := 5) (pc := 1) dX6_init_1 (by decide) ?_
  refine V_iload_n (pc := 2) dX6_init_2 1 rfl rfl ?_
  refine V_iload_n (pc := 3) dX6_init_3 2 rfl rfl ?_
  refine V_callIv (pc := 4) dX6_init_4 (c_X1_init Z _ _ _ _ _ (by exact ha) (by exact hm)) kX6_3 rfl (Nat.le_of_ble_eq_true rfl) (by decide) (by decide) (Nat.le_of_ble_eq_true rfl) (Nat.le_of_ble_eq_true rfl) ?_
  refine V_aload_n (pc := 7) dX6_init_7 0 rfl rfl ?_
  refine V_bipush (v := 8) (pc := 8) dX6_init_8 (by decide) ?_
  refine Xv_leave_X6 (pc := 10) (by exact ha) (by exact hm) hc dX6_init_10 (Nat.le_of_ble_eq_true rfl) (by decide) (Nat.le_of_ble_eq_true rfl) (Nat.le_of_ble_eq_true rfl) ?_
  refine V_eqS (xM S a_ (gG (mfo S a_) 5 c_ t_ 0 0 ((if t_ = 1 then 132 else 13) * 10 + 8))) (by
      refine (xM_lv _ _ _ _).trans ?_
      refine congrArg (xM S a_) (funext fun j => ?_)
      simp only [gG, upd]
      repeat' split
      all_goals first | rfl | (simp; done) | (simp_all; done) | omega) ?_
  exact V_vret (pc := 13) dX6_init_13 (Nat.le_of_ble_eq_true rfl) (Nat.le_of_ble_eq_true rfl) (hB _ _ ⟨rfl, by rfl⟩)
