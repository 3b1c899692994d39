def aSum (c : Nat) (g : Nat → Int32) : Int32 := xSum c (bcI (g 3 &&& g 2)) (g 4)
def rgF (g : Nat → Int32) : Int32 := if g 3 &&& 1 = 1 then g 2 else 0
def rgC (g : Nat → Int32) : Int32 := g 4 &&& (1 <<< (g 1 &&& 31) - 1)
def aS (c : Nat) (g : Nat → Int32) : Int32 := if c = 6 then (g 3 >>> (1 &&& 31) ^^^ rgC g) ^^^ rgF g else g 3 >>> (1 &&& 31) ||| (aSum c g &&& 1) <<< ((g 1 - 1) &&& 31)
def aY (c : Nat) (g : Nat → Int32) : Int32 := if c = 6 then (g 3 >>> (1 &&& 31) &&& rgC g ||| g 3 >>> (1 &&& 31) &&& rgF g) ||| rgC g &&& rgF g else xCar c (aSum c g) (g 4)
/-- a machine's step, of the class -/
def adv (c : Nat) (g : Nat → Int32) : Nat → Int32 := upd (upd g 3 (aS c g)) 4 (aY c g)
def advN (c n : Nat) (g : Nat → Int32) : Nat → Int32 := it (fun _ g => adv c g) n g
def tlL (c : Nat) (g : Nat → Int32) (n : Nat) : Int64 := it (fun i (b : Int64) => b ||| (advN c i g 3 &&& 1).toInt64 <<< ((nI i).toInt64 &&& 63)) n 0
theorem xM_self (S : XS) (a : Nat) : S = xM S a (mfo S a) := by
  unfold xM
  rw [show va_up S.2.2.2.2.2.2.2 a (mfo S a) = S.2.2.2.2.2.2.2 from va_upS _ _]
def xN (S : XS) (q c : Nat) (g : Nat → Int32) : XS := (S.1, S.2.1, S.2.2.1, S.2.2.2.1, S.2.2.2.2.1, S.2.2.2.2.2.1 ++ [q], va_up S.2.2.2.2.2.2.1 q c, va_up S.2.2.2.2.2.2.2 q g)
theorem xN_M (S : XS) (q c : Nat) (g g' : Nat → Int32) : xM (xN S q c g) q g' = xN S q c g' := by
  unfold xM xN
  simp only [bx_uu]
theorem mfo_xN (S : XS) (q c : Nat) (g : Nat → Int32) : mfo (xN S q c g) q = g := va_up_self _ _ _
theorem xmk_xN (S : XS) (q c : Nat) (g : Nat → Int32) : xmk (xN S q c g) q = c := va_up_self _ _ _
theorem in_xN (S : XS) (q c : Nat) (g : Nat → Int32) : q ∈ xL (xN S q c g) := List.mem_append_right _ (List.mem_singleton.mpr rfl)
def kc (k : Int32) : Nat := if k = 1 then 5 else if k = 2 then 9 else if k = 3 then 0 else if k = 4 then 2 else if k = 5 then 6 else 1
def kf (k : Int32) : Int32 := if k = 1 then 1 else if k = 2 then 2 else if k = 3 then 3 else if k = 4 then 4 else if k = 5 then 5 else 0
def kd (k t : Int32) : Int32 := if k = 1 then (if t = 1 then 132 else 13) * 10 + 4 else if k = 2 then ((if t = 1 then 132 else 13) * 10 + 4) * 10 + 5 else if k = 3 then (if t = 1 then 132 else 13) * 10 + 6 else if k = 4 then (if t = 1 then 132 else 13) * 10 + 7 else if k = 5 then (if t = 1 then 132 else 13) * 10 + 8 else (if t = 1 then 132 else 13)
/-- a machine as it is made -/
def gM (k c t s y : Int32) : Nat → Int32 := gG (fun _ => 0) (kf k) c t s y (kd k t)
theorem mcl_kc (k : Int32) : mcl (kc k) := by
  unfold mcl kc
  repeat' split
  all_goals simp
set_option maxHeartbeats 4000000 in
set_option maxRecDepth 100000 in
theorem c_X1_advance (Z : VZ) (S : XS) (a_ : Nat) (ha : a_ ∈ xL S) (hm : mcl (xmk S a_)) (h6 : ¬ xmk S a_ = 6) : CtF XW Z yX1_advance cX1_advance 3 (some .int) 3 0 0 [.ref (a_)] (S) (some (.int (mfo S a_ 3 &&& 1))) (xM S a_ (adv (xmk S a_) (mfo S a_))) := by
  refine V_entry (own := RX1) (by decide) rfl (Nat.le_of_ble_eq_true rfl) ?_
  intro B hB
  refine V_sub (L' := [(0, .ref (a_))]) [0] rfl ?_
  refine V_aload_n (pc := 0) dX1_advance_0 0 rfl rfl ?_
  refine Xmg_state (pc := 1) (v := (mfo S a_ 3)) (by exact ha) (by exact hm) rfl dX1_advance_1 tw_207 (Or.inl rfl) ?_
  refine V_iconst (v := 1) (pc := 4) dX1_advance_4 (by decide) ?_
  refine V_iand (pc := 5) dX1_advance_5 ?_
  refine V_istore_n (pc := 6) (L2 := [(0, .ref (a_))]) dX1_advance_6 rfl (by decide) rfl (fun x1_6 ex1_6 => ?_)
  subst ex1_6
  refine V_aload_n (pc := 7) dX1_advance_7 1 rfl rfl ?_
  refine V_aload_n (pc := 8) dX1_advance_8 1 rfl rfl ?_
  refine Xmg_state (pc := 9) (v := (mfo S a_ 3)) (by exact ha) (by exact hm) rfl dX1_advance_9 tw_207 (Or.inl rfl) ?_
  refine V_aload_n (pc := 12) dX1_advance_12 1 rfl rfl ?_
  refine Xmg_taps (pc := 13) (v := (mfo S a_ 2)) (by exact ha) (by exact hm) rfl dX1_advance_13 tw_203 (Or.inl rfl) ?_
  refine V_iand (pc := 16) dX1_advance_16 ?_
  refine V_callSi (pc := 17) dX1_advance_17 (c_J6_bitCount_0f7a4 Z _ _) kX1_32 rfl (Nat.le_of_ble_eq_true rfl) (by decide) (by decide) (Nat.le_of_ble_eq_true rfl) (Nat.le_of_ble_eq_true rfl) ?_
  refine Xv_sumOf (pc := 20) (by exact ha) (by exact hm) h6 dX1_advance_20 (Nat.le_of_ble_eq_true rfl) (by decide) (Nat.le_of_ble_eq_true rfl) (Nat.le_of_ble_eq_true rfl) ?_
  refine V_istore_n (pc := 23) (L2 := [(1, .int ((mfo S a_ 3) &&& 1)), (0, .ref (a_))]) dX1_advance_23 rfl (by decide) rfl (fun x2_23 ex2_23 => ?_)
  subst ex2_23
  refine V_aload_n (pc := 24) dX1_advance_24 2 rfl rfl ?_
  refine V_aload_n (pc := 25) dX1_advance_25 2 rfl rfl ?_
  refine Xmg_state (pc := 26) (v := (mfo S a_ 3)) (by exact ha) (by exact hm) rfl dX1_advance_26 tw_207 (Or.inl rfl) ?_
  refine V_iconst (v := 1) (pc := 29) dX1_advance_29 (by decide) ?_
  refine V_ishr (pc := 30) dX1_advance_30 ?_
  refine V_iload_n (pc := 31) dX1_advance_31 0 rfl rfl ?_
  refine V_iconst (v := 1) (pc := 32) dX1_advance_32 (by decide) ?_
  refine V_iand (pc := 33) dX1_advance_33 ?_
  refine V_aload_n (pc := 34) dX1_advance_34 2 rfl rfl ?_
  refine Xmg_cells (pc := 35) (v := (mfo S a_ 1)) (by exact ha) (by exact hm) rfl dX1_advance_35 tw_199 (Or.inl rfl) ?_
  refine V_iconst (v := 1) (pc := 38) dX1_advance_38 (by decide) ?_
  refine V_isub (pc := 39) dX1_advance_39 ?_
  refine V_ishl (pc := 40) dX1_advance_40 ?_
  refine V_ior (pc := 41) dX1_advance_41 ?_
  refine Xmp_state (pc := 42) (by exact ha) (by exact hm) dX1_advance_42 tw_207 (Or.inl rfl) ?_
  refine V_eqS (xM S a_ (upd (mfo S a_) 3 (aS (xmk S a_) (mfo S a_)))) (by simp only [aS]; rw [if_neg h6]; rfl) ?_
  refine V_aload_n (pc := 45) dX1_advance_45 2 rfl rfl ?_
  refine V_aload_n (pc := 46) dX1_advance_46 2 rfl rfl ?_
  refine V_iload_n (pc := 47) dX1_advance_47 0 rfl rfl ?_
  refine Xv_carriedOf (pc := 48) (by exact ha) (by exact hm) h6 dX1_advance_48 (Nat.le_of_ble_eq_true rfl) (by decide) (Nat.le_of_ble_eq_true rfl) (Nat.le_of_ble_eq_true rfl) ?_
  refine V_eqi (xCar (xmk S a_) (aSum (xmk S a_) (mfo S a_)) (mfo S a_ 4)) (by rw [mfo_xM]; rfl) ?_
  refine Xmp_carry (pc := 51) (by exact ha) (by exact hm) dX1_advance_51 tw_211 (Or.inl rfl) ?_
  refine V_iload_n (pc := 54) dX1_advance_54 1 rfl rfl ?_
  exact V_iret (pc := 55) dX1_advance_55 (Nat.le_of_ble_eq_true rfl) (Nat.le_of_ble_eq_true rfl) (hB _ _ ⟨congrArg (fun z => some (Value.int z)) (by first | rfl | assumption | (simp_all; done)), by refine (xM_put _ _ _ _ _).trans ?_; unfold adv; simp only [aY]; rw [if_neg h6]⟩)
set_option maxHeartbeats 4000000 in
set_option maxRecDepth 100000 in
theorem c_X6_advance (Z : VZ) (S : XS) (a_ : Nat) (ha : a_ ∈ xL S) (hm : mcl (xmk S a_)) (h6 : xmk S a_ = 6) : CtF XW Z yX6_advance cX6_advance 5 (some .int) 3 0 0 [.ref (a_)] (S) (some (.int (mfo S a_ 3 &&& 1))) (xM S a_ (adv 6 (mfo S a_))) := by
  refine V_entry (own := RX6) (by decide) rfl (Nat.le_of_ble_eq_true rfl) ?_
  intro B hB
  refine V_sub (L' := [(0, .ref (a_))]) [0] rfl ?_
  refine V_aload_n (pc := 0) dX6_advance_0 0 rfl rfl ?_
  refine Xmg_state (pc := 1) (v := (mfo S a_ 3)) (by exact ha) (by exact hm) rfl dX6_advance_1 tw_208 (Or.inr tw_209) ?_
  refine V_iconst (v := 1) (pc := 4) dX6_advance_4 (by decide) ?_
  refine V_iand (pc := 5) dX6_advance_5 ?_
  refine V_istore_n (pc := 6) (L2 := [(0, .ref (a_))]) dX6_advance_6 rfl (by decide) rfl (fun x1_6 ex1_6 => ?_)
  subst ex1_6
  refine V_aload_n (pc := 7) dX6_advance_7 1 rfl rfl ?_
  refine Xmg_state (pc := 8) (v := (mfo S a_ 3)) (by exact ha) (by exact hm) rfl dX6_advance_8 tw_208 (Or.inr tw_209) ?_
  refine V_iconst (v := 1) (pc := 11) dX6_advance_11 (by decide) ?_
  refine V_ishr (pc := 12) dX6_advance_12 ?_
  refine V_istore_n (pc := 13) (L2 := [(1, .int ((mfo S a_ 3) &&& 1)), (0, .ref (a_))]) dX6_advance_13 rfl (by decide) rfl (fun x2_13 ex2_13 => ?_)
  subst ex2_13
  refine V_aload_n (pc := 14) dX6_advance_14 2 rfl rfl ?_
  refine Xmg_carry (pc := 15) (v := (mfo S a_ 4)) (by exact ha) (by exact hm) rfl dX6_advance_15 tw_214 (Or.inr tw_215) ?_
  refine V_iconst (v := 1) (pc := 18) dX6_advance_18 (by decide) ?_
  refine V_aload_n (pc := 19) dX6_advance_19 2 rfl rfl ?_
  refine Xmg_cells (pc := 20) (v := (mfo S a_ 1)) (by exact ha) (by exact hm) rfl dX6_advance_20 tw_200 (Or.inr tw_201) ?_
  refine V_ishl (pc := 23) dX6_advance_23 ?_
  refine V_iconst (v := 1) (pc := 24) dX6_advance_24 (by decide) ?_
  refine V_isub (pc := 25) dX6_advance_25 ?_
  refine V_iand (pc := 26) dX6_advance_26 ?_
  refine V_istore_n (pc := 27) (L2 := [(2, .int ((mfo S a_ 3) >>> (1 &&& 31))), (1, .int ((mfo S a_ 3) &&& 1)), (0, .ref (a_))]) dX6_advance_27 rfl (by decide) rfl (fun x3_27 ex3_27 => ?_)
  subst ex3_27
  refine V_iload_n (pc := 28) dX6_advance_28 2 rfl rfl ?_
  refine V_iconst (v := 1) (pc := 29) dX6_advance_29 (by decide) ?_
  refine V_icmp_ne (pc := 30) (tgt := 40) dX6_advance_30 (by decide) (fun h30 => ?_) (fun h30 => ?_)
  · skip
    refine V_iconst (v := 0) (pc := 40) dX6_advance_40 (by decide) ?_
    refine V_istore (pc := 41) (L2 := [(3, .int ((mfo S a_ 4) &&& ((1 <<< ((mfo S a_ 1) &&& 31)) - 1))), (2, .int ((mfo S a_ 3) >>> (1 &&& 31))), (1, .int ((mfo S a_ 3) &&& 1)), (0, .ref (a_))]) dX6_advance_41 (by decide) rfl (fun x4_41 ex4_41 => ?_)
    subst ex4_41
    refine V_aload_n (pc := 43) dX6_advance_43 4 rfl rfl ?_
    refine V_iload_n (pc := 44) dX6_advance_44 2 rfl rfl ?_
    refine V_iload_n (pc := 45) dX6_advance_45 1 rfl rfl ?_
    refine V_ixor (pc := 46) dX6_advance_46 ?_
    refine V_iload (pc := 47) dX6_advance_47 0 rfl ?_
    refine V_ixor (pc := 49) dX6_advance_49 ?_
    refine Xmp_state (pc := 50) (by exact ha) (by exact hm) dX6_advance_50 tw_208 (Or.inr tw_209) ?_
    refine V_eqS (xM S a_ (upd (mfo S a_) 3 (aS 6 (mfo S a_)))) (by simp only [aS, rgF, rgC]; first | (rw [if_pos h30]; rfl) | (rw [if_neg h30]; rfl)) ?_
    refine V_aload_n (pc := 53) dX6_advance_53 4 rfl rfl ?_
    refine V_iload_n (pc := 54) dX6_advance_54 2 rfl rfl ?_
    refine V_iload_n (pc := 55) dX6_advance_55 1 rfl rfl ?_
    refine V_iand (pc := 56) dX6_advance_56 ?_
    refine V_iload_n (pc := 57) dX6_advance_57 2 rfl rfl ?_
    refine V_iload (pc := 58) dX6_advance_58 0 rfl ?_
    refine V_iand (pc := 60) dX6_advance_60 ?_
    refine V_ior (pc := 61) dX6_advance_61 ?_
    refine V_iload_n (pc := 62) dX6_advance_62 1 rfl rfl ?_
    refine V_iload (pc := 63) dX6_advance_63 0 rfl ?_
    refine V_iand (pc := 65) dX6_advance_65 ?_
    refine V_ior (pc := 66) dX6_advance_66 ?_
    refine Xmp_carry (pc := 67) (by exact ha) (by exact hm) dX6_advance_67 tw_214 (Or.inr tw_215) ?_
    refine V_iload_n (pc := 70) dX6_advance_70 3 rfl rfl ?_
    exact V_iret (pc := 71) dX6_advance_71 (Nat.le_of_ble_eq_true rfl) (Nat.le_of_ble_eq_true rfl) (hB _ _ ⟨congrArg (fun z => some (Value.int z)) (by first | rfl | assumption | (simp_all; done)), by refine (xM_put _ _ _ _ _).trans ?_; unfold adv; refine congrArg (fun z => xM S a_ (upd (upd (mfo S a_) 3 (aS 6 (mfo S a_))) 4 z)) ?_; simp only [aY, rgF, rgC]; first | (rw [if_pos h30]; rfl) | (rw [if_neg h30]; rfl)⟩)
  · skip
    refine V_aload_n (pc := 33) dX6_advance_33 3 rfl rfl ?_
    refine Xmg_taps (pc := 34) (v := (mfo S a_ 2)) (by exact ha) (by exact hm) rfl dX6_advance_34 tw_204 (Or.inr tw_205) ?_
    refine V_goto (pc := 37) (tgt := 41) dX6_advance_37 (by decide) ?_
    refine V_istore (pc := 41) (L2 := [(3, .int ((mfo S a_ 4) &&& ((1 <<< ((mfo S a_ 1) &&& 31)) - 1))), (2, .int ((mfo S a_ 3) >>> (1 &&& 31))), (1, .int ((mfo S a_ 3) &&& 1)), (0, .ref (a_))]) dX6_advance_41 (by decide) rfl (fun x4_41 ex4_41 => ?_)
    subst ex4_41
    refine V_aload_n (pc := 43) dX6_advance_43 4 rfl rfl ?_
    refine V_iload_n (pc := 44) dX6_advance_44 2 rfl rfl ?_
    refine V_iload_n (pc := 45) dX6_advance_45 1 rfl rfl ?_
    refine V_ixor (pc := 46) dX6_advance_46 ?_
    refine V_iload (pc := 47) dX6_advance_47 0 rfl ?_
    refine V_ixor (pc := 49) dX6_advance_49 ?_
    refine Xmp_state (pc := 50) (by exact ha) (by exact hm) dX6_advance_50 tw_208 (Or.inr tw_209) ?_
    refine V_eqS (xM S a_ (upd (mfo S a_) 3 (aS 6 (mfo S a_)))) (by simp only [aS, rgF, rgC]; first | (rw [if_pos h30]; rfl) | (rw [if_neg h30]; rfl)) ?_
    refine V_aload_n (pc := 53) dX6_advance_53 4 rfl rfl ?_
    refine V_iload_n (pc := 54) dX6_advance_54 2 rfl rfl ?_
    refine V_iload_n (pc := 55) dX6_advance_55 1 rfl rfl ?_
    refine V_iand (pc := 56) dX6_advance_56 ?_
    refine V_iload_n (pc := 57) dX6_advance_57 2 rfl rfl ?_
    refine V_iload (pc := 58) dX6_advance_58 0 rfl ?_
    refine V_iand (pc := 60) dX6_advance_60 ?_
    refine V_ior (pc := 61) dX6_advance_61 ?_
    refine V_iload_n (pc := 62) dX6_advance_62 1 rfl rfl ?_
    refine V_iload (pc := 63) dX6_advance_63 0 rfl ?_
    refine V_iand (pc := 65) dX6_advance_65 ?_
    refine V_ior (pc := 66) dX6_advance_66 ?_
    refine Xmp_carry (pc := 67) (by exact ha) (by exact hm) dX6_advance_67 tw_214 (Or.inr tw_215) ?_
    refine V_iload_n (pc := 70) dX6_advance_70 3 rfl rfl ?_
    exact V_iret (pc := 71) dX6_advance_71 (Nat.le_of_ble_eq_true rfl) (Nat.le_of_ble_eq_true rfl) (hB _ _ ⟨congrArg (fun z => some (Value.int z)) (by first | rfl | assumption | (simp_all; done)), by refine (xM_put _ _ _ _ _).trans ?_; unfold adv; refine congrArg (fun z => xM S a_ (upd (upd (mfo S a_) 3 (aS 6 (mfo S a_))) 4 z)) ?_; simp only [aY, rgF, rgC]; first | (rw [if_pos h30]; rfl) | (rw [if_neg h30]; rfl)⟩)
theorem Xv_advance {Z : VZ} {cc : ByteArray} {nL : Nat} {ret : Option FieldType} {d mc ms : Nat} {B : VB XS} {n k pc : Nat} {L : List (Nat × Value)} {st : List Value} {S : XS} {a : Nat} (ha : a ∈ xL S) (hm : mcl (xmk S a)) (hd : decode cc pc = .ok (.invokevirtual 313, 3)) (hrm : (st.map fun v => v.category).sum ≤ 8) (hdd : 4 ≤ d) (hmc : n ≤ mc) (hms : k ≤ ms) (kk : V XW Z cc RX10 nL ret d mc ms B n k (pc + 3) L (.int (mfo S a 3 &&& 1) :: st) (xM S a (adv (xmk S a) (mfo S a)))) : V XW Z cc RX10 nL ret d mc ms B n k pc L (.ref a :: st) S := by
  rcases id hm with h | h | h | h | h | h
  · obtain ⟨q, hq0, hq⟩ := x_at (Z := Z) ha h
    refine V_callU (C := RX0) (T := TX0) (N := 6) (ci := 0) hd (c_X1_advance Z S a ha hm (by rw [h]; decide)) kX10_313_X0 hq rfl rfl hrm (by omega) (by omega) hmc hms (fun v S' hp => ?_)
    obtain ⟨rfl, rfl⟩ := hp
    skip
    exact kk
  · obtain ⟨q, hq0, hq⟩ := x_at (Z := Z) ha h
    refine V_callU (C := RX1) (T := TX1) (N := 6) (ci := 1) hd (c_X1_advance Z S a ha hm (by rw [h]; decide)) kX10_313_X1 hq rfl rfl hrm (by omega) (by omega) hmc hms (fun v S' hp => ?_)
    obtain ⟨rfl, rfl⟩ := hp
    skip
    exact kk
  · obtain ⟨q, hq0, hq⟩ := x_at (Z := Z) ha h
    refine V_callU (C := RX2) (T := TX2) (N := 6) (ci := 2) hd (c_X1_advance Z S a ha hm (by rw [h]; decide)) kX10_313_X2 hq rfl rfl hrm (by omega) (by omega) hmc hms (fun v S' hp => ?_)
    obtain ⟨rfl, rfl⟩ := hp
    skip
    exact kk
  · obtain ⟨q, hq0, hq⟩ := x_at (Z := Z) ha h
    refine V_callU (C := RX5) (T := TX5) (N := 6) (ci := 5) hd (c_X1_advance Z S a ha hm (by rw [h]; decide)) kX10_313_X5 hq rfl rfl hrm (by omega) (by omega) hmc hms (fun v S' hp => ?_)
    obtain ⟨rfl, rfl⟩ := hp
    skip
    exact kk
  · obtain ⟨q, hq0, hq⟩ := x_at (Z := Z) ha h
    refine V_callU (C := RX6) (T := TX6) (N := 6) (ci := 6) hd (c_X6_advance Z S a ha hm h) kX10_313_X6 hq rfl rfl hrm (by omega) (by omega) hmc hms (fun v S' hp => ?_)
    obtain ⟨rfl, rfl⟩ := hp
    rw [h] at kk
    exact kk
  · obtain ⟨q, hq0, hq⟩ := x_at (Z := Z) ha h
    refine V_callU (C := RX9) (T := TX9) (N := 6) (ci := 9) hd (c_X1_advance Z S a ha hm (by rw [h]; decide)) kX10_313_X9 hq rfl rfl hrm (by omega) (by omega) hmc hms (fun v S' hp => ?_)
    obtain ⟨rfl, rfl⟩ := hp
    skip
    exact kk
set_option maxHeartbeats 4000000 in
set_option maxRecDepth 100000 in
theorem c_X10_tell (Z : VZ) (S : XS) (a_ : Nat) (n_ : Int32) (ha : a_ ∈ xL S) (hm : mcl (xmk S a_)) : CtF XW Z yX10_tell cX10_tell 5 (some .long) 4 0 0 [.ref (a_), .int n_] (S) (some (.long (tlL (xmk S a_) (mfo S a_) n_.toNatClampNeg))) (xM S a_ (advN (xmk S a_) n_.toNatClampNeg (mfo S a_))) := by
  refine V_entry (own := RX10) (by decide) rfl (Nat.le_of_ble_eq_true rfl) ?_
  intro B hB
  refine V_sub (L' := [(0, .ref (a_)), (1, .int n_)]) [0, 1] rfl ?_
  refine V_lconst (v := 0) (pc := 0) dX10_tell_0 (by decide) ?_
  refine V_lstore_n (pc := 1) (L2 := [(0, .ref (a_)), (1, .int n_)]) dX10_tell_1 rfl (by decide) rfl (fun x2_1 ex2_1 => ?_)
  subst ex2_1
  refine V_iconst (v := 0) (pc := 2) dX10_tell_2 (by decide) ?_
  refine V_istore (pc := 3) (L2 := [(2, .long 0), (0, .ref (a_)), (1, .int n_)]) dX10_tell_3 (by decide) rfl (fun x4_3 ex4_3 => ?_)
  subst ex4_3
  refine V_eqS _ (xM_self S a_) ?_
  refine V_sub (L' := [(4, .int (nI 0)), (2, .long 0), (0, .ref (a_)), (1, .int n_)]) [0, 1, 2, 3] rfl ?_
  refine Vloop (σ := Nat × Int64) (fun x => (x.1) ≤ n_.toNatClampNeg ∧ (x.2) = tlL (xmk S a_) (mfo S a_) (x.1)) (fun x => n_.toNatClampNeg - (x.1)) (fun x => V XW Z cX10_tell RX10 5 (some .long) 4 0 0 B 0 0 5 [(4, .int (nI (x.1))), (2, .long (x.2)), (0, .ref (a_)), (1, .int n_)] [] (xM S a_ (advN (xmk S a_) (x.1) (mfo S a_)))) ?_ (0, 0) (by exact ⟨Nat.zero_le _, rfl⟩)
  rintro ⟨j, u⟩ hI5 ih5
  have hI5 : j ≤ n_.toNatClampNeg ∧ u = tlL (xmk S a_) (mfo S a_) j := hI5
  show V XW Z cX10_tell RX10 5 (some .long) 4 0 0 B 0 0 5 [(4, .int (nI j)), (2, .long u), (0, .ref (a_)), (1, .int n_)] [] (xM S a_ (advN (xmk S a_) j (mfo S a_)))
  refine V_iload (pc := 5) dX10_tell_5 0 rfl ?_
  refine V_iload_n (pc := 7) dX10_tell_7 3 rfl rfl ?_
  refine V_icmp_ge (pc := 8) (tgt := 28) dX10_tell_8 (by decide) (fun h8 => ?_) (fun h8 => ?_)
  · skip
    have hj : n_.toNatClampNeg ≤ j := jge h8 (Nat.lt_of_le_of_lt hI5.1 (clampLt _))
    have ej : j = n_.toNatClampNeg := Nat.le_antisymm hI5.1 hj
    refine V_lload_n (pc := 28) dX10_tell_28 1 rfl rfl ?_
    exact V_lret (pc := 29) dX10_tell_29 (Nat.le_of_ble_eq_true rfl) (Nat.le_of_ble_eq_true rfl) (hB _ _ ⟨congrArg (fun z => some (Value.long z)) (by rw [hI5.2, ej]), by rw [ej]⟩)
  · skip
    have hj : j < n_.toNatClampNeg := jlt h8 (Nat.lt_of_le_of_lt hI5.1 (clampLt _))
    refine V_lload_n (pc := 11) dX10_tell_11 1 rfl rfl ?_
    refine V_aload_n (pc := 12) dX10_tell_12 2 rfl rfl ?_
    refine Xv_advance (pc := 13) (by exact ha) (by exact hm) dX10_tell_13 (Nat.le_of_ble_eq_true rfl) (by decide) (Nat.le_of_ble_eq_true rfl) (Nat.le_of_ble_eq_true rfl) ?_
    refine V_eqS (xM S a_ (advN (xmk S a_) (j + 1) (mfo S a_))) (by refine (xM_xM _ _ _ _).trans ?_; rw [mfo_xM]; rfl) ?_
    refine V_eqi (advN (xmk S a_) j (mfo S a_) 3 &&& 1) (by rw [mfo_xM]) ?_
    refine V_i2l (pc := 16) dX10_tell_16 rfl ?_
    refine V_iload (pc := 17) dX10_tell_17 0 rfl ?_
    refine V_lshl (pc := 19) dX10_tell_19 rfl ?_
    refine V_lor (pc := 20) dX10_tell_20 ?_
    refine V_lstore_n (pc := 21) (L2 := [(4, .int (nI j)), (0, .ref (a_)), (1, .int n_)]) dX10_tell_21 rfl (by decide) rfl (fun x2_21 ex2_21 => ?_)
    refine V_iinc (pc := 22) (v := 1) (L2 := [(2, .long x2_21), (0, .ref (a_)), (1, .int n_)]) dX10_tell_22 1 rfl (by decide) (by decide) rfl (fun x4_22 ex4_22 => ?_)
    rw [nI_1] at ex4_22
    subst ex4_22
    refine V_goto (pc := 25) (tgt := 5) dX10_tell_25 (by decide) ?_
    refine V_sub (L' := [(4, .int (nI (j + 1))), (2, .long x2_21), (0, .ref (a_)), (1, .int n_)]) [0, 1, 2, 3] rfl ?_
    refine ih5 (((j + 1)), _) ?_ ?_
    · show ((j + 1)) ≤ n_.toNatClampNeg ∧ (x2_21) = tlL (xmk S a_) (mfo S a_) ((j + 1))
      exact ⟨hj, by rw [← ex2_21, hI5.2]; rfl⟩
    · show n_.toNatClampNeg - (j + 1) < n_.toNatClampNeg - j
      omega
