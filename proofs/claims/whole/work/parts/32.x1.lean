theorem V_objI {St : Type} {Wd : VZ → St → va_W} {Z : VZ} {cc : ByteArray} {own : String} {nL : Nat} {ret : Option FieldType} {d mc ms : Nat} {B : VB St} {n k pc : Nat} {L : List (Nat × Value)} {st : List Value} {S : St} {idx b : Nat} (hd : decode cc pc = .ok (.invokespecial idx, 3)) (h1 : Cond.methodLink own idx objectInit ∈ uw) (h2 : Cond.instanceMethod objectInit ∈ uw) (h3 : Cond.code objectInit ⟨#[0xb1]⟩ 1 none ∈ uw) (hf : 1 ≤ d) (hst : (st.map fun v => v.category).sum + 12 ≤ 100 * d) (kk : V Wd Z cc own nL ret d mc ms B n k (pc + 3) L st S) : V Wd Z cc own nL ret d mc ms B n k pc L (.ref b :: st) S := by
  intro p e s m args below meth c S0 po hB hk H locs ls hP hD hS hl
  have hts := hk.2.2.2.2.1
  exact W.objInit hk.1 hk.2.1 hk.2.2.2.1 (hts _ h1) (hts _ h2) (hts _ h3) rfl (by rw [hk.2.2.1]; exact hl.1) rfl hd hf (by show 2 * 0 + (st.map fun v => v.category).sum + 12 ≤ 100 * d; omega) (kk p e s m args below meth c S0 po hB hk H locs ls hP hD hS hl)
theorem V_callIv {St : Type} {Wd : VZ → St → va_W} {Z : VZ} {cc : ByteArray} {own : String} {nL : Nat} {ret : Option FieldType} {d mc ms : Nat} {B : VB St} {n k pc : Nat} {L : List (Nat × Value)} {st : List Value} {S : St} {y : MethodName} {cc' : ByteArray} {nL' idx : Nat} {d' mc' ms' : Nat} {av stk : List Value} {b : Nat} {S1 : St} (hd : decode cc pc = .ok (.invokespecial idx, 3)) (hC : CtF Wd Z y cc' nL' none d' mc' ms' (.ref b :: av) S none S1) (lk : LkI own idx y cc' nL' av.length) (hstk : stk = av.reverse ++ .ref b :: st) (hrm : (st.map fun v => v.category).sum ≤ 8) (hdd : d' + 1 ≤ d) (hll : 8 + (nL' + 11) + 100 * d' ≤ 100 * d) (hmc : n + mc' ≤ mc) (hms : k + ms' ≤ ms) (kk : V Wd Z cc own nL ret d mc ms B (n + mc') (k + ms') (pc + 3) L st S1) : V Wd Z cc own nL ret d mc ms B n k pc L stk S := V_callI hd hC lk hstk hrm hdd hll hmc hms (fun v S' hp => by obtain ⟨rfl, rfl⟩ := hp; exact kk)
abbrev mfo (S : XS) (a : Nat) : Nat → Int32 := S.2.2.2.2.2.2.2 a
abbrev xL (S : XS) : List Nat := S.2.2.2.2.2.1
abbrev xmk (S : XS) (a : Nat) : Nat := S.2.2.2.2.2.2.1 a
def xM (S : XS) (a : Nat) (g : Nat → Int32) : XS := (S.1, S.2.1, S.2.2.1, S.2.2.2.1, S.2.2.2.2.1, S.2.2.2.2.2.1, S.2.2.2.2.2.2.1, va_up S.2.2.2.2.2.2.2 a g)
theorem mfo_xM (S : XS) (a : Nat) (g : Nat → Int32) : mfo (xM S a g) a = g := va_up_self _ _ _
theorem xM_xM (S : XS) (a : Nat) (g g' : Nat → Int32) : xM (xM S a g) a g' = xM S a g' := by
  unfold xM
  rw [bx_uu]
def gG (b : Nat → Int32) (k c t s y z : Int32) : Nat → Int32 := fun j => if j = 0 then k else if j = 1 then c else if j = 2 then t else if j = 3 then s else if j = 4 then y else if j = 5 then z else b j
def xSum (c : Nat) (fed y : Int32) : Int32 := if c = 5 then fed else if c = 9 then fed + 1 else if c = 0 then y - fed else fed + y
def xCar (c : Nat) (sum y : Int32) : Int32 := if c = 5 ∨ c = 9 then y else if c = 2 then (if sum >>> (1 &&& 31) < 1 then sum >>> (1 &&& 31) else 1) else sum >>> (1 &&& 31)
set_option maxHeartbeats 4000000 in
set_option maxRecDepth 100000 in
theorem c_X1_leave (Z : VZ) (S : XS) (a_ : Nat) (g_ : Int32) (ha : a_ ∈ xL S) (hm : mcl (xmk S a_)) : CtF XW Z yX1_leave cX1_leave 2 none 0 0 0 [.ref (a_), .int g_] (S) none (xM S a_ (upd (mfo S a_) 5 (mfo S a_ 5 * 10 + g_))) := by
  refine V_entry (own := RX1) (by decide) rfl (Nat.le_of_ble_eq_true rfl) ?_
  intro B hB
  refine V_sub (L' := [(0, .ref (a_)), (1, .int g_)]) [0, 1] rfl ?_
  refine V_aload_n (pc := 0) dX1_leave_0 0 rfl rfl ?_
  refine V_aload_n (pc := 1) dX1_leave_1 0 rfl rfl ?_
  refine Xmg_digits (pc := 2) (v := (mfo S a_ 5)) (by assumption) (by assumption) rfl dX1_leave_2 tw_219 (Or.inl rfl) ?_
  refine V_bipush (v := 10) (pc := 5) dX1_leave_5 (by decide) ?_
  refine V_imul (pc := 7) dX1_leave_7 ?_
  refine V_iload_n (pc := 8) dX1_leave_8 1 rfl rfl ?_
  refine V_iadd (pc := 9) dX1_leave_9 ?_
  refine Xmp_digits (pc := 10) (by assumption) (by assumption) dX1_leave_10 tw_219 (Or.inl rfl) ?_
  exact V_vret (pc := 13) dX1_leave_13 (Nat.le_of_ble_eq_true rfl) (Nat.le_of_ble_eq_true rfl) (hB _ _ ⟨rfl, by rfl⟩)
set_option maxHeartbeats 4000000 in
set_option maxRecDepth 100000 in
theorem c_X1_sumOf (Z : VZ) (S : XS) (a_ : Nat) (f_ : Int32) (ha : a_ ∈ xL S) (hm : mcl (xmk S a_)) : CtF XW Z yX1_sumOf cX1_sumOf 2 (some .int) 0 0 0 [.ref (a_), .int f_] (S) (some (.int (f_ + mfo S a_ 4))) (S) := by
  refine V_entry (own := RX1) (by decide) rfl (Nat.le_of_ble_eq_true rfl) ?_
  intro B hB
  refine V_sub (L' := [(0, .ref (a_)), (1, .int f_)]) [0, 1] rfl ?_
  refine V_iload_n (pc := 0) dX1_sumOf_0 1 rfl rfl ?_
  refine V_aload_n (pc := 1) dX1_sumOf_1 0 rfl rfl ?_
  refine Xmg_carry (pc := 2) (v := (mfo S a_ 4)) (by assumption) (by assumption) rfl dX1_sumOf_2 tw_211 (Or.inl rfl) ?_
  refine V_iadd (pc := 5) dX1_sumOf_5 ?_
  exact V_iret (pc := 6) dX1_sumOf_6 (Nat.le_of_ble_eq_true rfl) (Nat.le_of_ble_eq_true rfl) (hB _ _ ⟨congrArg (fun z => some (Value.int z)) (by first | rfl | assumption | (simp_all; done)), by rfl⟩)
set_option maxHeartbeats 4000000 in
set_option maxRecDepth 100000 in
theorem c_X5_sumOf (Z : VZ) (S : XS) (a_ : Nat) (f_ : Int32) (ha : a_ ∈ xL S) (hm : mcl (xmk S a_)) : CtF XW Z yX5_sumOf cX5_sumOf 2 (some .int) 0 0 0 [.ref (a_), .int f_] (S) (some (.int f_)) (S) := by
  refine V_entry (own := RX5) (by decide) rfl (Nat.le_of_ble_eq_true rfl) ?_
  intro B hB
  refine V_sub (L' := [(0, .ref (a_)), (1, .int f_)]) [0, 1] rfl ?_
  refine V_iload_n (pc := 0) dX5_sumOf_0 1 rfl rfl ?_
  exact V_iret (pc := 1) dX5_sumOf_1 (Nat.le_of_ble_eq_true rfl) (Nat.le_of_ble_eq_true rfl) (hB _ _ ⟨congrArg (fun z => some (Value.int z)) (by first | rfl | assumption | (simp_all; done)), by rfl⟩)
set_option maxHeartbeats 4000000 in
set_option maxRecDepth 100000 in
theorem c_X9_sumOf (Z : VZ) (S : XS) (a_ : Nat) (f_ : Int32) (ha : a_ ∈ xL S) (hm : mcl (xmk S a_)) : CtF XW Z yX9_sumOf cX9_sumOf 2 (some .int) 0 0 0 [.ref (a_), .int f_] (S) (some (.int (f_ + 1))) (S) := by
  refine V_entry (own := RX9) (by decide) rfl (Nat.le_of_ble_eq_true rfl) ?_
  intro B hB
  refine V_sub (L' := [(0, .ref (a_)), (1, .int f_)]) [0, 1] rfl ?_
  refine V_iload_n (pc := 0) dX9_sumOf_0 1 rfl rfl ?_
  refine V_iconst (v := 1) (pc := 1) dX9_sumOf_1 (by decide) ?_
  refine V_iadd (pc := 2) dX9_sumOf_2 ?_
  exact V_iret (pc := 3) dX9_sumOf_3 (Nat.le_of_ble_eq_true rfl) (Nat.le_of_ble_eq_true rfl) (hB _ _ ⟨congrArg (fun z => some (Value.int z)) (by first | rfl | assumption | (simp_all; done)), by rfl⟩)
set_option maxHeartbeats 4000000 in
set_option maxRecDepth 100000 in
theorem c_X0_sumOf (Z : VZ) (S : XS) (a_ : Nat) (f_ : Int32) (ha : a_ ∈ xL S) (hm : mcl (xmk S a_)) : CtF XW Z yX0_sumOf cX0_sumOf 2 (some .int) 0 0 0 [.ref (a_), .int f_] (S) (some (.int (mfo S a_ 4 - f_))) (S) := by
  refine V_entry (own := RX0) (by decide) rfl (Nat.le_of_ble_eq_true rfl) ?_
  intro B hB
  refine V_sub (L' := [(0, .ref (a_)), (1, .int f_)]) [0, 1] rfl ?_
  refine V_aload_n (pc := 0) dX0_sumOf_0 0 rfl rfl ?_
  refine Xmg_carry (pc := 1) (v := (mfo S a_ 4)) (by assumption) (by assumption) rfl dX0_sumOf_1 tw_212 (Or.inr tw_213) ?_
  refine V_iload_n (pc := 4) dX0_sumOf_4 1 rfl rfl ?_
  refine V_isub (pc := 5) dX0_sumOf_5 ?_
  exact V_iret (pc := 6) dX0_sumOf_6 (Nat.le_of_ble_eq_true rfl) (Nat.le_of_ble_eq_true rfl) (hB _ _ ⟨congrArg (fun z => some (Value.int z)) (by first | rfl | assumption | (simp_all; done)), by rfl⟩)
set_option maxHeartbeats 4000000 in
set_option maxRecDepth 100000 in
theorem c_X1_carriedOf (Z : VZ) (S : XS) (a_ : Nat) (f_ : Int32) (ha : a_ ∈ xL S) (hm : mcl (xmk S a_)) : CtF XW Z yX1_carriedOf cX1_carriedOf 2 (some .int) 0 0 0 [.ref (a_), .int f_] (S) (some (.int (f_ >>> (1 &&& 31)))) (S) := by
  refine V_entry (own := RX1) (by decide) rfl (Nat.le_of_ble_eq_true rfl) ?_
  intro B hB
  refine V_sub (L' := [(0, .ref (a_)), (1, .int f_)]) [0, 1] rfl ?_
  refine V_iload_n (pc := 0) dX1_carriedOf_0 1 rfl rfl ?_
  refine V_iconst (v := 1) (pc := 1) dX1_carriedOf_1 (by decide) ?_
  refine V_ishr (pc := 2) dX1_carriedOf_2 ?_
  exact V_iret (pc := 3) dX1_carriedOf_3 (Nat.le_of_ble_eq_true rfl) (Nat.le_of_ble_eq_true rfl) (hB _ _ ⟨congrArg (fun z => some (Value.int z)) (by first | rfl | assumption | (simp_all; done)), by rfl⟩)
set_option maxHeartbeats 4000000 in
set_option maxRecDepth 100000 in
theorem c_X5_carriedOf (Z : VZ) (S : XS) (a_ : Nat) (f_ : Int32) (ha : a_ ∈ xL S) (hm : mcl (xmk S a_)) : CtF XW Z yX5_carriedOf cX5_carriedOf 2 (some .int) 0 0 0 [.ref (a_), .int f_] (S) (some (.int (mfo S a_ 4))) (S) := by
  refine V_entry (own := RX5) (by decide) rfl (Nat.le_of_ble_eq_true rfl) ?_
  intro B hB
  refine V_sub (L' := [(0, .ref (a_)), (1, .int f_)]) [0, 1] rfl ?_
  refine V_aload_n (pc := 0) dX5_carriedOf_0 0 rfl rfl ?_
  refine Xmg_carry (pc := 1) (v := (mfo S a_ 4)) (by assumption) (by assumption) rfl dX5_carriedOf_1 tw_216 (Or.inr tw_217) ?_
  exact V_iret (pc := 4) dX5_carriedOf_4 (Nat.le_of_ble_eq_true rfl) (Nat.le_of_ble_eq_true rfl) (hB _ _ ⟨congrArg (fun z => some (Value.int z)) (by first | rfl | assumption | (simp_all; done)), by rfl⟩)
set_option maxHeartbeats 4000000 in
set_option maxRecDepth 100000 in
theorem c_X2_carriedOf (Z : VZ) (S : XS) (a_ : Nat) (f_ : Int32) (ha : a_ ∈ xL S) (hm : mcl (xmk S a_)) : CtF XW Z yX2_carriedOf cX2_carriedOf 2 (some .int) 1 0 0 [.ref (a_), .int f_] (S) (some (.int (if f_ >>> (1 &&& 31) < 1 then f_ >>> (1 &&& 31) else 1))) (S) := by
  refine V_entry (own := RX2) (by decide) rfl (Nat.le_of_ble_eq_true rfl) ?_
  intro B hB
  refine V_sub (L' := [(0, .ref (a_)), (1, .int f_)]) [0, 1] rfl ?_
  refine V_iconst (v := 1) (pc := 0) dX2_carriedOf_0 (by decide) ?_
  refine V_iload_n (pc := 1) dX2_carriedOf_1 1 rfl rfl ?_
  refine V_iconst (v := 1) (pc := 2) dX2_carriedOf_2 (by decide) ?_
  refine V_ishr (pc := 3) dX2_carriedOf_3 ?_
  refine V_mmin (pc := 4) dX2_carriedOf_4 tw_396 tw_397 tw_14 tw_398 (by decide) (Nat.le_of_ble_eq_true rfl) (Nat.le_refl _) (Nat.le_refl _) ?_
  exact V_iret (pc := 7) dX2_carriedOf_7 (Nat.le_of_ble_eq_true rfl) (Nat.le_of_ble_eq_true rfl) (hB _ _ ⟨congrArg (fun z => some (Value.int z)) (by first | rfl | assumption | (simp_all; done)), by rfl⟩)
theorem Xv_leave_X1 {Z : VZ} {cc : ByteArray} {nL : Nat} {ret : Option FieldType} {d mc ms : Nat} {B : VB XS} {n k pc : Nat} {L : List (Nat × Value)} {st : List Value} {S : XS} {a : Nat} {f : Int32} (ha : a ∈ xL S) (hm : mcl (xmk S a)) (hd : decode cc pc = .ok (.invokevirtual 28, 3)) (hrm : (st.map fun v => v.category).sum ≤ 8) (hdd : 1 ≤ d) (hmc : n ≤ mc) (hms : k ≤ ms) (kk : V XW Z cc RX1 nL ret d mc ms B n k (pc + 3) L st (xM S a (upd (mfo S a) 5 (mfo S a 5 * 10 + f)))) : V XW Z cc RX1 nL ret d mc ms B n k pc L (.int f :: .ref a :: st) S := by
  rcases id hm with h | h | h | h | h | h
  · obtain ⟨q, hq0, hq⟩ := x_at (Z := Z) ha h
    refine V_callU (C := RX0) (T := TX0) (N := 6) (ci := 0) hd (c_X1_leave Z S a f ha hm) kX1_28_X0 hq rfl rfl hrm (by omega) (by omega) hmc hms (fun v S' hp => ?_)
    obtain ⟨rfl, rfl⟩ := hp
    exact kk
  · obtain ⟨q, hq0, hq⟩ := x_at (Z := Z) ha h
    refine V_callU (C := RX1) (T := TX1) (N := 6) (ci := 1) hd (c_X1_leave Z S a f ha hm) kX1_28_X1 hq rfl rfl hrm (by omega) (by omega) hmc hms (fun v S' hp => ?_)
    obtain ⟨rfl, rfl⟩ := hp
    exact kk
  · obtain ⟨q, hq0, hq⟩ := x_at (Z := Z) ha h
    refine V_callU (C := RX2) (T := TX2) (N := 6) (ci := 2) hd (c_X1_leave Z S a f ha hm) kX1_28_X2 hq rfl rfl hrm (by omega) (by omega) hmc hms (fun v S' hp => ?_)
    obtain ⟨rfl, rfl⟩ := hp
    exact kk
  · obtain ⟨q, hq0, hq⟩ := x_at (Z := Z) ha h
    refine V_callU (C := RX5) (T := TX5) (N := 6) (ci := 5) hd (c_X1_leave Z S a f ha hm) kX1_28_X5 hq rfl rfl hrm (by omega) (by omega) hmc hms (fun v S' hp => ?_)
    obtain ⟨rfl, rfl⟩ := hp
    exact kk
  · obtain ⟨q, hq0, hq⟩ := x_at (Z := Z) ha h
    refine V_callU (C := RX6) (T := TX6) (N := 6) (ci := 6) hd (c_X1_leave Z S a f ha hm) kX1_28_X6 hq rfl rfl hrm (by omega) (by omega) hmc hms (fun v S' hp => ?_)
    obtain ⟨rfl, rfl⟩ := hp
    exact kk
  · obtain ⟨q, hq0, hq⟩ := x_at (Z := Z) ha h
    refine V_callU (C := RX9) (T := TX9) (N := 6) (ci := 9) hd (c_X1_leave Z S a f ha hm) kX1_28_X9 hq rfl rfl hrm (by omega) (by omega) hmc hms (fun v S' hp => ?_)
    obtain ⟨rfl, rfl⟩ := hp
    exact kk
theorem Xv_sumOf {Z : VZ} {cc : ByteArray} {nL : Nat} {ret : Option FieldType} {d mc ms : Nat} {B : VB XS} {n k pc : Nat} {L : List (Nat × Value)} {st : List Value} {S : XS} {a : Nat} {f : Int32} (ha : a ∈ xL S) (hm : mcl (xmk S a)) (h6 : ¬ xmk S a = 6) (hd : decode cc pc = .ok (.invokevirtual 38, 3)) (hrm : (st.map fun v => v.category).sum ≤ 8) (hdd : 1 ≤ d) (hmc : n ≤ mc) (hms : k ≤ ms) (kk : V XW Z cc RX1 nL ret d mc ms B n k (pc + 3) L (.int (xSum (xmk S a) f (mfo S a 4)) :: st) S) : V XW Z cc RX1 nL ret d mc ms B n k pc L (.int f :: .ref a :: st) S := by
  rcases id hm with h | h | h | h | h | h
  · obtain ⟨q, hq0, hq⟩ := x_at (Z := Z) ha h
    refine V_callU (C := RX0) (T := TX0) (N := 6) (ci := 0) hd (c_X0_sumOf Z S a f ha hm) kX1_38_X0 hq rfl rfl hrm (by omega) (by omega) hmc hms (fun v S' hp => ?_)
    obtain ⟨rfl, rfl⟩ := hp
    rw [h] at kk
    exact kk
  · obtain ⟨q, hq0, hq⟩ := x_at (Z := Z) ha h
    refine V_callU (C := RX1) (T := TX1) (N := 6) (ci := 1) hd (c_X1_sumOf Z S a f ha hm) kX1_38_X1 hq rfl rfl hrm (by omega) (by omega) hmc hms (fun v S' hp => ?_)
    obtain ⟨rfl, rfl⟩ := hp
    rw [h] at kk
    exact kk
  · obtain ⟨q, hq0, hq⟩ := x_at (Z := Z) ha h
    refine V_callU (C := RX2) (T := TX2) (N := 6) (ci := 2) hd (c_X1_sumOf Z S a f ha hm) kX1_38_X2 hq rfl rfl hrm (by omega) (by omega) hmc hms (fun v S' hp => ?_)
    obtain ⟨rfl, rfl⟩ := hp
    rw [h] at kk
    exact kk
  · obtain ⟨q, hq0, hq⟩ := x_at (Z := Z) ha h
    refine V_callU (C := RX5) (T := TX5) (N := 6) (ci := 5) hd (c_X5_sumOf Z S a f ha hm) kX1_38_X5 hq rfl rfl hrm (by omega) (by omega) hmc hms (fun v S' hp => ?_)
    obtain ⟨rfl, rfl⟩ := hp
    rw [h] at kk
    exact kk
  · exact absurd h h6
  · obtain ⟨q, hq0, hq⟩ := x_at (Z := Z) ha h
    refine V_callU (C := RX9) (T := TX9) (N := 6) (ci := 9) hd (c_X9_sumOf Z S a f ha hm) kX1_38_X9 hq rfl rfl hrm (by omega) (by omega) hmc hms (fun v S' hp => ?_)
    obtain ⟨rfl, rfl⟩ := hp
    rw [h] at kk
    exact kk
theorem Xv_carriedOf {Z : VZ} {cc : ByteArray} {nL : Nat} {ret : Option FieldType} {d mc ms : Nat} {B : VB XS} {n k pc : Nat} {L : List (Nat × Value)} {st : List Value} {S : XS} {a : Nat} {f : Int32} (ha : a ∈ xL S) (hm : mcl (xmk S a)) (h6 : ¬ xmk S a = 6) (hd : decode cc pc = .ok (.invokevirtual 41, 3)) (hrm : (st.map fun v => v.category).sum ≤ 8) (hdd : 2 ≤ d) (hmc : n ≤ mc) (hms : k ≤ ms) (kk : V XW Z cc RX1 nL ret d mc ms B n k (pc + 3) L (.int (xCar (xmk S a) f (mfo S a 4)) :: st) S) : V XW Z cc RX1 nL ret d mc ms B n k pc L (.int f :: .ref a :: st) S := by
  rcases id hm with h | h | h | h | h | h
  · obtain ⟨q, hq0, hq⟩ := x_at (Z := Z) ha h
    refine V_callU (C := RX0) (T := TX0) (N := 6) (ci := 0) hd (c_X1_carriedOf Z S a f ha hm) kX1_41_X0 hq rfl rfl hrm (by omega) (by omega) hmc hms (fun v S' hp => ?_)
    obtain ⟨rfl, rfl⟩ := hp
    rw [h] at kk
    exact kk
  · obtain ⟨q, hq0, hq⟩ := x_at (Z := Z) ha h
    refine V_callU (C := RX1) (T := TX1) (N := 6) (ci := 1) hd (c_X1_carriedOf Z S a f ha hm) kX1_41_X1 hq rfl rfl hrm (by omega) (by omega) hmc hms (fun v S' hp => ?_)
    obtain ⟨rfl, rfl⟩ := hp
    rw [h] at kk
    exact kk
  · obtain ⟨q, hq0, hq⟩ := x_at (Z := Z) ha h
    refine V_callU (C := RX2) (T := TX2) (N := 6) (ci := 2) hd (c_X2_carriedOf Z S a f ha hm) kX1_41_X2 hq rfl rfl hrm (by omega) (by omega) hmc hms (fun v S' hp => ?_)
    obtain ⟨rfl, rfl⟩ := hp
    rw [h] at kk
    exact kk
  · obtain ⟨q, hq0, hq⟩ := x_at (Z := Z) ha h
    refine V_callU (C := RX5) (T := TX5) (N := 6) (ci := 5) hd (c_X5_carriedOf Z S a f ha hm) kX1_41_X5 hq rfl rfl hrm (by omega) (by omega) hmc hms (fun v S' hp => ?_)
    obtain ⟨rfl, rfl⟩ := hp
    rw [h] at kk
    exact kk
  · exact absurd h h6
  · obtain ⟨q, hq0, hq⟩ := x_at (Z := Z) ha h
    refine V_callU (C := RX9) (T := TX9) (N := 6) (ci := 9) hd (c_X5_carriedOf Z S a f ha hm) kX1_41_X9 hq rfl rfl hrm (by omega) (by omega) hmc hms (fun v S' hp => ?_)
    obtain ⟨rfl, rfl⟩ := hp
    rw [h] at kk
    exact kk
theorem Xv_leave_X0 {Z : VZ} {cc : ByteArray} {nL : Nat} {ret : Option FieldType} {d mc ms : Nat} {B : VB XS} {n k pc : Nat} {L : List (Nat × Value)} {st : List Value} {S : XS} {a : Nat} {f : Int32} (ha : a ∈ xL S) (hm : mcl (xmk S a)) (hc : xmk S a = 0) (hd : decode cc pc = .ok (.invokevirtual 9, 3)) (hrm : (st.map fun v => v.category).sum ≤ 8) (hdd : 1 ≤ d) (hmc : n ≤ mc) (hms : k ≤ ms) (kk : V XW Z cc RX0 nL ret d mc ms B n k (pc + 3) L st (xM S a (upd (mfo S a) 5 (mfo S a 5 * 10 + f)))) : V XW Z cc RX0 nL ret d mc ms B n k pc L (.int f :: .ref a :: st) S := by
  have h := hc
  obtain ⟨q, hq0, hq⟩ := x_at (Z := Z) ha h
  refine V_callU (C := RX0) (T := TX0) (N := 6) (ci := 0) hd (c_X1_leave Z S a f ha hm) kX0_9_X0 hq rfl rfl hrm (by omega) (by omega) hmc hms (fun v S' hp => ?_)
  obtain ⟨rfl, rfl⟩ := hp
  exact kk
theorem Xv_leave_X2 {Z : VZ} {cc : ByteArray} {nL : Nat} {ret : Option FieldType} {d mc ms : Nat} {B : VB XS} {n k pc : Nat} {L : List (Nat × Value)} {st : List Value} {S : XS} {a : Nat} {f : Int32} (ha : a ∈ xL S) (hm : mcl (xmk S a)) (hc : xmk S a = 2) (hd : decode cc pc = .ok (.invokevirtual 9, 3)) (hrm : (st.map fun v => v.category).sum ≤ 8) (hdd : 1 ≤ d) (hmc : n ≤ mc) (hms : k ≤ ms) (kk : V XW Z cc RX2 nL ret d mc ms B n k (pc + 3) L st (xM S a (upd (mfo S a) 5 (mfo S a 5 * 10 + f)))) : V XW Z cc RX2 nL ret d mc ms B n k pc L (.int f :: .ref a :: st) S := by
  have h := hc
  obtain ⟨q, hq0, hq⟩ := x_at (Z := Z) ha h
  refine V_callU (C := RX2) (T := TX2) (N := 6) (ci := 2) hd (c_X1_leave Z S a f ha hm) kX2_9_X2 hq rfl rfl hrm (by omega) (by omega) hmc hms (fun v S' hp => ?_)
  obtain ⟨rfl, rfl⟩ := hp
  exact kk
theorem Xv_leave_X5 {Z : VZ} {cc : ByteArray} {nL : Nat} {ret : Option FieldType} {d mc ms : Nat} {B : VB XS} {n k pc : Nat} {L : List (Nat × Value)} {st : List Value} {S : XS} {a : Nat} {f : Int32} (ha : a ∈ xL S) (hm : mcl (xmk S a)) (hc : xmk S a = 5 ∨ xmk S a = 9) (hd : decode cc pc = .ok (.invokevirtual 7, 3)) (hrm : (st.map fun v => v.category).sum ≤ 8) (hdd : 1 ≤ d) (hmc : n ≤ mc) (hms : k ≤ ms) (kk : V XW Z cc RX5 nL ret d mc ms B n k (pc + 3) L st (xM S a (upd (mfo S a) 5 (mfo S a 5 * 10 + f)))) : V XW Z cc RX5 nL ret d mc ms B n k pc L (.int f :: .ref a :: st) S := by
  rcases hc with h | h
  · obtain ⟨q, hq0, hq⟩ := x_at (Z := Z) ha h
    refine V_callU (C := RX5) (T := TX5) (N := 6) (ci := 5) hd (c_X1_leave Z S a f ha hm) kX5_7_X5 hq rfl rfl hrm (by omega) (by omega) hmc hms (fun v S' hp => ?_)
    obtain ⟨rfl, rfl⟩ := hp
    exact kk
  · obtain ⟨q, hq0, hq⟩ := x_at (Z := Z) ha h
    refine V_callU (C := RX9) (T := TX9) (N := 6) (ci := 9) hd (c_X1_leave Z S a f ha hm) kX5_7_X9 hq rfl rfl hrm (by omega) (by omega) hmc hms (fun v S' hp => ?_)
    obtain ⟨rfl, rfl⟩ := hp
    exact kk
theorem Xv_leave_X6 {Z : VZ} {cc : ByteArray} {nL : Nat} {ret : Option FieldType} {d mc ms : Nat} {B : VB XS} {n k pc : Nat} {L : List (Nat × Value)} {st : List Value} {S : XS} {a : Nat} {f : Int32} (ha : a ∈ xL S) (hm : mcl (xmk S a)) (hc : xmk S a = 6) (hd : decode cc pc = .ok (.invokevirtual 9, 3)) (hrm : (st.map fun v => v.category).sum ≤ 8) (hdd : 1 ≤ d) (hmc : n ≤ mc) (hms : k ≤ ms) (kk : V XW Z cc RX6 nL ret d mc ms B n k (pc + 3) L st (xM S a (upd (mfo S a) 5 (mfo S a 5 * 10 + f)))) : V XW Z cc RX6 nL ret d mc ms B n k pc L (.int f :: .ref a :: st) S := by
  have h := hc
  obtain ⟨q, hq0, hq⟩ := x_at (Z := Z) ha h
  refine V_callU (C := RX6) (T := TX6) (N := 6) (ci := 6) hd (c_X1_leave Z S a f ha hm) kX6_9_X6 hq rfl rfl hrm (by omega) (by omega) hmc hms (fun v S' hp => ?_)
  obtain ⟨rfl, rfl⟩ := hp
  exact kk
theorem Xv_leave_X9 {Z : VZ} {cc : ByteArray} {nL : Nat} {ret : Option FieldType} {d mc ms : Nat} {B : VB XS} {n k pc : Nat} {L : List (Nat × Value)} {st : List Value} {S : XS} {a : Nat} {f : Int32} (ha : a ∈ xL S) (hm : mcl (xmk S a)) (hc : xmk S a = 9) (hd : decode cc pc = .ok (.invokevirtual 9, 3)) (hrm : (st.map fun v => v.category).sum ≤ 8) (hdd : 1 ≤ d) (hmc : n ≤ mc) (hms : k ≤ ms) (kk : V XW Z cc RX9 nL ret d mc ms B n k (pc + 3) L st (xM S a (upd (mfo S a) 5 (mfo S a 5 * 10 + f)))) : V XW Z cc RX9 nL ret d mc ms B n k pc L (.int f :: .ref a :: st) S := by
  have h := hc
  obtain ⟨q, hq0, hq⟩ := x_at (Z := Z) ha h
  refine V_callU (C := RX9) (T := TX9) (N := 6) (ci := 9) hd (c_X1_leave Z S a f ha hm) kX9_9_X9 hq rfl rfl hrm (by omega) (by omega) hmc hms (fun v S' hp => ?_)
  obtain ⟨rfl, rfl⟩ := hp
  exact kk
