theorem V_entryI {St : Type} {Wd : VZ → St → va_W} {Z : VZ} {y : MethodName} {cc : ByteArray} {own : String} {nL : Nat} {ret : Option FieldType} {d mc ms : Nat} {av : List Value} {S0 : St} {po : Option Value → St → Prop} (hpn : plainName y.cls = true) (ho : y.cls = own) (hlen : (lg_sl av).length ≤ nL)
    (body : ∀ B : VB St, (∀ (v : Option Value) (S : St), po v S → vpo B v S) → vName B = y.name → V Wd Z cc own nL ret d mc ms B 0 0 0 (lv_args 0 av) [] S0) : Ct Wd Z y cc nL ret d mc ms av S0 po := by
  intro sz
  refine Met.ofW (cc := cc) (maxL := nL) (ret := ret) hpn rfl ?_
  intro p e s m args below meth c s₁ Bd hml hv
  obtain ⟨rfl, hsz, hP, hK, hD0⟩ := hv
  subst hsz
  subst ho
  have hts := atoms_spec (ws := .code y cc nL ret :: uw) Bd.pre
  have X := body (p, e, s, m, av.toArray, below, meth, c, S0, po) (fun v S h => h) (name_of_methodNamed Bd.named Bd.method).1 p e s m _ below meth c S0 po rfl ⟨Bd.exec, Bd.bytes, hml, findClass_of_methodNamed Bd.named, fun w hw => hts w (List.mem_cons_of_mem _ hw), Bd.returns, Bd.notSynchronized, hK⟩ s.heap [] _ hP hD0.self va_S.rf (lv_entry av hlen)
  rw [lg_entry_eq]
  exact X
def LkI (own : String) (idx : Nat) (y : MethodName) (cc : ByteArray) (nL : Nat) (na : Nat) : Prop :=
  Cond.methodLink own idx y ∈ uw ∧ Cond.instanceMethod y ∈ uw ∧ Cond.code y cc nL none ∈ uw ∧ Cond.initialized y.cls ∈ uw ∧ y.name = "<init>" ∧ (y.cls ≠ "java/lang/invoke/MethodHandle" ∧ y.cls ≠ "java/lang/invoke/VarHandle" ∧ (parseMethodDescriptor y.desc).map (fun d => d.parameters.length) = some na)
/-- a call whose receiver's class is C, of the method that x names and that class runs as y -/
def LkU (own C owner : String) (idx : Nat) (x y : MethodName) (cc : ByteArray) (nL : Nat) (ret : Option FieldType) (na : Nat) : Prop :=
  Cond.methodLink own idx x ∈ uw ∧ Cond.sameMethod x.cls owner x.name x.desc ∈ uw ∧ Cond.selects C x y ∈ uw ∧ Cond.instanceMethod y ∈ uw ∧ Cond.initialized y.cls ∈ uw ∧ Cond.code y cc nL ret ∈ uw ∧ Cond.instanceMethod ⟨owner, x.name, x.desc⟩ ∈ uw ∧ (∃ (b0 : ByteArray) (m0 : Nat) (r0 : Option FieldType), Cond.code ⟨owner, x.name, x.desc⟩ b0 m0 r0 ∈ uw) ∧ (owner ≠ "java/lang/invoke/MethodHandle" ∧ owner ≠ "java/lang/invoke/VarHandle" ∧ (parseMethodDescriptor x.desc).map (fun d => d.parameters.length) = some na)
theorem V_callI {St : Type} {Wd : VZ → St → va_W} {Z : VZ} {cc : ByteArray} {own : String} {nL : Nat} {ret : Option FieldType} {d mc ms : Nat} {B : VB St} {n k pc : Nat} {L : List (Nat × Value)} {st : List Value} {S : St} {y : MethodName} {cc' : ByteArray} {nL' idx : Nat} {d' mc' ms' : Nat} {av stk : List Value} {b : Nat} {po' : Option Value → St → Prop} (hd : decode cc pc = .ok (.invokespecial idx, 3)) (hC : Ct Wd Z y cc' nL' none d' mc' ms' (.ref b :: av) S po') (lk : LkI own idx y cc' nL' av.length) (hstk : stk = av.reverse ++ .ref b :: st) (hrm : (st.map fun v => v.category).sum ≤ 8) (hdd : d' + 1 ≤ d) (hll : 8 + (nL' + 11) + 100 * d' ≤ 100 * d) (hmc : n + mc' ≤ mc) (hms : k + ms' ≤ ms) (kk : ∀ (v : Option Value) (S' : St), po' v S' → V Wd Z cc own nL ret d mc ms B (n + mc') (k + ms') (pc + 3) L (v.toList ++ st) S') : V Wd Z cc own nL ret d mc ms B n k pc L stk S := by
  intro p e s m args below meth c S0 po hB hk H locs ls hP hD hS hl
  have hts := hk.2.2.2.2.1
  exact V_tail (va_runI (b := b) (As := av) (rest := st) ⟨hk.1, hk.2.1, hk.2.2.1, hk.2.2.2.1, hts⟩ (hC H.size) ⟨callB_of av.length hts (goodU lk.2.2.1) rfl rfl rfl (hts _ lk.2.2.2.1) (hts _ lk.1) lk.2.2.2.2.2 ⟨hdd, hll⟩, lk.2.2.2.2.1, hts _ lk.2.1⟩ ⟨V_blind, fun U hU hW => ⟨rfl, by rw [hU], by rw [hU]; exact hP, vKK.moved hW.alike hk.2.2.2.2.2.2.2, hD.weaken (fun _ _ _ _ => trivial)⟩⟩ rfl rfl hl.1 hstk (lv_room hrm) hd ⟨hmc, hms⟩) hS hD (fun v S' H1 locs1 hp hP hD hS => kk v S' hp p e s m args below meth c S0 po hB hk H1 locs1 ls hP hD hS hl)
theorem V_callU {St : Type} {Wd : VZ → St → va_W} {Z : VZ} {cc : ByteArray} {own : String} {nL : Nat} {ret : Option FieldType} {d mc ms : Nat} {B : VB St} {n k pc : Nat} {L : List (Nat × Value)} {st : List Value} {S : St} {y : MethodName} {cc' : ByteArray} {nL' idx : Nat} {ret' : Option FieldType} {d' mc' ms' : Nat} {av stk : List Value} {x : MethodName} {owner : String} {po' : Option Value → St → Prop} {b q0 ci N : Nat} {C : String} {T : u_T} {fs : List Value} (hd : decode cc pc = .ok (.invokevirtual idx, 3)) (hC : Ct Wd Z y cc' nL' ret' d' mc' ms' (.ref b :: av) S po') (lk : LkU own C owner idx x y cc' nL' ret' av.length) (hw : (Wd Z S)[q0]? = some (b, .inr (ci, fs))) (hc : vwCl[ci]? = some (C, T, N)) (hstk : stk = av.reverse ++ .ref b :: st) (hrm : (st.map fun v => v.category).sum ≤ 8) (hdd : d' + 1 ≤ d) (hll : 8 + (nL' + 11) + 100 * d' ≤ 100 * d) (hmc : n + mc' ≤ mc) (hms : k + ms' ≤ ms) (kk : ∀ (v : Option Value) (S' : St), po' v S' → V Wd Z cc own nL ret d mc ms B (n + mc') (k + ms') (pc + 3) L (v.toList ++ st) S') : V Wd Z cc own nL ret d mc ms B n k pc L stk S := by
  intro p e s m args below meth c S0 po hB hk H locs ls hP hD hS hl
  have hts := hk.2.2.2.2.1
  obtain ⟨l1, l2, l3, l4, l5, l6, l7, ⟨b0, m0, r0, l8⟩, l9⟩ := lk
  have hc9 : Cond.code y cc' nL' ret' ∈ (Cond.code y cc' nL' ret' :: uw) := List.mem_cons_self
  exact V_tail (va_runU (x := x) (owner := owner) (C := C) (As := av) (rest := st) ⟨hk.1, hk.2.1, hk.2.2.1, hk.2.2.2.1, hts⟩ (hC H.size) ⟨⟨rfl, rfl, hdd, hll, pay_in hts (goodU l6), hc9⟩, hts _ l6, hts _ l5, ⟨l9.1, l9.2.1⟩, fun sig h => by have h2 := l9.2.2; rw [h] at h2; exact (Option.some.inj h2).symm, hts _ l1, hts _ l2, va_Decl.of (hts _ l7) (hts _ l8), hts _ l3, hts _ l4⟩ ⟨V_blind, va_recv (q := (C, T, N)) hk.2.2.2.2.2.2.2.1 hP hc hw, fun U hU hW => ⟨rfl, by rw [hU], by rw [hU]; exact hP, vKK.moved hW.alike hk.2.2.2.2.2.2.2, hD.weaken (fun _ _ _ _ => trivial)⟩⟩ rfl rfl hl.1 hstk (lv_room hrm) hd ⟨hmc, hms⟩) hS hD (fun v S' H1 locs1 hp hP hD hS => kk v S' hp p e s m args below meth c S0 po hB hk H1 locs1 ls hP hD hS hl)
theorem Xnew_0 {Z : VZ} {cc : ByteArray} {nL : Nat} {ret : Option FieldType} {d mc ms : Nat} {B : VB XS} {n k pc : Nat} {L : List (Nat × Value)} {st : List Value} {S : XS} (hd : decode cc pc = .ok (.new 303, 3)) (h1 : n + 1 ≤ mc) (h2 : k + 6 ≤ ms) (kk : ∀ q : Nat, q ∉ S.2.2.2.2.2.1 → V XW Z cc RX10 nL ret d mc ms B (n + 1) (k + 6) (pc + 3) L (.ref q :: st) (S.1, S.2.1, S.2.2.1, S.2.2.2.1, S.2.2.2.2.1, S.2.2.2.2.2.1 ++ [q], va_up S.2.2.2.2.2.2.1 q 0, va_up S.2.2.2.2.2.2.2 q (fun _ => 0))) : V XW Z cc RX10 nL ret d mc ms B n k pc L st S := by
  intro p e s m args below meth c S0 po hB hk H locs ls hP hD hS hl
  refine va_new (ci := 0) (fs := [.int 0, .int 0, .int 0, .int 0, .int 0, .int 0]) (C := RX0) (T := TX0) (N := 6) hk.1 hk.2.1 hk.2.2.2.2.1 iuX0 tyX0 tyX0_ok hk.2.2.2.1 (hk.2.2.2.2.1 _ tw_250) (hk.2.2.2.2.1 _ tw_251) (hk.2.2.2.2.1 _ tw_10) hk.2.2.2.2.2.2.2.1 hP hD hS (fun q h => Or.inr h) rfl (fun j hj => by rcases (show j = 0 ∨ j = 1 ∨ j = 2 ∨ j = 3 ∨ j = 4 ∨ j = 5 by omega) with rfl | rfl | rfl | rfl | rfl | rfl <;> rfl) h1 h2 hd (fun q H hP hD hS => ?_)
  have hq : q ∉ S.2.2.2.2.2.1 := by
    intro hm
    obtain ⟨i, hi⟩ := va_pl_get (X := XB Z S) (f := mE S.2.2.2.2.2.2.1 S.2.2.2.2.2.2.2) hm
    have hlt : i < (XW Z S).length := (List.getElem?_eq_some_iff.mp hi).1
    have e9 := hD.1 i (XW Z S).length (q, mE S.2.2.2.2.2.2.1 S.2.2.2.2.2.2.2 q) (q, .inr (0, [.int 0, .int 0, .int 0, .int 0, .int 0, .int 0])) (by rw [List.getElem?_append_left hlt]; exact hi) (by rw [List.getElem?_append_right (Nat.le_refl _), Nat.sub_self]; rfl) rfl
    omega
  have es : XW Z S ++ [(q, .inr (0, [.int 0, .int 0, .int 0, .int 0, .int 0, .int 0]))] = XW Z (S.1, S.2.1, S.2.2.1, S.2.2.2.1, S.2.2.2.2.1, S.2.2.2.2.2.1 ++ [q], va_up S.2.2.2.2.2.2.1 q 0, va_up S.2.2.2.2.2.2.2 q (fun _ => 0)) := by
    show (XB Z S ++ va_pl S.2.2.2.2.2.1 (mE S.2.2.2.2.2.2.1 S.2.2.2.2.2.2.2)) ++ [(q, .inr (0, [.int 0, .int 0, .int 0, .int 0, .int 0, .int 0]))] = XB Z S ++ va_pl (S.2.2.2.2.2.1 ++ [q]) (mE (va_up S.2.2.2.2.2.2.1 q 0) (va_up S.2.2.2.2.2.2.2 q (fun _ => 0)))
    rw [List.append_assoc, va_pl_push hq]
    refine congrArg (fun l => XB Z S ++ l) (va_pl_congr fun b => ?_)
    by_cases hb : b = q
    · subst hb; simp [va_up, mE]
    · simp [va_up, mE, hb]
  rw [es] at hP hD
  exact kk q hq p e s m args below meth c S0 po hB hk H locs ls hP hD hS hl
theorem Xnew_1 {Z : VZ} {cc : ByteArray} {nL : Nat} {ret : Option FieldType} {d mc ms : Nat} {B : VB XS} {n k pc : Nat} {L : List (Nat × Value)} {st : List Value} {S : XS} (hd : decode cc pc = .ok (.new 11, 3)) (h1 : n + 1 ≤ mc) (h2 : k + 6 ≤ ms) (kk : ∀ q : Nat, q ∉ S.2.2.2.2.2.1 → V XW Z cc RX10 nL ret d mc ms B (n + 1) (k + 6) (pc + 3) L (.ref q :: st) (S.1, S.2.1, S.2.2.1, S.2.2.2.1, S.2.2.2.2.1, S.2.2.2.2.2.1 ++ [q], va_up S.2.2.2.2.2.2.1 q 1, va_up S.2.2.2.2.2.2.2 q (fun _ => 0))) : V XW Z cc RX10 nL ret d mc ms B n k pc L st S := by
  intro p e s m args below meth c S0 po hB hk H locs ls hP hD hS hl
  refine va_new (ci := 1) (fs := [.int 0, .int 0, .int 0, .int 0, .int 0, .int 0]) (C := RX1) (T := TX1) (N := 6) hk.1 hk.2.1 hk.2.2.2.2.1 iuX1 tyX1 tyX1_ok hk.2.2.2.1 (hk.2.2.2.2.1 _ tw_29) (hk.2.2.2.2.1 _ tw_298) (hk.2.2.2.2.1 _ tw_7) hk.2.2.2.2.2.2.2.1 hP hD hS (fun q h => Or.inr h) rfl (fun j hj => by rcases (show j = 0 ∨ j = 1 ∨ j = 2 ∨ j = 3 ∨ j = 4 ∨ j = 5 by omega) with rfl | rfl | rfl | rfl | rfl | rfl <;> rfl) h1 h2 hd (fun q H hP hD hS => ?_)
  have hq : q ∉ S.2.2.2.2.2.1 := by
    intro hm
    obtain ⟨i, hi⟩ := va_pl_get (X := XB Z S) (f := mE S.2.2.2.2.2.2.1 S.2.2.2.2.2.2.2) hm
    have hlt : i < (XW Z S).length := (List.getElem?_eq_some_iff.mp hi).1
    have e9 := hD.1 i (XW Z S).length (q, mE S.2.2.2.2.2.2.1 S.2.2.2.2.2.2.2 q) (q, .inr (1, [.int 0, .int 0, .int 0, .int 0, .int 0, .int 0])) (by rw [List.getElem?_append_left hlt]; exact hi) (by rw [List.getElem?_append_right (Nat.le_refl _), Nat.sub_self]; rfl) rfl
    omega
  have es : XW Z S ++ [(q, .inr (1, [.int 0, .int 0, .int 0, .int 0, .int 0, .int 0]))] = XW Z (S.1, S.2.1, S.2.2.1, S.2.2.2.1, S.2.2.2.2.1, S.2.2.2.2.2.1 ++ [q], va_up S.2.2.2.2.2.2.1 q 1, va_up S.2.2.2.2.2.2.2 q (fun _ => 0)) := by
    show (XB Z S ++ va_pl S.2.2.2.2.2.1 (mE S.2.2.2.2.2.2.1 S.2.2.2.2.2.2.2)) ++ [(q, .inr (1, [.int 0, .int 0, .int 0, .int 0, .int 0, .int 0]))] = XB Z S ++ va_pl (S.2.2.2.2.2.1 ++ [q]) (mE (va_up S.2.2.2.2.2.2.1 q 1) (va_up S.2.2.2.2.2.2.2 q (fun _ => 0)))
    rw [List.append_assoc, va_pl_push hq]
    refine congrArg (fun l => XB Z S ++ l) (va_pl_congr fun b => ?_)
    by_cases hb : b = q
    · subst hb; simp [va_up, mE]
    · simp [va_up, mE, hb]
  rw [es] at hP hD
  exact kk q hq p e s m args below meth c S0 po hB hk H locs ls hP hD hS hl
theorem Xnew_2 {Z : VZ} {cc : ByteArray} {nL : Nat} {ret : Option FieldType} {d mc ms : Nat} {B : VB XS} {n k pc : Nat} {L : List (Nat × Value)} {st : List Value} {S : XS} (hd : decode cc pc = .ok (.new 306, 3)) (h1 : n + 1 ≤ mc) (h2 : k + 6 ≤ ms) (kk : ∀ q : Nat, q ∉ S.2.2.2.2.2.1 → V XW Z cc RX10 nL ret d mc ms B (n + 1) (k + 6) (pc + 3) L (.ref q :: st) (S.1, S.2.1, S.2.2.1, S.2.2.2.1, S.2.2.2.2.1, S.2.2.2.2.2.1 ++ [q], va_up S.2.2.2.2.2.2.1 q 2, va_up S.2.2.2.2.2.2.2 q (fun _ => 0))) : V XW Z cc RX10 nL ret d mc ms B n k pc L st S := by
  intro p e s m args below meth c S0 po hB hk H locs ls hP hD hS hl
  refine va_new (ci := 2) (fs := [.int 0, .int 0, .int 0, .int 0, .int 0, .int 0]) (C := RX2) (T := TX2) (N := 6) hk.1 hk.2.1 hk.2.2.2.2.1 iuX2 tyX2 tyX2_ok hk.2.2.2.1 (hk.2.2.2.2.1 _ tw_266) (hk.2.2.2.2.1 _ tw_267) (hk.2.2.2.2.1 _ tw_11) hk.2.2.2.2.2.2.2.1 hP hD hS (fun q h => Or.inr h) rfl (fun j hj => by rcases (show j = 0 ∨ j = 1 ∨ j = 2 ∨ j = 3 ∨ j = 4 ∨ j = 5 by omega) with rfl | rfl | rfl | rfl | rfl | rfl <;> rfl) h1 h2 hd (fun q H hP hD hS => ?_)
  have hq : q ∉ S.2.2.2.2.2.1 := by
    intro hm
    obtain ⟨i, hi⟩ := va_pl_get (X := XB Z S) (f := mE S.2.2.2.2.2.2.1 S.2.2.2.2.2.2.2) hm
    have hlt : i < (XW Z S).length := (List.getElem?_eq_some_iff.mp hi).1
    have e9 := hD.1 i (XW Z S).length (q, mE S.2.2.2.2.2.2.1 S.2.2.2.2.2.2.2 q) (q, .inr (2, [.int 0, .int 0, .int 0, .int 0, .int 0, .int 0])) (by rw [List.getElem?_append_left hlt]; exact hi) (by rw [List.getElem?_append_right (Nat.le_refl _), Nat.sub_self]; rfl) rfl
    omega
  have es : XW Z S ++ [(q, .inr (2, [.int 0, .int 0, .int 0, .int 0, .int 0, .int 0]))] = XW Z (S.1, S.2.1, S.2.2.1, S.2.2.2.1, S.2.2.2.2.1, S.2.2.2.2.2.1 ++ [q], va_up S.2.2.2.2.2.2.1 q 2, va_up S.2.2.2.2.2.2.2 q (fun _ => 0)) := by
    show (XB Z S ++ va_pl S.2.2.2.2.2.1 (mE S.2.2.2.2.2.2.1 S.2.2.2.2.2.2.2)) ++ [(q, .inr (2, [.int 0, .int 0, .int 0, .int 0, .int 0, .int 0]))] = XB Z S ++ va_pl (S.2.2.2.2.2.1 ++ [q]) (mE (va_up S.2.2.2.2.2.2.1 q 2) (va_up S.2.2.2.2.2.2.2 q (fun _ => 0)))
    rw [List.append_assoc, va_pl_push hq]
    refine congrArg (fun l => XB Z S ++ l) (va_pl_congr fun b => ?_)
    by_cases hb : b = q
    · subst hb; simp [va_up, mE]
    · simp [va_up, mE, hb]
  rw [es] at hP hD
  exact kk q hq p e s m args below meth c S0 po hB hk H locs ls hP hD hS hl
theorem Xnew_5 {Z : VZ} {cc : ByteArray} {nL : Nat} {ret : Option FieldType} {d mc ms : Nat} {B : VB XS} {n k pc : Nat} {L : List (Nat × Value)} {st : List Value} {S : XS} (hd : decode cc pc = .ok (.new 294, 3)) (h1 : n + 1 ≤ mc) (h2 : k + 6 ≤ ms) (kk : ∀ q : Nat, q ∉ S.2.2.2.2.2.1 → V XW Z cc RX10 nL ret d mc ms B (n + 1) (k + 6) (pc + 3) L (.ref q :: st) (S.1, S.2.1, S.2.2.1, S.2.2.2.1, S.2.2.2.2.1, S.2.2.2.2.2.1 ++ [q], va_up S.2.2.2.2.2.2.1 q 5, va_up S.2.2.2.2.2.2.2 q (fun _ => 0))) : V XW Z cc RX10 nL ret d mc ms B n k pc L st S := by
  intro p e s m args below meth c S0 po hB hk H locs ls hP hD hS hl
  refine va_new (ci := 5) (fs := [.int 0, .int 0, .int 0, .int 0, .int 0, .int 0]) (C := RX5) (T := TX5) (N := 6) hk.1 hk.2.1 hk.2.2.2.2.1 iuX5 tyX5 tyX5_ok hk.2.2.2.1 (hk.2.2.2.2.1 _ tw_173) (hk.2.2.2.2.1 _ tw_174) (hk.2.2.2.2.1 _ tw_8) hk.2.2.2.2.2.2.2.1 hP hD hS (fun q h => Or.inr h) rfl (fun j hj => by rcases (show j = 0 ∨ j = 1 ∨ j = 2 ∨ j = 3 ∨ j = 4 ∨ j = 5 by omega) with rfl | rfl | rfl | rfl | rfl | rfl <;> rfl) h1 h2 hd (fun q H hP hD hS => ?_)
  have hq : q ∉ S.2.2.2.2.2.1 := by
    intro hm
    obtain ⟨i, hi⟩ := va_pl_get (X := XB Z S) (f := mE S.2.2.2.2.2.2.1 S.2.2.2.2.2.2.2) hm
    have hlt : i < (XW Z S).length := (List.getElem?_eq_some_iff.mp hi).1
    have e9 := hD.1 i (XW Z S).length (q, mE S.2.2.2.2.2.2.1 S.2.2.2.2.2.2.2 q) (q, .inr (5, [.int 0, .int 0, .int 0, .int 0, .int 0, .int 0])) (by rw [List.getElem?_append_left hlt]; exact hi) (by rw [List.getElem?_append_right (Nat.le_refl _), Nat.sub_self]; rfl) rfl
    omega
  have es : XW Z S ++ [(q, .inr (5, [.int 0, .int 0, .int 0, .int 0, .int 0, .int 0]))] = XW Z (S.1, S.2.1, S.2.2.1, S.2.2.2.1, S.2.2.2.2.1, S.2.2.2.2.2.1 ++ [q], va_up S.2.2.2.2.2.2.1 q 5, va_up S.2.2.2.2.2.2.2 q (fun _ => 0)) := by
    show (XB Z S ++ va_pl S.2.2.2.2.2.1 (mE S.2.2.2.2.2.2.1 S.2.2.2.2.2.2.2)) ++ [(q, .inr (5, [.int 0, .int 0, .int 0, .int 0, .int 0, .int 0]))] = XB Z S ++ va_pl (S.2.2.2.2.2.1 ++ [q]) (mE (va_up S.2.2.2.2.2.2.1 q 5) (va_up S.2.2.2.2.2.2.2 q (fun _ => 0)))
    rw [List.append_assoc, va_pl_push hq]
    refine congrArg (fun l => XB Z S ++ l) (va_pl_congr fun b => ?_)
    by_cases hb : b = q
    · subst hb; simp [va_up, mE]
    · simp [va_up, mE, hb]
  rw [es] at hP hD
  exact kk q hq p e s m args below meth c S0 po hB hk H locs ls hP hD hS hl
theorem Xnew_6 {Z : VZ} {cc : ByteArray} {nL : Nat} {ret : Option FieldType} {d mc ms : Nat} {B : VB XS} {n k pc : Nat} {L : List (Nat × Value)} {st : List Value} {S : XS} (hd : decode cc pc = .ok (.new 309, 3)) (h1 : n + 1 ≤ mc) (h2 : k + 6 ≤ ms) (kk : ∀ q : Nat, q ∉ S.2.2.2.2.2.1 → V XW Z cc RX10 nL ret d mc ms B (n + 1) (k + 6) (pc + 3) L (.ref q :: st) (S.1, S.2.1, S.2.2.1, S.2.2.2.1, S.2.2.2.2.1, S.2.2.2.2.2.1 ++ [q], va_up S.2.2.2.2.2.2.1 q 6, va_up S.2.2.2.2.2.2.2 q (fun _ => 0))) : V XW Z cc RX10 nL ret d mc ms B n k pc L st S := by
  intro p e s m args below meth c S0 po hB hk H locs ls hP hD hS hl
  refine va_new (ci := 6) (fs := [.int 0, .int 0, .int 0, .int 0, .int 0, .int 0]) (C := RX6) (T := TX6) (N := 6) hk.1 hk.2.1 hk.2.2.2.2.1 iuX6 tyX6 tyX6_ok hk.2.2.2.1 (hk.2.2.2.2.1 _ tw_282) (hk.2.2.2.2.1 _ tw_283) (hk.2.2.2.2.1 _ tw_12) hk.2.2.2.2.2.2.2.1 hP hD hS (fun q h => Or.inr h) rfl (fun j hj => by rcases (show j = 0 ∨ j = 1 ∨ j = 2 ∨ j = 3 ∨ j = 4 ∨ j = 5 by omega) with rfl | rfl | rfl | rfl | rfl | rfl <;> rfl) h1 h2 hd (fun q H hP hD hS => ?_)
  have hq : q ∉ S.2.2.2.2.2.1 := by
    intro hm
    obtain ⟨i, hi⟩ := va_pl_get (X := XB Z S) (f := mE S.2.2.2.2.2.2.1 S.2.2.2.2.2.2.2) hm
    have hlt : i < (XW Z S).length := (List.getElem?_eq_some_iff.mp hi).1
    have e9 := hD.1 i (XW Z S).length (q, mE S.2.2.2.2.2.2.1 S.2.2.2.2.2.2.2 q) (q, .inr (6, [.int 0, .int 0, .int 0, .int 0, .int 0, .int 0])) (by rw [List.getElem?_append_left hlt]; exact hi) (by rw [List.getElem?_append_right (Nat.le_refl _), Nat.sub_self]; rfl) rfl
    omega
  have es : XW Z S ++ [(q, .inr (6, [.int 0, .int 0, .int 0, .int 0, .int 0, .int 0]))] = XW Z (S.1, S.2.1, S.2.2.1, S.2.2.2.1, S.2.2.2.2.1, S.2.2.2.2.2.1 ++ [q], va_up S.2.2.2.2.2.2.1 q 6, va_up S.2.2.2.2.2.2.2 q (fun _ => 0)) := by
    show (XB Z S ++ va_pl S.2.2.2.2.2.1 (mE S.2.2.2.2.2.2.1 S.2.2.2.2.2.2.2)) ++ [(q, .inr (6, [.int 0, .int 0, .int 0, .int 0, .int 0, .int 0]))] = XB Z S ++ va_pl (S.2.2.2.2.2.1 ++ [q]) (mE (va_up S.2.2.2.2.2.2.1 q 6) (va_up S.2.2.2.2.2.2.2 q (fun _ => 0)))
    rw [List.append_assoc, va_pl_push hq]
    refine congrArg (fun l => XB Z S ++ l) (va_pl_congr fun b => ?_)
    by_cases hb : b = q
    · subst hb; simp [va_up, mE]
    · simp [va_up, mE, hb]
  rw [es] at hP hD
  exact kk q hq p e s m args below meth c S0 po hB hk H locs ls hP hD hS hl
theorem Xnew_9 {Z : VZ} {cc : ByteArray} {nL : Nat} {ret : Option FieldType} {d mc ms : Nat} {B : VB XS} {n k pc : Nat} {L : List (Nat × Value)} {st : List Value} {S : XS} (hd : decode cc pc = .ok (.new 299, 3)) (h1 : n + 1 ≤ mc) (h2 : k + 6 ≤ ms) (kk : ∀ q : Nat, q ∉ S.2.2.2.2.2.1 → V XW Z cc RX10 nL ret d mc ms B (n + 1) (k + 6) (pc + 3) L (.ref q :: st) (S.1, S.2.1, S.2.2.1, S.2.2.2.1, S.2.2.2.2.1, S.2.2.2.2.2.1 ++ [q], va_up S.2.2.2.2.2.2.1 q 9, va_up S.2.2.2.2.2.2.2 q (fun _ => 0))) : V XW Z cc RX10 nL ret d mc ms B n k pc L st S := by
  intro p e s m args below meth c S0 po hB hk H locs ls hP hD hS hl
  refine va_new (ci := 9) (fs := [.int 0, .int 0, .int 0, .int 0, .int 0, .int 0]) (C := RX9) (T := TX9) (N := 6) hk.1 hk.2.1 hk.2.2.2.2.1 iuX9 tyX9 tyX9_ok hk.2.2.2.1 (hk.2.2.2.2.1 _ tw_234) (hk.2.2.2.2.1 _ tw_235) (hk.2.2.2.2.1 _ tw_9) hk.2.2.2.2.2.2.2.1 hP hD hS (fun q h => Or.inr h) rfl (fun j hj => by rcases (show j = 0 ∨ j = 1 ∨ j = 2 ∨ j = 3 ∨ j = 4 ∨ j = 5 by omega) with rfl | rfl | rfl | rfl | rfl | rfl <;> rfl) h1 h2 hd (fun q H hP hD hS => ?_)
  have hq : q ∉ S.2.2.2.2.2.1 := by
    intro hm
    obtain ⟨i, hi⟩ := va_pl_get (X := XB Z S) (f := mE S.2.2.2.2.2.2.1 S.2.2.2.2.2.2.2) hm
    have hlt : i < (XW Z S).length := (List.getElem?_eq_some_iff.mp hi).1
    have e9 := hD.1 i (XW Z S).length (q, mE S.2.2.2.2.2.2.1 S.2.2.2.2.2.2.2 q) (q, .inr (9, [.int 0, .int 0, .int 0, .int 0, .int 0, .int 0])) (by rw [List.getElem?_append_left hlt]; exact hi) (by rw [List.getElem?_append_right (Nat.le_refl _), Nat.sub_self]; rfl) rfl
    omega
  have es : XW Z S ++ [(q, .inr (9, [.int 0, .int 0, .int 0, .int 0, .int 0, .int 0]))] = XW Z (S.1, S.2.1, S.2.2.1, S.2.2.2.1, S.2.2.2.2.1, S.2.2.2.2.2.1 ++ [q], va_up S.2.2.2.2.2.2.1 q 9, va_up S.2.2.2.2.2.2.2 q (fun _ => 0)) := by
    show (XB Z S ++ va_pl S.2.2.2.2.2.1 (mE S.2.2.2.2.2.2.1 S.2.2.2.2.2.2.2)) ++ [(q, .inr (9, [.int 0, .int 0, .int 0, .int 0, .int 0, .int 0]))] = XB Z S ++ va_pl (S.2.2.2.2.2.1 ++ [q]) (mE (va_up S.2.2.2.2.2.2.1 q 9) (va_up S.2.2.2.2.2.2.2 q (fun _ => 0)))
    rw [List.append_assoc, va_pl_push hq]
    refine congrArg (fun l => XB Z S ++ l) (va_pl_congr fun b => ?_)
    by_cases hb : b = q
    · subst hb; simp [va_up, mE]
    · simp [va_up, mE, hb]
  rw [es] at hP hD
  exact kk q hq p e s m args below meth c S0 po hB hk H locs ls hP hD hS hl
theorem Xs_m {own : String} {Z : VZ} {cc : ByteArray} {nL : Nat} {ret : Option FieldType} {d mc ms : Nat} {B : VB XS} {n k pc : Nat} {L : List (Nat × Value)} {st : List Value} {S : XS} {i : Int32} {a : Nat} (ha : a ∈ S.2.2.2.2.2.1) (hm : mcl (S.2.2.2.2.2.2.1 a)) (hd : decode cc pc = .ok (.aastore, 1)) (hin : vp_in i 4) (kk : V XW Z cc own nL ret d mc ms B n k (pc + 1) L st (S.1, S.2.1, S.2.2.1, S.2.2.2.1, va_up S.2.2.2.2.1 i.toNatClampNeg (some a), S.2.2.2.2.2)) : V XW Z cc own nL ret d mc ms B n k pc L (.ref a :: .int i :: .ref (Z.2.2.2 0) :: st) S := by
  intro p e s m args below meth c S0 po hB hk H locs ls hP hD hS hl
  rcases hm with hm | hm | hm | hm | hm | hm
  · obtain ⟨q, hq0, hq⟩ := x_at (Z := Z) ha hm
    exact va_astqO (E := "CarryShifts$Carrying") (r := (RX0, TX0, 6)) hk.1 hk.2.1 hk.2.2.2.2.2.2.2.1 hP hD hS 1 2 q 0 rfl rfl (hk.2.2.2.2.2.2.2.2.1 ("CarryShifts$Borrowing", "CarryShifts$Carrying") (by decide)) hq rfl hin hd (fun H locs hP hD hS => kk p e s m args below meth c S0 po hB hk H locs ls hP hD hS hl)
  · obtain ⟨q, hq0, hq⟩ := x_at (Z := Z) ha hm
    exact va_astq (r := (RX1, TX1, 6)) hk.1 hk.2.1 hk.2.2.2.2.2.2.2.1 hP hD hS 1 2 q 1 rfl rfl hq rfl hin hd (fun H locs hP hD hS => kk p e s m args below meth c S0 po hB hk H locs ls hP hD hS hl)
  · obtain ⟨q, hq0, hq⟩ := x_at (Z := Z) ha hm
    exact va_astqO (E := "CarryShifts$Carrying") (r := (RX2, TX2, 6)) hk.1 hk.2.1 hk.2.2.2.2.2.2.2.1 hP hD hS 1 2 q 2 rfl rfl (hk.2.2.2.2.2.2.2.2.1 ("CarryShifts$Held", "CarryShifts$Carrying") (by decide)) hq rfl hin hd (fun H locs hP hD hS => kk p e s m args below meth c S0 po hB hk H locs ls hP hD hS hl)
  · obtain ⟨q, hq0, hq⟩ := x_at (Z := Z) ha hm
    exact va_astqO (E := "CarryShifts$Carrying") (r := (RX5, TX5, 6)) hk.1 hk.2.1 hk.2.2.2.2.2.2.2.1 hP hD hS 1 2 q 5 rfl rfl (hk.2.2.2.2.2.2.2.2.1 ("CarryShifts$Linear", "CarryShifts$Carrying") (by decide)) hq rfl hin hd (fun H locs hP hD hS => kk p e s m args below meth c S0 po hB hk H locs ls hP hD hS hl)
  · obtain ⟨q, hq0, hq⟩ := x_at (Z := Z) ha hm
    exact va_astqO (E := "CarryShifts$Carrying") (r := (RX6, TX6, 6)) hk.1 hk.2.1 hk.2.2.2.2.2.2.2.1 hP hD hS 1 2 q 6 rfl rfl (hk.2.2.2.2.2.2.2.2.1 ("CarryShifts$Ring", "CarryShifts$Carrying") (by decide)) hq rfl hin hd (fun H locs hP hD hS => kk p e s m args below meth c S0 po hB hk H locs ls hP hD hS hl)
  · obtain ⟨q, hq0, hq⟩ := x_at (Z := Z) ha hm
    exact va_astqO (E := "CarryShifts$Carrying") (r := (RX9, TX9, 6)) hk.1 hk.2.1 hk.2.2.2.2.2.2.2.1 hP hD hS 1 2 q 9 rfl rfl (hk.2.2.2.2.2.2.2.2.1 ("CarryShifts$Turned", "CarryShifts$Carrying") (by decide)) hq rfl hin hd (fun H locs hP hD hS => kk p e s m args below meth c S0 po hB hk H locs ls hP hD hS hl)
theorem Xs_mN {own : String} {Z : VZ} {cc : ByteArray} {nL : Nat} {ret : Option FieldType} {d mc ms : Nat} {B : VB XS} {n k pc : Nat} {L : List (Nat × Value)} {st : List Value} {S : XS} {i : Int32} (hd : decode cc pc = .ok (.aastore, 1)) (hin : vp_in i 4) (kk : V XW Z cc own nL ret d mc ms B n k (pc + 1) L st (S.1, S.2.1, S.2.2.1, S.2.2.2.1, va_up S.2.2.2.2.1 i.toNatClampNeg none, S.2.2.2.2.2)) : V XW Z cc own nL ret d mc ms B n k pc L (.null :: .int i :: .ref (Z.2.2.2 0) :: st) S := by
  intro p e s m args below meth c S0 po hB hk H locs ls hP hD hS hl
  exact va_astqN hk.1 hk.2.1 hk.2.2.2.2.2.2.2.1 hP hD hS 1 2 rfl rfl hin hd (fun H locs hP hD hS => kk p e s m args below meth c S0 po hB hk H locs ls hP hD hS hl)
theorem Xinst_294 {Z : VZ} {cc : ByteArray} {nL : Nat} {ret : Option FieldType} {d mc ms : Nat} {B : VB XS} {n k pc : Nat} {L : List (Nat × Value)} {st : List Value} {S : XS} {a : Nat} (ha : a ∈ S.2.2.2.2.2.1) (hm : mcl (S.2.2.2.2.2.2.1 a)) (hd : decode cc pc = .ok (.instanceof 294, 3)) (kk : V XW Z cc RX10 nL ret d mc ms B n k (pc + 3) L (.int (if S.2.2.2.2.2.2.1 a = 5 ∨ S.2.2.2.2.2.2.1 a = 9 then 1 else 0) :: st) S) : V XW Z cc RX10 nL ret d mc ms B n k pc L (.ref a :: st) S := by
  intro p e s m args below meth c S0 po hB hk H locs ls hP hD hS hl
  rcases hm with hm | hm | hm | hm | hm | hm
  · obtain ⟨q, hq0, hq⟩ := x_at (Z := Z) ha hm
    rw [if_neg (by simp [hm])] at kk
    exact va_instNo (C := "CarryShifts$Borrowing") hk.1 hk.2.1 hk.2.2.2.1 (hk.2.2.2.2.1 _ tw_173) (hk.2.2.2.2.2.2.2.2.2 ("CarryShifts$Borrowing", "CarryShifts$Linear") (by decide)) (va_recv (q := (RX0, TX0, 6)) hk.2.2.2.2.2.2.2.1 hP rfl hq) hd (kk p e s m args below meth c S0 po hB hk H locs ls hP hD hS hl)
  · obtain ⟨q, hq0, hq⟩ := x_at (Z := Z) ha hm
    rw [if_neg (by simp [hm])] at kk
    exact va_instNo (C := "CarryShifts$Carrying") hk.1 hk.2.1 hk.2.2.2.1 (hk.2.2.2.2.1 _ tw_173) (hk.2.2.2.2.2.2.2.2.2 ("CarryShifts$Carrying", "CarryShifts$Linear") (by decide)) (va_recv (q := (RX1, TX1, 6)) hk.2.2.2.2.2.2.2.1 hP rfl hq) hd (kk p e s m args below meth c S0 po hB hk H locs ls hP hD hS hl)
  · obtain ⟨q, hq0, hq⟩ := x_at (Z := Z) ha hm
    rw [if_neg (by simp [hm])] at kk
    exact va_instNo (C := "CarryShifts$Held") hk.1 hk.2.1 hk.2.2.2.1 (hk.2.2.2.2.1 _ tw_173) (hk.2.2.2.2.2.2.2.2.2 ("CarryShifts$Held", "CarryShifts$Linear") (by decide)) (va_recv (q := (RX2, TX2, 6)) hk.2.2.2.2.2.2.2.1 hP rfl hq) hd (kk p e s m args below meth c S0 po hB hk H locs ls hP hD hS hl)
  · obtain ⟨q, hq0, hq⟩ := x_at (Z := Z) ha hm
    rw [if_pos (by simp [hm])] at kk
    exact va_instS hk.1 hk.2.1 hk.2.2.2.1 (hk.2.2.2.2.1 _ tw_173) (hk.2.2.2.2.2.2.2.1.1 5 (RX5, TX5, 6) rfl).2 (va_recv (q := (RX5, TX5, 6)) hk.2.2.2.2.2.2.2.1 hP rfl hq) hd (kk p e s m args below meth c S0 po hB hk H locs ls hP hD hS hl)
  · obtain ⟨q, hq0, hq⟩ := x_at (Z := Z) ha hm
    rw [if_neg (by simp [hm])] at kk
    exact va_instNo (C := "CarryShifts$Ring") hk.1 hk.2.1 hk.2.2.2.1 (hk.2.2.2.2.1 _ tw_173) (hk.2.2.2.2.2.2.2.2.2 ("CarryShifts$Ring", "CarryShifts$Linear") (by decide)) (va_recv (q := (RX6, TX6, 6)) hk.2.2.2.2.2.2.2.1 hP rfl hq) hd (kk p e s m args below meth c S0 po hB hk H locs ls hP hD hS hl)
  · obtain ⟨q, hq0, hq⟩ := x_at (Z := Z) ha hm
    rw [if_pos (by simp [hm])] at kk
    exact va_instY (C := "CarryShifts$Turned") hk.1 hk.2.1 hk.2.2.2.1 (hk.2.2.2.2.1 _ tw_173) (hk.2.2.2.2.2.2.2.2.1 ("CarryShifts$Turned", "CarryShifts$Linear") (by decide)) (va_recv (q := (RX9, TX9, 6)) hk.2.2.2.2.2.2.2.1 hP rfl hq) hd (kk p e s m args below meth c S0 po hB hk H locs ls hP hD hS hl)
theorem Xinst_299 {Z : VZ} {cc : ByteArray} {nL : Nat} {ret : Option FieldType} {d mc ms : Nat} {B : VB XS} {n k pc : Nat} {L : List (Nat × Value)} {st : List Value} {S : XS} {a : Nat} (ha : a ∈ S.2.2.2.2.2.1) (hm : mcl (S.2.2.2.2.2.2.1 a)) (hd : decode cc pc = .ok (.instanceof 299, 3)) (kk : V XW Z cc RX10 nL ret d mc ms B n k (pc + 3) L (.int (if S.2.2.2.2.2.2.1 a = 9 then 1 else 0) :: st) S) : V XW Z cc RX10 nL ret d mc ms B n k pc L (.ref a :: st) S := by
  intro p e s m args below meth c S0 po hB hk H locs ls hP hD hS hl
  rcases hm with hm | hm | hm | hm | hm | hm
  · obtain ⟨q, hq0, hq⟩ := x_at (Z := Z) ha hm
    rw [if_neg (by simp [hm])] at kk
    exact va_instNo (C := "CarryShifts$Borrowing") hk.1 hk.2.1 hk.2.2.2.1 (hk.2.2.2.2.1 _ tw_234) (hk.2.2.2.2.2.2.2.2.2 ("CarryShifts$Borrowing", "CarryShifts$Turned") (by decide)) (va_recv (q := (RX0, TX0, 6)) hk.2.2.2.2.2.2.2.1 hP rfl hq) hd (kk p e s m args below meth c S0 po hB hk H locs ls hP hD hS hl)
  · obtain ⟨q, hq0, hq⟩ := x_at (Z := Z) ha hm
    rw [if_neg (by simp [hm])] at kk
    exact va_instNo (C := "CarryShifts$Carrying") hk.1 hk.2.1 hk.2.2.2.1 (hk.2.2.2.2.1 _ tw_234) (hk.2.2.2.2.2.2.2.2.2 ("CarryShifts$Carrying", "CarryShifts$Turned") (by decide)) (va_recv (q := (RX1, TX1, 6)) hk.2.2.2.2.2.2.2.1 hP rfl hq) hd (kk p e s m args below meth c S0 po hB hk H locs ls hP hD hS hl)
  · obtain ⟨q, hq0, hq⟩ := x_at (Z := Z) ha hm
    rw [if_neg (by simp [hm])] at kk
    exact va_instNo (C := "CarryShifts$Held") hk.1 hk.2.1 hk.2.2.2.1 (hk.2.2.2.2.1 _ tw_234) (hk.2.2.2.2.2.2.2.2.2 ("CarryShifts$Held", "CarryShifts$Turned") (by decide)) (va_recv (q := (RX2, TX2, 6)) hk.2.2.2.2.2.2.2.1 hP rfl hq) hd (kk p e s m args below meth c S0 po hB hk H locs ls hP hD hS hl)
  · obtain ⟨q, hq0, hq⟩ := x_at (Z := Z) ha hm
    rw [if_neg (by simp [hm])] at kk
    exact va_instNo (C := "CarryShifts$Linear") hk.1 hk.2.1 hk.2.2.2.1 (hk.2.2.2.2.1 _ tw_234) (hk.2.2.2.2.2.2.2.2.2 ("CarryShifts$Linear", "CarryShifts$Turned") (by decide)) (va_recv (q := (RX5, TX5, 6)) hk.2.2.2.2.2.2.2.1 hP rfl hq) hd (kk p e s m args below meth c S0 po hB hk H locs ls hP hD hS hl)
  · obtain ⟨q, hq0, hq⟩ := x_at (Z := Z) ha hm
    rw [if_neg (by simp [hm])] at kk
    exact va_instNo (C := "CarryShifts$Ring") hk.1 hk.2.1 hk.2.2.2.1 (hk.2.2.2.2.1 _ tw_234) (hk.2.2.2.2.2.2.2.2.2 ("CarryShifts$Ring", "CarryShifts$Turned") (by decide)) (va_recv (q := (RX6, TX6, 6)) hk.2.2.2.2.2.2.2.1 hP rfl hq) hd (kk p e s m args below meth c S0 po hB hk H locs ls hP hD hS hl)
  · obtain ⟨q, hq0, hq⟩ := x_at (Z := Z) ha hm
    rw [if_pos (by simp [hm])] at kk
    exact va_instS hk.1 hk.2.1 hk.2.2.2.1 (hk.2.2.2.2.1 _ tw_234) (hk.2.2.2.2.2.2.2.1.1 9 (RX9, TX9, 6) rfl).2 (va_recv (q := (RX9, TX9, 6)) hk.2.2.2.2.2.2.2.1 hP rfl hq) hd (kk p e s m args below meth c S0 po hB hk H locs ls hP hD hS hl)
theorem Xinst_303 {Z : VZ} {cc : ByteArray} {nL : Nat} {ret : Option FieldType} {d mc ms : Nat} {B : VB XS} {n k pc : Nat} {L : List (Nat × Value)} {st : List Value} {S : XS} {a : Nat} (ha : a ∈ S.2.2.2.2.2.1) (hm : mcl (S.2.2.2.2.2.2.1 a)) (hd : decode cc pc = .ok (.instanceof 303, 3)) (kk : V XW Z cc RX10 nL ret d mc ms B n k (pc + 3) L (.int (if S.2.2.2.2.2.2.1 a = 0 then 1 else 0) :: st) S) : V XW Z cc RX10 nL ret d mc ms B n k pc L (.ref a :: st) S := by
  intro p e s m args below meth c S0 po hB hk H locs ls hP hD hS hl
  rcases hm with hm | hm | hm | hm | hm | hm
  · obtain ⟨q, hq0, hq⟩ := x_at (Z := Z) ha hm
    rw [if_pos (by simp [hm])] at kk
    exact va_instS hk.1 hk.2.1 hk.2.2.2.1 (hk.2.2.2.2.1 _ tw_250) (hk.2.2.2.2.2.2.2.1.1 0 (RX0, TX0, 6) rfl).2 (va_recv (q := (RX0, TX0, 6)) hk.2.2.2.2.2.2.2.1 hP rfl hq) hd (kk p e s m args below meth c S0 po hB hk H locs ls hP hD hS hl)
  · obtain ⟨q, hq0, hq⟩ := x_at (Z := Z) ha hm
    rw [if_neg (by simp [hm])] at kk
    exact va_instNo (C := "CarryShifts$Carrying") hk.1 hk.2.1 hk.2.2.2.1 (hk.2.2.2.2.1 _ tw_250) (hk.2.2.2.2.2.2.2.2.2 ("CarryShifts$Carrying", "CarryShifts$Borrowing") (by decide)) (va_recv (q := (RX1, TX1, 6)) hk.2.2.2.2.2.2.2.1 hP rfl hq) hd (kk p e s m args below meth c S0 po hB hk H locs ls hP hD hS hl)
  · obtain ⟨q, hq0, hq⟩ := x_at (Z := Z) ha hm
    rw [if_neg (by simp [hm])] at kk
    exact va_instNo (C := "CarryShifts$Held") hk.1 hk.2.1 hk.2.2.2.1 (hk.2.2.2.2.1 _ tw_250) (hk.2.2.2.2.2.2.2.2.2 ("CarryShifts$Held", "CarryShifts$Borrowing") (by decide)) (va_recv (q := (RX2, TX2, 6)) hk.2.2.2.2.2.2.2.1 hP rfl hq) hd (kk p e s m args below meth c S0 po hB hk H locs ls hP hD hS hl)
  · obtain ⟨q, hq0, hq⟩ := x_at (Z := Z) ha hm
    rw [if_neg (by simp [hm])] at kk
    exact va_instNo (C := "CarryShifts$Linear") hk.1 hk.2.1 hk.2.2.2.1 (hk.2.2.2.2.1 _ tw_250) (hk.2.2.2.2.2.2.2.2.2 ("CarryShifts$Linear", "CarryShifts$Borrowing") (by decide)) (va_recv (q := (RX5, TX5, 6)) hk.2.2.2.2.2.2.2.1 hP rfl hq) hd (kk p e s m args below meth c S0 po hB hk H locs ls hP hD hS hl)
  · obtain ⟨q, hq0, hq⟩ := x_at (Z := Z) ha hm
    rw [if_neg (by simp [hm])] at kk
    exact va_instNo (C := "CarryShifts$Ring") hk.1 hk.2.1 hk.2.2.2.1 (hk.2.2.2.2.1 _ tw_250) (hk.2.2.2.2.2.2.2.2.2 ("CarryShifts$Ring", "CarryShifts$Borrowing") (by decide)) (va_recv (q := (RX6, TX6, 6)) hk.2.2.2.2.2.2.2.1 hP rfl hq) hd (kk p e s m args below meth c S0 po hB hk H locs ls hP hD hS hl)
  · obtain ⟨q, hq0, hq⟩ := x_at (Z := Z) ha hm
    rw [if_neg (by simp [hm])] at kk
    exact va_instNo (C := "CarryShifts$Turned") hk.1 hk.2.1 hk.2.2.2.1 (hk.2.2.2.2.1 _ tw_250) (hk.2.2.2.2.2.2.2.2.2 ("CarryShifts$Turned", "CarryShifts$Borrowing") (by decide)) (va_recv (q := (RX9, TX9, 6)) hk.2.2.2.2.2.2.2.1 hP rfl hq) hd (kk p e s m args below meth c S0 po hB hk H locs ls hP hD hS hl)
theorem Xinst_306 {Z : VZ} {cc : ByteArray} {nL : Nat} {ret : Option FieldType} {d mc ms : Nat} {B : VB XS} {n k pc : Nat} {L : List (Nat × Value)} {st : List Value} {S : XS} {a : Nat} (ha : a ∈ S.2.2.2.2.2.1) (hm : mcl (S.2.2.2.2.2.2.1 a)) (hd : decode cc pc = .ok (.instanceof 306, 3)) (kk : V XW Z cc RX10 nL ret d mc ms B n k (pc + 3) L (.int (if S.2.2.2.2.2.2.1 a = 2 then 1 else 0) :: st) S) : V XW Z cc RX10 nL ret d mc ms B n k pc L (.ref a :: st) S := by
  intro p e s m args below meth c S0 po hB hk H locs ls hP hD hS hl
  rcases hm with hm | hm | hm | hm | hm | hm
  · obtain ⟨q, hq0, hq⟩ := x_at (Z := Z) ha hm
    rw [if_neg (by simp [hm])] at kk
    exact va_instNo (C := "CarryShifts$Borrowing") hk.1 hk.2.1 hk.2.2.2.1 (hk.2.2.2.2.1 _ tw_266) (hk.2.2.2.2.2.2.2.2.2 ("CarryShifts$Borrowing", "CarryShifts$Held") (by decide)) (va_recv (q := (RX0, TX0, 6)) hk.2.2.2.2.2.2.2.1 hP rfl hq) hd (kk p e s m args below meth c S0 po hB hk H locs ls hP hD hS hl)
  · obtain ⟨q, hq0, hq⟩ := x_at (Z := Z) ha hm
    rw [if_neg (by simp [hm])] at kk
    exact va_instNo (C := "CarryShifts$Carrying") hk.1 hk.2.1 hk.2.2.2.1 (hk.2.2.2.2.1 _ tw_266) (hk.2.2.2.2.2.2.2.2.2 ("CarryShifts$Carrying", "CarryShifts$Held") (by decide)) (va_recv (q := (RX1, TX1, 6)) hk.2.2.2.2.2.2.2.1 hP rfl hq) hd (kk p e s m args below meth c S0 po hB hk H locs ls hP hD hS hl)
  · obtain ⟨q, hq0, hq⟩ := x_at (Z := Z) ha hm
    rw [if_pos (by simp [hm])] at kk
    exact va_instS hk.1 hk.2.1 hk.2.2.2.1 (hk.2.2.2.2.1 _ tw_266) (hk.2.2.2.2.2.2.2.1.1 2 (RX2, TX2, 6) rfl).2 (va_recv (q := (RX2, TX2, 6)) hk.2.2.2.2.2.2.2.1 hP rfl hq) hd (kk p e s m args below meth c S0 po hB hk H locs ls hP hD hS hl)
  · obtain ⟨q, hq0, hq⟩ := x_at (Z := Z) ha hm
    rw [if_neg (by simp [hm])] at kk
    exact va_instNo (C := "CarryShifts$Linear") hk.1 hk.2.1 hk.2.2.2.1 (hk.2.2.2.2.1 _ tw_266) (hk.2.2.2.2.2.2.2.2.2 ("CarryShifts$Linear", "CarryShifts$Held") (by decide)) (va_recv (q := (RX5, TX5, 6)) hk.2.2.2.2.2.2.2.1 hP rfl hq) hd (kk p e s m args below meth c S0 po hB hk H locs ls hP hD hS hl)
  · obtain ⟨q, hq0, hq⟩ := x_at (Z := Z) ha hm
    rw [if_neg (by simp [hm])] at kk
    exact va_instNo (C := "CarryShifts$Ring") hk.1 hk.2.1 hk.2.2.2.1 (hk.2.2.2.2.1 _ tw_266) (hk.2.2.2.2.2.2.2.2.2 ("CarryShifts$Ring", "CarryShifts$Held") (by decide)) (va_recv (q := (RX6, TX6, 6)) hk.2.2.2.2.2.2.2.1 hP rfl hq) hd (kk p e s m args below meth c S0 po hB hk H locs ls hP hD hS hl)
  · obtain ⟨q, hq0, hq⟩ := x_at (Z := Z) ha hm
    rw [if_neg (by simp [hm])] at kk
    exact va_instNo (C := "CarryShifts$Turned") hk.1 hk.2.1 hk.2.2.2.1 (hk.2.2.2.2.1 _ tw_266) (hk.2.2.2.2.2.2.2.2.2 ("CarryShifts$Turned", "CarryShifts$Held") (by decide)) (va_recv (q := (RX9, TX9, 6)) hk.2.2.2.2.2.2.2.1 hP rfl hq) hd (kk p e s m args below meth c S0 po hB hk H locs ls hP hD hS hl)
theorem Xinst_309 {Z : VZ} {cc : ByteArray} {nL : Nat} {ret : Option FieldType} {d mc ms : Nat} {B : VB XS} {n k pc : Nat} {L : List (Nat × Value)} {st : List Value} {S : XS} {a : Nat} (ha : a ∈ S.2.2.2.2.2.1) (hm : mcl (S.2.2.2.2.2.2.1 a)) (hd : decode cc pc = .ok (.instanceof 309, 3)) (kk : V XW Z cc RX10 nL ret d mc ms B n k (pc + 3) L (.int (if S.2.2.2.2.2.2.1 a = 6 then 1 else 0) :: st) S) : V XW Z cc RX10 nL ret d mc ms B n k pc L (.ref a :: st) S := by
  intro p e s m args below meth c S0 po hB hk H locs ls hP hD hS hl
  rcases hm with hm | hm | hm | hm | hm | hm
  · obtain ⟨q, hq0, hq⟩ := x_at (Z := Z) ha hm
    rw [if_neg (by simp [hm])] at kk
    exact va_instNo (C := "CarryShifts$Borrowing") hk.1 hk.2.1 hk.2.2.2.1 (hk.2.2.2.2.1 _ tw_282) (hk.2.2.2.2.2.2.2.2.2 ("CarryShifts$Borrowing", "CarryShifts$Ring") (by decide)) (va_recv (q := (RX0, TX0, 6)) hk.2.2.2.2.2.2.2.1 hP rfl hq) hd (kk p e s m args below meth c S0 po hB hk H locs ls hP hD hS hl)
  · obtain ⟨q, hq0, hq⟩ := x_at (Z := Z) ha hm
    rw [if_neg (by simp [hm])] at kk
    exact va_instNo (C := "CarryShifts$Carrying") hk.1 hk.2.1 hk.2.2.2.1 (hk.2.2.2.2.1 _ tw_282) (hk.2.2.2.2.2.2.2.2.2 ("CarryShifts$Carrying", "CarryShifts$Ring") (by decide)) (va_recv (q := (RX1, TX1, 6)) hk.2.2.2.2.2.2.2.1 hP rfl hq) hd (kk p e s m args below meth c S0 po hB hk H locs ls hP hD hS hl)
  · obtain ⟨q, hq0, hq⟩ := x_at (Z := Z) ha hm
    rw [if_neg (by simp [hm])] at kk
    exact va_instNo (C := "CarryShifts$Held") hk.1 hk.2.1 hk.2.2.2.1 (hk.2.2.2.2.1 _ tw_282) (hk.2.2.2.2.2.2.2.2.2 ("CarryShifts$Held", "CarryShifts$Ring") (by decide)) (va_recv (q := (RX2, TX2, 6)) hk.2.2.2.2.2.2.2.1 hP rfl hq) hd (kk p e s m args below meth c S0 po hB hk H locs ls hP hD hS hl)
  · obtain ⟨q, hq0, hq⟩ := x_at (Z := Z) ha hm
    rw [if_neg (by simp [hm])] at kk
    exact va_instNo (C := "CarryShifts$Linear") hk.1 hk.2.1 hk.2.2.2.1 (hk.2.2.2.2.1 _ tw_282) (hk.2.2.2.2.2.2.2.2.2 ("CarryShifts$Linear", "CarryShifts$Ring") (by decide)) (va_recv (q := (RX5, TX5, 6)) hk.2.2.2.2.2.2.2.1 hP rfl hq) hd (kk p e s m args below meth c S0 po hB hk H locs ls hP hD hS hl)
  · obtain ⟨q, hq0, hq⟩ := x_at (Z := Z) ha hm
    rw [if_pos (by simp [hm])] at kk
    exact va_instS hk.1 hk.2.1 hk.2.2.2.1 (hk.2.2.2.2.1 _ tw_282) (hk.2.2.2.2.2.2.2.1.1 6 (RX6, TX6, 6) rfl).2 (va_recv (q := (RX6, TX6, 6)) hk.2.2.2.2.2.2.2.1 hP rfl hq) hd (kk p e s m args below meth c S0 po hB hk H locs ls hP hD hS hl)
  · obtain ⟨q, hq0, hq⟩ := x_at (Z := Z) ha hm
    rw [if_neg (by simp [hm])] at kk
    exact va_instNo (C := "CarryShifts$Turned") hk.1 hk.2.1 hk.2.2.2.1 (hk.2.2.2.2.1 _ tw_282) (hk.2.2.2.2.2.2.2.2.2 ("CarryShifts$Turned", "CarryShifts$Ring") (by decide)) (va_recv (q := (RX9, TX9, 6)) hk.2.2.2.2.2.2.2.1 hP rfl hq) hd (kk p e s m args below meth c S0 po hB hk H locs ls hP hD hS hl)
theorem Xn_0 {own : String} {Z : VZ} {cc : ByteArray} {nL : Nat} {ret : Option FieldType} {d mc ms : Nat} {B : VB XS} {n k pc : Nat} {L : List (Nat × Value)} {st : List Value} {S : XS} (hd : decode cc pc = .ok (.arraylength, 1)) (kk : V XW Z cc own nL ret d mc ms B n k (pc + 1) L (.int 4 :: st) S) : V XW Z cc own nL ret d mc ms B n k pc L (.ref (Z.2.2.2 0) :: st) S := by
  intro p e s m args below meth c S0 po hB hk H locs ls hP hD hS hl
  exact va_alen hk.1 hk.2.1 hk.2.2.2.2.2.2.2.1 hP 1 2 rfl rfl rfl hd (kk p e s m args below meth c S0 po hB hk H locs ls hP hD hS hl)
theorem Xn_2 {own : String} {Z : VZ} {cc : ByteArray} {nL : Nat} {ret : Option FieldType} {d mc ms : Nat} {B : VB XS} {n k pc : Nat} {L : List (Nat × Value)} {st : List Value} {S : XS} (hd : decode cc pc = .ok (.arraylength, 1)) (kk : V XW Z cc own nL ret d mc ms B n k (pc + 1) L (.int 20 :: st) S) : V XW Z cc own nL ret d mc ms B n k pc L (.ref (Z.2.2.2 2) :: st) S := by
  intro p e s m args below meth c S0 po hB hk H locs ls hP hD hS hl
  exact va_alen hk.1 hk.2.1 hk.2.2.2.2.2.2.2.1 hP 2 0 rfl rfl rfl hd (kk p e s m args below meth c S0 po hB hk H locs ls hP hD hS hl)
theorem Xn_4 {own : String} {Z : VZ} {cc : ByteArray} {nL : Nat} {ret : Option FieldType} {d mc ms : Nat} {B : VB XS} {n k pc : Nat} {L : List (Nat × Value)} {st : List Value} {S : XS} (hd : decode cc pc = .ok (.arraylength, 1)) (kk : V XW Z cc own nL ret d mc ms B n k (pc + 1) L (.int 4 :: st) S) : V XW Z cc own nL ret d mc ms B n k pc L (.ref (Z.2.2.2 4) :: st) S := by
  intro p e s m args below meth c S0 po hB hk H locs ls hP hD hS hl
  exact va_alen hk.1 hk.2.1 hk.2.2.2.2.2.2.2.1 hP 3 3 rfl rfl rfl hd (kk p e s m args below meth c S0 po hB hk H locs ls hP hD hS hl)
theorem Xn_8 {own : String} {Z : VZ} {cc : ByteArray} {nL : Nat} {ret : Option FieldType} {d mc ms : Nat} {B : VB XS} {n k pc : Nat} {L : List (Nat × Value)} {st : List Value} {S : XS} (hd : decode cc pc = .ok (.arraylength, 1)) (kk : V XW Z cc own nL ret d mc ms B n k (pc + 1) L (.int 4 :: st) S) : V XW Z cc own nL ret d mc ms B n k pc L (.ref (Z.2.2.2 8) :: st) S := by
  intro p e s m args below meth c S0 po hB hk H locs ls hP hD hS hl
  exact va_alen hk.1 hk.2.1 hk.2.2.2.2.2.2.2.1 hP 4 1 rfl rfl rfl hd (kk p e s m args below meth c S0 po hB hk H locs ls hP hD hS hl)
theorem Xn_30 {own : String} {Z : VZ} {cc : ByteArray} {nL : Nat} {ret : Option FieldType} {d mc ms : Nat} {B : VB XS} {n k pc : Nat} {L : List (Nat × Value)} {st : List Value} {S : XS} (hd : decode cc pc = .ok (.arraylength, 1)) (kk : V XW Z cc own nL ret d mc ms B n k (pc + 1) L (.int 60 :: st) S) : V XW Z cc own nL ret d mc ms B n k pc L (.ref (Z.2.2.2 30) :: st) S := by
  intro p e s m args below meth c S0 po hB hk H locs ls hP hD hS hl
  exact va_alen hk.1 hk.2.1 hk.2.2.2.2.2.2.2.1 hP 14 0 rfl rfl rfl hd (kk p e s m args below meth c S0 po hB hk H locs ls hP hD hS hl)
theorem Xn_33 {own : String} {Z : VZ} {cc : ByteArray} {nL : Nat} {ret : Option FieldType} {d mc ms : Nat} {B : VB XS} {n k pc : Nat} {L : List (Nat × Value)} {st : List Value} {S : XS} (hd : decode cc pc = .ok (.arraylength, 1)) (kk : V XW Z cc own nL ret d mc ms B n k (pc + 1) L (.int 16 :: st) S) : V XW Z cc own nL ret d mc ms B n k pc L (.ref (Z.2.2.2 33) :: st) S := by
  intro p e s m args below meth c S0 po hB hk H locs ls hP hD hS hl
  exact va_alen hk.1 hk.2.1 hk.2.2.2.2.2.2.2.1 hP 15 0 rfl rfl rfl hd (kk p e s m args below meth c S0 po hB hk H locs ls hP hD hS hl)
theorem Xn_34 {own : String} {Z : VZ} {cc : ByteArray} {nL : Nat} {ret : Option FieldType} {d mc ms : Nat} {B : VB XS} {n k pc : Nat} {L : List (Nat × Value)} {st : List Value} {S : XS} (hd : decode cc pc = .ok (.arraylength, 1)) (kk : V XW Z cc own nL ret d mc ms B n k (pc + 1) L (.int 64 :: st) S) : V XW Z cc own nL ret d mc ms B n k pc L (.ref (Z.2.2.2 34) :: st) S := by
  intro p e s m args below meth c S0 po hB hk H locs ls hP hD hS hl
  exact va_alen hk.1 hk.2.1 hk.2.2.2.2.2.2.2.1 hP 16 0 rfl rfl rfl hd (kk p e s m args below meth c S0 po hB hk H locs ls hP hD hS hl)
theorem Xn_it {own : String} {Z : VZ} {cc : ByteArray} {nL : Nat} {ret : Option FieldType} {d mc ms : Nat} {B : VB XS} {n k pc : Nat} {L : List (Nat × Value)} {st : List Value} {S : XS} {i : Nat} (hi : i < 4) (hd : decode cc pc = .ok (.arraylength, 1)) (kk : V XW Z cc own nL ret d mc ms B n k (pc + 1) L (.int 40 :: st) S) : V XW Z cc own nL ret d mc ms B n k pc L (.ref (Z.2.2.2 (20 + i)) :: st) S := by
  intro p e s m args below meth c S0 po hB hk H locs ls hP hD hS hl
  match i, hi with
  | 0, _ => exact va_alen hk.1 hk.2.1 hk.2.2.2.2.2.2.2.1 hP 9 0 rfl rfl rfl hd (kk p e s m args below meth c S0 po hB hk H locs ls hP hD hS hl)
  | 1, _ => exact va_alen hk.1 hk.2.1 hk.2.2.2.2.2.2.2.1 hP 10 0 rfl rfl rfl hd (kk p e s m args below meth c S0 po hB hk H locs ls hP hD hS hl)
  | 2, _ => exact va_alen hk.1 hk.2.1 hk.2.2.2.2.2.2.2.1 hP 11 0 rfl rfl rfl hd (kk p e s m args below meth c S0 po hB hk H locs ls hP hD hS hl)
  | 3, _ => exact va_alen hk.1 hk.2.1 hk.2.2.2.2.2.2.2.1 hP 12 0 rfl rfl rfl hd (kk p e s m args below meth c S0 po hB hk H locs ls hP hD hS hl)
  | i + 4, hi => exact absurd hi (by omega)
theorem kX10_60 : LkS RX10 60 yX10_between cX10_between 3 (some .boolean) 3 := ⟨tw_164, tw_165, tw_166, tw_1, by decide +kernel⟩
theorem kX10_64 : LkS RX10 64 yX10_allCells cX10_allCells 1 (some .int) 1 := ⟨tw_167, tw_168, tw_169, tw_1, by decide +kernel⟩
theorem kX10_68 : LkS RX10 68 yX10_made cX10_made 6 (some (.object "CarryShifts$Carrying")) 5 := ⟨tw_170, tw_171, tw_172, tw_1, by decide +kernel⟩
theorem kX10_72 : LkV RX10 72 yX10_join cX10_join 2 (some .int) 1 := ⟨tw_307, tw_309, tp_0, tw_310, tw_1, by decide +kernel⟩
theorem kX10_76 : LkV RX10 76 yX10_machineAt cX10_machineAt 2 (some (.object "CarryShifts$Carrying")) 1 := ⟨tw_319, tw_321, tp_1, tw_322, tw_1, by decide +kernel⟩
theorem kX10_80 : LkS RX10 80 yX10_canBecome cX10_canBecome 3 (some .boolean) 3 := ⟨tw_323, tw_324, tw_325, tw_1, by decide +kernel⟩
theorem kX10_102_X0 : LkU RX10 RX0 "CarryShifts$Carrying" 102 ⟨"CarryShifts$Carrying", "links", "()I"⟩ yX1_links cX1_links 3 (some .int) 0 := ⟨tw_330, tw_333, tw_334, tw_331, tw_7, tw_339, tw_331, ⟨_, _, _, tw_339⟩, by decide +kernel⟩
theorem kX10_102_X1 : LkU RX10 RX1 "CarryShifts$Carrying" 102 ⟨"CarryShifts$Carrying", "links", "()I"⟩ yX1_links cX1_links 3 (some .int) 0 := ⟨tw_330, tw_333, tw_332, tw_331, tw_7, tw_339, tw_331, ⟨_, _, _, tw_339⟩, by decide +kernel⟩
theorem kX10_102_X2 : LkU RX10 RX2 "CarryShifts$Carrying" 102 ⟨"CarryShifts$Carrying", "links", "()I"⟩ yX1_links cX1_links 3 (some .int) 0 := ⟨tw_330, tw_333, tw_335, tw_331, tw_7, tw_339, tw_331, ⟨_, _, _, tw_339⟩, by decide +kernel⟩
theorem kX10_102_X5 : LkU RX10 RX5 "CarryShifts$Carrying" 102 ⟨"CarryShifts$Carrying", "links", "()I"⟩ yX1_links cX1_links 3 (some .int) 0 := ⟨tw_330, tw_333, tw_336, tw_331, tw_7, tw_339, tw_331, ⟨_, _, _, tw_339⟩, by decide +kernel⟩
theorem kX10_102_X6 : LkU RX10 RX6 "CarryShifts$Carrying" 102 ⟨"CarryShifts$Carrying", "links", "()I"⟩ yX1_links cX1_links 3 (some .int) 0 := ⟨tw_330, tw_333, tw_337, tw_331, tw_7, tw_339, tw_331, ⟨_, _, _, tw_339⟩, by decide +kernel⟩
theorem kX10_102_X9 : LkU RX10 RX9 "CarryShifts$Carrying" 102 ⟨"CarryShifts$Carrying", "links", "()I"⟩ yX1_links cX1_links 3 (some .int) 0 := ⟨tw_330, tw_333, tw_338, tw_331, tw_7, tw_339, tw_331, ⟨_, _, _, tw_339⟩, by decide +kernel⟩
theorem kX10_106 : LkS RX10 106 yX10_isUnder cX10_isUnder 2 (some .boolean) 2 := ⟨tw_344, tw_345, tw_346, tw_1, by decide +kernel⟩
theorem kX10_110 : LkS RX10 110 yX10_tell cX10_tell 5 (some .long) 2 := ⟨tw_351, tw_352, tw_353, tw_1, by decide +kernel⟩
theorem kX10_114 : LkS RX10 114 yX10_thoughtOf cX10_thoughtOf 1 (some (.object "CarryShifts$Carrying")) 1 := ⟨tw_409, tw_410, tw_411, tw_1, by decide +kernel⟩
theorem kX10_118 : LkV RX10 118 yX10_sheetAt cX10_sheetAt 2 (some (.object "CarryShifts$Sheet")) 1 := ⟨tw_416, tw_418, tp_2, tw_419, tw_1, by decide +kernel⟩
theorem kX10_122 : LkV RX10 122 yX8_becomeRow cX8_becomeRow 5 none 2 := ⟨tw_420, tw_421, tw_422, tw_423, tw_5, by decide +kernel⟩
theorem kX10_126 : LkV RX10 126 yX10_tellAll cX10_tellAll 4 none 1 := ⟨tw_433, tw_435, tp_3, tw_436, tw_1, by decide +kernel⟩
theorem kX10_130 : LkV RX10 130 yX10_toldTogether cX10_toldTogether 5 (some .int) 2 := ⟨tw_437, tw_439, tp_4, tw_440, tw_1, by decide +kernel⟩
theorem kX10_134 : LkV RX10 134 yX8_isMissing cX8_isMissing 1 (some .boolean) 0 := ⟨tw_445, tw_446, tw_447, tw_448, tw_5, by decide +kernel⟩
theorem kX10_140 : LkV RX10 140 yX8_bits cX8_bits 4 (some .long) 0 := ⟨tw_450, tw_451, tw_452, tw_453, tw_5, by decide +kernel⟩
theorem kX10_144 : LkS RX10 144 yX10_isFraction cX10_isFraction 2 (some .boolean) 2 := ⟨tw_458, tw_459, tw_460, tw_1, by decide +kernel⟩
theorem kX10_148 : LkS RX10 148 yX10_firstDigits cX10_firstDigits 10 (some .long) 3 := ⟨tw_461, tw_462, tw_463, tw_1, by decide +kernel⟩
theorem kX10_153 : LkS RX10 153 yX10_behindDigit cX10_behindDigit 4 (some .long) 2 := ⟨tw_464, tw_465, tw_466, tw_1, by decide +kernel⟩
theorem kX10_157 : LkS RX10 157 yX10_digitsRound cX10_digitsRound 7 (some .int) 2 := ⟨tw_472, tw_473, tw_474, tw_1, by decide +kernel⟩
theorem kX10_164 : LkV RX10 164 yX4_find cX4_find 4 none 2 := ⟨tw_479, tw_480, tw_481, tw_482, tw_3, by decide +kernel⟩
theorem kX10_174 : LkV RX10 174 yX4_greater cX4_greater 1 (some .long) 0 := ⟨tw_520, tw_510, tw_511, tw_512, tw_3, by decide +kernel⟩
theorem kX10_177 : LkS RX10 177 yX10_binaryDigits cX10_binaryDigits 2 (some .int) 1 := ⟨tw_521, tw_522, tw_523, tw_1, by decide +kernel⟩
theorem kX10_181 : LkS RX10 181 yX10_aboveWithoutCarry cX10_aboveWithoutCarry 6 (some .long) 3 := ⟨tw_535, tw_536, tw_537, tw_1, by decide +kernel⟩
theorem kX10_185 : LkS RX10 185 yX10_inLowestTerms cX10_inLowestTerms 9 (some .long) 3 := ⟨tw_538, tw_539, tw_540, tw_1, by decide +kernel⟩
theorem kX10_188 : LkV RX10 188 yX10_buildFrom cX10_buildFrom 10 (some .int) 2 := ⟨tw_549, tw_551, tp_10, tw_552, tw_1, by decide +kernel⟩
theorem kX10_191 : LkS RX10 191 yX10_stepsRound cX10_stepsRound 6 (some .int) 1 := ⟨tw_559, tw_560, tw_561, tw_1, by decide +kernel⟩
theorem kX10_194 : LkS RX10 194 yX10_stepsAhead cX10_stepsAhead 5 (some .int) 2 := ⟨tw_572, tw_573, tw_574, tw_1, by decide +kernel⟩
theorem kX10_198 : LkV RX10 198 yX10_lawAnswer cX10_lawAnswer 5 (some .long) 3 := ⟨tw_579, tw_581, tp_11, tw_582, tw_1, by decide +kernel⟩
theorem kX10_202 : LkV RX10 202 yX3_find cX3_find 14 none 2 := ⟨tw_583, tw_584, tw_585, tw_586, tw_4, by decide +kernel⟩
theorem kX10_204 : LkS RX10 204 yX10_countWords cX10_countWords 11 (some .int) 4 := ⟨tw_606, tw_607, tw_608, tw_1, by decide +kernel⟩
theorem kX10_208 : LkS RX10 208 yX10_unlikeRuns cX10_unlikeRuns 10 (some .int) 2 := ⟨tw_616, tw_617, tw_618, tw_1, by decide +kernel⟩
theorem kX10_212 : LkS RX10 212 yX10_runsOf cX10_runsOf 7 (some .int) 4 := ⟨tw_626, tw_627, tw_628, tw_1, by decide +kernel⟩
theorem kX10_215 : LkS RX10 215 yX10_firstOtherwise cX10_firstOtherwise 6 (some .int) 3 := ⟨tw_633, tw_634, tw_635, tw_1, by decide +kernel⟩
theorem kX10_219 : LkS RX10 219 yX10_replayingKinds cX10_replayingKinds 6 (some .int) 3 := ⟨tw_642, tw_643, tw_644, tw_1, by decide +kernel⟩
theorem kX10_222 : LkS RX10 222 yX10_replayingCarries cX10_replayingCarries 7 (some .int) 3 := ⟨tw_648, tw_649, tw_650, tw_1, by decide +kernel⟩
theorem kX10_225 : LkS RX10 225 yX10_firstReplaying cX10_firstReplaying 9 (some .int) 4 := ⟨tw_655, tw_656, tw_657, tw_1, by decide +kernel⟩
theorem kX10_228 : LkS RX10 228 yX10_spoilt cX10_spoilt 9 (some .long) 4 := ⟨tw_666, tw_667, tw_668, tw_1, by decide +kernel⟩
theorem kX10_232 : LkS RX10 232 yX10_isByte cX10_isByte 1 (some .boolean) 1 := ⟨tw_678, tw_679, tw_680, tw_1, by decide +kernel⟩
theorem kX10_236 : LkV RX10 236 yX7_hasRoom cX7_hasRoom 2 (some .boolean) 1 := ⟨tw_681, tw_682, tw_683, tw_684, tw_2, by decide +kernel⟩
theorem kX10_239 : LkV RX10 239 yX7_add cX7_add 2 none 1 := ⟨tw_685, tw_686, tw_687, tw_688, tw_2, by decide +kernel⟩
theorem kX10_243 : LkV RX10 243 yX7_read cX7_read 2 (some .int) 0 := ⟨tw_693, tw_694, tw_695, tw_696, tw_2, by decide +kernel⟩
theorem kX10_249 : LkV RX10 249 yX7_wordOf cX7_wordOf 2 (some .int) 1 := ⟨tw_787, tw_788, tw_789, tw_790, tw_2, by decide +kernel⟩
theorem kX10_252 : LkV RX10 252 yX10_doClause cX10_doClause 5 (some .boolean) 2 := ⟨tw_791, tw_793, tp_18, tw_794, tw_1, by decide +kernel⟩
theorem kX10_255 : LkV RX10 255 yX10_imageOne cX10_imageOne 3 none 2 := ⟨tw_808, tw_810, tp_19, tw_811, tw_1, by decide +kernel⟩
theorem kX10_259 : LkV RX10 259 yX10_imagedAt cX10_imagedAt 2 (some (.object "CarryShifts$Carrying")) 1 := ⟨tw_816, tw_818, tp_20, tw_819, tw_1, by decide +kernel⟩
theorem kX10_267 : LkV RX10 267 yX8_has cX8_has 5 (some .boolean) 2 := ⟨tw_825, tw_826, tw_827, tw_828, tw_5, by decide +kernel⟩
theorem kX10_274 : LkV RX10 274 yX10_machine cX10_machine 5 (some .int) 4 := ⟨tw_799, tw_161, tw_162, tw_163, tw_1, by decide +kernel⟩
theorem kX10_278 : LkV RX10 278 yX10_cellsOf cX10_cellsOf 5 (some .int) 1 := ⟨tw_833, tw_835, tp_21, tw_836, tw_1, by decide +kernel⟩
theorem kX10_281 : LkV RX10 281 yX10_numbersOf cX10_numbersOf 5 (some .int) 1 := ⟨tw_837, tw_839, tp_22, tw_840, tw_1, by decide +kernel⟩
theorem kX10_284 : LkV RX10 284 yX8_become cX8_become 4 none 2 := ⟨tw_845, tw_425, tw_426, tw_427, tw_5, by decide +kernel⟩
theorem kX10_296 : LkI RX10 296 yX5_init cX5_init 4 3 := ⟨tw_175, tw_176, tw_177, tw_8, rfl, by decide +kernel⟩
theorem kX10_301 : LkI RX10 301 yX9_init cX9_init 3 2 := ⟨tw_236, tw_237, tw_238, tw_9, rfl, by decide +kernel⟩
theorem kX10_305 : LkI RX10 305 yX0_init cX0_init 3 2 := ⟨tw_252, tw_253, tw_254, tw_10, rfl, by decide +kernel⟩
theorem kX10_308 : LkI RX10 308 yX2_init cX2_init 3 2 := ⟨tw_268, tw_269, tw_270, tw_11, rfl, by decide +kernel⟩
theorem kX10_311 : LkI RX10 311 yX6_init cX6_init 3 2 := ⟨tw_284, tw_285, tw_286, tw_12, rfl, by decide +kernel⟩
theorem kX10_312 : LkI RX10 312 yX1_init cX1_init 4 3 := ⟨tw_299, tw_179, tw_180, tw_7, rfl, by decide +kernel⟩
theorem kX10_313_X0 : LkU RX10 RX0 "CarryShifts$Carrying" 313 ⟨"CarryShifts$Carrying", "advance", "()I"⟩ yX1_advance cX1_advance 3 (some .int) 0 := ⟨tw_354, tw_357, tw_358, tw_355, tw_7, tw_365, tw_355, ⟨_, _, _, tw_365⟩, by decide +kernel⟩
theorem kX10_313_X1 : LkU RX10 RX1 "CarryShifts$Carrying" 313 ⟨"CarryShifts$Carrying", "advance", "()I"⟩ yX1_advance cX1_advance 3 (some .int) 0 := ⟨tw_354, tw_357, tw_356, tw_355, tw_7, tw_365, tw_355, ⟨_, _, _, tw_365⟩, by decide +kernel⟩
theorem kX10_313_X2 : LkU RX10 RX2 "CarryShifts$Carrying" 313 ⟨"CarryShifts$Carrying", "advance", "()I"⟩ yX1_advance cX1_advance 3 (some .int) 0 := ⟨tw_354, tw_357, tw_359, tw_355, tw_7, tw_365, tw_355, ⟨_, _, _, tw_365⟩, by decide +kernel⟩
theorem kX10_313_X5 : LkU RX10 RX5 "CarryShifts$Carrying" 313 ⟨"CarryShifts$Carrying", "advance", "()I"⟩ yX1_advance cX1_advance 3 (some .int) 0 := ⟨tw_354, tw_357, tw_360, tw_355, tw_7, tw_365, tw_355, ⟨_, _, _, tw_365⟩, by decide +kernel⟩
theorem kX10_313_X6 : LkU RX10 RX6 "CarryShifts$Carrying" 313 ⟨"CarryShifts$Carrying", "advance", "()I"⟩ yX6_advance cX6_advance 5 (some .int) 0 := ⟨tw_354, tw_357, tw_361, tw_362, tw_12, tw_363, tw_355, ⟨_, _, _, tw_365⟩, by decide +kernel⟩
theorem kX10_313_X9 : LkU RX10 RX9 "CarryShifts$Carrying" 313 ⟨"CarryShifts$Carrying", "advance", "()I"⟩ yX1_advance cX1_advance 3 (some .int) 0 := ⟨tw_354, tw_357, tw_364, tw_355, tw_7, tw_365, tw_355, ⟨_, _, _, tw_365⟩, by decide +kernel⟩
theorem kX10_316_X0 : LkU RX10 RX0 "CarryShifts$Carrying" 316 ⟨"CarryShifts$Carrying", "standsAs", "(LCarryShifts$Carrying;)Z"⟩ yX1_standsAs cX1_standsAs 2 (some .boolean) 1 := ⟨tw_562, tw_565, tw_566, tw_563, tw_7, tw_571, tw_563, ⟨_, _, _, tw_571⟩, by decide +kernel⟩
theorem kX10_316_X1 : LkU RX10 RX1 "CarryShifts$Carrying" 316 ⟨"CarryShifts$Carrying", "standsAs", "(LCarryShifts$Carrying;)Z"⟩ yX1_standsAs cX1_standsAs 2 (some .boolean) 1 := ⟨tw_562, tw_565, tw_564, tw_563, tw_7, tw_571, tw_563, ⟨_, _, _, tw_571⟩, by decide +kernel⟩
theorem kX10_316_X2 : LkU RX10 RX2 "CarryShifts$Carrying" 316 ⟨"CarryShifts$Carrying", "standsAs", "(LCarryShifts$Carrying;)Z"⟩ yX1_standsAs cX1_standsAs 2 (some .boolean) 1 := ⟨tw_562, tw_565, tw_567, tw_563, tw_7, tw_571, tw_563, ⟨_, _, _, tw_571⟩, by decide +kernel⟩
theorem kX10_316_X5 : LkU RX10 RX5 "CarryShifts$Carrying" 316 ⟨"CarryShifts$Carrying", "standsAs", "(LCarryShifts$Carrying;)Z"⟩ yX1_standsAs cX1_standsAs 2 (some .boolean) 1 := ⟨tw_562, tw_565, tw_568, tw_563, tw_7, tw_571, tw_563, ⟨_, _, _, tw_571⟩, by decide +kernel⟩
theorem kX10_316_X6 : LkU RX10 RX6 "CarryShifts$Carrying" 316 ⟨"CarryShifts$Carrying", "standsAs", "(LCarryShifts$Carrying;)Z"⟩ yX1_standsAs cX1_standsAs 2 (some .boolean) 1 := ⟨tw_562, tw_565, tw_569, tw_563, tw_7, tw_571, tw_563, ⟨_, _, _, tw_571⟩, by decide +kernel⟩
theorem kX10_316_X9 : LkU RX10 RX9 "CarryShifts$Carrying" 316 ⟨"CarryShifts$Carrying", "standsAs", "(LCarryShifts$Carrying;)Z"⟩ yX1_standsAs cX1_standsAs 2 (some .boolean) 1 := ⟨tw_562, tw_565, tw_570, tw_563, tw_7, tw_571, tw_563, ⟨_, _, _, tw_571⟩, by decide +kernel⟩
theorem kX10_320 : LkS RX10 320 yJ13_numberOfTrailingZeros_95d88 cJ13_numberOfTrailingZeros_95d88 3 (some .int) 1 := ⟨tw_636, tw_637, tw_638, tw_15, by decide +kernel⟩
theorem kX10_323 : LkS RX10 323 yX10_tellsRow cX10_tellsRow 5 (some .boolean) 3 := ⟨tw_645, tw_646, tw_647, tw_1, by decide +kernel⟩
theorem kX10_327 : LkS RX10 327 yJ13_numberOfLeadingZeros_95d88 cJ13_numberOfLeadingZeros_95d88 3 (some .int) 1 := ⟨tw_524, tw_525, tw_526, tw_15, by decide +kernel⟩
theorem kX10_336 : LkS RX10 336 yX10_commonDivisor cX10_commonDivisor 11 (some .long) 2 := ⟨tw_542, tw_543, tw_544, tw_1, by decide +kernel⟩
theorem kX10_347 : LkS RX10 347 yX10_timesWord cX10_timesWord 7 (some .int) 4 := ⟨tw_609, tw_610, tw_611, tw_1, by decide +kernel⟩
theorem kX10_350 : LkS RX10 350 yX10_beginsRun cX10_beginsRun 3 (some .boolean) 2 := ⟨tw_619, tw_620, tw_621, tw_1, by decide +kernel⟩
theorem kX10_354 : LkS RX10 354 yX10_runLength cX10_runLength 7 (some .int) 3 := ⟨tw_622, tw_623, tw_624, tw_1, by decide +kernel⟩
theorem kX10_358 : LkS RX10 358 yJ13_bitCount_95d88 cJ13_bitCount_95d88 2 (some .int) 1 := ⟨tw_625, tw_588, tw_589, tw_15, by decide +kernel⟩
theorem kX10_362 : LkV RX10 362 yX7_numberOf cX7_numberOf 4 (some .int) 2 := ⟨tw_795, tw_796, tw_797, tw_798, tw_2, by decide +kernel⟩
theorem kX10_365 : LkV RX10 365 yX10_set cX10_set 6 (some .int) 3 := ⟨tw_800, tw_316, tw_317, tw_318, tw_1, by decide +kernel⟩
theorem kX10_369 : LkV RX10 369 yX10_step cX10_step 4 (some .int) 2 := ⟨tw_801, tw_348, tw_349, tw_350, tw_1, by decide +kernel⟩
theorem kX10_372 : LkV RX10 372 yX10_drop cX10_drop 1 (some .int) 0 := ⟨tw_802, tw_312, tw_313, tw_314, tw_1, by decide +kernel⟩
theorem kX0_3 : LkI RX0 3 yX1_init cX1_init 4 3 := ⟨tw_255, tw_179, tw_180, tw_7, rfl, by decide +kernel⟩
theorem kX0_9_X0 : LkU RX0 RX0 "CarryShifts$Carrying" 9 ⟨"CarryShifts$Borrowing", "leave", "(I)V"⟩ yX1_leave cX1_leave 2 none 1 := ⟨tw_256, tw_257, tw_258, tw_183, tw_7, tw_191, tw_183, ⟨_, _, _, tw_191⟩, by decide +kernel⟩
theorem kX1_28_X0 : LkU RX1 RX0 "CarryShifts$Carrying" 28 ⟨"CarryShifts$Carrying", "leave", "(I)V"⟩ yX1_leave cX1_leave 2 none 1 := ⟨tw_182, tw_185, tw_186, tw_183, tw_7, tw_191, tw_183, ⟨_, _, _, tw_191⟩, by decide +kernel⟩
theorem kX1_28_X1 : LkU RX1 RX1 "CarryShifts$Carrying" 28 ⟨"CarryShifts$Carrying", "leave", "(I)V"⟩ yX1_leave cX1_leave 2 none 1 := ⟨tw_182, tw_185, tw_184, tw_183, tw_7, tw_191, tw_183, ⟨_, _, _, tw_191⟩, by decide +kernel⟩
theorem kX1_28_X2 : LkU RX1 RX2 "CarryShifts$Carrying" 28 ⟨"CarryShifts$Carrying", "leave", "(I)V"⟩ yX1_leave cX1_leave 2 none 1 := ⟨tw_182, tw_185, tw_187, tw_183, tw_7, tw_191, tw_183, ⟨_, _, _, tw_191⟩, by decide +kernel⟩
theorem kX1_28_X5 : LkU RX1 RX5 "CarryShifts$Carrying" 28 ⟨"CarryShifts$Carrying", "leave", "(I)V"⟩ yX1_leave cX1_leave 2 none 1 := ⟨tw_182, tw_185, tw_188, tw_183, tw_7, tw_191, tw_183, ⟨_, _, _, tw_191⟩, by decide +kernel⟩
theorem kX1_28_X6 : LkU RX1 RX6 "CarryShifts$Carrying" 28 ⟨"CarryShifts$Carrying", "leave", "(I)V"⟩ yX1_leave cX1_leave 2 none 1 := ⟨tw_182, tw_185, tw_189, tw_183, tw_7, tw_191, tw_183, ⟨_, _, _, tw_191⟩, by decide +kernel⟩
theorem kX1_28_X9 : LkU RX1 RX9 "CarryShifts$Carrying" 28 ⟨"CarryShifts$Carrying", "leave", "(I)V"⟩ yX1_leave cX1_leave 2 none 1 := ⟨tw_182, tw_185, tw_190, tw_183, tw_7, tw_191, tw_183, ⟨_, _, _, tw_191⟩, by decide +kernel⟩
theorem kX1_32 : LkS RX1 32 yJ6_bitCount_0f7a4 cJ6_bitCount_0f7a4 1 (some .int) 1 := ⟨tw_366, tw_367, tw_368, tw_13, by decide +kernel⟩
theorem kX1_38_X0 : LkU RX1 RX0 "CarryShifts$Carrying" 38 ⟨"CarryShifts$Carrying", "sumOf", "(I)I"⟩ yX0_sumOf cX0_sumOf 2 (some .int) 1 := ⟨tw_372, tw_375, tw_376, tw_377, tw_10, tw_378, tw_373, ⟨_, _, _, tw_387⟩, by decide +kernel⟩
theorem kX1_38_X1 : LkU RX1 RX1 "CarryShifts$Carrying" 38 ⟨"CarryShifts$Carrying", "sumOf", "(I)I"⟩ yX1_sumOf cX1_sumOf 2 (some .int) 1 := ⟨tw_372, tw_375, tw_374, tw_373, tw_7, tw_387, tw_373, ⟨_, _, _, tw_387⟩, by decide +kernel⟩
theorem kX1_38_X2 : LkU RX1 RX2 "CarryShifts$Carrying" 38 ⟨"CarryShifts$Carrying", "sumOf", "(I)I"⟩ yX1_sumOf cX1_sumOf 2 (some .int) 1 := ⟨tw_372, tw_375, tw_379, tw_373, tw_7, tw_387, tw_373, ⟨_, _, _, tw_387⟩, by decide +kernel⟩
theorem kX1_38_X5 : LkU RX1 RX5 "CarryShifts$Carrying" 38 ⟨"CarryShifts$Carrying", "sumOf", "(I)I"⟩ yX5_sumOf cX5_sumOf 2 (some .int) 1 := ⟨tw_372, tw_375, tw_380, tw_381, tw_8, tw_382, tw_373, ⟨_, _, _, tw_387⟩, by decide +kernel⟩
theorem kX1_38_X6 : LkU RX1 RX6 "CarryShifts$Carrying" 38 ⟨"CarryShifts$Carrying", "sumOf", "(I)I"⟩ yX1_sumOf cX1_sumOf 2 (some .int) 1 := ⟨tw_372, tw_375, tw_383, tw_373, tw_7, tw_387, tw_373, ⟨_, _, _, tw_387⟩, by decide +kernel⟩
theorem kX1_38_X9 : LkU RX1 RX9 "CarryShifts$Carrying" 38 ⟨"CarryShifts$Carrying", "sumOf", "(I)I"⟩ yX9_sumOf cX9_sumOf 2 (some .int) 1 := ⟨tw_372, tw_375, tw_384, tw_385, tw_9, tw_386, tw_373, ⟨_, _, _, tw_387⟩, by decide +kernel⟩
theorem kX1_41_X0 : LkU RX1 RX0 "CarryShifts$Carrying" 41 ⟨"CarryShifts$Carrying", "carriedOf", "(I)I"⟩ yX1_carriedOf cX1_carriedOf 2 (some .int) 1 := ⟨tw_388, tw_391, tw_392, tw_389, tw_7, tw_404, tw_389, ⟨_, _, _, tw_404⟩, by decide +kernel⟩
theorem kX1_41_X1 : LkU RX1 RX1 "CarryShifts$Carrying" 41 ⟨"CarryShifts$Carrying", "carriedOf", "(I)I"⟩ yX1_carriedOf cX1_carriedOf 2 (some .int) 1 := ⟨tw_388, tw_391, tw_390, tw_389, tw_7, tw_404, tw_389, ⟨_, _, _, tw_404⟩, by decide +kernel⟩
theorem kX1_41_X2 : LkU RX1 RX2 "CarryShifts$Carrying" 41 ⟨"CarryShifts$Carrying", "carriedOf", "(I)I"⟩ yX2_carriedOf cX2_carriedOf 2 (some .int) 1 := ⟨tw_388, tw_391, tw_393, tw_394, tw_11, tw_395, tw_389, ⟨_, _, _, tw_404⟩, by decide +kernel⟩
theorem kX1_41_X5 : LkU RX1 RX5 "CarryShifts$Carrying" 41 ⟨"CarryShifts$Carrying", "carriedOf", "(I)I"⟩ yX5_carriedOf cX5_carriedOf 2 (some .int) 1 := ⟨tw_388, tw_391, tw_399, tw_400, tw_8, tw_401, tw_389, ⟨_, _, _, tw_404⟩, by decide +kernel⟩
theorem kX1_41_X6 : LkU RX1 RX6 "CarryShifts$Carrying" 41 ⟨"CarryShifts$Carrying", "carriedOf", "(I)I"⟩ yX1_carriedOf cX1_carriedOf 2 (some .int) 1 := ⟨tw_388, tw_391, tw_402, tw_389, tw_7, tw_404, tw_389, ⟨_, _, _, tw_404⟩, by decide +kernel⟩
theorem kX1_41_X9 : LkU RX1 RX9 "CarryShifts$Carrying" 41 ⟨"CarryShifts$Carrying", "carriedOf", "(I)I"⟩ yX5_carriedOf cX5_carriedOf 2 (some .int) 1 := ⟨tw_388, tw_391, tw_403, tw_400, tw_8, tw_401, tw_389, ⟨_, _, _, tw_404⟩, by decide +kernel⟩
theorem kX2_3 : LkI RX2 3 yX1_init cX1_init 4 3 := ⟨tw_271, tw_179, tw_180, tw_7, rfl, by decide +kernel⟩
theorem kX2_9_X2 : LkU RX2 RX2 "CarryShifts$Carrying" 9 ⟨"CarryShifts$Held", "leave", "(I)V"⟩ yX1_leave cX1_leave 2 none 1 := ⟨tw_272, tw_273, tw_274, tw_183, tw_7, tw_191, tw_183, ⟨_, _, _, tw_191⟩, by decide +kernel⟩
theorem kX3_17 : LkS RX3 17 yJ13_bitCount_95d88 cJ13_bitCount_95d88 2 (some .int) 1 := ⟨tw_587, tw_588, tw_589, tw_15, by decide +kernel⟩
theorem kX4_18 : LkV RX4 18 yX4_shorten cX4_shorten 12 none 2 := ⟨tw_483, tw_485, tp_5, tw_486, tw_3, by decide +kernel⟩
theorem kX4_28 : LkV RX4 28 yX4_offer cX4_offer 9 none 2 := ⟨tw_495, tw_497, tp_7, tw_498, tw_3, by decide +kernel⟩
theorem kX4_31 : LkV RX4 31 yX4_offerAround cX4_offerAround 3 none 1 := ⟨tw_513, tw_515, tp_9, tw_516, tw_3, by decide +kernel⟩
theorem kX4_41 : LkS RX4 41 yX4_crossing cX4_crossing 4 (some .long) 2 := ⟨tw_517, tw_518, tw_519, tw_3, by decide +kernel⟩
theorem kX4_54 : LkV RX4 54 yX4_swapIfLonger cX4_swapIfLonger 9 none 0 := ⟨tw_487, tw_489, tp_6, tw_490, tw_3, by decide +kernel⟩
theorem kX4_59 : LkS RX4 59 yJ9_floorDiv_f86c9 cJ9_floorDiv_f86c9 6 (some .long) 2 := ⟨tw_492, tw_493, tw_494, tw_14, by decide +kernel⟩
theorem kX4_62 : LkV RX4 62 yX4_isLess cX4_isLess 7 (some .boolean) 2 := ⟨tw_499, tw_501, tp_8, tw_502, tw_3, by decide +kernel⟩
theorem kX4_66 : LkV RX4 66 yX4_greater cX4_greater 1 (some .long) 0 := ⟨tw_509, tw_510, tw_511, tw_512, tw_3, by decide +kernel⟩
theorem kX5_1 : LkI RX5 1 yX1_init cX1_init 4 3 := ⟨tw_178, tw_179, tw_180, tw_7, rfl, by decide +kernel⟩
theorem kX5_7_X5 : LkU RX5 RX5 "CarryShifts$Carrying" 7 ⟨"CarryShifts$Linear", "leave", "(I)V"⟩ yX1_leave cX1_leave 2 none 1 := ⟨tw_192, tw_193, tw_195, tw_183, tw_7, tw_191, tw_183, ⟨_, _, _, tw_191⟩, by decide +kernel⟩
theorem kX5_7_X9 : LkU RX5 RX9 "CarryShifts$Carrying" 7 ⟨"CarryShifts$Linear", "leave", "(I)V"⟩ yX1_leave cX1_leave 2 none 1 := ⟨tw_192, tw_193, tw_196, tw_183, tw_7, tw_191, tw_183, ⟨_, _, _, tw_191⟩, by decide +kernel⟩
theorem kX6_3 : LkI RX6 3 yX1_init cX1_init 4 3 := ⟨tw_287, tw_179, tw_180, tw_7, rfl, by decide +kernel⟩
theorem kX6_9_X6 : LkU RX6 RX6 "CarryShifts$Carrying" 9 ⟨"CarryShifts$Ring", "leave", "(I)V"⟩ yX1_leave cX1_leave 2 none 1 := ⟨tw_288, tw_289, tw_290, tw_183, tw_7, tw_191, tw_183, ⟨_, _, _, tw_191⟩, by decide +kernel⟩
theorem kX7_40 : LkV RX7 40 yX7_readClause cX7_readClause 5 (some .boolean) 1 := ⟨tw_697, tw_699, tp_12, tw_700, tw_2, by decide +kernel⟩
theorem kX7_44 : LkV RX7 44 yX7_readToken cX7_readToken 2 none 0 := ⟨tw_701, tw_703, tp_13, tw_704, tw_2, by decide +kernel⟩
theorem kX7_47 : LkS RX7 47 yX7_numbersOf cX7_numbersOf 1 (some .int) 1 := ⟨tw_784, tw_785, tw_786, tw_2, by decide +kernel⟩
theorem kX7_51 : LkV RX7 51 yX7_byteAt cX7_byteAt 2 (some .int) 1 := ⟨tw_705, tw_707, tp_14, tw_708, tw_2, by decide +kernel⟩
theorem kX7_54 : LkS RX7 54 yX7_isLetter cX7_isLetter 1 (some .boolean) 1 := ⟨tw_709, tw_710, tw_711, tw_2, by decide +kernel⟩
theorem kX7_57 : LkV RX7 57 yX7_readWord cX7_readWord 2 none 0 := ⟨tw_712, tw_714, tp_15, tw_715, tw_2, by decide +kernel⟩
theorem kX7_60 : LkS RX7 60 yX7_isDigit cX7_isDigit 1 (some .boolean) 1 := ⟨tw_777, tw_778, tw_779, tw_2, by decide +kernel⟩
theorem kX7_63 : LkV RX7 63 yX7_readNumber cX7_readNumber 4 none 0 := ⟨tw_780, tw_782, tp_17, tw_783, tw_2, by decide +kernel⟩
theorem kX7_66 : LkS RX7 66 yX7_nameOf cX7_nameOf 1 (some (.object "java/lang/String")) 1 := ⟨tw_716, tw_717, tw_718, tw_2, by decide +kernel⟩
theorem kX7_70 : LkV RX7 70 yX7_isNamed cX7_isNamed 3 (some .boolean) 1 := ⟨tw_725, tw_727, tp_16, tw_728, tw_2, by decide +kernel⟩
theorem kX8_28 : LkV RX8 28 yX8_become cX8_become 4 none 2 := ⟨tw_424, tw_425, tw_426, tw_427, tw_5, by decide +kernel⟩
theorem kX9_3 : LkI RX9 3 yX5_init cX5_init 4 3 := ⟨tw_239, tw_176, tw_177, tw_8, rfl, by decide +kernel⟩
theorem kX9_9_X9 : LkU RX9 RX9 "CarryShifts$Carrying" 9 ⟨"CarryShifts$Turned", "leave", "(I)V"⟩ yX1_leave cX1_leave 2 none 1 := ⟨tw_240, tw_241, tw_242, tw_183, tw_7, tw_191, tw_183, ⟨_, _, _, tw_191⟩, by decide +kernel⟩
theorem kJ13_308 : LkS RJ13 308 yJ6_numberOfLeadingZeros_0f7a4 cJ6_numberOfLeadingZeros_0f7a4 2 (some .int) 1 := ⟨tw_527, tw_528, tw_529, tw_13, by decide +kernel⟩
theorem kJ13_311 : LkS RJ13 311 yJ6_numberOfTrailingZeros_0f7a4 cJ6_numberOfTrailingZeros_0f7a4 2 (some .int) 1 := ⟨tw_639, tw_640, tw_641, tw_13, by decide +kernel⟩
theorem kJ0_495 : LkS RJ0 495 yJ1_charAt_3b067 cJ1_charAt_3b067 2 (some .char) 2 := ⟨tw_747, tw_748, tw_749, tw_18, by decide +kernel⟩
theorem kJ0_498 : LkS RJ0 498 yJ2_charAt_3b067 cJ2_charAt_3b067 2 (some .char) 2 := ⟨tw_758, tw_759, tw_760, tw_20, by decide +kernel⟩
theorem kJ0_1059 : LkS RJ0 1059 yJ3_checkIndex_8e157 cJ3_checkIndex_8e157 3 (some .int) 3 := ⟨tw_755, tw_756, tw_757, tw_19, by decide +kernel⟩
theorem kJ1_9 : LkS RJ1 9 yJ0_checkIndex_df160 cJ0_checkIndex_df160 2 none 2 := ⟨tw_750, tw_751, tw_752, tw_17, by decide +kernel⟩
theorem kJ2_48 : LkS RJ2 48 yJ2_length_9d52b cJ2_length_9d52b 1 (some .int) 1 := ⟨tw_764, tw_765, tw_766, tw_20, by decide +kernel⟩
theorem kJ2_67 : LkS RJ2 67 yJ2_checkIndex_2214a cJ2_checkIndex_2214a 2 none 2 := ⟨tw_761, tw_762, tw_763, tw_20, by decide +kernel⟩
theorem kJ2_71 : LkS RJ2 71 yJ2_getChar_3b067 cJ2_getChar_3b067 2 (some .char) 2 := ⟨tw_768, tw_769, tw_770, tw_20, by decide +kernel⟩
theorem kJ2_414 : LkS RJ2 414 yJ0_checkIndex_df160 cJ0_checkIndex_df160 2 none 2 := ⟨tw_767, tw_751, tw_752, tw_17, by decide +kernel⟩
