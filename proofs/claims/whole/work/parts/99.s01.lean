/-! the raw world: a list of cells; constructors -/
abbrev RW : VZ → va_W → va_W := fun _ S => S
theorem R_get {Z : VZ} {cc : ByteArray} {nL : Nat} {ret : Option FieldType} {d mc ms : Nat} {B : VB va_W} {n k pc : Nat} {L : List (Nat × Value)} {st : List Value} {S : va_W} {own C : String} {T : u_T} {N ci idx a : Nat} {fs : List Value} {v : Value} (hin : ∀ w ∈ u_ws C T N, w ∈ uw) (hc : vwCl[ci]? = some (C, T, N)) (q0 kf : Nat) (he : S[q0]? = some (a, .inr (ci, fs))) (hkf : kf < N) (hlk : Cond.fieldLink own idx (T kf).1 (T kf).2.1 (T kf).2.2.1 ∈ uw) (hv : fs[kf]? = some v) (hd : decode cc pc = .ok (.getfield idx, 3)) (kk : V RW Z cc own nL ret d mc ms B n k (pc + 3) L (v :: st) S) : V RW Z cc own nL ret d mc ms B n k pc L (.ref a :: st) S := by
  intro p e s m args below meth c S0 po hB hk H locs ls hP hD hS hl
  exact va_get (D := Z.2.1) (ci := ci) (C := C) (T := T) (N := N) hk.1 hk.2.1 hk.2.2.2.2.1 hin hk.2.2.2.1 hk.2.2.2.2.2.2.2.1 hP q0 he hc kf hkf (hk.2.2.2.2.1 _ hlk) (fun _ h9 => h9) hv hd (kk p e s m args below meth c S0 po hB hk H locs ls hP hD hS hl)
theorem R_put {Z : VZ} {cc : ByteArray} {nL : Nat} {ret : Option FieldType} {d mc ms : Nat} {B : VB va_W} {n k pc : Nat} {L : List (Nat × Value)} {st : List Value} {S : va_W} {own C : String} {T : u_T} {N ci idx a : Nat} {fs : List Value} {v : Value} {ty : FieldType} (hin : ∀ w ∈ u_ws C T N, w ∈ uw) (ty0 : Nat → FieldType) (hty : ∀ k, k < N → parseFieldDescriptor (T k).2.2.1 = some (ty0 k)) (hnm : ∀ a, a < N → ∀ b, b < N → a ≠ b → (T a).2.1 ≠ (T b).2.1) (hc : vwCl[ci]? = some (C, T, N)) (q0 kf : Nat) (he : S[q0]? = some (a, .inr (ci, fs))) (hkf : kf < N) (hlk : Cond.fieldLink own idx (T kf).1 (T kf).2.1 (T kf).2.2.1 ∈ uw) (hfin : (T kf).2.2.2 = false) (hdp : parseFieldDescriptor (T kf).2.2.1 = some ty) (hn : narrow ty v = v) (hfit : fits ty v = true) (hl0 : kf < fs.length) (hd : decode cc pc = .ok (.putfield idx, 3)) (kk : V RW Z cc own nL ret d mc ms B n k (pc + 3) L st (S.set q0 (a, .inr (ci, fs.set kf v)))) : V RW Z cc own nL ret d mc ms B n k pc L (v :: .ref a :: st) S := by
  intro p e s m args below meth c S0 po hB hk H locs ls hP hD hS hl
  exact va_put (D := Z.2.1) (ci := ci) (v := v) (ty := ty) (C := C) (T := T) (N := N) hk.1 hk.2.1 hk.2.2.2.2.1 hin ty0 hty hnm hk.2.2.2.1 hk.2.2.2.2.2.2.2.1 hP hD hS q0 he hc kf hkf (hk.2.2.2.2.1 _ hlk) (fun _ h9 => h9) hfin hdp hn hfit hl0 hd (fun H locs hP hD hS => kk p e s m args below meth c S0 po hB hk H locs ls hP hD hS hl)
theorem R_putF {Z : VZ} {cc : ByteArray} {nL : Nat} {ret : Option FieldType} {d mc ms : Nat} {B : VB va_W} {n k pc : Nat} {L : List (Nat × Value)} {st : List Value} {S : va_W} {own C : String} {T : u_T} {N ci idx a : Nat} {fs : List Value} {v : Value} {ty : FieldType} (hin : ∀ w ∈ u_ws C T N, w ∈ uw) (ty0 : Nat → FieldType) (hty : ∀ k, k < N → parseFieldDescriptor (T k).2.2.1 = some (ty0 k)) (hnm : ∀ a, a < N → ∀ b, b < N → a ≠ b → (T a).2.1 ≠ (T b).2.1) (hc : vwCl[ci]? = some (C, T, N)) (q0 kf : Nat) (he : S[q0]? = some (a, .inr (ci, fs))) (hkf : kf < N) (hlk : Cond.fieldLink own idx (T kf).1 (T kf).2.1 (T kf).2.2.1 ∈ uw) (hfin : (T kf).2.2.2 = true) (hnm2 : vName B = "<init>") (hdecl : (T kf).1 = own) (hdp : parseFieldDescriptor (T kf).2.2.1 = some ty) (hn : narrow ty v = v) (hfit : fits ty v = true) (hl0 : kf < fs.length) (hd : decode cc pc = .ok (.putfield idx, 3)) (kk : V RW Z cc own nL ret d mc ms B n k (pc + 3) L st (S.set q0 (a, .inr (ci, fs.set kf v)))) : V RW Z cc own nL ret d mc ms B n k pc L (v :: .ref a :: st) S := by
  intro p e s m args below meth c S0 po hB hk H locs ls hP hD hS hl
  have hn2 : meth.name = "<init>" := by rw [hB] at hnm2; exact hnm2
  exact va_putF (D := Z.2.1) (ci := ci) (v := v) (ty := ty) (C := C) (T := T) (N := N) hk.1 hk.2.1 hk.2.2.2.2.1 hin ty0 hty hnm hk.2.2.2.1 hk.2.2.2.2.2.2.2.1 hP hD hS q0 he hc kf hkf (hk.2.2.2.2.1 _ hlk) (fun _ h9 => h9) hfin hn2 hdecl hdp hn hfit hl0 hd (fun H locs hP hD hS => kk p e s m args below meth c S0 po hB hk H locs ls hP hD hS hl)
theorem R_newI {Z : VZ} {cc : ByteArray} {own : String} {nL : Nat} {ret : Option FieldType} {d mc ms : Nat} {B : VB va_W} {n k pc : Nat} {L : List (Nat × Value)} {st : List Value} {S : va_W} {x : Int32} (N : Nat) (hw : Cond.arrayClass .int ∈ uw) (hn : ¬ x < 0) (hN : x.toNatClampNeg = N) (hb : N * 4 ≤ 536870912) (h1 : n + 1 ≤ mc) (h2 : k + N ≤ ms) (hd : decode cc pc = .ok (.newarray .int, 2)) (kk : ∀ q : Nat, V RW Z cc own nL ret d mc ms B (n + 1) (k + N) (pc + 2) L (.ref q :: st) (S ++ [(q, .inl (Z.2.2.1 0, N, .inl (fun _ => 0)))])) : V RW Z cc own nL ret d mc ms B n k pc L (.int x :: st) S := by
  intro p e s m args below meth c S0 po hB hk H locs ls hP hD hS hl
  refine va_newa (D := Z.2.1) (atype := .int) (ty := .int) (a0 := (N, .inl (fun _ => 0))) hk.1 hk.2.1 (hk.2.2.2.2.1 _ hw) rfl hk.2.2.2.2.2.2.2.1 hP hD hS (fun q h => Or.inr h) (fun cA => rfl) hn hN hb h1 h2 hd (fun q cA H1 hK1 hP1 hD1 hS1 => ?_)
  have e1 := (hK1.2 4 (cA, .int) rfl).2
  have e2 := (hk.2.2.2.2.2.2.2.1.2 0 _ rfl).2
  have e3 : cA = Z.2.2.1 0 := Option.some.inj (e1.symm.trans e2)
  rw [e3] at hP1 hD1
  exact kk q p e s m args below meth c S0 po hB hk H1 locs ls hP1 hD1 hS1 hl
theorem R_newJ {Z : VZ} {cc : ByteArray} {own : String} {nL : Nat} {ret : Option FieldType} {d mc ms : Nat} {B : VB va_W} {n k pc : Nat} {L : List (Nat × Value)} {st : List Value} {S : va_W} {x : Int32} (N : Nat) (hw : Cond.arrayClass .long ∈ uw) (hn : ¬ x < 0) (hN : x.toNatClampNeg = N) (hb : N * 8 ≤ 536870912) (h1 : n + 1 ≤ mc) (h2 : k + N ≤ ms) (hd : decode cc pc = .ok (.newarray .long, 2)) (kk : ∀ q : Nat, V RW Z cc own nL ret d mc ms B (n + 1) (k + N) (pc + 2) L (.ref q :: st) (S ++ [(q, .inl (Z.2.2.1 1, N, .inr (.inl (fun _ => 0))))])) : V RW Z cc own nL ret d mc ms B n k pc L (.int x :: st) S := by
  intro p e s m args below meth c S0 po hB hk H locs ls hP hD hS hl
  refine va_newa (D := Z.2.1) (atype := .long) (ty := .long) (a0 := (N, .inr (.inl (fun _ => 0)))) hk.1 hk.2.1 (hk.2.2.2.2.1 _ hw) rfl hk.2.2.2.2.2.2.2.1 hP hD hS (fun q h => Or.inr h) (fun cA => rfl) hn hN hb h1 h2 hd (fun q cA H1 hK1 hP1 hD1 hS1 => ?_)
  have e1 := (hK1.2 4 (cA, .long) rfl).2
  have e2 := (hk.2.2.2.2.2.2.2.1.2 1 _ rfl).2
  have e3 : cA = Z.2.2.1 1 := Option.some.inj (e1.symm.trans e2)
  rw [e3] at hP1 hD1
  exact kk q p e s m args below meth c S0 po hB hk H1 locs ls hP1 hD1 hS1 hl
/-- the arrays of references that can be made -/
def vAO (U : State) : Prop := va_AO "CarryShifts$Carrying" U ∧ va_AO "CarryShifts$Sheet" U ∧ va_Nw (.methodLinkNest "CarryShifts" 36 yX7_init "CarryShifts") U ∧ va_Nw (.methodLinkNest "CarryShifts" 43 yX4_init "CarryShifts") U ∧ va_Nw (.methodLinkNest "CarryShifts" 50 yX3_init "CarryShifts") U ∧ va_Nw (.methodLinkNest "CarryShifts" 59 yX8_init "CarryShifts") U
def vAOB (B : VB va_W) : Prop := vAO B.2.2.1
theorem R_newQ0 {Z : VZ} {cc : ByteArray} {own : String} {nL : Nat} {ret : Option FieldType} {d mc ms : Nat} {B : VB va_W} {n k pc : Nat} {L : List (Nat × Value)} {st : List Value} {S : va_W} {x : Int32} {idx : Nat} (hO : vAOB B) (N : Nat) (hw : Cond.classLink own idx "CarryShifts$Carrying" ∈ uw) (hn : ¬ x < 0) (hN : x.toNatClampNeg = N) (hb : N * 4 ≤ 536870912) (h1 : n + 1 ≤ mc) (h2 : k + N ≤ ms) (hd : decode cc pc = .ok (.anewarray idx, 3)) (kk : ∀ q : Nat, V RW Z cc own nL ret d mc ms B (n + 1) (k + N) (pc + 3) L (.ref q :: st) (S ++ [(q, .inl (Z.2.2.1 2, N, .inr (.inr (.inr (.inr (fun _ => none))))))])) : V RW Z cc own nL ret d mc ms B n k pc L (.int x :: st) S := by
  intro p e s m args below meth c S0 po hB hk H locs ls hP hD hS hl
  have hO2 : vAO s := by rw [hB] at hO; exact hO
  refine va_newq (D := Z.2.1) (C := "CarryShifts$Carrying") hk.1 hk.2.1 hk.2.2.2.1 (hk.2.2.2.2.1 _ hw) hO2.1 hk.2.2.2.2.2.2.2.1 hP hD hS (fun q h => Or.inr h) hn hN hb h1 h2 hd (fun q cA H1 hK1 hP1 hD1 hS1 => ?_)
  obtain ⟨_, _, _, _, _, e1⟩ := (hK1.2 4 (cA, .object "CarryShifts$Carrying") rfl).2
  obtain ⟨_, _, _, _, _, e2⟩ := (hk.2.2.2.2.2.2.2.1.2 2 _ rfl).2
  have e3 : cA = Z.2.2.1 2 := Option.some.inj (e1.symm.trans e2)
  rw [e3] at hP1 hD1
  exact kk q p e s m args below meth c S0 po hB hk H1 locs ls hP1 hD1 hS1 hl
theorem R_newQ1 {Z : VZ} {cc : ByteArray} {own : String} {nL : Nat} {ret : Option FieldType} {d mc ms : Nat} {B : VB va_W} {n k pc : Nat} {L : List (Nat × Value)} {st : List Value} {S : va_W} {x : Int32} {idx : Nat} (hO : vAOB B) (N : Nat) (hw : Cond.classLink own idx "CarryShifts$Sheet" ∈ uw) (hn : ¬ x < 0) (hN : x.toNatClampNeg = N) (hb : N * 4 ≤ 536870912) (h1 : n + 1 ≤ mc) (h2 : k + N ≤ ms) (hd : decode cc pc = .ok (.anewarray idx, 3)) (kk : ∀ q : Nat, V RW Z cc own nL ret d mc ms B (n + 1) (k + N) (pc + 3) L (.ref q :: st) (S ++ [(q, .inl (Z.2.2.1 3, N, .inr (.inr (.inr (.inr (fun _ => none))))))])) : V RW Z cc own nL ret d mc ms B n k pc L (.int x :: st) S := by
  intro p e s m args below meth c S0 po hB hk H locs ls hP hD hS hl
  have hO2 : vAO s := by rw [hB] at hO; exact hO
  refine va_newq (D := Z.2.1) (C := "CarryShifts$Sheet") hk.1 hk.2.1 hk.2.2.2.1 (hk.2.2.2.2.1 _ hw) hO2.2.1 hk.2.2.2.2.2.2.2.1 hP hD hS (fun q h => Or.inr h) hn hN hb h1 h2 hd (fun q cA H1 hK1 hP1 hD1 hS1 => ?_)
  obtain ⟨_, _, _, _, _, e1⟩ := (hK1.2 4 (cA, .object "CarryShifts$Sheet") rfl).2
  obtain ⟨_, _, _, _, _, e2⟩ := (hk.2.2.2.2.2.2.2.1.2 3 _ rfl).2
  have e3 : cA = Z.2.2.1 3 := Option.some.inj (e1.symm.trans e2)
  rw [e3] at hP1 hD1
  exact kk q p e s m args below meth c S0 po hB hk H1 locs ls hP1 hD1 hS1 hl
theorem R_new {Z : VZ} {cc : ByteArray} {nL : Nat} {ret : Option FieldType} {d mc ms : Nat} {B : VB va_W} {n k pc : Nat} {L : List (Nat × Value)} {st : List Value} {S : va_W} {own C : String} {T : u_T} {N ci idx : Nat} {fs : List Value} (hin : ∀ w ∈ u_ws C T N, w ∈ uw) (ty0 : Nat → FieldType) (hty : ∀ k, k < N → parseFieldDescriptor (T k).2.2.1 = some (ty0 k)) (hc : vwCl[ci]? = some (C, T, N)) (h1 : Cond.classLink own idx C ∈ uw) (h2 : Cond.instantiable C N ∈ uw) (h3 : Cond.initialized C ∈ uw) (hfs : ∀ j, j < N → defaultValue (ty0 j) = vp_V fs j) (hm1 : n + 1 ≤ mc) (hm2 : k + N ≤ ms) (hd : decode cc pc = .ok (.new idx, 3)) (kk : ∀ q : Nat, V RW Z cc own nL ret d mc ms B (n + 1) (k + N) (pc + 3) L (.ref q :: st) (S ++ [(q, .inr (ci, fs))])) : V RW Z cc own nL ret d mc ms B n k pc L st S := by
  intro p e s m args below meth c S0 po hB hk H locs ls hP hD hS hl
  exact va_new (D := Z.2.1) (ci := ci) (fs := fs) (C := C) (T := T) (N := N) hk.1 hk.2.1 hk.2.2.2.2.1 hin ty0 hty hk.2.2.2.1 (hk.2.2.2.2.1 _ h1) (hk.2.2.2.2.1 _ h2) (hk.2.2.2.2.1 _ h3) hk.2.2.2.2.2.2.2.1 hP hD hS (fun q h => Or.inr h) hc hfs hm1 hm2 hd (fun q H1 hP1 hD1 hS1 => kk q p e s m args below meth c S0 po hB hk H1 locs ls hP1 hD1 hS1 hl)
theorem R_alen {Z : VZ} {cc : ByteArray} {own : String} {nL : Nat} {ret : Option FieldType} {d mc ms : Nat} {B : VB va_W} {n k pc : Nat} {L : List (Nat × Value)} {st : List Value} {S : va_W} {a : Nat} {cA : ClassId} {x : vp_A} {ty : FieldType} {v : Int32} (q0 t0 : Nat) (he : S[q0]? = some (a, .inl (cA, x))) (ht : (vzT Z)[t0]? = some (cA, ty)) (hv : Int32.ofNat x.1 = v) (hd : decode cc pc = .ok (.arraylength, 1)) (kk : V RW Z cc own nL ret d mc ms B n k (pc + 1) L (.int v :: st) S) : V RW Z cc own nL ret d mc ms B n k pc L (.ref a :: st) S := by
  intro p e s m args below meth c S0 po hB hk H locs ls hP hD hS hl
  exact va_alen (D := Z.2.1) hk.1 hk.2.1 hk.2.2.2.2.2.2.2.1 hP q0 t0 he ht hv hd (kk p e s m args below meth c S0 po hB hk H locs ls hP hD hS hl)
theorem R_iast {Z : VZ} {cc : ByteArray} {own : String} {nL : Nat} {ret : Option FieldType} {d mc ms : Nat} {B : VB va_W} {n k pc : Nat} {L : List (Nat × Value)} {st : List Value} {S : va_W} {a N : Nat} {cA : ClassId} {f : Nat → Int32} {i x : Int32} (q0 t0 : Nat) (he : S[q0]? = some (a, .inl (cA, N, .inl f))) (ht : (vzT Z)[t0]? = some (cA, .int)) (hi : vp_in i N) (hd : decode cc pc = .ok (.iastore, 1)) (kk : V RW Z cc own nL ret d mc ms B n k (pc + 1) L st (S.set q0 (a, .inl (cA, N, .inl (upd f i.toNatClampNeg x))))) : V RW Z cc own nL ret d mc ms B n k pc L (.int x :: .int i :: .ref a :: st) S := by
  intro p e s m args below meth c S0 po hB hk H locs ls hP hD hS hl
  exact va_iast (D := Z.2.1) hk.1 hk.2.1 hk.2.2.2.2.2.2.2.1 hP hD hS q0 t0 he ht hi hd (fun H locs hP hD hS => kk p e s m args below meth c S0 po hB hk H locs ls hP hD hS hl)
theorem R_astq {Z : VZ} {cc : ByteArray} {own : String} {nL : Nat} {ret : Option FieldType} {d mc ms : Nat} {B : VB va_W} {n k pc : Nat} {L : List (Nat × Value)} {st : List Value} {S : va_W} {a v N ci : Nat} {cA : ClassId} {r : vw_C} {vs : List Value} {f : Nat → Option Nat} {i : Int32} (q0 t0 qk : Nat) (he : S[q0]? = some (a, .inl (cA, N, .inr (.inr (.inr (.inr f)))))) (ht : (vzT Z)[t0]? = some (cA, .object r.1)) (hv : S[qk]? = some (v, .inr (ci, vs))) (hc : vwCl[ci]? = some r) (hi : vp_in i N) (hd : decode cc pc = .ok (.aastore, 1)) (kk : V RW Z cc own nL ret d mc ms B n k (pc + 1) L st (S.set q0 (a, .inl (cA, N, .inr (.inr (.inr (.inr (va_up f i.toNatClampNeg (some v))))))))) : V RW Z cc own nL ret d mc ms B n k pc L (.ref v :: .int i :: .ref a :: st) S := by
  intro p e s m args below meth c S0 po hB hk H locs ls hP hD hS hl
  exact va_astq (D := Z.2.1) hk.1 hk.2.1 hk.2.2.2.2.2.2.2.1 hP hD hS q0 t0 qk ci he ht hv hc hi hd (fun H locs hP hD hS => kk p e s m args below meth c S0 po hB hk H locs ls hP hD hS hl)
/-- other cells of the same heap: fewer, in another order -/
theorem R_sub {Z : VZ} {cc : ByteArray} {own : String} {nL : Nat} {ret : Option FieldType} {d mc ms : Nat} {B : VB va_W} {n k pc : Nat} {L : List (Nat × Value)} {st : List Value} {S : va_W} (S' : va_W) (is : List Nat) (hn : va_nd is = true) (h1 : is.filterMap (fun i => S[i]?) = S') (h2 : is.map (fun i => S[i]?) = S'.map some) (kk : V RW Z cc own nL ret d mc ms B n k pc L st S') : V RW Z cc own nL ret d mc ms B n k pc L st S := by
  intro p e s m args below meth c S0 po hB hk H locs ls hP hD hS hl
  exact kk p e s m args below meth c S0 po hB hk H locs ls (va_P.sub hP is h1) (va_D.sub hD is hn h2) hS hl
/-- the same cells, told otherwise -/
theorem R_same {Z : VZ} {cc : ByteArray} {own : String} {nL : Nat} {ret : Option FieldType} {d mc ms : Nat} {B : VB va_W} {n k pc : Nat} {L : List (Nat × Value)} {st : List Value} {S : va_W} (S' : va_W) (ha : S'.map (fun q => q.1) = S.map (fun q => q.1)) (hx : ∀ (D : va_G) (H : Heap), va_P D vwCl S H → va_P D vwCl S' H) (kk : V RW Z cc own nL ret d mc ms B n k pc L st S') : V RW Z cc own nL ret d mc ms B n k pc L st S := by
  intro p e s m args below meth c S0 po hB hk H locs ls hP hD hS hl
  have ad : ∀ (i : Nat) (q : Nat × va_E), S'[i]? = some q → ∃ e, S[i]? = some (q.1, e) := fun i q h => by
    have e1 : (S'.map (fun q => q.1))[i]? = some q.1 := by rw [List.getElem?_map, h]; rfl
    rw [ha, List.getElem?_map] at e1
    cases z : S[i]? with
    | none => rw [z] at e1; cases e1
    | some r =>
      rw [z] at e1
      have e2 : r.1 = q.1 := Option.some.inj e1
      exact ⟨r.2, by rw [← e2]⟩
  refine kk p e s m args below meth c S0 po hB hk H locs ls (hx _ _ hP) ⟨fun i j p q h1 h2 h3 => ?_, fun i q h => ?_⟩ hS hl
  · obtain ⟨e1, z1⟩ := ad i p h1
    obtain ⟨e2, z2⟩ := ad j q h2
    exact hD.1 i j _ _ z1 z2 h3
  · obtain ⟨e1, z1⟩ := ad i q h
    exact hD.2 i (q.1, e1) z1
/-! the frame: what a call leaves as it was -/
theorem va_l {D : va_G} {cl : List vw_C} {wr wc : va_W} {H : Heap} (hP : va_P D cl (wr ++ wc) H) : va_P D cl wr H := fun k q h => hP k q (by rw [List.getElem?_append_left (List.getElem?_eq_some_iff.mp h).1]; exact h)
theorem va_r {D : va_G} {cl : List vw_C} {wr wc : va_W} {H : Heap} (hP : va_P D cl (wr ++ wc) H) : va_P D cl wc H := fun k q h => hP (wr.length + k) q (by rw [List.getElem?_append_right (by omega), show wr.length + k - wr.length = k by omega]; exact h)
theorem vd_l {A : Nat → Prop} {wr wc : va_W} (hD : va_D A (wr ++ wc)) : va_D A wr := ⟨fun i j p q h1 h2 h3 => hD.1 i j p q (by rw [List.getElem?_append_left (List.getElem?_eq_some_iff.mp h1).1]; exact h1) (by rw [List.getElem?_append_left (List.getElem?_eq_some_iff.mp h2).1]; exact h2) h3, fun k q h => hD.2 k q (by rw [List.getElem?_append_left (List.getElem?_eq_some_iff.mp h).1]; exact h)⟩
theorem vd_r {A : Nat → Prop} {wr wc : va_W} (hD : va_D A (wr ++ wc)) : va_D A wc := by
  have at' : ∀ (k : Nat) (q : Nat × va_E), wc[k]? = some q → (wr ++ wc)[wr.length + k]? = some q := fun k q h => by rw [List.getElem?_append_right (by omega), show wr.length + k - wr.length = k by omega]; exact h
  refine ⟨fun i j p q h1 h2 h3 => ?_, fun k q h => hD.2 _ q (at' k q h)⟩
  have := hD.1 _ _ p q (at' i p h1) (at' j q h2) h3
  omega
theorem vd_x {A : Nat → Prop} {wr wc : va_W} (hD : va_D A (wr ++ wc)) (i j : Nat) (p q : Nat × va_E) (h1 : wr[i]? = some p) (h2 : wc[j]? = some q) : p.1 ≠ q.1 := fun e => by
  have l := (List.getElem?_eq_some_iff.mp h1).1
  have := hD.1 i (wr.length + j) p q (by rw [List.getElem?_append_left l]; exact h1) (by rw [List.getElem?_append_right (by omega), show wr.length + j - wr.length = j by omega]; exact h2) e
  omega
theorem va_swap {D : va_G} {cl : List vw_C} {wr wc : va_W} {H : Heap} (hP : va_P D cl (wr ++ wc) H) : va_P D cl (wc ++ wr) H := (va_r hP).app (va_l hP)
theorem vd_swap {A : Nat → Prop} {wr wc : va_W} (hD : va_D A (wr ++ wc)) : va_D A (wc ++ wr) := (vd_r hD).app (vd_l hD) (fun i j p q h1 h2 e => vd_x hD j i q p h2 h1 e.symm)
theorem join3 {A0 : Nat → Prop} {D : va_G} {cl : List vw_C} {wr wc w1 : va_W} {H H1 : Heap} (hP : va_P D cl (wr ++ wc) H) (hD : va_D A0 (wr ++ wc)) (hk : ∀ q : Nat, q < H.size → ¬ va_A wc H.size q → H1[q]? = H[q]?) (hF : ∀ q, va_A wc H.size q → A0 q) (hP1 : va_P D cl w1 H1) (hD1 : va_D (va_A wc H.size) w1) : va_P D cl (wr ++ w1) H1 ∧ va_D A0 (wr ++ w1) := by
  have out : ∀ (k : Nat) (q : Nat × va_E), wr[k]? = some q → q.1 < H.size ∧ ¬ va_A wc H.size q.1 := fun k q h => by
    have l := (va_l hP k q h).lt
    refine ⟨l, ?_⟩
    rintro (⟨j, e, z⟩ | z)
    · exact vd_x hD k j q (q.1, e) h z rfl
    · omega
  refine ⟨((va_l hP).kept (fun k q h => hk q.1 (out k q h).1 (out k q h).2)).app hP1, (vd_l hD).app (hD1.weaken (fun _ q _ h => hF _ h)) (fun i j p q h1 h2 e => ?_)⟩
  exact (out i p h1).2 (by rw [e]; exact hD1.2 j q h2)
theorem tailF {St' : Type} {Wd' : VZ → St' → va_W} {Z' : VZ} {p : Program} {l : Launch} {e : Env} {R : Room} {s : State} {m : MethodId} {args : Array Value} {below : List Frame} {meth : Method} {c : Code} {H0 H : Heap} {locs : List Loc} {n k mc' ms' pc : Nat} {Q : State → Prop} {ls : Array Slot} {rest st0 : List Value} {a : Array Value} {S' : St'} {po' : Option Value → St' → Prop} {A0 : Nat → Prop} {wr : va_W}
    (hr : va_Run p l e R s m args below meth c H locs n k mc' ms' (F0 m pc ls st0) rest (vQ Wd' Z' po' (va_A (Wd' Z' S') H.size) a) (va_A (Wd' Z' S') H.size)) (hS : va_S A0 H0 H locs) (hA0 : ∀ q, H0.size ≤ q → A0 q) (hP : va_P Z'.2.1 vwCl (wr ++ Wd' Z' S') H) (hD : va_D A0 (wr ++ Wd' Z' S'))
    (kk : ∀ (v : Option Value) (S1 : St') (H1 : Heap) (locs1 : List Loc), po' v S1 → va_P Z'.2.1 vwCl (wr ++ Wd' Z' S1) H1 → va_D A0 (wr ++ Wd' Z' S1) → va_S A0 H0 H1 locs1 → W p l e R s m args below meth c H1 locs1 (n + mc') (k + ms') Q (F0 m (pc + 3) ls (v.toList ++ rest))) : W p l e R s m args below meth c H locs n k Q (F0 m pc ls st0) := by
  have hA : ∀ q, va_A (Wd' Z' S') H.size q → A0 q := by
    rintro q (⟨i, e9, hi⟩ | hq)
    · exact (vd_r hD).2 i _ hi
    · exact hA0 q (Nat.le_trans hS.1 hq)
  intro T hT X
  obtain ⟨v, st₀, t, T', L, h0, X', hL, e1, e2, ⟨⟨r, u, hv, hp, hb, hK, hDu⟩, hz, hkk⟩, st⟩ := hr T hT X
  cases hv
  rw [h0] at hz hkk
  obtain ⟨j1, j2⟩ := join3 (H1 := T'.heap) hP hD (fun q h1 h2 => by rw [e1]; exact hkk q h1 h2) hA (by rw [e1]; exact hb) hDu
  obtain ⟨t2, a1, b1⟩ := kk v u T'.heap (locs ++ L) hp j1 j2 ⟨Nat.le_trans hS.1 (by rw [e1]; exact hz), fun q h1 h2 => by rw [e1, hkk q (Nat.lt_of_lt_of_le h1 hS.1) (fun z => h2 (hA q z))]; exact hS.2.1 q h1 h2, fun q hq => by
      rcases List.mem_append.mp hq with h | h
      · exact hS.2.2 q h
      · exact hA _ (hL q h)⟩ T' rfl X'
  exact ⟨t2, st t2 a1, b1⟩
theorem R_callI {Z : VZ} {cc : ByteArray} {own : String} {nL : Nat} {ret : Option FieldType} {d mc ms : Nat} {B : VB va_W} {n k pc : Nat} {L : List (Nat × Value)} {st : List Value} {S : va_W} {y : MethodName} {cc' : ByteArray} {nL' idx : Nat} {d' mc' ms' : Nat} {b : Nat} {po' : Option Value → va_W → Prop} (hO : vAOB B) (wr wc : va_W) (hd : decode cc pc = .ok (.invokespecial idx, 3)) (hw : S = wr ++ wc) (hC : Ct RW Z y cc' nL' none d' mc' ms' [.ref b] wc po') (hN : ∀ U, vAO U → va_Nw (.methodLinkNest own idx y "CarryShifts") U) (k1 : Cond.instanceMethod y ∈ uw) (k2 : Cond.code y cc' nL' none ∈ uw) (k3 : Cond.initialized y.cls ∈ uw) (k4 : y.name = "<init>") (k5 : y.cls ≠ "java/lang/invoke/MethodHandle" ∧ y.cls ≠ "java/lang/invoke/VarHandle" ∧ (parseMethodDescriptor y.desc).map (fun d => d.parameters.length) = some 0) (hrm : (st.map fun v => v.category).sum ≤ 8) (hdd : d' + 1 ≤ d) (hll : 8 + (nL' + 11) + 100 * d' ≤ 100 * d) (hmc : n + mc' ≤ mc) (hms : k + ms' ≤ ms) (kk : ∀ (v : Option Value) (S' : va_W), po' v S' → V RW Z cc own nL ret d mc ms B (n + mc') (k + ms') (pc + 3) L (v.toList ++ st) (wr ++ S')) : V RW Z cc own nL ret d mc ms B n k pc L (.ref b :: st) S := by
  intro p e s m args below meth c S0 po hB hk H locs ls hP hD hS hl
  have hts := hk.2.2.2.2.1
  have hO2 : vAO s := by rw [hB] at hO; exact hO
  have hP : va_P Z.2.1 vwCl (wr ++ wc) H := by rw [← hw]; exact hP
  have hD : va_D (va_A S0 s.heap.size) (wr ++ wc) := by rw [← hw]; exact hD
  exact tailF (Wd' := RW) (Z' := Z) (wr := wr) (S' := wc) (va_runIN (host := "CarryShifts") (b := b) (As := []) (rest := st) ⟨hk.1, hk.2.1, hk.2.2.1, hk.2.2.2.1, hts⟩ (hC H.size) ⟨va_cnB 0 hts (goodU k2) rfl rfl rfl (hN s hO2) (hts _ k3) k5 ⟨hdd, hll⟩, k4, hts _ k1⟩ ⟨V_blind, fun U hU hW => ⟨rfl, by rw [hU], by rw [hU]; exact va_r hP, vKK.moved hW.alike hk.2.2.2.2.2.2.2, (vd_r hD).weaken (fun _ _ _ _ => trivial)⟩⟩ rfl rfl hl.1 rfl (lv_room hrm) hd ⟨hmc, hms⟩) hS (fun q h => Or.inr h) hP hD (fun v S' H1 locs1 hp hP hD hS => kk v S' hp p e s m args below meth c S0 po hB hk H1 locs1 ls hP hD hS hl)
/-- a contract that wants the arrays of references -/
def CtO {St : Type} (Wd : VZ → St → va_W) (Z : VZ) (y : MethodName) (cc : ByteArray) (nL : Nat) (ret : Option FieldType) (d mc ms : Nat) (av : List Value) (S0 : St) (po : Option Value → St → Prop) : Prop :=
  ∀ sz : Nat, Met Z.1 y (.code y cc nL ret :: uw) (rmd d mc ms) (va_Pc av (fun U => U.heap.size = sz ∧ va_P Z.2.1 vwCl (Wd Z S0) U.heap ∧ vKK Z U ∧ va_D (fun _ => True) (Wd Z S0) ∧ vAO U)) (vQ Wd Z po (va_A (Wd Z S0) sz)) mc ms (va_A (Wd Z S0) sz)
theorem vAO.same {u U : State} (h : u.vm = U.vm) (k : vAO u) : vAO U := ⟨va_AO.moved (by rw [h]; exact Vm.Alike.refl _) k.1, va_AO.moved (by rw [h]; exact Vm.Alike.refl _) k.2.1, va_Nw.same rfl h k.2.2.1, va_Nw.same rfl h k.2.2.2.1, va_Nw.same rfl h k.2.2.2.2.1, va_Nw.same rfl h k.2.2.2.2.2⟩
theorem vAO.warm {u U : State} (h : u.WarmedH U.vm) (k : vAO u) : vAO U := ⟨va_AO.moved h.alike k.1, va_AO.moved h.alike k.2.1, va_Nw.warmM h k.2.2.1, va_Nw.warmM h k.2.2.2.1, va_Nw.warmM h k.2.2.2.2.1, va_Nw.warmM h k.2.2.2.2.2⟩
theorem V_blindO {St : Type} {Wd : VZ → St → va_W} {Z : VZ} {av : List Value} {S : St} {sz : Nat} : FrameBlind (va_Pc av (fun U => U.heap.size = sz ∧ va_P Z.2.1 vwCl (Wd Z S) U.heap ∧ vKK Z U ∧ va_D (fun _ => True) (Wd Z S) ∧ vAO U)) := fun a U g mk q => by
  obtain ⟨q0, q1, qP, qK, qD, qO⟩ := q
  exact ⟨q0, q1, qP, vKK.moved (u := U) (U := U.calling g mk a) (Vm.Alike.refl U.vm) qK, qD, vAO.same (u := U) (U := U.calling g mk a) rfl qO⟩
theorem V_entryO {Z : VZ} {y : MethodName} {cc : ByteArray} {own : String} {nL : Nat} {ret : Option FieldType} {d mc ms : Nat} {av : List Value} {S0 : va_W} {po : Option Value → va_W → Prop} (hpn : plainName y.cls = true) (ho : y.cls = own) (hlen : (lg_sl av).length ≤ nL)
    (body : ∀ B : VB va_W, (∀ (v : Option Value) (S : va_W), po v S → vpo B v S) → vName B = y.name → vAOB B → V RW Z cc own nL ret d mc ms B 0 0 0 (lv_args 0 av) [] S0) : CtO RW Z y cc nL ret d mc ms av S0 po := by
  intro sz
  refine Met.ofW (cc := cc) (maxL := nL) (ret := ret) hpn rfl ?_
  intro p e s m args below meth c s₁ Bd hml hv
  obtain ⟨rfl, hsz, hP, hK, hD0, hO⟩ := hv
  subst hsz
  subst ho
  have hts := atoms_spec (ws := .code y cc nL ret :: uw) Bd.pre
  have X := body (p, e, s, m, av.toArray, below, meth, c, S0, po) (fun v S h => h) (name_of_methodNamed Bd.named Bd.method).1 hO p e s m _ below meth c S0 po rfl ⟨Bd.exec, Bd.bytes, hml, findClass_of_methodNamed Bd.named, fun w hw => hts w (List.mem_cons_of_mem _ hw), Bd.returns, Bd.notSynchronized, hK⟩ s.heap [] _ hP hD0.self va_S.rf (lv_entry av hlen)
  rw [lg_entry_eq]
  exact X
