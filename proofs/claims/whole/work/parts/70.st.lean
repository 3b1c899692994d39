/-! the six words: String constants, taken as they stand at the start; nothing of ours writes there -/
def stL : List Nat := [7, 5, 5, 4, 4, 4]
def stB : List (List Int32) := [[109, 97, 99, 104, 105, 110, 101], [115, 116, 97, 116, 101], [99, 97, 114, 114, 121], [116, 97, 112, 115], [115, 116, 101, 112], [100, 114, 111, 112]]
def stT (i : Nat) : String := ["machine", "state", "carry", "taps", "step", "drop"].getD i ""
def sAd (Z : VZ) (i : Nat) : Nat := Z.2.2.2 (200 + i)
def sAv (Z : VZ) (i : Nat) : Nat := Z.2.2.2 (210 + i)
def ixC (i : Nat) : Nat := [84, 86, 88, 90, 92, 94].getD i 0
def ixM (i : Nat) : Nat := [259, 261, 262, 263, 264, 266].getD i 0
abbrev fmN : String := "jdk/internal/util/Preconditions"
abbrev fmD : String := "Ljava/util/function/BiFunction;"
def vStA (Z : VZ) (A : Nat → Prop) (s : State) : Prop := vk_S 6 stL stB (sAd Z) (sAv Z) A s s.heap ∧ va_Z "java/lang/String" "COMPACT_STRINGS" "Z" (.int 1) A s s.heap ∧ va_Zq fmN "SIOOBE_FORMATTER" fmD A s s.heap ∧ (∀ i, i < 6 → vk_R "CarryShifts$Script" (ixC i) (stT i) (sAd Z i) s) ∧ (∀ i, i < 6 → vk_R "CarryShiftsModel" (ixM i) (stT i) (sAd Z i) s)
theorem vStA.go {Z : VZ} {A A' : Nat → Prop} {s U : State} {H : Heap} {locs : List Loc} (h : vStA Z A s) (hW : s.WarmedH U.vm) (hU : U.heap = H) (hS : va_S A s.heap H locs) (hA : ∀ q, A' q → A q) : vStA Z A' U := by
  refine ⟨?_, ?_, ?_, fun i hi => (h.2.2.2.1 i hi).warm hW, fun i hi => (h.2.2.2.2 i hi).warm hW⟩
  · rw [hU]; exact ((h.1.moved hW.alike).kept hS.2.1).narrow hA
  · rw [hU]; exact ((h.2.1.moved hW.alike).kept hS.2.1).narrow hA
  · rw [hU]; exact ((h.2.2.1.moved hW.alike).kept hS.2.1).narrow hA
def vSt {St : Type} (Wd : VZ → St → va_W) (Z : VZ) (S0 : St) (s : State) : Prop := vStA Z (va_A (Wd Z S0) s.heap.size) s
def vStB {St : Type} (Wd : VZ → St → va_W) (Z : VZ) (B : VB St) : Prop := vSt Wd Z B.2.2.2.2.2.2.2.2.1 B.2.2.1
def CtS {St : Type} (Wd : VZ → St → va_W) (Z : VZ) (y : MethodName) (cc : ByteArray) (nL : Nat) (ret : Option FieldType) (d mc ms : Nat) (av : List Value) (S0 : St) (po : Option Value → St → Prop) : Prop :=
  ∀ sz : Nat, Met Z.1 y (.code y cc nL ret :: uw) (rmd d mc ms) (va_Pc av (fun U => U.heap.size = sz ∧ va_P Z.2.1 vwCl (Wd Z S0) U.heap ∧ vKK Z U ∧ va_D (fun _ => True) (Wd Z S0) ∧ vSt Wd Z S0 U)) (vQ Wd Z po (va_A (Wd Z S0) sz)) mc ms (va_A (Wd Z S0) sz)
theorem V_blindS {St : Type} {Wd : VZ → St → va_W} {Z : VZ} {av : List Value} {S : St} {sz : Nat} : FrameBlind (va_Pc av (fun U => U.heap.size = sz ∧ va_P Z.2.1 vwCl (Wd Z S) U.heap ∧ vKK Z U ∧ va_D (fun _ => True) (Wd Z S) ∧ vSt Wd Z S U)) := fun a U g mk q => by
  obtain ⟨q0, q1, qP, qK, qD, qT⟩ := q
  exact ⟨q0, q1, qP, vKK.moved (u := U) (U := U.calling g mk a) (Vm.Alike.refl U.vm) qK, qD, vk_S.moved (u := U) (U := U.calling g mk a) (Vm.Alike.refl U.vm) qT.1, va_Z.moved (u := U) (U := U.calling g mk a) (Vm.Alike.refl U.vm) qT.2.1, va_Zq.moved (u := U) (U := U.calling g mk a) (Vm.Alike.refl U.vm) qT.2.2.1, fun i hi => vk_R.same (u := U) (U := U.calling g mk a) rfl (qT.2.2.2.1 i hi), fun i hi => vk_R.same (u := U) (U := U.calling g mk a) rfl (qT.2.2.2.2 i hi)⟩
theorem V_entryS {St : Type} {Wd : VZ → St → va_W} {Z : VZ} {y : MethodName} {cc : ByteArray} {own : String} {nL : Nat} {ret : Option FieldType} {d mc ms : Nat} {av : List Value} {S0 : St} {po : Option Value → St → Prop} (hpn : plainFor y = true) (ho : y.cls = own) (hlen : (lg_sl av).length ≤ nL)
    (body : ∀ B : VB St, (∀ (v : Option Value) (S : St), po v S → vpo B v S) → vStB Wd Z B → V Wd Z cc own nL ret d mc ms B 0 0 0 (lv_args 0 av) [] S0) : CtS Wd Z y cc nL ret d mc ms av S0 po := by
  intro sz
  refine ofWF (cc := cc) (maxL := nL) (ret := ret) hpn rfl ?_
  intro p e s m args below meth c s₁ Bd hml hv
  obtain ⟨rfl, hsz, hP, hK, hD0, hT⟩ := hv
  subst hsz
  subst ho
  have hts := atoms_spec (ws := .code y cc nL ret :: uw) Bd.pre
  have X := body (p, e, s, m, av.toArray, below, meth, c, S0, po) (fun v S h => h) hT p e s m _ below meth c S0 po rfl ⟨Bd.exec, Bd.bytes, hml, findClass_of_methodNamed Bd.named, fun w hw => hts w (List.mem_cons_of_mem _ hw), Bd.returns, Bd.notSynchronized, hK⟩ s.heap [] _ hP hD0.self va_S.rf (lv_entry av hlen)
  rw [lg_entry_eq]
  exact X
theorem vSt_go {St : Type} {Wd : VZ → St → va_W} {Z : VZ} {S0 S : St} {s U : State} {H : Heap} {locs : List Loc} (h : vSt Wd Z S0 s) (hW : s.WarmedH U.vm) (hU : U.heap = H) (hS : va_S (va_A (Wd Z S0) s.heap.size) s.heap H locs) (hD : va_D (va_A (Wd Z S0) s.heap.size) (Wd Z S)) : vSt Wd Z S U := by
  refine vStA.go h hW hU hS ?_
  rintro q (⟨i, e9, hi⟩ | hq)
  · exact hD.2 i _ hi
  · rw [hU] at hq
    exact Or.inr (Nat.le_trans hS.1 hq)
theorem V_callSS {St : Type} {Wd : VZ → St → va_W} {Z : VZ} {cc : ByteArray} {own : String} {nL : Nat} {ret : Option FieldType} {d mc ms : Nat} {B : VB St} {n k pc : Nat} {L : List (Nat × Value)} {st : List Value} {S : St} {y : MethodName} {cc' : ByteArray} {nL' idx : Nat} {ret' : Option FieldType} {d' mc' ms' : Nat} {av stk : List Value} {po' : Option Value → St → Prop} (hst : vStB Wd Z B) (hd : decode cc pc = .ok (.invokestatic idx, 3)) (hC : CtS Wd Z y cc' nL' ret' d' mc' ms' av S po') (lk : LkS own idx y cc' nL' ret' av.length) (hstk : stk = av.reverse ++ st) (hrm : (st.map fun v => v.category).sum ≤ 8) (hdd : d' + 1 ≤ d) (hll : 8 + (nL' + 11) + 100 * d' ≤ 100 * d) (hmc : n + mc' ≤ mc) (hms : k + ms' ≤ ms) (kk : ∀ (v : Option Value) (S' : St), po' v S' → V Wd Z cc own nL ret d mc ms B (n + mc') (k + ms') (pc + 3) L (v.toList ++ st) S') : V Wd Z cc own nL ret d mc ms B n k pc L stk S := by
  intro p e s m args below meth c S0 po hB hk H locs ls hP hD hS hl
  have hT : vSt Wd Z S0 s := by subst hB; exact hst
  have hts := hk.2.2.2.2.1
  exact V_tail (va_runS (As := av) (rest := st) ⟨hk.1, hk.2.1, hk.2.2.1, hk.2.2.2.1, hts⟩ (hC H.size) ⟨callB_of av.length hts (goodU lk.2.2.1) rfl rfl rfl (hts _ lk.2.2.2.1) (hts _ lk.1) lk.2.2.2.2 ⟨hdd, hll⟩, hts _ lk.2.1⟩ ⟨V_blindS, fun U hU hW => ⟨rfl, by rw [hU], by rw [hU]; exact hP, vKK.moved hW.alike hk.2.2.2.2.2.2.2, hD.weaken (fun _ _ _ _ => trivial), vSt_go hT hW hU hS hD⟩⟩ rfl rfl hl.1 hstk (lv_room hrm) hd ⟨hmc, hms⟩) hS hD (fun v S' H1 locs1 hp hP hD hS => kk v S' hp p e s m args below meth c S0 po hB hk H1 locs1 ls hP hD hS hl)
theorem V_callVS {St : Type} {Wd : VZ → St → va_W} {Z : VZ} {cc : ByteArray} {own : String} {nL : Nat} {ret : Option FieldType} {d mc ms : Nat} {B : VB St} {n k pc : Nat} {L : List (Nat × Value)} {st : List Value} {S : St} {y : MethodName} {cc' : ByteArray} {nL' idx : Nat} {ret' : Option FieldType} {d' mc' ms' : Nat} {av stk : List Value} {po' : Option Value → St → Prop} {b q0 ci N : Nat} {C : String} {T : u_T} {fs : List Value} (hst : vStB Wd Z B) (hd : decode cc pc = .ok (.invokevirtual idx, 3)) (hC : CtS Wd Z y cc' nL' ret' d' mc' ms' (.ref b :: av) S po') (lk : LkV own idx y cc' nL' ret' av.length) (hw : (Wd Z S)[q0]? = some (b, .inr (ci, fs))) (hc : vwCl[ci]? = some (C, T, N)) (hcy : C = y.cls) (hstk : stk = av.reverse ++ .ref b :: st) (hrm : (st.map fun v => v.category).sum ≤ 8) (hdd : d' + 1 ≤ d) (hll : 8 + (nL' + 11) + 100 * d' ≤ 100 * d) (hmc : n + mc' ≤ mc) (hms : k + ms' ≤ ms) (kk : ∀ (v : Option Value) (S' : St), po' v S' → V Wd Z cc own nL ret d mc ms B (n + mc') (k + ms') (pc + 3) L (v.toList ++ st) S') : V Wd Z cc own nL ret d mc ms B n k pc L stk S := by
  intro p e s m args below meth c S0 po hB hk H locs ls hP hD hS hl
  have hT : vSt Wd Z S0 s := by subst hB; exact hst
  have hts := hk.2.2.2.2.1
  subst hcy
  exact V_tail (va_runV (As := av) (rest := st) ⟨hk.1, hk.2.1, hk.2.2.1, hk.2.2.2.1, hts⟩ (hC H.size) ⟨callB_of av.length hts (goodU lk.2.2.2.1) rfl rfl rfl (hts _ lk.2.2.2.2.1) (hts _ lk.1) lk.2.2.2.2.2 ⟨hdd, hll⟩, hts _ lk.2.1, hts _ lk.2.2.1⟩ ⟨V_blindS, va_recv (q := (y.cls, T, N)) hk.2.2.2.2.2.2.2.1 hP hc hw, fun U hU hW => ⟨rfl, by rw [hU], by rw [hU]; exact hP, vKK.moved hW.alike hk.2.2.2.2.2.2.2, hD.weaken (fun _ _ _ _ => trivial), vSt_go hT hW hU hS hD⟩⟩ rfl rfl hl.1 hstk (lv_room hrm) hd ⟨hmc, hms⟩) hS hD (fun v S' H1 locs1 hp hP hD hS => kk v S' hp p e s m args below meth c S0 po hB hk H1 locs1 ls hP hD hS hl)
theorem V_callK {St : Type} {Wd : VZ → St → va_W} {Z : VZ} {cc : ByteArray} {own : String} {nL : Nat} {ret : Option FieldType} {d mc ms : Nat} {B : VB St} {n k pc : Nat} {L : List (Nat × Value)} {st : List Value} {S : St} {y : MethodName} {cc' : ByteArray} {nL' idx : Nat} {ret' : Option FieldType} {d' mc' ms' : Nat} {av stk : List Value} {po' : Option Value → St → Prop} {i : Nat} (hst : vStB Wd Z B) (hi : i < 6) (hd : decode cc pc = .ok (.invokevirtual idx, 3)) (hC : CtS Wd Z y cc' nL' ret' d' mc' ms' (.ref (sAd Z i) :: av) S po') (lk : LkV own idx y cc' nL' ret' av.length) (hcy : y.cls = "java/lang/String") (hstk : stk = av.reverse ++ .ref (sAd Z i) :: st) (hrm : (st.map fun v => v.category).sum ≤ 8) (hdd : d' + 1 ≤ d) (hll : 8 + (nL' + 11) + 100 * d' ≤ 100 * d) (hmc : n + mc' ≤ mc) (hms : k + ms' ≤ ms) (kk : ∀ (v : Option Value) (S' : St), po' v S' → V Wd Z cc own nL ret d mc ms B (n + mc') (k + ms') (pc + 3) L (v.toList ++ st) S') : V Wd Z cc own nL ret d mc ms B n k pc L stk S := by
  intro p e s m args below meth c S0 po hB hk H locs ls hP hD hS hl
  have hT : vSt Wd Z S0 s := by subst hB; exact hst
  have hts := hk.2.2.2.2.1
  have lk3 := lk.2.2.1
  rw [hcy] at lk3
  exact V_tail (va_runV (C := "java/lang/String") (As := av) (rest := st) ⟨hk.1, hk.2.1, hk.2.2.1, hk.2.2.2.1, hts⟩ (hC H.size) ⟨callB_of av.length hts (goodU lk.2.2.2.1) rfl rfl rfl (hts _ lk.2.2.2.2.1) (hts _ lk.1) lk.2.2.2.2.2 ⟨hdd, hll⟩, hts _ lk.2.1, hts _ lk3⟩ ⟨V_blindS, vk_recv hT.1 hi hS, fun U hU hW => ⟨rfl, by rw [hU], by rw [hU]; exact hP, vKK.moved hW.alike hk.2.2.2.2.2.2.2, hD.weaken (fun _ _ _ _ => trivial), vSt_go hT hW hU hS hD⟩⟩ rfl rfl hl.1 hstk (lv_room hrm) hd ⟨hmc, hms⟩) hS hD (fun v S' H1 locs1 hp hP hD hS => kk v S' hp p e s m args below meth c S0 po hB hk H1 locs1 ls hP hD hS hl)
theorem V_sval {St : Type} {Wd : VZ → St → va_W} {Z : VZ} {cc : ByteArray} {nL : Nat} {ret : Option FieldType} {d mc ms : Nat} {B : VB St} {n k pc : Nat} {L : List (Nat × Value)} {st : List Value} {S : St} {i : Nat} (hst : vStB Wd Z B) (hi : i < 6) (hd : decode cc pc = .ok (.getfield 9, 3)) (kk : V Wd Z cc "java/lang/String" nL ret d mc ms B n k (pc + 3) L (.ref (sAv Z i) :: st) S) : V Wd Z cc "java/lang/String" nL ret d mc ms B n k pc L (.ref (sAd Z i) :: st) S := by
  intro p e s m args below meth c S0 po hB hk H locs ls hP hD hS hl
  have hT : vSt Wd Z S0 s := by subst hB; exact hst
  exact vk_getf hk.1 hk.2.1 (hT.1.1 i hi).2.2.1 hS hk.2.2.2.1 (hk.2.2.2.2.1 _ tw_1318) (fun _ h9 => h9) hd (kk p e s m args below meth c S0 po hB hk H locs ls hP hD hS hl)
theorem V_scod {St : Type} {Wd : VZ → St → va_W} {Z : VZ} {cc : ByteArray} {nL : Nat} {ret : Option FieldType} {d mc ms : Nat} {B : VB St} {n k pc : Nat} {L : List (Nat × Value)} {st : List Value} {S : St} {i : Nat} (hst : vStB Wd Z B) (hi : i < 6) (hd : decode cc pc = .ok (.getfield 15, 3)) (kk : V Wd Z cc "java/lang/String" nL ret d mc ms B n k (pc + 3) L (.int 0 :: st) S) : V Wd Z cc "java/lang/String" nL ret d mc ms B n k pc L (.ref (sAd Z i) :: st) S := by
  intro p e s m args below meth c S0 po hB hk H locs ls hP hD hS hl
  have hT : vSt Wd Z S0 s := by subst hB; exact hst
  exact vk_getf hk.1 hk.2.1 (hT.1.1 i hi).2.1 hS hk.2.2.2.1 (hk.2.2.2.2.1 _ tw_1319) (fun _ h9 => h9) hd (kk p e s m args below meth c S0 po hB hk H locs ls hP hD hS hl)
theorem V_slen {St : Type} {Wd : VZ → St → va_W} {Z : VZ} {cc : ByteArray} {own : String} {nL : Nat} {ret : Option FieldType} {d mc ms : Nat} {B : VB St} {n k pc : Nat} {L : List (Nat × Value)} {st : List Value} {S : St} {i : Nat} (hst : vStB Wd Z B) (hi : i < 6) (hd : decode cc pc = .ok (.arraylength, 1)) (kk : V Wd Z cc own nL ret d mc ms B n k (pc + 1) L (.int (nI (stL.getD i 0)) :: st) S) : V Wd Z cc own nL ret d mc ms B n k pc L (.ref (sAv Z i) :: st) S := by
  intro p e s m args below meth c S0 po hB hk H locs ls hP hD hS hl
  have hT : vSt Wd Z S0 s := by subst hB; exact hst
  exact va_tlen hk.1 hk.2.1 (hT.1.1 i hi).2.2.2 hS rfl hd (kk p e s m args below meth c S0 po hB hk H locs ls hP hD hS hl)
theorem V_sbl {St : Type} {Wd : VZ → St → va_W} {Z : VZ} {cc : ByteArray} {own : String} {nL : Nat} {ret : Option FieldType} {d mc ms : Nat} {B : VB St} {n k pc : Nat} {L : List (Nat × Value)} {st : List Value} {S : St} {i : Nat} {j : Int32} (hst : vStB Wd Z B) (hi : i < 6) (hin : vp_in j (stL.getD i 0)) (hd : decode cc pc = .ok (.baload, 1)) (kk : V Wd Z cc own nL ret d mc ms B n k (pc + 1) L (.int ((stB.getD i []).getD j.toNatClampNeg 0) :: st) S) : V Wd Z cc own nL ret d mc ms B n k pc L (.int j :: .ref (sAv Z i) :: st) S := by
  intro p e s m args below meth c S0 po hB hk H locs ls hP hD hS hl
  have hT : vSt Wd Z S0 s := by subst hB; exact hst
  exact va_tb hk.1 hk.2.1 (hT.1.1 i hi).2.2.2 hS hin rfl hd (kk p e s m args below meth c S0 po hB hk H locs ls hP hD hS hl)
theorem V_gcs {St : Type} {Wd : VZ → St → va_W} {Z : VZ} {cc : ByteArray} {nL : Nat} {ret : Option FieldType} {d mc ms : Nat} {B : VB St} {n k pc : Nat} {L : List (Nat × Value)} {st : List Value} {S : St} (hst : vStB Wd Z B) (hd : decode cc pc = .ok (.getstatic 38, 3)) (kk : V Wd Z cc "java/lang/String" nL ret d mc ms B n k (pc + 3) L (.int 1 :: st) S) : V Wd Z cc "java/lang/String" nL ret d mc ms B n k pc L st S := by
  intro p e s m args below meth c S0 po hB hk H locs ls hP hD hS hl
  have hT : vSt Wd Z S0 s := by subst hB; exact hst
  exact va_gets hk.1 hk.2.1 hT.2.1 hS hk.2.2.2.1 (hk.2.2.2.2.1 _ tw_737) (fun _ h9 => h9) hd (kk p e s m args below meth c S0 po hB hk H locs ls hP hD hS hl)
theorem V_gfm {St : Type} {Wd : VZ → St → va_W} {Z : VZ} {cc : ByteArray} {nL : Nat} {ret : Option FieldType} {d mc ms : Nat} {B : VB St} {n k pc : Nat} {L : List (Nat × Value)} {st : List Value} {S : St} (hst : vStB Wd Z B) (hd : decode cc pc = .ok (.getstatic 1053, 3)) (k1 : V Wd Z cc "java/lang/String" nL ret d mc ms B n k (pc + 3) L (.null :: st) S) (k2 : ∀ t : Nat, V Wd Z cc "java/lang/String" nL ret d mc ms B n k (pc + 3) L (.ref t :: st) S) : V Wd Z cc "java/lang/String" nL ret d mc ms B n k pc L st S := by
  intro p e s m args below meth c S0 po hB hk H locs ls hP hD hS hl
  have hT : vSt Wd Z S0 s := by subst hB; exact hst
  rcases hT.2.2.1 with h | ⟨t, h⟩
  · exact va_gets hk.1 hk.2.1 h hS hk.2.2.2.1 (hk.2.2.2.2.1 _ tw_753) (fun _ h9 => h9) hd (k1 p e s m args below meth c S0 po hB hk H locs ls hP hD hS hl)
  · exact va_gets hk.1 hk.2.1 h hS hk.2.2.2.1 (hk.2.2.2.2.1 _ tw_753) (fun _ h9 => h9) hd (k2 t p e s m args below meth c S0 po hB hk H locs ls hP hD hS hl)
theorem V_ldcS {St : Type} {Wd : VZ → St → va_W} {Z : VZ} {cc : ByteArray} {nL : Nat} {ret : Option FieldType} {d mc ms : Nat} {B : VB St} {n k pc : Nat} {L : List (Nat × Value)} {st : List Value} {S : St} {i idx : Nat} (hst : vStB Wd Z B) (hi : i < 6) (hix : ixC i = idx) (hd : decode cc pc = .ok (.ldc idx, 2)) (kk : V Wd Z cc RX7 nL ret d mc ms B n k (pc + 2) L (.ref (sAd Z i) :: st) S) : V Wd Z cc RX7 nL ret d mc ms B n k pc L st S := by
  intro p e s m args below meth c S0 po hB hk H locs ls hP hD hS hl
  have hT : vSt Wd Z S0 s := by subst hB; exact hst
  subst hix
  exact va_ldcS hk.1 hk.2.1 hk.2.2.2.1 (hT.2.2.2.1 i hi) hd (kk p e s m args below meth c S0 po hB hk H locs ls hP hD hS hl)
theorem sw_ldc {p : Program} {l : Launch} {e : Env} {R : Room} {s : State} {m : MethodId} {args : Array Value} {below : List Frame} {meth : Method} {c : Code} {T : State} {locs : List Loc} {cells slots : Nat}
    (X : Stand p l e R s m args below meth c T locs cells slots) (hexec : p.tables.exec = Jvm.exec) {own text : String} {index : Nat} {a : Addr} (hown : s.vm.findClass own = some m.cls)
    (hconst : (Cond.stringRef own index text).before args s = true) (hev : (Term.string own index).eval args s none [] s = some (.ref a)) {g : JFrame} (hg : g.method = m) (hdg : decode c.code g.pc = .ok (.ldc_w index, 3)) :
    ∀ target, Steps p.tables e below (T.setTop { g with pc := g.pc + 3, stack := .ref a :: g.stack }) target → Steps p.tables e below (T.setTop g) target := by
  obtain ⟨k, cf, i, a', hk, hcf, hcp, -, hr, hev'⟩ := Cond.stringRef_spec hown hconst
  cases hev.symm.trans hev'
  obtain ⟨k', hk', he⟩ := X.warmed.alike.2.2 _ _ hk
  have hr' : k'.resolved[index]? = some (some (.string a)) := by
    rcases X.warmed.entry hk hk' index with h | ⟨h, -⟩
    · rw [h]; exact hr
    · rw [hr] at h; cases h
  intro target hrest
  subst hg
  jvm_step X.here [hexec, hdg, ldc_w.wp_string (e := e) (s := T) (f := g) X.here.top hk' (by rw [he]; exact hcf) hcp hr']
  exact hrest
theorem V_ldcWS {St : Type} {Wd : VZ → St → va_W} {Z : VZ} {cc : ByteArray} {nL : Nat} {ret : Option FieldType} {d mc ms : Nat} {B : VB St} {n k pc : Nat} {L : List (Nat × Value)} {st : List Value} {S : St} {i idx : Nat} (hst : vStB Wd Z B) (hi : i < 6) (hix : ixM i = idx) (hd : decode cc pc = .ok (.ldc_w idx, 3)) (kk : V Wd Z cc RX11 nL ret d mc ms B n k (pc + 3) L (.ref (sAd Z i) :: st) S) : V Wd Z cc RX11 nL ret d mc ms B n k pc L st S := by
  intro p e s m args below meth c S0 po hB hk H locs ls hP hD hS hl
  have hT : vSt Wd Z S0 s := by subst hB; exact hst
  subst hix
  have hZ := hT.2.2.2.2 i hi
  intro T hT9 X
  obtain ⟨t, a1, b1⟩ := (kk p e s m args below meth c S0 po hB hk H locs ls hP hD hS hl) T hT9 X
  exact ⟨t, sw_ldc X hk.1 hk.2.2.2.1 (text := stT i) (a := sAd Z i) hZ.1 hZ.2 (g := F0 m pc ls st) rfl (by rw [hk.2.1]; exact hd) t a1, b1⟩
theorem V_cret {St : Type} {Wd : VZ → St → va_W} {Z : VZ} {cc : ByteArray} {own : String} {nL : Nat} {d mc ms : Nat} {B : VB St} {n k pc : Nat} {L : List (Nat × Value)} {S : St} {v : Int32} {ty : FieldType} (hd : decode cc pc = .ok (.ireturn, 1)) (hn : n ≤ mc) (hm : k ≤ ms) (hz : narrow ty (.int v) = .int v) (hp : vpo B (some (.int v)) S) : V Wd Z cc own nL (some ty) d mc ms B n k pc L [.int v] S := by
  intro p e s m args below meth c S0 po hB hk H locs ls hP hD hS hl
  subst hB
  refine W.widen hn hm ?_
  exact W.zret hk.1 hk.2.1 hk.2.2.2.2.2.1 hz (fun t ht hW => ⟨⟨_, S, rfl, hp, by rw [ht]; exact hP, vKK.moved hW.alike hk.2.2.2.2.2.2.2, hD⟩, hS.F ht⟩) hS.2.2 hd hk.2.2.2.2.2.2.1
