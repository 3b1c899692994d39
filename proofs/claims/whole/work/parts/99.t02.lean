/-! THE CLAIM OUT OF ONE WALK OF THE LAW'S BODY. Your part is whole_start (and what it stands on); all else here is the same for every law, but numbers. -/
def R_law : String := "CarryShiftsLaw"
def lw_P (b : Addr) (xs : List Int32) (args : Array Value) (s : State) : Prop := args = #[.ref b] ∧ s.IntsAt b xs ∧ xs.length ≤ 3584 ∧ (Jvm.Cond.and given_1 narrow_1).before args s = true
def lw_Q (_ : Array Value) (s : State) (o : Outcome) (t : State) : Prop := o = .returned (some (.int 1)) ∧ Framed s o t [] 624007 7230226
def lw_Z (below : List Frame) (a : Array Value) (s : State) : State → Prop := fun t => ∃ o, t.status = .running ∧ Ended t below o ∧ lw_Q a s o t
/-- the law's own end, with 1 on the stack, nothing written that was there before, its room as the claim has it -/
theorem lw_ret {p : Program} {l : Launch} {e : Env} {s : State} {m : MethodId} {below : List Frame} {meth : Method} {c : Code} {b : Nat} (hx : p.tables.exec = Jvm.exec) (hb : c.code = code) (hr : meth.sig.returnType = ret) (hlocks : meth.locks = false) {pc : Nat} {H : Heap} {ls : Array Slot} (hdg : decode code pc = .ok (.ireturn, 1)) : W p l e room_1 s m #[Value.ref b] below meth c H [] 624007 7230226 (lw_Z below #[Value.ref b] s) (F0 m pc ls [.int 1]) := by
  intro T hT X
  obtain ⟨fs, hret, hrun, hended, hW, hframe⟩ := X.leave (v := some (.int 1)) (hlocks := hlocks) (fun h => by rw [hr] at h; cases h)
  have hmeth' : T.vm.method? m = some meth := X.method'
  refine ⟨T.setFrames fs, ?_, .returned (some (.int 1)), hrun, hended, rfl, ⟨_, rfl⟩, hW, hframe⟩
  jvm_step X.here [X.here.top, hx, hb, hdg, hmeth', hr, ret, narrow_b1]
  (try refine ⟨rfl, ?_⟩); (try refine ⟨rfl, ?_⟩)
  first | (intro acts; rw [hret _ acts rfl rfl rfl]) | rw [hret _ _ rfl rfl rfl]
  exact Steps.refl _
/-- what holds at the law's entry: the machine, the code, the tables' words (any of lw_tbl by 'hts w (by decide +kernel)'), the script of L ints xs at the cell b, what the Statement gives of the start (any of its parts by flat_of_before) -/
def lw_At (p : Program) (s : State) (m : MethodId) (meth : Method) (c : Code) (b L : Nat) (xs : Nat → Int32) : Prop :=
  p.tables.exec = Jvm.exec ∧ c.code = code ∧ meth.sig.returnType = ret ∧ c.maxLocals = 4 ∧ s.vm.findClass R_law = some m.cls ∧ (∀ w ∈ lw_tbl, w.before #[Value.ref b] s = true) ∧ va_X b L xs s s.heap ∧ b < s.heap.size ∧ meth.locks = false ∧ (Jvm.Cond.and given_1 narrow_1).before #[Value.ref b] s = true
/-! the law: the machine at a place of the law's method, over a raw world -/
abbrev zz (Z : VZ) (z : Nat → Nat) : VZ := (Z.1, Z.2.1, Z.2.2.1, z)
def LK (Z : VZ) (p : Program) (s : State) (m : MethodId) (meth : Method) (c : Code) (b L : Nat) (xs : Nat → Int32) : Prop :=
  p.tables.exec = Jvm.exec ∧ c.code = cL_law ∧ c.maxLocals = 4 ∧ s.vm.findClass RL = some m.cls ∧ (∀ w ∈ uw, w.before #[Value.ref b] s = true) ∧ meth.sig.returnType = ret ∧ meth.locks = false ∧ vKK Z s ∧ va_X b L xs s s.heap ∧ b < s.heap.size ∧ vStA Z (fun q => s.heap.size ≤ q) s ∧ vAO s
def VL (Z : VZ) (b L : Nat) (xs : Nat → Int32) (n k pc : Nat) (Lc : List (Nat × Value)) (st : List Value) (S : va_W) : Prop :=
  ∀ (p : Program) (e : Env) (s : State) (m : MethodId) (below : List Frame) (meth : Method) (c : Code), LK Z p s m meth c b L xs →
    ∀ (H : Heap) (locs : List Loc) (ls : Array Slot), va_P Z.2.1 vwCl S H → va_D (fun q => s.heap.size ≤ q) S → va_S (fun q => s.heap.size ≤ q) s.heap H locs → lv_has ls 4 Lc →
      W p Z.1 e room_1 s m #[Value.ref b] below meth c H locs n k (lw_Z below #[Value.ref b] s) (F0 m pc ls st)
theorem L_aload_n {Z : VZ} {b L : Nat} {xs : Nat → Int32} {n k pc : Nat} {Lc : List (Nat × Value)} {st : List Value} {S : va_W} {kq : Fin 4} {i x : Nat} (hd : decode cL_law pc = .ok (.aload_n kq, 1)) (q : Nat) (hL : Lc[q]? = some (i, .ref x)) (hi : (kq : Nat) = i) (kk : VL Z b L xs n k (pc + 1) Lc (.ref x :: st) S) : VL Z b L xs n k pc Lc st S := by
  intro p e s m below meth c hk H locs ls hP hD hS hl
  exact lv_aload_n hk.1 hk.2.1 hd hi (lv_at hl q hL) (kk p e s m below meth c hk H locs ls hP hD hS hl)
theorem L_iload_n {Z : VZ} {b L : Nat} {xs : Nat → Int32} {n k pc : Nat} {Lc : List (Nat × Value)} {st : List Value} {S : va_W} {kq : Fin 4} {i : Nat} {x : Int32} (hd : decode cL_law pc = .ok (.iload_n kq, 1)) (q : Nat) (hL : Lc[q]? = some (i, .int x)) (hi : (kq : Nat) = i) (kk : VL Z b L xs n k (pc + 1) Lc (.int x :: st) S) : VL Z b L xs n k pc Lc st S := by
  intro p e s m below meth c hk H locs ls hP hD hS hl
  exact lv_iload_n hk.1 hk.2.1 hd hi (lv_at hl q hL) (kk p e s m below meth c hk H locs ls hP hD hS hl)
theorem L_iconst {Z : VZ} {b L : Nat} {xs : Nat → Int32} {n k pc : Nat} {Lc : List (Nat × Value)} {st : List Value} {S : va_W} {vn : Int} {v : Int32} (hd : decode cL_law pc = .ok (.iconst vn, 1)) (hv : Int32.ofInt vn = v) (kk : VL Z b L xs n k (pc + 1) Lc (.int v :: st) S) : VL Z b L xs n k pc Lc st S := by
  intro p e s m below meth c hk H locs ls hP hD hS hl
  exact lv_iconst hk.1 hk.2.1 hd hv (kk p e s m below meth c hk H locs ls hP hD hS hl)
theorem L_bipush {Z : VZ} {b L : Nat} {xs : Nat → Int32} {n k pc : Nat} {Lc : List (Nat × Value)} {st : List Value} {S : va_W} {vn : Int} {v : Int32} (hd : decode cL_law pc = .ok (.bipush vn, 2)) (hv : (Int8.ofInt vn).toInt32 = v) (kk : VL Z b L xs n k (pc + 2) Lc (.int v :: st) S) : VL Z b L xs n k pc Lc st S := by
  intro p e s m below meth c hk H locs ls hP hD hS hl
  exact lv_bipush hk.1 hk.2.1 hd hv (kk p e s m below meth c hk H locs ls hP hD hS hl)
theorem L_iadd {Z : VZ} {b L : Nat} {xs : Nat → Int32} {n k pc : Nat} {Lc : List (Nat × Value)} {st : List Value} {S : va_W} {x y : Int32} (hd : decode cL_law pc = .ok (.iadd, 1)) (kk : VL Z b L xs n k (pc + 1) Lc (.int (x + y) :: st) S) : VL Z b L xs n k pc Lc (.int y :: .int x :: st) S := by
  intro p e s m below meth c hk H locs ls hP hD hS hl
  exact lv_iadd hk.1 hk.2.1 hd (kk p e s m below meth c hk H locs ls hP hD hS hl)
theorem L_isub {Z : VZ} {b L : Nat} {xs : Nat → Int32} {n k pc : Nat} {Lc : List (Nat × Value)} {st : List Value} {S : va_W} {x y : Int32} (hd : decode cL_law pc = .ok (.isub, 1)) (kk : VL Z b L xs n k (pc + 1) Lc (.int (x - y) :: st) S) : VL Z b L xs n k pc Lc (.int y :: .int x :: st) S := by
  intro p e s m below meth c hk H locs ls hP hD hS hl
  exact lv_isub hk.1 hk.2.1 hd (kk p e s m below meth c hk H locs ls hP hD hS hl)
theorem L_iand {Z : VZ} {b L : Nat} {xs : Nat → Int32} {n k pc : Nat} {Lc : List (Nat × Value)} {st : List Value} {S : va_W} {x y : Int32} (hd : decode cL_law pc = .ok (.iand, 1)) (kk : VL Z b L xs n k (pc + 1) Lc (.int (x &&& y) :: st) S) : VL Z b L xs n k pc Lc (.int y :: .int x :: st) S := by
  intro p e s m below meth c hk H locs ls hP hD hS hl
  exact lv_iand hk.1 hk.2.1 hd (kk p e s m below meth c hk H locs ls hP hD hS hl)
theorem L_dup {Z : VZ} {b L : Nat} {xs : Nat → Int32} {n k pc : Nat} {Lc : List (Nat × Value)} {st : List Value} {S : va_W} {va : Value} (hd : decode cL_law pc = .ok (.dup, 1)) (hva : va.category = 1) (kk : VL Z b L xs n k (pc + 1) Lc (va :: va :: st) S) : VL Z b L xs n k pc Lc (va :: st) S := by
  intro p e s m below meth c hk H locs ls hP hD hS hl
  exact lv_dup hk.1 hk.2.1 hd hva (kk p e s m below meth c hk H locs ls hP hD hS hl)
theorem L_lcmp {Z : VZ} {b L : Nat} {xs : Nat → Int32} {n k pc : Nat} {Lc : List (Nat × Value)} {st : List Value} {S : va_W} {x y : Int64} (hd : decode cL_law pc = .ok (.lcmp, 1)) (kk : VL Z b L xs n k (pc + 1) Lc (.int (lg_cmp x y) :: st) S) : VL Z b L xs n k pc Lc (.long y :: .long x :: st) S := by
  intro p e s m below meth c hk H locs ls hP hD hS hl
  exact W.lcmp hk.1 hk.2.1 hd (kk p e s m below meth c hk H locs ls hP hD hS hl)
theorem L_goto {Z : VZ} {b L : Nat} {xs : Nat → Int32} {n k pc : Nat} {Lc : List (Nat × Value)} {st : List Value} {S : va_W} {off : Int} {tgt : Nat} (hd : decode cL_law pc = .ok (.goto off, 3)) (ht : (pc : Int) + off = (tgt : Int)) (kk : VL Z b L xs n k tgt Lc st S) : VL Z b L xs n k pc Lc st S := by
  intro p e s m below meth c hk H locs ls hP hD hS hl
  exact lv_goto hk.1 hk.2.1 hd ht (kk p e s m below meth c hk H locs ls hP hD hS hl)
theorem L_icmp_eq {Z : VZ} {b L : Nat} {xs : Nat → Int32} {n k pc : Nat} {Lc : List (Nat × Value)} {st : List Value} {S : va_W} {x y : Int32} {off : Int} {tgt : Nat} (hd : decode cL_law pc = .ok (.if_icmp .eq off, 3)) (ht : (pc : Int) + off = (tgt : Int)) (kt : x = y → VL Z b L xs n k tgt Lc st S) (kf : ¬ x = y → VL Z b L xs n k (pc + 3) Lc st S) : VL Z b L xs n k pc Lc (.int y :: .int x :: st) S := by
  intro p e s m below meth c hk H locs ls hP hD hS hl
  exact lv_icmp_eq hk.1 hk.2.1 hd ht (fun z => kt z p e s m below meth c hk H locs ls hP hD hS hl) (fun z => kf z p e s m below meth c hk H locs ls hP hD hS hl)
theorem L_icmp_gt {Z : VZ} {b L : Nat} {xs : Nat → Int32} {n k pc : Nat} {Lc : List (Nat × Value)} {st : List Value} {S : va_W} {x y : Int32} {off : Int} {tgt : Nat} (hd : decode cL_law pc = .ok (.if_icmp .gt off, 3)) (ht : (pc : Int) + off = (tgt : Int)) (kt : y < x → VL Z b L xs n k tgt Lc st S) (kf : ¬ y < x → VL Z b L xs n k (pc + 3) Lc st S) : VL Z b L xs n k pc Lc (.int y :: .int x :: st) S := by
  intro p e s m below meth c hk H locs ls hP hD hS hl
  exact lv_icmp_gt hk.1 hk.2.1 hd ht (fun z => kt z p e s m below meth c hk H locs ls hP hD hS hl) (fun z => kf z p e s m below meth c hk H locs ls hP hD hS hl)
theorem L_if_eq {Z : VZ} {b L : Nat} {xs : Nat → Int32} {n k pc : Nat} {Lc : List (Nat × Value)} {st : List Value} {S : va_W} {x : Int32} {off : Int} {tgt : Nat} (hd : decode cL_law pc = .ok (.ifCond .eq off, 3)) (ht : (pc : Int) + off = (tgt : Int)) (kt : x = 0 → VL Z b L xs n k tgt Lc st S) (kf : ¬ x = 0 → VL Z b L xs n k (pc + 3) Lc st S) : VL Z b L xs n k pc Lc (.int x :: st) S := by
  intro p e s m below meth c hk H locs ls hP hD hS hl
  exact lv_if_eq hk.1 hk.2.1 hd ht (fun z => kt z p e s m below meth c hk H locs ls hP hD hS hl) (fun z => kf z p e s m below meth c hk H locs ls hP hD hS hl)
theorem L_tableIn {Z : VZ} {b L : Nat} {xs : Nat → Int32} {n k pc : Nat} {Lc : List (Nat × Value)} {st : List Value} {S : va_W} {dflt lo hi : Int} {offs : Array Int} {len : Nat} {x : Int32} {off : Int} {tgt : Nat} (hd : decode cL_law pc = .ok (.tableswitch dflt lo hi offs, len)) (h1 : ¬ x.toInt < lo) (h2 : ¬ hi < x.toInt) (ho : offs[(x.toInt - lo).toNat]? = some off) (ht : (pc : Int) + off = (tgt : Int)) (kk : VL Z b L xs n k tgt Lc st S) : VL Z b L xs n k pc Lc (.int x :: st) S := by
  intro p e s m below meth c hk H locs ls hP hD hS hl
  exact lv_tableIn hk.1 hk.2.1 hd h1 h2 ho ht (kk p e s m below meth c hk H locs ls hP hD hS hl)
theorem L_tableOut {Z : VZ} {b L : Nat} {xs : Nat → Int32} {n k pc : Nat} {Lc : List (Nat × Value)} {st : List Value} {S : va_W} {dflt lo hi : Int} {offs : Array Int} {len : Nat} {x : Int32} {tgt : Nat} (hd : decode cL_law pc = .ok (.tableswitch dflt lo hi offs, len)) (h : x.toInt < lo ∨ hi < x.toInt) (ht : (pc : Int) + dflt = (tgt : Int)) (kk : VL Z b L xs n k tgt Lc st S) : VL Z b L xs n k pc Lc (.int x :: st) S := by
  intro p e s m below meth c hk H locs ls hP hD hS hl
  exact lv_tableOut hk.1 hk.2.1 hd h ht (kk p e s m below meth c hk H locs ls hP hD hS hl)
theorem L_istore_n {Z : VZ} {b L : Nat} {xs : Nat → Int32} {n k pc : Nat} {Lc : List (Nat × Value)} {st : List Value} {S : va_W} {kq : Fin 4} {i : Nat} {x : Int32} (L2 : List (Nat × Value)) (hd : decode cL_law pc = .ok (.istore_n kq, 1)) (hi : (kq : Nat) = i) (hn : i < 4) (hL : (i, Value.int x) :: Lc.filter (fun q => !(q.1 == i) && !(q.1 + 1 == i && q.2.category == 2)) = L2) (kk : VL Z b L xs n k (pc + 1) L2 st S) : VL Z b L xs n k pc Lc (.int x :: st) S := by
  intro p e s m below meth c hk H locs ls hP hD hS hl
  exact lv_istore_n (lv' := L2) hk.1 hk.2.1 hd hi hl hn hL (fun ls hl => (kk p e s m below meth c hk H locs ls hP hD hS hl))
theorem L_astore_n {Z : VZ} {b L : Nat} {xs : Nat → Int32} {n k pc : Nat} {Lc : List (Nat × Value)} {st : List Value} {S : va_W} {kq : Fin 4} {i : Nat} {x : Nat} (L2 : List (Nat × Value)) (hd : decode cL_law pc = .ok (.astore_n kq, 1)) (hi : (kq : Nat) = i) (hn : i < 4) (hL : (i, Value.ref x) :: Lc.filter (fun q => !(q.1 == i) && !(q.1 + 1 == i && q.2.category == 2)) = L2) (kk : VL Z b L xs n k (pc + 1) L2 st S) : VL Z b L xs n k pc Lc (.ref x :: st) S := by
  intro p e s m below meth c hk H locs ls hP hD hS hl
  exact lv_astore_n (lv' := L2) hk.1 hk.2.1 hd hi hl hn hL (fun ls hl => (kk p e s m below meth c hk H locs ls hP hD hS hl))
theorem L_iinc {Z : VZ} {b L : Nat} {xs : Nat → Int32} {n k pc : Nat} {Lc : List (Nat × Value)} {st : List Value} {S : va_W} {i q : Nat} {vn : Int} {x v : Int32} (L2 : List (Nat × Value)) (hd : decode cL_law pc = .ok (.iinc i vn, 3)) (hq : Lc[q]? = some (i, .int x)) (hv : x + Int32.ofInt vn = v) (hn : i < 4) (hL : (i, Value.int v) :: Lc.filter (fun q => !(q.1 == i) && !(q.1 + 1 == i && q.2.category == 2)) = L2) (kk : VL Z b L xs n k (pc + 3) L2 st S) : VL Z b L xs n k pc Lc st S := by
  intro p e s m below meth c hk H locs ls hP hD hS hl
  exact lv_iinc (lv' := L2) hk.1 hk.2.1 hd hl hq hv hn hL (fun ls hl => (kk p e s m below meth c hk H locs ls hP hD hS hl))
theorem L_slen {Z : VZ} {b L : Nat} {xs : Nat → Int32} {n k pc : Nat} {Lc : List (Nat × Value)} {st : List Value} {S : va_W} (hd : decode cL_law pc = .ok (.arraylength, 1)) (kk : VL Z b L xs n k (pc + 1) Lc (.int (nI L) :: st) S) : VL Z b L xs n k pc Lc (.ref b :: st) S := by
  intro p e s m below meth c hk H locs ls hP hD hS hl
  have hX := hk.2.2.2.2.2.2.2.2.1
  have hb := hk.2.2.2.2.2.2.2.2.2.1
  exact va_slen hk.1 hk.2.1 hX hb (Nat.not_le.mpr hb) hS hd (kk p e s m below meth c hk H locs ls hP hD hS hl)
theorem L_sld {Z : VZ} {b L : Nat} {xs : Nat → Int32} {n k pc : Nat} {Lc : List (Nat × Value)} {st : List Value} {S : va_W} {i : Nat} (hi : i < L) (hL : L < 2 ^ 31) (hd : decode cL_law pc = .ok (.iaload, 1)) (kk : VL Z b L xs n k (pc + 1) Lc (.int (xs i) :: st) S) : VL Z b L xs n k pc Lc (.int (nI i) :: .ref b :: st) S := by
  intro p e s m below meth c hk H locs ls hP hD hS hl
  have hX := hk.2.2.2.2.2.2.2.2.1
  have hb := hk.2.2.2.2.2.2.2.2.2.1
  have ec : (nI i).toNatClampNeg = i := nI_clamp (by omega)
  refine va_sld hk.1 hk.2.1 hX hb (Nat.not_le.mpr hb) hS (i := nI i) (vp_in_nI hi hL) hd ?_
  rw [ec]
  exact (kk p e s m below meth c hk H locs ls hP hD hS hl)
theorem L_arg {Z : VZ} {b L : Nat} {xs : Nat → Int32} {n k pc : Nat} {Lc : List (Nat × Value)} {st : List Value} {S : va_W} {i j q0 q1 : Nat} {vn : Int} (hL : L ≤ 3584) (hij : i + j < L) (h0 : Lc[q0]? = some (0, .ref b)) (h3 : Lc[q1]? = some (3, .int (nI i))) (hv : Int32.ofInt vn = nI j) (d1 : decode cL_law pc = .ok (.aload_n 0, 1)) (d2 : decode cL_law (pc + 1) = .ok (.iload_n 3, 1)) (d3 : decode cL_law (pc + 1 + 1) = .ok (.iconst vn, 1)) (d4 : decode cL_law (pc + 1 + 1 + 1) = .ok (.iadd, 1)) (d5 : decode cL_law (pc + 1 + 1 + 1 + 1) = .ok (.iaload, 1)) (kk : VL Z b L xs n k (pc + 1 + 1 + 1 + 1 + 1) Lc (.int (xs (i + j)) :: st) S) : VL Z b L xs n k pc Lc st S := by
  refine L_aload_n d1 q0 h0 rfl ?_
  refine L_iload_n d2 q1 h3 rfl ?_
  refine L_iconst d3 hv ?_
  refine L_iadd d4 ?_
  rw [nI_add]
  exact L_sld hij (by omega) d5 kk
theorem L_arg6 {Z : VZ} {b L : Nat} {xs : Nat → Int32} {n k pc : Nat} {Lc : List (Nat × Value)} {st : List Value} {S : va_W} {i j q0 q1 : Nat} {vn : Int} (hL : L ≤ 3584) (hij : i + j < L) (h0 : Lc[q0]? = some (0, .ref b)) (h3 : Lc[q1]? = some (3, .int (nI i))) (hv : (Int8.ofInt vn).toInt32 = nI j) (d1 : decode cL_law pc = .ok (.aload_n 0, 1)) (d2 : decode cL_law (pc + 1) = .ok (.iload_n 3, 1)) (d3 : decode cL_law (pc + 1 + 1) = .ok (.bipush vn, 2)) (d4 : decode cL_law (pc + 1 + 1 + 2) = .ok (.iadd, 1)) (d5 : decode cL_law (pc + 1 + 1 + 2 + 1) = .ok (.iaload, 1)) (kk : VL Z b L xs n k (pc + 1 + 1 + 2 + 1 + 1) Lc (.int (xs (i + j)) :: st) S) : VL Z b L xs n k pc Lc st S := by
  refine L_aload_n d1 q0 h0 rfl ?_
  refine L_iload_n d2 q1 h3 rfl ?_
  refine L_bipush d3 hv ?_
  refine L_iadd d4 ?_
  rw [nI_add]
  exact L_sld hij (by omega) d5 kk
theorem L_widen {Z : VZ} {b L : Nat} {xs : Nat → Int32} {n k pc : Nat} {Lc : List (Nat × Value)} {st : List Value} {S : va_W} {n' k' : Nat} (h1 : n ≤ n') (h2 : k ≤ k') (kk : VL Z b L xs n' k' pc Lc st S) : VL Z b L xs n k pc Lc st S := by
  intro p e s m below meth c hk H locs ls hP hD hS hl
  exact W.widen h1 h2 (kk p e s m below meth c hk H locs ls hP hD hS hl)
theorem L_swap {Z : VZ} {b L : Nat} {xs : Nat → Int32} {n k pc : Nat} {Lc : List (Nat × Value)} {st : List Value} {A B : va_W} (kk : VL Z b L xs n k pc Lc st (B ++ A)) : VL Z b L xs n k pc Lc st (A ++ B) := by
  intro p e s m below meth c hk H locs ls hP hD hS hl
  exact kk p e s m below meth c hk H locs ls (va_swap hP) (vd_swap hD) hS hl
theorem L_eqS {Z : VZ} {b L : Nat} {xs : Nat → Int32} {n k pc : Nat} {Lc : List (Nat × Value)} {st : List Value} {S : va_W} (S' : va_W) (h : S = S') (kk : VL Z b L xs n k pc Lc st S') : VL Z b L xs n k pc Lc st S := h ▸ kk
theorem L_end {Z : VZ} {b L : Nat} {xs : Nat → Int32} {n k pc : Nat} {Lc : List (Nat × Value)} {S : va_W} (hn : n ≤ 624007) (hk2 : k ≤ 7230226) (hd : decode cL_law pc = .ok (.ireturn, 1)) : VL Z b L xs n k pc Lc [.int 1] S := by
  intro p e s m below meth c hk H locs ls hP hD hS hl
  refine va_forget (fun q hq => hS.2.2 q hq) ?_
  refine W.widen hn hk2 ?_
  exact lw_ret hk.1 hk.2.1 hk.2.2.2.2.2.1 hk.2.2.2.2.2.2.1 hd
theorem L_new {Z : VZ} {b L : Nat} {xs : Nat → Int32} {n k pc : Nat} {Lc : List (Nat × Value)} {st : List Value} {S : va_W} {C : String} {T : u_T} {N ci idx : Nat} {fs : List Value} (hin : ∀ w ∈ u_ws C T N, w ∈ uw) (ty0 : Nat → FieldType) (hty : ∀ k, k < N → parseFieldDescriptor (T k).2.2.1 = some (ty0 k)) (hc : vwCl[ci]? = some (C, T, N)) (h1 : Cond.classLink RL idx C ∈ uw) (h2 : Cond.instantiable C N ∈ uw) (h3 : Cond.initialized C ∈ uw) (hfs : ∀ j, j < N → defaultValue (ty0 j) = vp_V fs j) (hm1 : n + 1 ≤ 624007) (hm2 : k + N ≤ 7230226) (hd : decode cL_law pc = .ok (.new idx, 3)) (kk : ∀ q : Nat, VL Z b L xs (n + 1) (k + N) (pc + 3) Lc (.ref q :: st) (S ++ [(q, .inr (ci, fs))])) : VL Z b L xs n k pc Lc st S := by
  intro p e s m below meth c hk H locs ls hP hD hS hl
  exact va_new (D := Z.2.1) (ci := ci) (fs := fs) (C := C) (T := T) (N := N) hk.1 hk.2.1 hk.2.2.2.2.1 hin ty0 hty hk.2.2.2.1 (hk.2.2.2.2.1 _ h1) (hk.2.2.2.2.1 _ h2) (hk.2.2.2.2.1 _ h3) hk.2.2.2.2.2.2.2.1.1 hP hD hS (fun q h => h) hc hfs hm1 hm2 hd (fun q H1 hP1 hD1 hS1 => kk q p e s m below meth c hk H1 locs ls hP1 hD1 hS1 hl)
theorem L_callIO {Z : VZ} {b L : Nat} {xs : Nat → Int32} {n k pc : Nat} {Lc : List (Nat × Value)} {st : List Value} {y : MethodName} {cc' : ByteArray} {nL' idx d' mc' ms' b' : Nat} {po' : Option Value → va_W → Prop} (wr wc : va_W) (hd : decode cL_law pc = .ok (.invokespecial idx, 3)) (hC : CtO RW Z y cc' nL' none d' mc' ms' [.ref b'] wc po') (lk : LkI RL idx y cc' nL' 0) (hrm : (st.map fun v => v.category).sum ≤ 8) (hdd : d' + 1 ≤ 2048) (hll : 8 + (nL' + 11) + 100 * d' ≤ 84000) (hmc : n + mc' ≤ 624007) (hms : k + ms' ≤ 7230226) (kk : ∀ (v : Option Value) (S' : va_W), po' v S' → VL Z b L xs (n + mc') (k + ms') (pc + 3) Lc (v.toList ++ st) (wr ++ S')) : VL Z b L xs n k pc Lc (.ref b' :: st) (wr ++ wc) := by
  intro p e s m below meth c hk H locs ls hP hD hS hl
  have hts := hk.2.2.2.2.1
  exact tailF (Wd' := RW) (Z' := Z) (wr := wr) (S' := wc) (va_runI (b := b') (As := []) (rest := st) ⟨hk.1, hk.2.1, hk.2.2.1, hk.2.2.2.1, hts⟩ (hC H.size) ⟨callB_of 0 hts (goodU lk.2.2.1) rfl rfl rfl (hts _ lk.2.2.2.1) (hts _ lk.1) lk.2.2.2.2.2 ⟨hdd, hll⟩, lk.2.2.2.2.1, hts _ lk.2.1⟩ ⟨V_blindO, fun U hU hW => ⟨rfl, by rw [hU], by rw [hU]; exact va_r hP, vKK.moved hW.alike hk.2.2.2.2.2.2.2.1, (vd_r hD).weaken (fun _ _ _ _ => trivial), vAO.warm hW hk.2.2.2.2.2.2.2.2.2.2.2⟩⟩ rfl rfl hl.1 rfl (lv_room hrm) hd ⟨hmc, hms⟩) hS (fun q h => h) hP hD (fun v S' H1 locs1 hp hP hD hS => kk v S' hp p e s m below meth c hk H1 locs1 ls hP hD hS hl)
theorem L_callI {Z : VZ} {b L : Nat} {xs : Nat → Int32} {n k pc : Nat} {Lc : List (Nat × Value)} {st : List Value} {y : MethodName} {cc' : ByteArray} {nL' idx d' mc' ms' b' : Nat} {po' : Option Value → va_W → Prop} (wr wc : va_W) (hd : decode cL_law pc = .ok (.invokespecial idx, 3)) (hC : Ct RW Z y cc' nL' none d' mc' ms' [.ref b'] wc po') (lk : LkI RL idx y cc' nL' 0) (hrm : (st.map fun v => v.category).sum ≤ 8) (hdd : d' + 1 ≤ 2048) (hll : 8 + (nL' + 11) + 100 * d' ≤ 84000) (hmc : n + mc' ≤ 624007) (hms : k + ms' ≤ 7230226) (kk : ∀ (v : Option Value) (S' : va_W), po' v S' → VL Z b L xs (n + mc') (k + ms') (pc + 3) Lc (v.toList ++ st) (wr ++ S')) : VL Z b L xs n k pc Lc (.ref b' :: st) (wr ++ wc) := by
  intro p e s m below meth c hk H locs ls hP hD hS hl
  have hts := hk.2.2.2.2.1
  exact tailF (Wd' := RW) (Z' := Z) (wr := wr) (S' := wc) (va_runI (b := b') (As := []) (rest := st) ⟨hk.1, hk.2.1, hk.2.2.1, hk.2.2.2.1, hts⟩ (hC H.size) ⟨callB_of 0 hts (goodU lk.2.2.1) rfl rfl rfl (hts _ lk.2.2.2.1) (hts _ lk.1) lk.2.2.2.2.2 ⟨hdd, hll⟩, lk.2.2.2.2.1, hts _ lk.2.1⟩ ⟨V_blind, fun U hU hW => ⟨rfl, by rw [hU], by rw [hU]; exact va_r hP, vKK.moved hW.alike hk.2.2.2.2.2.2.2.1, (vd_r hD).weaken (fun _ _ _ _ => trivial)⟩⟩ rfl rfl hl.1 rfl (lv_room hrm) hd ⟨hmc, hms⟩) hS (fun q h => h) hP hD (fun v S' H1 locs1 hp hP hD hS => kk v S' hp p e s m below meth c hk H1 locs1 ls hP hD hS hl)
theorem L_call {Z : VZ} {b L : Nat} {xs : Nat → Int32} {n k pc : Nat} {Lc : List (Nat × Value)} {st : List Value} {St' : Type} {Wd' : VZ → St' → va_W} {z : Nat → Nat} {wr : va_W} {S' : St'} {y : MethodName} {cc' : ByteArray} {nL' idx d' mc' ms' b' q0 ci N : Nat} {ret' : Option FieldType} {C : String} {T : u_T} {fs : List Value} {av stk : List Value} {po' : Option Value → St' → Prop} (hd : decode cL_law pc = .ok (.invokevirtual idx, 3)) (hC : Ct Wd' (zz Z z) y cc' nL' ret' d' mc' ms' (.ref b' :: av) S' po') {na : Nat} (lk : LkV RL idx y cc' nL' ret' na) (hna : av.length = na) (hw : (Wd' (zz Z z) S')[q0]? = some (b', .inr (ci, fs))) (hc : vwCl[ci]? = some (C, T, N)) (hcy : C = y.cls) (hstk : stk = av.reverse ++ .ref b' :: st) (hrm : (st.map fun v => v.category).sum ≤ 8) (hdd : d' + 1 ≤ 2048) (hll : 8 + (nL' + 11) + 100 * d' ≤ 84000) (hmc : n + mc' ≤ 624007) (hms : k + ms' ≤ 7230226) (kk : ∀ (v : Option Value) (S1 : St'), po' v S1 → VL Z b L xs (n + mc') (k + ms') (pc + 3) Lc (v.toList ++ st) (wr ++ Wd' (zz Z z) S1)) : VL Z b L xs n k pc Lc stk (wr ++ Wd' (zz Z z) S') := by
  intro p e s m below meth c hk H locs ls hP hD hS hl
  have hts := hk.2.2.2.2.1
  subst hcy
  exact tailF (Wd' := Wd') (Z' := zz Z z) (wr := wr) (S' := S') (va_runV (As := av) (rest := st) ⟨hk.1, hk.2.1, hk.2.2.1, hk.2.2.2.1, hts⟩ (hC H.size) ⟨callB_of na hts (goodU lk.2.2.2.1) rfl rfl rfl (hts _ lk.2.2.2.2.1) (hts _ lk.1) lk.2.2.2.2.2 ⟨hdd, hll⟩, hts _ lk.2.1, hts _ lk.2.2.1⟩ ⟨V_blind, va_recv (q := (y.cls, T, N)) hk.2.2.2.2.2.2.2.1.1 (va_r hP) hc hw, fun U hU hW => ⟨rfl, by rw [hU], by rw [hU]; exact va_r hP, vKK.moved hW.alike hk.2.2.2.2.2.2.2.1, (vd_r hD).weaken (fun _ _ _ _ => trivial)⟩⟩ rfl hna hl.1 hstk (lv_room hrm) hd ⟨hmc, hms⟩) hS (fun q h => h) hP hD (fun v S' H1 locs1 hp hP hD hS => kk v S' hp p e s m below meth c hk H1 locs1 ls hP hD hS hl)
theorem vStA_zz {Z : VZ} {z : Nat → Nat} (hz : ∀ k, 100 ≤ k → z k = Z.2.2.2 k) {A : Nat → Prop} {s : State} (h : vStA Z A s) : vStA (zz Z z) A s := by
  have e1 : sAd (zz Z z) = sAd Z := funext fun i => hz (200 + i) (by omega)
  have e2 : sAv (zz Z z) = sAv Z := funext fun i => hz (210 + i) (by omega)
  unfold vStA
  rw [e1, e2]
  exact h
theorem L_callS {Z : VZ} {b L : Nat} {xs : Nat → Int32} {n k pc : Nat} {Lc : List (Nat × Value)} {st : List Value} {St' : Type} {Wd' : VZ → St' → va_W} {z : Nat → Nat} (hz : ∀ k, 100 ≤ k → z k = Z.2.2.2 k) {wr : va_W} {S' : St'} {y : MethodName} {cc' : ByteArray} {nL' idx d' mc' ms' b' q0 ci N : Nat} {ret' : Option FieldType} {C : String} {T : u_T} {fs : List Value} {av stk : List Value} {po' : Option Value → St' → Prop} (hd : decode cL_law pc = .ok (.invokevirtual idx, 3)) (hC : CtS Wd' (zz Z z) y cc' nL' ret' d' mc' ms' (.ref b' :: av) S' po') {na : Nat} (lk : LkV RL idx y cc' nL' ret' na) (hna : av.length = na) (hw : (Wd' (zz Z z) S')[q0]? = some (b', .inr (ci, fs))) (hc : vwCl[ci]? = some (C, T, N)) (hcy : C = y.cls) (hstk : stk = av.reverse ++ .ref b' :: st) (hrm : (st.map fun v => v.category).sum ≤ 8) (hdd : d' + 1 ≤ 2048) (hll : 8 + (nL' + 11) + 100 * d' ≤ 84000) (hmc : n + mc' ≤ 624007) (hms : k + ms' ≤ 7230226) (kk : ∀ (v : Option Value) (S1 : St'), po' v S1 → VL Z b L xs (n + mc') (k + ms') (pc + 3) Lc (v.toList ++ st) (wr ++ Wd' (zz Z z) S1)) : VL Z b L xs n k pc Lc stk (wr ++ Wd' (zz Z z) S') := by
  intro p e s m below meth c hk H locs ls hP hD hS hl
  have hts := hk.2.2.2.2.1
  subst hcy
  have hA : ∀ q, va_A (Wd' (zz Z z) S') H.size q → s.heap.size ≤ q := by
    rintro q (⟨i, e9, hi⟩ | hq)
    · exact (vd_r hD).2 i _ hi
    · exact Nat.le_trans hS.1 hq
  exact tailF (Wd' := Wd') (Z' := zz Z z) (wr := wr) (S' := S') (va_runV (As := av) (rest := st) ⟨hk.1, hk.2.1, hk.2.2.1, hk.2.2.2.1, hts⟩ (hC H.size) ⟨callB_of na hts (goodU lk.2.2.2.1) rfl rfl rfl (hts _ lk.2.2.2.2.1) (hts _ lk.1) lk.2.2.2.2.2 ⟨hdd, hll⟩, hts _ lk.2.1, hts _ lk.2.2.1⟩ ⟨V_blindS, va_recv (q := (y.cls, T, N)) hk.2.2.2.2.2.2.2.1.1 (va_r hP) hc hw, fun U hU hW => ⟨rfl, by rw [hU], by rw [hU]; exact va_r hP, vKK.moved hW.alike hk.2.2.2.2.2.2.2.1, (vd_r hD).weaken (fun _ _ _ _ => trivial), vStA.go (vStA_zz hz hk.2.2.2.2.2.2.2.2.2.2.1) hW hU hS (by rw [hU]; exact hA)⟩⟩ rfl hna hl.1 hstk (lv_room hrm) hd ⟨hmc, hms⟩) hS (fun q h => h) hP hD (fun v S' H1 locs1 hp hP hD hS => kk v S' hp p e s m below meth c hk H1 locs1 ls hP hD hS hl)
