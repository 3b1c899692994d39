theorem st_arr {args : Array Value} {s : State} {ty : FieldType} (h : (Cond.arrayClass ty).before args s = true) : ∃ c, ArrOfT s c ty ∧ s.vm.findClass ("[" ++ ty.toString) = some c := by
  obtain ⟨c, k, comp, h1, h2, h3⟩ := Cond.arrayClass_spec h
  exact ⟨c, fun n z => ⟨fun k h => (by cases h), k, h2, comp, h3⟩, h1⟩
theorem st_arq {s : State} {C : String} (h : va_AO C s) : ∃ c, ArrOfT s c (.object C) ∧ va_RA s c (.object C) := by
  obtain ⟨comp, c, k, h1, h2, h3, h4, h5⟩ := Cond.arrayOver_spec h
  exact ⟨c, fun n z => ⟨fun k h => (by cases h), k, h3, comp, h4⟩, k, comp, h3, h4, h1, h5⟩
theorem st_K {args : Array Value} {s : State} (hts : ∀ w ∈ uw, w.before args s = true) (hO : vAO s) (hx : xK s) : ∃ (D : va_G) (aC : Nat → ClassId), ∀ (l : Launch) (z : Nat → Nat), vKK (l, D, aC, z) s := by
  obtain ⟨c0, i0, k0⟩ := u_known (C := RX0) (T := TX0) (N := 6) (n := 6) hts iuX0 (hts _ tw_251)
  obtain ⟨c1, i1, k1⟩ := u_known (C := RX1) (T := TX1) (N := 6) (n := 6) hts iuX1 (hts _ tw_298)
  obtain ⟨c2, i2, k2⟩ := u_known (C := RX2) (T := TX2) (N := 6) (n := 6) hts iuX2 (hts _ tw_267)
  obtain ⟨c3, i3, k3⟩ := u_known (C := RX3) (T := TX3) (N := 2) (n := 2) hts iuX3 (hts _ tw_99)
  obtain ⟨c4, i4, k4⟩ := u_known (C := RX4) (T := TX4) (N := 6) (n := 6) hts iuX4 (hts _ tw_71)
  obtain ⟨c5, i5, k5⟩ := u_known (C := RX5) (T := TX5) (N := 6) (n := 6) hts iuX5 (hts _ tw_174)
  obtain ⟨c6, i6, k6⟩ := u_known (C := RX6) (T := TX6) (N := 6) (n := 6) hts iuX6 (hts _ tw_283)
  obtain ⟨c7, i7, k7⟩ := u_known (C := RX7) (T := TX7) (N := 9) (n := 9) hts iuX7 (hts _ tw_34)
  obtain ⟨c8, i8, k8⟩ := u_known (C := RX8) (T := TX8) (N := 3) (n := 3) hts iuX8 (hts _ tw_113)
  obtain ⟨c9, i9, k9⟩ := u_known (C := RX9) (T := TX9) (N := 6) (n := 6) hts iuX9 (hts _ tw_235)
  obtain ⟨c10, i10, k10⟩ := u_known (C := RX10) (T := TX10) (N := 9) (n := 9) hts iuX10 (hts _ tw_22)
  obtain ⟨c11, i11, k11⟩ := u_known (C := RX11) (T := TX11) (N := 35) (n := 35) hts iuX11 (hts _ tw_858)
  obtain ⟨a0, b0, d0⟩ := st_arr (hts _ tw_69)
  obtain ⟨a1, b1, d1⟩ := st_arr (hts _ tw_131)
  obtain ⟨a2, b2, d2⟩ := st_arq hO.1
  obtain ⟨a3, b3, d3⟩ := st_arq hO.2.1
  refine ⟨(fun k => if k = 0 then c0 else if k = 1 then c1 else if k = 2 then c2 else if k = 3 then c3 else if k = 4 then c4 else if k = 5 then c5 else if k = 6 then c6 else if k = 7 then c7 else if k = 8 then c8 else if k = 9 then c9 else if k = 10 then c10 else c11, fun k => if k = 0 then i0 else if k = 1 then i1 else if k = 2 then i2 else if k = 3 then i3 else if k = 4 then i4 else if k = 5 then i5 else if k = 6 then i6 else if k = 7 then i7 else if k = 8 then i8 else if k = 9 then i9 else if k = 10 then i10 else i11), fun k => if k = 0 then a0 else if k = 1 then a1 else if k = 2 then a2 else a3, fun l z => ⟨⟨fun k q hq => ?_, fun k q hq => ?_⟩, hx⟩⟩
  · match k, hq with
    | 0, hq => cases hq; exact k0
    | 1, hq => cases hq; exact k1
    | 2, hq => cases hq; exact k2
    | 3, hq => cases hq; exact k3
    | 4, hq => cases hq; exact k4
    | 5, hq => cases hq; exact k5
    | 6, hq => cases hq; exact k6
    | 7, hq => cases hq; exact k7
    | 8, hq => cases hq; exact k8
    | 9, hq => cases hq; exact k9
    | 10, hq => cases hq; exact k10
    | 11, hq => cases hq; exact k11
    | k + 12, hq => exact absurd hq (by intro h; cases h)
  · match k, hq with
    | 0, hq => cases hq; exact ⟨b0, d0⟩
    | 1, hq => cases hq; exact ⟨b1, d1⟩
    | 2, hq => cases hq; exact ⟨b2, d2⟩
    | 3, hq => cases hq; exact ⟨b3, d3⟩
    | k + 4, hq => exact absurd hq (by intro h; cases h)
abbrev gF : List Cond := flatC (Jvm.Cond.and given_1 narrow_1)
theorem gF_neg : ∀ q ∈ xNeg, Cond.not (.castable q.1 q.2) ∈ gF := by decide +kernel
theorem st_xK {args : Array Value} {s : State} (hts : ∀ w ∈ lw_tbl, w.before args s = true) (hs : ∀ w ∈ gF, w.before args s = true) : xK s := by
  refine ⟨?_, fun q hq => va_Nc.of (hs _ (gF_neg q hq))⟩
  exact List.forall_mem_cons.mpr ⟨va_Nw.of rfl (hts _ (in_t6 (List.mem_of_getElem? (i := 112) rfl))), List.forall_mem_cons.mpr ⟨va_Nw.of rfl (hts _ (in_t6 (List.mem_of_getElem? (i := 113) rfl))), List.forall_mem_cons.mpr ⟨va_Nw.of rfl (hts _ (in_t6 (List.mem_of_getElem? (i := 114) rfl))), List.forall_mem_cons.mpr ⟨va_Nw.of rfl (hts _ (in_t6 (List.mem_of_getElem? (i := 115) rfl))), List.forall_mem_cons.mpr ⟨va_Nw.of rfl (hts _ (in_t6 (List.mem_of_getElem? (i := 116) rfl))), List.forall_mem_cons.mpr ⟨va_Nw.of rfl (hts _ (in_t6 (List.mem_of_getElem? (i := 117) rfl))), fun _ h => absurd h List.not_mem_nil⟩⟩⟩⟩⟩⟩
theorem st_O {args : Array Value} {s : State} (hts : ∀ w ∈ lw_tbl, w.before args s = true) : vAO s := ⟨va_AO.of (hts _ (in_t1 (List.mem_of_getElem? (i := 30) rfl))), va_AO.of (hts _ (in_t1 (List.mem_of_getElem? (i := 32) rfl))), va_Nw.of rfl (hts _ (in_t1 (List.mem_of_getElem? (i := 35) rfl))), va_Nw.of rfl (hts _ (in_t1 (List.mem_of_getElem? (i := 72) rfl))), va_Nw.of rfl (hts _ (in_t1 (List.mem_of_getElem? (i := 100) rfl))), va_Nw.of rfl (hts _ (in_t1 (List.mem_of_getElem? (i := 114) rfl)))⟩
abbrev tmS (i : Nat) : Term := .string "CarryShifts$Script" (ixC i)
abbrev tmM (i : Nat) : Term := .string "CarryShiftsModel" (ixM i)
theorem gF_1 : ∀ i, i < 6 → Cond.exactly (tmS i) "java/lang/String" ∈ gF := by decide +kernel
theorem gF_2 : ∀ i, i < 6 → Cond.eq (.field (tmS i) "java/lang/String" "coder" "B") (.int 0) ∈ gF := by decide +kernel
theorem gF_3 : ∀ i, i < 6 → Cond.arrayOf (.field (tmS i) "java/lang/String" "value" "[B") .byte ∈ gF := by decide +kernel
theorem gF_4 : ∀ i, i < 6 → Cond.eq (.length (.field (tmS i) "java/lang/String" "value" "[B")) (.int (Int32.ofNat (stL.getD i 0))) ∈ gF := by decide +kernel
theorem gF_5 : ∀ i, i < 6 → ∀ j, j < stL.getD i 0 → Cond.eq (.elem (.field (tmS i) "java/lang/String" "value" "[B") (.int (Int32.ofNat j))) (.int ((stB.getD i []).getD j 0)) ∈ gF := by decide +kernel
theorem gF_6 : ∀ i, i < 6 → ∀ j, j < 6 → i = j ∨ Cond.not (Cond.eq (tmS i) (tmS j)) ∈ gF ∨ Cond.not (Cond.eq (tmS j) (tmS i)) ∈ gF := by decide +kernel
theorem gF_7 : ∀ i, i < 6 → Cond.eq (tmS i) (tmM i) ∈ gF := by decide +kernel
theorem gF_8 : Cond.eq (.static "java/lang/String" "COMPACT_STRINGS" "Z") (.int 1) ∈ gF := by decide +kernel
theorem gF_9 : Cond.isRef (.static fmN "SIOOBE_FORMATTER" fmD) ∈ gF := by decide +kernel
theorem st_len31 : ∀ i, i < 6 → stL.getD i 0 < 2 ^ 31 := by decide
theorem l6 {i : Nat} (h : i < 6) : i = 0 ∨ i = 1 ∨ i = 2 ∨ i = 3 ∨ i = 4 ∨ i = 5 := by omega
theorem st_S {args : Array Value} {s : State} (hts : ∀ w ∈ lw_tbl, w.before args s = true) (hs : ∀ w ∈ gF, w.before args s = true) : ∃ z : Nat → Nat, ∀ (l : Launch) (D : va_G) (aC : Nat → ClassId), vStA (l, D, aC, z) (fun q => s.heap.size ≤ q) s := by
  have hA : ∀ a : Nat, a < s.heap.size → ¬ (fun q : Nat => s.heap.size ≤ q) a := fun a h => Nat.not_le.mpr h
  obtain ⟨adK, adV, hS, ev⟩ := vk_Sof (args := args) (s := s) (N := 6) (tm := tmS) (len := stL) (byt := stB) (A := fun q => s.heap.size ≤ q) st_len31 (fun i hi => hs _ (gF_1 i hi)) (fun i hi => hs _ (gF_2 i hi)) (fun i hi => hs _ (gF_3 i hi)) (fun i hi => hs _ (gF_4 i hi)) (fun i hi j hj => hs _ (gF_5 i hi j hj)) (fun i j hi hj ne => by
    rcases gF_6 i hi j hj with h | h | h
    · exact absurd h ne
    · exact Or.inl (hs _ h)
    · exact Or.inr (hs _ h)) hA
  refine ⟨fun k => if k < 210 then adK (k - 200) else adV (k - 210), fun l D aC => ?_⟩
  have e1 : ∀ i, i < 6 → sAd (l, D, aC, fun k => if k < 210 then adK (k - 200) else adV (k - 210)) i = adK i := fun i hi => by
    show (if 200 + i < 210 then adK (200 + i - 200) else adV (200 + i - 210)) = _
    rw [if_pos (by omega), show 200 + i - 200 = i by omega]
  have e2 : ∀ i, i < 6 → sAv (l, D, aC, fun k => if k < 210 then adK (k - 200) else adV (k - 210)) i = adV i := fun i hi => by
    show (if 210 + i < 210 then adK (210 + i - 200) else adV (210 + i - 210)) = _
    rw [if_neg (by omega), show 210 + i - 210 = i by omega]
  refine ⟨⟨fun i hi => by rw [e1 i hi, e2 i hi]; exact hS.1 i hi, fun i j hi hj e => hS.2 i j hi hj (by rw [← e1 i hi, ← e1 j hj]; exact e)⟩, va_Zof (hts _ (in_t4 (List.mem_of_getElem? (i := 18) rfl))) (hts _ (in_t1 (List.mem_of_getElem? (i := 17) rfl))) (va_eqt (hs _ gF_8)) hA, va_Zqof (hts _ (in_t4 (List.mem_of_getElem? (i := 34) rfl))) (hts _ (in_t1 (List.mem_of_getElem? (i := 19) rfl))) (hs _ gF_9) hA, fun i hi => ?_, fun i hi => ?_⟩
  · rw [e1 i hi]
    refine vk_R.of (A := args) ?_ (ev i hi)
    rcases l6 hi with rfl | rfl | rfl | rfl | rfl | rfl
    · exact hts _ (in_t3 (List.mem_of_getElem? (i := 239) rfl))
    · exact hts _ (in_t4 (List.mem_of_getElem? (i := 0) rfl))
    · exact hts _ (in_t4 (List.mem_of_getElem? (i := 1) rfl))
    · exact hts _ (in_t4 (List.mem_of_getElem? (i := 2) rfl))
    · exact hts _ (in_t4 (List.mem_of_getElem? (i := 3) rfl))
    · exact hts _ (in_t4 (List.mem_of_getElem? (i := 4) rfl))
  · rw [e1 i hi]
    refine vk_R.of (A := args) ?_ (va_eqR (hs _ (gF_7 i hi)) (ev i hi))
    rcases l6 hi with rfl | rfl | rfl | rfl | rfl | rfl
    · exact hts _ (in_t6 (List.mem_of_getElem? (i := 49) rfl))
    · exact hts _ (in_t6 (List.mem_of_getElem? (i := 50) rfl))
    · exact hts _ (in_t6 (List.mem_of_getElem? (i := 51) rfl))
    · exact hts _ (in_t6 (List.mem_of_getElem? (i := 52) rfl))
    · exact hts _ (in_t6 (List.mem_of_getElem? (i := 53) rfl))
    · exact hts _ (in_t6 (List.mem_of_getElem? (i := 54) rfl))
