theorem Xv_links {Z : VZ} {cc : ByteArray} {nL : Nat} {ret : Option FieldType} {d mc ms : Nat} {B : VB XS} {n k pc : Nat} {L : List (Nat × Value)} {st : List Value} {S : XS} {a : Nat} (ha : a ∈ xL S) (hm : mcl (xmk S a)) (hd : decode cc pc = .ok (.invokevirtual 102, 3)) (hrm : (st.map fun v => v.category).sum ≤ 8) (hdd : 1 ≤ d) (hmc : n ≤ mc) (hms : k ≤ ms) (kk : V XW Z cc RX10 nL ret d mc ms B n k (pc + 3) L (.int (lnkX (mfo S a 1) (mfo S a 2) (mfo S a 1).toNatClampNeg) :: st) S) : V XW Z cc RX10 nL ret d mc ms B n k pc L (.ref a :: st) S := by
  rcases id hm with h | h | h | h | h | h
  · obtain ⟨q, hq0, hq⟩ := x_at (Z := Z) ha h
    refine V_callU (C := RX0) (T := TX0) (N := 6) (ci := 0) hd (c_X1_links Z S a ha hm) kX10_102_X0 hq rfl rfl hrm (by omega) (by omega) hmc hms (fun v S' hp => ?_)
    obtain ⟨rfl, rfl⟩ := hp
    exact kk
  · obtain ⟨q, hq0, hq⟩ := x_at (Z := Z) ha h
    refine V_callU (C := RX1) (T := TX1) (N := 6) (ci := 1) hd (c_X1_links Z S a ha hm) kX10_102_X1 hq rfl rfl hrm (by omega) (by omega) hmc hms (fun v S' hp => ?_)
    obtain ⟨rfl, rfl⟩ := hp
    exact kk
  · obtain ⟨q, hq0, hq⟩ := x_at (Z := Z) ha h
    refine V_callU (C := RX2) (T := TX2) (N := 6) (ci := 2) hd (c_X1_links Z S a ha hm) kX10_102_X2 hq rfl rfl hrm (by omega) (by omega) hmc hms (fun v S' hp => ?_)
    obtain ⟨rfl, rfl⟩ := hp
    exact kk
  · obtain ⟨q, hq0, hq⟩ := x_at (Z := Z) ha h
    refine V_callU (C := RX5) (T := TX5) (N := 6) (ci := 5) hd (c_X1_links Z S a ha hm) kX10_102_X5 hq rfl rfl hrm (by omega) (by omega) hmc hms (fun v S' hp => ?_)
    obtain ⟨rfl, rfl⟩ := hp
    exact kk
  · obtain ⟨q, hq0, hq⟩ := x_at (Z := Z) ha h
    refine V_callU (C := RX6) (T := TX6) (N := 6) (ci := 6) hd (c_X1_links Z S a ha hm) kX10_102_X6 hq rfl rfl hrm (by omega) (by omega) hmc hms (fun v S' hp => ?_)
    obtain ⟨rfl, rfl⟩ := hp
    exact kk
  · obtain ⟨q, hq0, hq⟩ := x_at (Z := Z) ha h
    refine V_callU (C := RX9) (T := TX9) (N := 6) (ci := 9) hd (c_X1_links Z S a ha hm) kX10_102_X9 hq rfl rfl hrm (by omega) (by omega) hmc hms (fun v S' hp => ?_)
    obtain ⟨rfl, rfl⟩ := hp
    exact kk
theorem Xv_standsAs {Z : VZ} {cc : ByteArray} {nL : Nat} {ret : Option FieldType} {d mc ms : Nat} {B : VB XS} {n k pc : Nat} {L : List (Nat × Value)} {st : List Value} {S : XS} {a : Nat} {b : Nat} (hb : b ∈ xL S) (hn : mcl (xmk S b)) (ha : a ∈ xL S) (hm : mcl (xmk S a)) (hd : decode cc pc = .ok (.invokevirtual 316, 3)) (hrm : (st.map fun v => v.category).sum ≤ 8) (hdd : 1 ≤ d) (hmc : n ≤ mc) (hms : k ≤ ms) (kk : V XW Z cc RX10 nL ret d mc ms B n k (pc + 3) L (.int (bI (mfo S a 3 = mfo S b 3 ∧ mfo S a 4 = mfo S b 4)) :: st) S) : V XW Z cc RX10 nL ret d mc ms B n k pc L (.ref b :: .ref a :: st) S := by
  rcases id hm with h | h | h | h | h | h
  · obtain ⟨q, hq0, hq⟩ := x_at (Z := Z) ha h
    refine V_callU (C := RX0) (T := TX0) (N := 6) (ci := 0) hd (c_X1_standsAs Z S a b ha hm hb hn) kX10_316_X0 hq rfl rfl hrm (by omega) (by omega) hmc hms (fun v S' hp => ?_)
    obtain ⟨rfl, rfl⟩ := hp
    exact kk
  · obtain ⟨q, hq0, hq⟩ := x_at (Z := Z) ha h
    refine V_callU (C := RX1) (T := TX1) (N := 6) (ci := 1) hd (c_X1_standsAs Z S a b ha hm hb hn) kX10_316_X1 hq rfl rfl hrm (by omega) (by omega) hmc hms (fun v S' hp => ?_)
    obtain ⟨rfl, rfl⟩ := hp
    exact kk
  · obtain ⟨q, hq0, hq⟩ := x_at (Z := Z) ha h
    refine V_callU (C := RX2) (T := TX2) (N := 6) (ci := 2) hd (c_X1_standsAs Z S a b ha hm hb hn) kX10_316_X2 hq rfl rfl hrm (by omega) (by omega) hmc hms (fun v S' hp => ?_)
    obtain ⟨rfl, rfl⟩ := hp
    exact kk
  · obtain ⟨q, hq0, hq⟩ := x_at (Z := Z) ha h
    refine V_callU (C := RX5) (T := TX5) (N := 6) (ci := 5) hd (c_X1_standsAs Z S a b ha hm hb hn) kX10_316_X5 hq rfl rfl hrm (by omega) (by omega) hmc hms (fun v S' hp => ?_)
    obtain ⟨rfl, rfl⟩ := hp
    exact kk
  · obtain ⟨q, hq0, hq⟩ := x_at (Z := Z) ha h
    refine V_callU (C := RX6) (T := TX6) (N := 6) (ci := 6) hd (c_X1_standsAs Z S a b ha hm hb hn) kX10_316_X6 hq rfl rfl hrm (by omega) (by omega) hmc hms (fun v S' hp => ?_)
    obtain ⟨rfl, rfl⟩ := hp
    exact kk
  · obtain ⟨q, hq0, hq⟩ := x_at (Z := Z) ha h
    refine V_callU (C := RX9) (T := TX9) (N := 6) (ci := 9) hd (c_X1_standsAs Z S a b ha hm hb hn) kX10_316_X9 hq rfl rfl hrm (by omega) (by omega) hmc hms (fun v S' hp => ?_)
    obtain ⟨rfl, rfl⟩ := hp
    exact kk
theorem xOK_xN {S : XS} (h : xOK S) {q c : Nat} (g : Nat → Int32) (hq : q ∉ xL S) : xOK (xN S q c g) := by
  obtain ⟨n, hn, e, f⟩ := h
  refine ⟨n, hn, e, fun i hi => ?_⟩
  obtain ⟨a, a1, a2, a3⟩ := f i hi
  refine ⟨a, a1, List.mem_append_left _ a2, ?_⟩
  have hne : a ≠ q := fun z => hq (z ▸ a2)
  show mcl (va_up S.2.2.2.2.2.2.1 q c a)
  rw [va_up_ne _ _ hne]
  exact a3
def xAd (S : XS) (i : Int32) : Nat := (S.2.2.2.2.1 i.toNatClampNeg).getD 0
theorem xAd_eq {S : XS} {i : Int32} {a : Nat} (h : S.2.2.2.2.1 i.toNatClampNeg = some a) : xAd S i = a := by unfold xAd; rw [h]; rfl
def xOf (S : XS) (a : Nat) (w : Int32) : Int32 := if w = 0 then mfo S a 0 else if w = 1 then mfo S a 1 else if w = 2 then mfo S a 2 else if w = 3 then mfo S a 3 else if w = 4 then mfo S a 4 else if w = 5 then mfo S a 5 else if w = 6 then lnkX (mfo S a 1) (mfo S a 2) (mfo S a 1).toNatClampNeg else -1000
/-- what isn't scratch is the same; machines that nothing holds may have come -/
def xCor (S S' : XS) : Prop := (S'.1 1 = S.1 1 ∧ S'.1 3 = S.1 3 ∧ S'.1 31 = S.1 31 ∧ ∀ i, i < 4 → S'.1 (10 + i) = S.1 (10 + i) ∧ S'.1 (20 + i) = S.1 (20 + i)) ∧ (S'.2.2.1 2 = S.2.2.1 2 ∧ S'.2.2.1 30 = S.2.2.1 30 ∧ ∀ i, i < 4 → S'.2.2.1 (20 + i) = S.2.2.1 (20 + i)) ∧ S'.2.2.2.2.1 = S.2.2.2.2.1 ∧ (∀ a ∈ xL S, a ∈ xL S' ∧ xmk S' a = xmk S a ∧ mfo S' a = mfo S a)
theorem xCor_rfl (S : XS) : xCor S S := ⟨⟨rfl, rfl, rfl, fun _ _ => ⟨rfl, rfl⟩⟩, ⟨rfl, rfl, fun _ _ => rfl⟩, rfl, fun _ h => ⟨h, rfl, rfl⟩⟩
theorem xCor_tr {S S' S'' : XS} (h : xCor S S') (k : xCor S' S'') : xCor S S'' := by
  obtain ⟨⟨a1, a2, a3, a4⟩, ⟨b1, b2, b3⟩, c1, d1⟩ := h
  obtain ⟨⟨e1, e2, e3, e4⟩, ⟨f1, f2, f3⟩, g1, i1⟩ := k
  refine ⟨⟨e1.trans a1, e2.trans a2, e3.trans a3, fun i hi => ⟨(e4 i hi).1.trans (a4 i hi).1, (e4 i hi).2.trans (a4 i hi).2⟩⟩, ⟨f1.trans b1, f2.trans b2, fun i hi => (f3 i hi).trans (b3 i hi)⟩, g1.trans c1, fun a ha => ?_⟩
  obtain ⟨x1, x2, x3⟩ := d1 a ha
  obtain ⟨y1, y2, y3⟩ := i1 a x1
  exact ⟨y1, y2.trans x2, y3.trans x3⟩
theorem xCor_xN (S : XS) {q : Nat} (c : Nat) (g : Nat → Int32) (hq : q ∉ xL S) : xCor S (xN S q c g) := by
  refine ⟨⟨rfl, rfl, rfl, fun _ _ => ⟨rfl, rfl⟩⟩, ⟨rfl, rfl, fun _ _ => rfl⟩, rfl, fun a ha => ?_⟩
  have hne : a ≠ q := fun z => hq (z ▸ ha)
  exact ⟨List.mem_append_left _ ha, va_up_ne _ _ hne, va_up_ne _ _ hne⟩
set_option maxHeartbeats 4000000 in
set_option maxRecDepth 100000 in
theorem c_X10_machine (Z : VZ) (S : XS) (k_ : Int32) (c_ : Int32) (t_ : Int32) (s_ : Int32) (hx : xOK S) : Ct XW Z yX10_machine cX10_machine 5 (some .int) 6 1 6 [.ref (Z.2.2.2 99), .int k_, .int c_, .int t_, .int s_] (S) (fun v S' => v = some (.int (if ((0 ≤ k_ ∧ k_ ≤ 5) ∧ (1 ≤ c_ ∧ c_ ≤ 6) ∧ (1 ≤ t_ ∧ t_ ≤ 1 <<< (c_ &&& 31) - 1) ∧ (0 ≤ s_ ∧ s_ ≤ 1 <<< (c_ &&& 31) - 1)) then (if S.1 1 < 4 then S.1 1 + 1 - 1 else -4) else -2)) ∧ ((¬ ((0 ≤ k_ ∧ k_ ≤ 5) ∧ (1 ≤ c_ ∧ c_ ≤ 6) ∧ (1 ≤ t_ ∧ t_ ≤ 1 <<< (c_ &&& 31) - 1) ∧ (0 ≤ s_ ∧ s_ ≤ 1 <<< (c_ &&& 31) - 1)) ∧ S' = S) ∨ (((0 ≤ k_ ∧ k_ ≤ 5) ∧ (1 ≤ c_ ∧ c_ ≤ 6) ∧ (1 ≤ t_ ∧ t_ ≤ 1 <<< (c_ &&& 31) - 1) ∧ (0 ≤ s_ ∧ s_ ≤ 1 <<< (c_ &&& 31) - 1)) ∧ ∃ q, q ∉ xL S ∧ S' = if S.1 1 < 4 then xJ (xN S q (kc k_) (gM k_ c_ t_ s_ 0)) q else xN S q (kc k_) (gM k_ c_ t_ s_ 0)))) := by
  refine V_entry (own := RX10) (by decide) rfl (Nat.le_of_ble_eq_true rfl) ?_
  intro B hB
  refine V_sub (L' := [(0, .ref (Z.2.2.2 99)), (1, .int k_), (2, .int c_), (3, .int t_), (4, .int s_)]) [0, 1, 2, 3, 4] rfl ?_
  refine V_iload_n (pc := 0) dX10_machine_0 1 rfl rfl ?_
  refine V_iconst (v := 0) (pc := 1) dX10_machine_1 (by decide) ?_
  refine V_iconst (v := 5) (pc := 2) dX10_machine_2 (by decide) ?_
  refine V_callSi (pc := 3) dX10_machine_3 (c_X10_between Z _ _ _ _) kX10_60 rfl (Nat.le_of_ble_eq_true rfl) (by decide) (by decide) (Nat.le_of_ble_eq_true rfl) (Nat.le_of_ble_eq_true rfl) ?_
  refine V_bif_eq (pc := 6) (tgt := 44) dX10_machine_6 (by decide) (fun h6 => ?_) (fun h6 => ?_)
  · skip
    refine V_bipush (v := (-2)) (pc := 44) dX10_machine_44 (by decide) ?_
    exact V_iret (pc := 46) dX10_machine_46 (Nat.le_of_ble_eq_true rfl) (Nat.le_of_ble_eq_true rfl) (hB _ _ ⟨congrArg (fun z => some (Value.int z)) (by exact (if_neg (fun h => h6 h.1)).symm), by exact Or.inl ⟨fun h => h6 h.1, rfl⟩⟩)
  · skip
    refine V_iload_n (pc := 9) dX10_machine_9 2 rfl rfl ?_
    refine V_iconst (v := 1) (pc := 10) dX10_machine_10 (by decide) ?_
    refine V_bipush (v := 6) (pc := 11) dX10_machine_11 (by decide) ?_
    refine V_callSi (pc := 13) dX10_machine_13 (c_X10_between Z _ _ _ _) kX10_60 rfl (Nat.le_of_ble_eq_true rfl) (by decide) (by decide) (Nat.le_of_ble_eq_true rfl) (Nat.le_of_ble_eq_true rfl) ?_
    refine V_bif_eq (pc := 16) (tgt := 44) dX10_machine_16 (by decide) (fun h16 => ?_) (fun h16 => ?_)
    · skip
      refine V_bipush (v := (-2)) (pc := 44) dX10_machine_44 (by decide) ?_
      exact V_iret (pc := 46) dX10_machine_46 (Nat.le_of_ble_eq_true rfl) (Nat.le_of_ble_eq_true rfl) (hB _ _ ⟨congrArg (fun z => some (Value.int z)) (by exact (if_neg (fun h => h16 h.2.1)).symm), by exact Or.inl ⟨fun h => h16 h.2.1, rfl⟩⟩)
    · skip
      refine V_iload_n (pc := 19) dX10_machine_19 3 rfl rfl ?_
      refine V_iconst (v := 1) (pc := 20) dX10_machine_20 (by decide) ?_
      refine V_iload_n (pc := 21) dX10_machine_21 2 rfl rfl ?_
      refine V_callSi (pc := 22) dX10_machine_22 (c_X10_allCells Z _ _) kX10_64 rfl (Nat.le_of_ble_eq_true rfl) (by decide) (by decide) (Nat.le_of_ble_eq_true rfl) (Nat.le_of_ble_eq_true rfl) ?_
      refine V_callSi (pc := 25) dX10_machine_25 (c_X10_between Z _ _ _ _) kX10_60 rfl (Nat.le_of_ble_eq_true rfl) (by decide) (by decide) (Nat.le_of_ble_eq_true rfl) (Nat.le_of_ble_eq_true rfl) ?_
      refine V_bif_eq (pc := 28) (tgt := 44) dX10_machine_28 (by decide) (fun h28 => ?_) (fun h28 => ?_)
      · skip
        refine V_bipush (v := (-2)) (pc := 44) dX10_machine_44 (by decide) ?_
        exact V_iret (pc := 46) dX10_machine_46 (Nat.le_of_ble_eq_true rfl) (Nat.le_of_ble_eq_true rfl) (hB _ _ ⟨congrArg (fun z => some (Value.int z)) (by exact (if_neg (fun h => h28 h.2.2.1)).symm), by exact Or.inl ⟨fun h => h28 h.2.2.1, rfl⟩⟩)
      · skip
        refine V_iload (pc := 31) dX10_machine_31 4 rfl ?_
        refine V_iconst (v := 0) (pc := 33) dX10_machine_33 (by decide) ?_
        refine V_iload_n (pc := 34) dX10_machine_34 2 rfl rfl ?_
        refine V_callSi (pc := 35) dX10_machine_35 (c_X10_allCells Z _ _) kX10_64 rfl (Nat.le_of_ble_eq_true rfl) (by decide) (by decide) (Nat.le_of_ble_eq_true rfl) (Nat.le_of_ble_eq_true rfl) ?_
        refine V_callSi (pc := 38) dX10_machine_38 (c_X10_between Z _ _ _ _) kX10_60 rfl (Nat.le_of_ble_eq_true rfl) (by decide) (by decide) (Nat.le_of_ble_eq_true rfl) (Nat.le_of_ble_eq_true rfl) ?_
        refine V_bif_ne (pc := 41) (tgt := 47) dX10_machine_41 (by decide) (fun h41 => ?_) (fun h41 => ?_)
        · skip
          refine V_aload_n (pc := 47) dX10_machine_47 0 rfl rfl ?_
          refine V_iload_n (pc := 48) dX10_machine_48 1 rfl rfl ?_
          refine V_iload_n (pc := 49) dX10_machine_49 2 rfl rfl ?_
          refine V_iload_n (pc := 50) dX10_machine_50 3 rfl rfl ?_
          refine V_iload (pc := 51) dX10_machine_51 4 rfl ?_
          refine V_iconst (v := 0) (pc := 53) dX10_machine_53 (by decide) ?_
          refine V_callS (pc := 54) dX10_machine_54 (c_X10_made Z _ _ _ _ _ _) kX10_68 rfl (Nat.le_of_ble_eq_true rfl) (by decide) (by decide) (Nat.le_of_ble_eq_true rfl) (Nat.le_of_ble_eq_true rfl) (fun v54 S54 hp54 => ?_)
          refine V_widen (n' := 1) (k' := 6) (Nat.le_refl _) (Nat.le_refl _) ?_
          obtain ⟨q_, rfl, hq_, rfl⟩ := hp54
          refine V_callVi (q0 := 0) (ci := 10) (C := RX10) (T := TX10) (N := 9) (pc := 57) dX10_machine_57 (c_X10_join Z _ _ (by exact xOK_xN hx _ hq_) (by exact in_xN _ _ _ _) (by exact mcl_xN _ _ _ _)) kX10_72 rfl rfl rfl rfl (Nat.le_of_ble_eq_true rfl) (by decide) (by decide) (Nat.le_of_ble_eq_true rfl) (Nat.le_of_ble_eq_true rfl) ?_
          exact V_iret (pc := 60) dX10_machine_60 (Nat.le_of_ble_eq_true rfl) (Nat.le_of_ble_eq_true rfl) (hB _ _ ⟨congrArg (fun z => some (Value.int z)) (by refine Eq.symm ?_; rw [if_pos ⟨h6, h16, h28, h41⟩]; rfl), by exact Or.inr ⟨⟨h6, h16, h28, h41⟩, q_, hq_, rfl⟩⟩)
        · skip
          refine V_bipush (v := (-2)) (pc := 44) dX10_machine_44 (by decide) ?_
          exact V_iret (pc := 46) dX10_machine_46 (Nat.le_of_ble_eq_true rfl) (Nat.le_of_ble_eq_true rfl) (hB _ _ ⟨congrArg (fun z => some (Value.int z)) (by exact (if_neg (fun h => h41 h.2.2.2)).symm), by exact Or.inl ⟨fun h => h41 h.2.2.2, rfl⟩⟩)
set_option maxHeartbeats 4000000 in
set_option maxRecDepth 100000 in
theorem c_X10_of (Z : VZ) (S : XS) (i_ : Int32) (w_ : Int32) (hx : xOK S) : CtF XW Z yX10_of cX10_of 4 (some .int) 1 0 0 [.ref (Z.2.2.2 99), .int i_, .int w_] (S) (some (.int (if (0 ≤ i_ ∧ i_ < S.1 1) then xOf S (xAd S i_) w_ else -1000))) (S) := by
  refine V_entry (own := RX10) (by decide) rfl (Nat.le_of_ble_eq_true rfl) ?_
  intro B hB
  refine V_sub (L' := [(0, .ref (Z.2.2.2 99)), (1, .int i_), (2, .int w_)]) [0, 1, 2] rfl ?_
  refine V_aload_n (pc := 0) dX10_of_0 0 rfl rfl ?_
  refine V_iload_n (pc := 1) dX10_of_1 1 rfl rfl ?_
  refine V_callV (q0 := 0) (ci := 10) (C := RX10) (T := TX10) (N := 9) (pc := 2) dX10_of_2 (c_X10_machineAt Z _ _ (by exact hx)) kX10_76 rfl rfl rfl rfl (Nat.le_of_ble_eq_true rfl) (by decide) (by decide) (Nat.le_of_ble_eq_true rfl) (Nat.le_of_ble_eq_true rfl) (fun v2 S2 hp2 => ?_)
  refine V_widen (n' := 0) (k' := 0) (Nat.le_refl _) (Nat.le_refl _) ?_
  obtain ⟨rfl, ⟨ma_, hvma_, hima_, hMma_, hama_, hmma_, rfl⟩ | ⟨hno2, rfl⟩⟩ := hp2
  · skip
    refine V_astore_n (pc := 5) (L2 := [(0, .ref (Z.2.2.2 99)), (1, .int i_), (2, .int w_)]) dX10_of_5 rfl (by decide) rfl (fun x3_5 ex3_5 => ?_)
    subst ex3_5
    refine V_aload_n (pc := 6) dX10_of_6 0 rfl rfl ?_
    refine V_ifnonnull (pc := 7) (tgt := 14) dX10_of_7 (by decide) ?_
    refine V_iload_n (pc := 14) dX10_of_14 3 rfl rfl ?_
    by_cases h15_0 : w_ = 0
    · refine V_eqi 0 h15_0 ?_
      refine V_tableIn (pc := 15) (tgt := 56) dX10_of_15 (by decide) (by decide) rfl (by decide) ?_
      refine V_aload_n (pc := 56) dX10_of_56 0 rfl rfl ?_
      refine Xmg_kind (pc := 57) (v := (mfo S ma_ 0)) (by exact hama_) (by exact hmma_) rfl dX10_of_57 tw_198 (Or.inl rfl) ?_
      exact V_iret (pc := 60) dX10_of_60 (Nat.le_of_ble_eq_true rfl) (Nat.le_of_ble_eq_true rfl) (hB _ _ ⟨congrArg (fun z => some (Value.int z)) (by rw [if_pos hima_, xAd_eq hMma_]; simp [xOf, *]), by rfl⟩)
    by_cases h15_1 : w_ = 1
    · refine V_eqi 1 h15_1 ?_
      refine V_tableIn (pc := 15) (tgt := 61) dX10_of_15 (by decide) (by decide) rfl (by decide) ?_
      refine V_aload_n (pc := 61) dX10_of_61 0 rfl rfl ?_
      refine Xmg_cells (pc := 62) (v := (mfo S ma_ 1)) (by exact hama_) (by exact hmma_) rfl dX10_of_62 tw_202 (Or.inl rfl) ?_
      exact V_iret (pc := 65) dX10_of_65 (Nat.le_of_ble_eq_true rfl) (Nat.le_of_ble_eq_true rfl) (hB _ _ ⟨congrArg (fun z => some (Value.int z)) (by rw [if_pos hima_, xAd_eq hMma_]; simp [xOf, *]), by rfl⟩)
    by_cases h15_2 : w_ = 2
    · refine V_eqi 2 h15_2 ?_
      refine V_tableIn (pc := 15) (tgt := 66) dX10_of_15 (by decide) (by decide) rfl (by decide) ?_
      refine V_aload_n (pc := 66) dX10_of_66 0 rfl rfl ?_
      refine Xmg_taps (pc := 67) (v := (mfo S ma_ 2)) (by exact hama_) (by exact hmma_) rfl dX10_of_67 tw_206 (Or.inl rfl) ?_
      exact V_iret (pc := 70) dX10_of_70 (Nat.le_of_ble_eq_true rfl) (Nat.le_of_ble_eq_true rfl) (hB _ _ ⟨congrArg (fun z => some (Value.int z)) (by rw [if_pos hima_, xAd_eq hMma_]; simp [xOf, *]), by rfl⟩)
    by_cases h15_3 : w_ = 3
    · refine V_eqi 3 h15_3 ?_
      refine V_tableIn (pc := 15) (tgt := 71) dX10_of_15 (by decide) (by decide) rfl (by decide) ?_
      refine V_aload_n (pc := 71) dX10_of_71 0 rfl rfl ?_
      refine Xmg_state (pc := 72) (v := (mfo S ma_ 3)) (by exact hama_) (by exact hmma_) rfl dX10_of_72 tw_210 (Or.inl rfl) ?_
      exact V_iret (pc := 75) dX10_of_75 (Nat.le_of_ble_eq_true rfl) (Nat.le_of_ble_eq_true rfl) (hB _ _ ⟨congrArg (fun z => some (Value.int z)) (by rw [if_pos hima_, xAd_eq hMma_]; simp [xOf, *]), by rfl⟩)
    by_cases h15_4 : w_ = 4
    · refine V_eqi 4 h15_4 ?_
      refine V_tableIn (pc := 15) (tgt := 76) dX10_of_15 (by decide) (by decide) rfl (by decide) ?_
      refine V_aload_n (pc := 76) dX10_of_76 0 rfl rfl ?_
      refine Xmg_carry (pc := 77) (v := (mfo S ma_ 4)) (by exact hama_) (by exact hmma_) rfl dX10_of_77 tw_218 (Or.inl rfl) ?_
      exact V_iret (pc := 80) dX10_of_80 (Nat.le_of_ble_eq_true rfl) (Nat.le_of_ble_eq_true rfl) (hB _ _ ⟨congrArg (fun z => some (Value.int z)) (by rw [if_pos hima_, xAd_eq hMma_]; simp [xOf, *]), by rfl⟩)
    by_cases h15_5 : w_ = 5
    · refine V_eqi 5 h15_5 ?_
      refine V_tableIn (pc := 15) (tgt := 81) dX10_of_15 (by decide) (by decide) rfl (by decide) ?_
      refine V_aload_n (pc := 81) dX10_of_81 0 rfl rfl ?_
      refine Xmg_digits (pc := 82) (v := (mfo S ma_ 5)) (by exact hama_) (by exact hmma_) rfl dX10_of_82 tw_220 (Or.inl rfl) ?_
      exact V_iret (pc := 85) dX10_of_85 (Nat.le_of_ble_eq_true rfl) (Nat.le_of_ble_eq_true rfl) (hB _ _ ⟨congrArg (fun z => some (Value.int z)) (by rw [if_pos hima_, xAd_eq hMma_]; simp [xOf, *]), by rfl⟩)
    by_cases h15_6 : w_ = 6
    · refine V_eqi 6 h15_6 ?_
      refine V_tableIn (pc := 15) (tgt := 86) dX10_of_15 (by decide) (by decide) rfl (by decide) ?_
      refine V_aload_n (pc := 86) dX10_of_86 0 rfl rfl ?_
      refine Xv_links (pc := 87) (by exact hama_) (by exact hmma_) dX10_of_87 (Nat.le_of_ble_eq_true rfl) (by decide) (Nat.le_of_ble_eq_true rfl) (Nat.le_of_ble_eq_true rfl) ?_
      exact V_iret (pc := 90) dX10_of_90 (Nat.le_of_ble_eq_true rfl) (Nat.le_of_ble_eq_true rfl) (hB _ _ ⟨congrArg (fun z => some (Value.int z)) (by rw [if_pos hima_, xAd_eq hMma_]; simp [xOf, *]), by rfl⟩)
    refine V_tableOut (pc := 15) (tgt := 91) dX10_of_15 (by have a0 := lv_neT h15_0 (a := 0) rfl; have a1 := lv_neT h15_1 (a := 1) rfl; have a2 := lv_neT h15_2 (a := 2) rfl; have a3 := lv_neT h15_3 (a := 3) rfl; have a4 := lv_neT h15_4 (a := 4) rfl; have a5 := lv_neT h15_5 (a := 5) rfl; have a6 := lv_neT h15_6 (a := 6) rfl; omega) (by decide) ?_
    refine V_sipush (v := (-1000)) (pc := 91) dX10_of_91 (by decide) ?_
    exact V_iret (pc := 94) dX10_of_94 (Nat.le_of_ble_eq_true rfl) (Nat.le_of_ble_eq_true rfl) (hB _ _ ⟨congrArg (fun z => some (Value.int z)) (by rw [if_pos hima_, xAd_eq hMma_]; simp [xOf, *]), by rfl⟩)
  · skip
    refine V_astore_nN (L2 := [(0, .ref (Z.2.2.2 99)), (1, .int i_), (2, .int w_)]) (pc := 5) dX10_of_5  rfl (by decide) rfl ?_
    refine V_aload_nN (pc := 6) dX10_of_6 0 rfl rfl ?_
    refine V_ifnonnullN (pc := 7) dX10_of_7 ?_
    refine V_sipush (v := (-1000)) (pc := 10) dX10_of_10 (by decide) ?_
    exact V_iret (pc := 13) dX10_of_13 (Nat.le_of_ble_eq_true rfl) (Nat.le_of_ble_eq_true rfl) (hB _ _ ⟨congrArg (fun z => some (Value.int z)) (by exact (if_neg hno2).symm), by rfl⟩)
set_option maxHeartbeats 4000000 in
set_option maxRecDepth 100000 in
theorem c_X10_taken (Z : VZ) (S : XS) (i_ : Int32) (k_ : Int32) (hx : xOK S) : CtF XW Z yX10_taken cX10_taken 4 (some .int) 1 0 0 [.ref (Z.2.2.2 99), .int i_, .int k_] (S) (some (.int (if (0 ≤ i_ ∧ i_ < S.1 1) ∧ (0 ≤ k_ ∧ k_ ≤ 5) then (if isU (xmk S (xAd S i_)) k_ then mfo S (xAd S i_) 2 else -13) else -2))) (S) := by
  refine V_entry (own := RX10) (by decide) rfl (Nat.le_of_ble_eq_true rfl) ?_
  intro B hB
  refine V_sub (L' := [(0, .ref (Z.2.2.2 99)), (1, .int i_), (2, .int k_)]) [0, 1, 2] rfl ?_
  refine V_aload_n (pc := 0) dX10_taken_0 0 rfl rfl ?_
  refine V_iload_n (pc := 1) dX10_taken_1 1 rfl rfl ?_
  refine V_callV (q0 := 0) (ci := 10) (C := RX10) (T := TX10) (N := 9) (pc := 2) dX10_taken_2 (c_X10_machineAt Z _ _ (by exact hx)) kX10_76 rfl rfl rfl rfl (Nat.le_of_ble_eq_true rfl) (by decide) (by decide) (Nat.le_of_ble_eq_true rfl) (Nat.le_of_ble_eq_true rfl) (fun v2 S2 hp2 => ?_)
  refine V_widen (n' := 0) (k' := 0) (Nat.le_refl _) (Nat.le_refl _) ?_
  obtain ⟨rfl, ⟨ma_, hvma_, hima_, hMma_, hama_, hmma_, rfl⟩ | ⟨hno2, rfl⟩⟩ := hp2
  · skip
    refine V_astore_n (pc := 5) (L2 := [(0, .ref (Z.2.2.2 99)), (1, .int i_), (2, .int k_)]) dX10_taken_5 rfl (by decide) rfl (fun x3_5 ex3_5 => ?_)
    subst ex3_5
    refine V_aload_n (pc := 6) dX10_taken_6 0 rfl rfl ?_
    refine V_ifnull (pc := 7) dX10_taken_7 ?_
    refine V_iload_n (pc := 10) dX10_taken_10 3 rfl rfl ?_
    refine V_iconst (v := 0) (pc := 11) dX10_taken_11 (by decide) ?_
    refine V_iconst (v := 5) (pc := 12) dX10_taken_12 (by decide) ?_
    refine V_callSi (pc := 13) dX10_taken_13 (c_X10_between Z _ _ _ _) kX10_60 rfl (Nat.le_of_ble_eq_true rfl) (by decide) (by decide) (Nat.le_of_ble_eq_true rfl) (Nat.le_of_ble_eq_true rfl) ?_
    refine V_bif_ne (pc := 16) (tgt := 22) dX10_taken_16 (by decide) (fun h16 => ?_) (fun h16 => ?_)
    · skip
      refine V_aload_n (pc := 22) dX10_taken_22 0 rfl rfl ?_
      refine V_iload_n (pc := 23) dX10_taken_23 3 rfl rfl ?_
      refine V_callSi (pc := 24) dX10_taken_24 (c_X10_isUnder Z _ _ _ (by exact hama_) (by exact hmma_)) kX10_106 rfl (Nat.le_of_ble_eq_true rfl) (by decide) (by decide) (Nat.le_of_ble_eq_true rfl) (Nat.le_of_ble_eq_true rfl) ?_
      refine V_bif_eq (pc := 27) (tgt := 37) dX10_taken_27 (by decide) (fun h27 => ?_) (fun h27 => ?_)
      · skip
        refine V_bipush (v := (-13)) (pc := 37) dX10_taken_37 (by decide) ?_
        exact V_iret (pc := 39) dX10_taken_39 (Nat.le_of_ble_eq_true rfl) (Nat.le_of_ble_eq_true rfl) (hB _ _ ⟨congrArg (fun z => some (Value.int z)) (by rw [if_pos ⟨hima_, h16⟩, xAd_eq hMma_]; first | exact (if_pos h27).symm | exact (if_neg h27).symm), by rfl⟩)
      · skip
        refine V_aload_n (pc := 30) dX10_taken_30 0 rfl rfl ?_
        refine Xmg_taps (pc := 31) (v := (mfo S ma_ 2)) (by exact hama_) (by exact hmma_) rfl dX10_taken_31 tw_206 (Or.inl rfl) ?_
        refine V_goto (pc := 34) (tgt := 39) dX10_taken_34 (by decide) ?_
        exact V_iret (pc := 39) dX10_taken_39 (Nat.le_of_ble_eq_true rfl) (Nat.le_of_ble_eq_true rfl) (hB _ _ ⟨congrArg (fun z => some (Value.int z)) (by rw [if_pos ⟨hima_, h16⟩, xAd_eq hMma_]; first | exact (if_pos h27).symm | exact (if_neg h27).symm), by rfl⟩)
    · skip
      refine V_bipush (v := (-2)) (pc := 19) dX10_taken_19 (by decide) ?_
      exact V_iret (pc := 21) dX10_taken_21 (Nat.le_of_ble_eq_true rfl) (Nat.le_of_ble_eq_true rfl) (hB _ _ ⟨congrArg (fun z => some (Value.int z)) (by exact (if_neg (fun h => h16 h.2)).symm), by rfl⟩)
  · skip
    refine V_astore_nN (L2 := [(0, .ref (Z.2.2.2 99)), (1, .int i_), (2, .int k_)]) (pc := 5) dX10_taken_5  rfl (by decide) rfl ?_
    refine V_aload_nN (pc := 6) dX10_taken_6 0 rfl rfl ?_
    refine V_ifnullN (pc := 7) (tgt := 19) dX10_taken_7 (by decide) ?_
    refine V_bipush (v := (-2)) (pc := 19) dX10_taken_19 (by decide) ?_
    exact V_iret (pc := 21) dX10_taken_21 (Nat.le_of_ble_eq_true rfl) (Nat.le_of_ble_eq_true rfl) (hB _ _ ⟨congrArg (fun z => some (Value.int z)) (by exact (if_neg (fun h => hno2 h.1)).symm), by rfl⟩)
set_option maxHeartbeats 4000000 in
set_option maxRecDepth 100000 in
theorem c_X10_step (Z : VZ) (S : XS) (i_ : Int32) (n_ : Int32) (hx : xOK S) : CtF XW Z yX10_step cX10_step 4 (some .int) 5 0 0 [.ref (Z.2.2.2 99), .int i_, .int n_] (S) (some (.int (if (0 ≤ i_ ∧ i_ < S.1 1) ∧ (1 ≤ n_ ∧ n_ ≤ 30) then (tlL (xmk S (xAd S i_)) (mfo S (xAd S i_)) n_.toNatClampNeg).toInt32 else -2))) (if (0 ≤ i_ ∧ i_ < S.1 1) ∧ (1 ≤ n_ ∧ n_ ≤ 30) then xM S (xAd S i_) (advN (xmk S (xAd S i_)) n_.toNatClampNeg (mfo S (xAd S i_))) else S) := by
  refine V_entry (own := RX10) (by decide) rfl (Nat.le_of_ble_eq_true rfl) ?_
  intro B hB
  refine V_sub (L' := [(0, .ref (Z.2.2.2 99)), (1, .int i_), (2, .int n_)]) [0, 1, 2] rfl ?_
  refine V_aload_n (pc := 0) dX10_step_0 0 rfl rfl ?_
  refine V_iload_n (pc := 1) dX10_step_1 1 rfl rfl ?_
  refine V_callV (q0 := 0) (ci := 10) (C := RX10) (T := TX10) (N := 9) (pc := 2) dX10_step_2 (c_X10_machineAt Z _ _ (by exact hx)) kX10_76 rfl rfl rfl rfl (Nat.le_of_ble_eq_true rfl) (by decide) (by decide) (Nat.le_of_ble_eq_true rfl) (Nat.le_of_ble_eq_true rfl) (fun v2 S2 hp2 => ?_)
  refine V_widen (n' := 0) (k' := 0) (Nat.le_refl _) (Nat.le_refl _) ?_
  obtain ⟨rfl, ⟨ma_, hvma_, hima_, hMma_, hama_, hmma_, rfl⟩ | ⟨hno2, rfl⟩⟩ := hp2
  · skip
    refine V_astore_n (pc := 5) (L2 := [(0, .ref (Z.2.2.2 99)), (1, .int i_), (2, .int n_)]) dX10_step_5 rfl (by decide) rfl (fun x3_5 ex3_5 => ?_)
    subst ex3_5
    refine V_aload_n (pc := 6) dX10_step_6 0 rfl rfl ?_
    refine V_ifnull (pc := 7) dX10_step_7 ?_
    refine V_iload_n (pc := 10) dX10_step_10 3 rfl rfl ?_
    refine V_iconst (v := 1) (pc := 11) dX10_step_11 (by decide) ?_
    refine V_bipush (v := 30) (pc := 12) dX10_step_12 (by decide) ?_
    refine V_callSi (pc := 14) dX10_step_14 (c_X10_between Z _ _ _ _) kX10_60 rfl (Nat.le_of_ble_eq_true rfl) (by decide) (by decide) (Nat.le_of_ble_eq_true rfl) (Nat.le_of_ble_eq_true rfl) ?_
    refine V_bif_ne (pc := 17) (tgt := 23) dX10_step_17 (by decide) (fun h17 => ?_) (fun h17 => ?_)
    · skip
      refine V_aload_n (pc := 23) dX10_step_23 0 rfl rfl ?_
      refine V_iload_n (pc := 24) dX10_step_24 3 rfl rfl ?_
      refine V_callSl (pc := 25) dX10_step_25 (c_X10_tell Z _ _ _ (by exact hama_) (by exact hmma_)) kX10_110 rfl (Nat.le_of_ble_eq_true rfl) (by decide) (by decide) (Nat.le_of_ble_eq_true rfl) (Nat.le_of_ble_eq_true rfl) ?_
      refine V_l2i (pc := 28) dX10_step_28 rfl ?_
      exact V_iret (pc := 29) dX10_step_29 (Nat.le_of_ble_eq_true rfl) (Nat.le_of_ble_eq_true rfl) (hB _ _ ⟨congrArg (fun z => some (Value.int z)) (by rw [if_pos ⟨hima_, h17⟩, xAd_eq hMma_]), by rw [if_pos ⟨hima_, h17⟩, xAd_eq hMma_]⟩)
    · skip
      refine V_bipush (v := (-2)) (pc := 20) dX10_step_20 (by decide) ?_
      exact V_iret (pc := 22) dX10_step_22 (Nat.le_of_ble_eq_true rfl) (Nat.le_of_ble_eq_true rfl) (hB _ _ ⟨congrArg (fun z => some (Value.int z)) (by exact (if_neg (fun h => h17 h.2)).symm), by exact (if_neg (fun h => h17 h.2)).symm⟩)
  · skip
    refine V_astore_nN (L2 := [(0, .ref (Z.2.2.2 99)), (1, .int i_), (2, .int n_)]) (pc := 5) dX10_step_5  rfl (by decide) rfl ?_
    refine V_aload_nN (pc := 6) dX10_step_6 0 rfl rfl ?_
    refine V_ifnullN (pc := 7) (tgt := 20) dX10_step_7 (by decide) ?_
    refine V_bipush (v := (-2)) (pc := 20) dX10_step_20 (by decide) ?_
    exact V_iret (pc := 22) dX10_step_22 (Nat.le_of_ble_eq_true rfl) (Nat.le_of_ble_eq_true rfl) (hB _ _ ⟨congrArg (fun z => some (Value.int z)) (by exact (if_neg (fun h => hno2 h.1)).symm), by exact (if_neg (fun h => hno2 h.1)).symm⟩)
set_option maxHeartbeats 4000000 in
set_option maxRecDepth 100000 in
theorem c_X10_then (Z : VZ) (S : XS) (i_ : Int32) (n_ : Int32) (w_ : Int32) (hx : xOK S) : Ct XW Z yX10_then cX10_then 6 (some .int) 7 1 6 [.ref (Z.2.2.2 99), .int i_, .int n_, .int w_] (S) (fun v S' => v = some (.int (if ((0 ≤ i_ ∧ i_ < S.1 1) ∧ (0 ≤ n_ ∧ n_ ≤ 40) ∧ (0 ≤ w_ ∧ w_ ≤ 2)) then (if w_ = 0 then (advN (kc (mfo S (xAd S i_) 0)) n_.toNatClampNeg (gM (mfo S (xAd S i_) 0) (mfo S (xAd S i_) 1) (mfo S (xAd S i_) 2) (mfo S (xAd S i_) 3) (mfo S (xAd S i_) 4))) 3 &&& 1 else if w_ = 1 then (advN (kc (mfo S (xAd S i_) 0)) n_.toNatClampNeg (gM (mfo S (xAd S i_) 0) (mfo S (xAd S i_) 1) (mfo S (xAd S i_) 2) (mfo S (xAd S i_) 3) (mfo S (xAd S i_) 4))) 3 else (advN (kc (mfo S (xAd S i_) 0)) n_.toNatClampNeg (gM (mfo S (xAd S i_) 0) (mfo S (xAd S i_) 1) (mfo S (xAd S i_) 2) (mfo S (xAd S i_) 3) (mfo S (xAd S i_) 4))) 4) else -1000)) ∧ xCor S S') := by
  refine V_entry (own := RX10) (by decide) rfl (Nat.le_of_ble_eq_true rfl) ?_
  intro B hB
  refine V_sub (L' := [(0, .ref (Z.2.2.2 99)), (1, .int i_), (2, .int n_), (3, .int w_)]) [0, 1, 2, 3] rfl ?_
  refine V_aload_n (pc := 0) dX10_then_0 0 rfl rfl ?_
  refine V_iload_n (pc := 1) dX10_then_1 1 rfl rfl ?_
  refine V_callV (q0 := 0) (ci := 10) (C := RX10) (T := TX10) (N := 9) (pc := 2) dX10_then_2 (c_X10_machineAt Z _ _ (by exact hx)) kX10_76 rfl rfl rfl rfl (Nat.le_of_ble_eq_true rfl) (by decide) (by decide) (Nat.le_of_ble_eq_true rfl) (Nat.le_of_ble_eq_true rfl) (fun v2 S2 hp2 => ?_)
  refine V_widen (n' := 0) (k' := 0) (Nat.le_refl _) (Nat.le_refl _) ?_
  obtain ⟨rfl, ⟨ma_, hvma_, hima_, hMma_, hama_, hmma_, rfl⟩ | ⟨hno2, rfl⟩⟩ := hp2
  · skip
    refine V_astore (pc := 5) (L2 := [(0, .ref (Z.2.2.2 99)), (1, .int i_), (2, .int n_), (3, .int w_)]) dX10_then_5 (by decide) rfl (fun x4_5 ex4_5 => ?_)
    subst ex4_5
    refine V_aload (pc := 7) dX10_then_7 0 rfl ?_
    refine V_ifnull (pc := 9) dX10_then_9 ?_
    refine V_iload_n (pc := 12) dX10_then_12 3 rfl rfl ?_
    refine V_iconst (v := 0) (pc := 13) dX10_then_13 (by decide) ?_
    refine V_bipush (v := 40) (pc := 14) dX10_then_14 (by decide) ?_
    refine V_callSi (pc := 16) dX10_then_16 (c_X10_between Z _ _ _ _) kX10_60 rfl (Nat.le_of_ble_eq_true rfl) (by decide) (by decide) (Nat.le_of_ble_eq_true rfl) (Nat.le_of_ble_eq_true rfl) ?_
    refine V_bif_eq (pc := 19) (tgt := 31) dX10_then_19 (by decide) (fun h19 => ?_) (fun h19 => ?_)
    · skip
      refine V_sipush (v := (-1000)) (pc := 31) dX10_then_31 (by decide) ?_
      exact V_iret (pc := 34) dX10_then_34 (Nat.le_of_ble_eq_true rfl) (Nat.le_of_ble_eq_true rfl) (hB _ _ ⟨congrArg (fun z => some (Value.int z)) (by exact (if_neg (fun h => h19 h.2.1)).symm), by exact xCor_rfl S⟩)
    · skip
      refine V_iload_n (pc := 22) dX10_then_22 4 rfl rfl ?_
      refine V_iconst (v := 0) (pc := 23) dX10_then_23 (by decide) ?_
      refine V_iconst (v := 2) (pc := 24) dX10_then_24 (by decide) ?_
      refine V_callSi (pc := 25) dX10_then_25 (c_X10_between Z _ _ _ _) kX10_60 rfl (Nat.le_of_ble_eq_true rfl) (by decide) (by decide) (Nat.le_of_ble_eq_true rfl) (Nat.le_of_ble_eq_true rfl) ?_
      refine V_bif_ne (pc := 28) (tgt := 35) dX10_then_28 (by decide) (fun h28 => ?_) (fun h28 => ?_)
      · skip
        refine V_aload (pc := 35) dX10_then_35 0 rfl ?_
        refine V_callS (pc := 37) dX10_then_37 (c_X10_thoughtOf Z _ _ (by exact hama_) (by exact hmma_)) kX10_114 rfl (Nat.le_of_ble_eq_true rfl) (by decide) (by decide) (Nat.le_of_ble_eq_true rfl) (Nat.le_of_ble_eq_true rfl) (fun v37 S37 hp37 => ?_)
        refine V_widen (n' := 1) (k' := 6) (Nat.le_refl _) (Nat.le_refl _) ?_
        obtain ⟨q_, rfl, hq_, rfl⟩ := hp37
        refine V_astore (pc := 40) (L2 := [(4, .ref (ma_)), (0, .ref (Z.2.2.2 99)), (1, .int i_), (2, .int n_), (3, .int w_)]) dX10_then_40 (by decide) rfl (fun x5_40 ex5_40 => ?_)
        subst ex5_40
        refine V_aload (pc := 42) dX10_then_42 0 rfl ?_
        refine V_iload_n (pc := 44) dX10_then_44 4 rfl rfl ?_
        refine V_callSl (pc := 45) dX10_then_45 (c_X10_tell Z _ _ _ (by exact in_xN _ _ _ _) (by exact mcl_xN _ _ _ _)) kX10_110 rfl (Nat.le_of_ble_eq_true rfl) (by decide) (by decide) (Nat.le_of_ble_eq_true rfl) (Nat.le_of_ble_eq_true rfl) ?_
        refine V_eqS (xN S q_ (kc (mfo S ma_ 0)) (advN (kc (mfo S ma_ 0)) n_.toNatClampNeg (gM (mfo S ma_ 0) (mfo S ma_ 1) (mfo S ma_ 2) (mfo S ma_ 3) (mfo S ma_ 4)))) (by rw [xN_M, xmk_xN, mfo_xN]) ?_
        refine V_pop2_2 (pc := 48) dX10_then_48 rfl ?_
        refine V_iload_n (pc := 49) dX10_then_49 5 rfl rfl ?_
        by_cases h50_0 : w_ = 0
        · refine V_eqi 0 h50_0 ?_
          refine V_lookup (pc := 50) (tgt := 76) dX10_then_50 (by decide) rfl (by decide) ?_
          refine V_aload (pc := 76) dX10_then_76 0 rfl ?_
          refine Xmg_state (pc := 78) (v := ((advN (kc (mfo S ma_ 0)) n_.toNatClampNeg (gM (mfo S ma_ 0) (mfo S ma_ 1) (mfo S ma_ 2) (mfo S ma_ 3) (mfo S ma_ 4))) 3)) (by exact in_xN _ _ _ _) (by exact mcl_xN _ _ _ _) (by rw [mfoR_xN]) dX10_then_78 tw_210 (Or.inl rfl) ?_
          refine V_iconst (v := 1) (pc := 81) dX10_then_81 (by decide) ?_
          refine V_iand (pc := 82) dX10_then_82 ?_
          exact V_iret (pc := 83) dX10_then_83 (Nat.le_of_ble_eq_true rfl) (Nat.le_of_ble_eq_true rfl) (hB _ _ ⟨congrArg (fun z => some (Value.int z)) (by rw [if_pos ⟨hima_, h19, h28⟩, xAd_eq hMma_]; simp [*]), by exact xCor_xN S _ _ hq_⟩)
        by_cases h50_1 : w_ = 1
        · refine V_eqi 1 h50_1 ?_
          refine V_lookup (pc := 50) (tgt := 84) dX10_then_50 (by decide) rfl (by decide) ?_
          refine V_aload (pc := 84) dX10_then_84 0 rfl ?_
          refine Xmg_state (pc := 86) (v := ((advN (kc (mfo S ma_ 0)) n_.toNatClampNeg (gM (mfo S ma_ 0) (mfo S ma_ 1) (mfo S ma_ 2) (mfo S ma_ 3) (mfo S ma_ 4))) 3)) (by exact in_xN _ _ _ _) (by exact mcl_xN _ _ _ _) (by rw [mfoR_xN]) dX10_then_86 tw_210 (Or.inl rfl) ?_
          exact V_iret (pc := 89) dX10_then_89 (Nat.le_of_ble_eq_true rfl) (Nat.le_of_ble_eq_true rfl) (hB _ _ ⟨congrArg (fun z => some (Value.int z)) (by rw [if_pos ⟨hima_, h19, h28⟩, xAd_eq hMma_]; simp [*]), by exact xCor_xN S _ _ hq_⟩)
        refine V_lookup (pc := 50) (tgt := 90) (off := 40) dX10_then_50 (by decide) (by exact (lv_osw h50_0 rfl).trans ((lv_osw h50_1 rfl).trans (rfl))) (by decide) ?_
        refine V_aload (pc := 90) dX10_then_90 0 rfl ?_
        refine Xmg_carry (pc := 92) (v := ((advN (kc (mfo S ma_ 0)) n_.toNatClampNeg (gM (mfo S ma_ 0) (mfo S ma_ 1) (mfo S ma_ 2) (mfo S ma_ 3) (mfo S ma_ 4))) 4)) (by exact in_xN _ _ _ _) (by exact mcl_xN _ _ _ _) (by rw [mfoR_xN]) dX10_then_92 tw_218 (Or.inl rfl) ?_
        exact V_iret (pc := 95) dX10_then_95 (Nat.le_of_ble_eq_true rfl) (Nat.le_of_ble_eq_true rfl) (hB _ _ ⟨congrArg (fun z => some (Value.int z)) (by rw [if_pos ⟨hima_, h19, h28⟩, xAd_eq hMma_]; simp [*]), by exact xCor_xN S _ _ hq_⟩)
      · skip
        refine V_sipush (v := (-1000)) (pc := 31) dX10_then_31 (by decide) ?_
        exact V_iret (pc := 34) dX10_then_34 (Nat.le_of_ble_eq_true rfl) (Nat.le_of_ble_eq_true rfl) (hB _ _ ⟨congrArg (fun z => some (Value.int z)) (by exact (if_neg (fun h => h28 h.2.2)).symm), by exact xCor_rfl S⟩)
  · skip
    refine V_astoreN (L2 := [(0, .ref (Z.2.2.2 99)), (1, .int i_), (2, .int n_), (3, .int w_)]) (pc := 5) dX10_then_5  (by decide) rfl ?_
    refine V_aloadN (pc := 7) dX10_then_7 0 rfl ?_
    refine V_ifnullN (pc := 9) (tgt := 31) dX10_then_9 (by decide) ?_
    refine V_sipush (v := (-1000)) (pc := 31) dX10_then_31 (by decide) ?_
    exact V_iret (pc := 34) dX10_then_34 (Nat.le_of_ble_eq_true rfl) (Nat.le_of_ble_eq_true rfl) (hB _ _ ⟨congrArg (fun z => some (Value.int z)) (by exact (if_neg (fun h => hno2 h.1)).symm), by exact xCor_rfl S⟩)
