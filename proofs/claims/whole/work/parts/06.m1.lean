/-- a truth as the machine has it -/
def bI (p : Prop) [Decidable p] : Int32 := if p then 1 else 0
theorem bI_or (p : Prop) [Decidable p] : bI p = 0 ∨ bI p = 1 := by by_cases h : p <;> simp [bI, h]
theorem bI_t {p : Prop} [Decidable p] (h : p) : bI p = 1 := if_pos h
theorem bI_f {p : Prop} [Decidable p] (h : ¬ p) : bI p = 0 := if_neg h
theorem bI_eq {p : Prop} [Decidable p] (h : bI p = 1) : p := by by_cases hp : p; exact hp; rw [bI_f hp] at h; exact absurd h (by decide)
theorem bI_ne {p : Prop} [Decidable p] (h : bI p = 0) : ¬ p := by intro hp; rw [bI_t hp] at h; exact absurd h (by decide)
theorem bI_cg {p q : Prop} [Decidable p] [Decidable q] (h : p ↔ q) : bI p = bI q := by by_cases hp : p; rw [bI_t hp, bI_t (h.mp hp)]; rw [bI_f hp, bI_f (fun hq => hp (h.mpr hq))]
theorem V_bif_eq {St : Type} {Wd : VZ → St → va_W} {Z : VZ} {cc : ByteArray} {own : String} {nL : Nat} {ret : Option FieldType} {d mc ms : Nat} {B : VB St} {n k pc : Nat} {L : List (Nat × Value)} {st : List Value} {S : St} {p : Prop} [Decidable p] {off : Int} {tgt : Nat} (hdg : decode cc pc = .ok (.ifCond .eq off, 3)) (ht : (pc : Int) + off = (tgt : Int)) (kt : ¬ p → V Wd Z cc own nL ret d mc ms B n k tgt L st S) (kf : p → V Wd Z cc own nL ret d mc ms B n k (pc + 3) L st S) : V Wd Z cc own nL ret d mc ms B n k pc L (.int (bI p) :: st) S := V_if_eq hdg ht (fun h => kt (bI_ne h)) (fun h => kf (by rcases bI_or p with q | q; exact absurd q h; exact bI_eq q))
theorem V_bif_ne {St : Type} {Wd : VZ → St → va_W} {Z : VZ} {cc : ByteArray} {own : String} {nL : Nat} {ret : Option FieldType} {d mc ms : Nat} {B : VB St} {n k pc : Nat} {L : List (Nat × Value)} {st : List Value} {S : St} {p : Prop} [Decidable p] {off : Int} {tgt : Nat} (hdg : decode cc pc = .ok (.ifCond .ne off, 3)) (ht : (pc : Int) + off = (tgt : Int)) (kt : p → V Wd Z cc own nL ret d mc ms B n k tgt L st S) (kf : ¬ p → V Wd Z cc own nL ret d mc ms B n k (pc + 3) L st S) : V Wd Z cc own nL ret d mc ms B n k pc L (.int (bI p) :: st) S := V_if_ne hdg ht (fun h => kt (by rcases bI_or p with q | q; exact absurd q h; exact bI_eq q)) (fun h => kf (fun hp => absurd (bI_t hp) (by rw [h]; decide)))
set_option maxHeartbeats 4000000 in
set_option maxRecDepth 100000 in
theorem cM_in (Z : VZ) (S : MS) (a : Int32) (b : Int32) (c : Int32) : CtF MW Z yX11_in cX11_in 3 (some .boolean) 0 0 0 [.int a, .int b, .int c] (S) (some (.int (bI (b ≤ a ∧ a ≤ c)))) (S) := by
  refine V_entry (own := RX11) (by decide) rfl (Nat.le_of_ble_eq_true rfl) ?_
  intro B hB
  refine V_sub (L' := [(0, .int a), (1, .int b), (2, .int c)]) [0, 1, 2] rfl ?_
  refine V_iload_n (pc := 0) dX11_in_0 0 rfl rfl ?_
  refine V_iload_n (pc := 1) dX11_in_1 1 rfl rfl ?_
  refine V_icmp_lt (pc := 2) (tgt := 14) dX11_in_2 (by decide) (fun h2 => ?_) (fun h2 => ?_)
  · skip
    refine V_iconst (v := 0) (pc := 14) dX11_in_14 (by decide) ?_
    exact V_zret (pc := 15) dX11_in_15 (Nat.le_of_ble_eq_true rfl) (Nat.le_of_ble_eq_true rfl) (Or.inl rfl) (hB _ _ ⟨congrArg (fun z => some (Value.int z)) (by first | exact (bI_t (by first | (clear hB; simp_all [Int32.not_le, Int32.not_lt]; done) | (clear hB; simp only [Int32.not_le, Int32.not_lt, Int32.lt_iff_toInt_lt, Int32.le_iff_toInt_le] at *; omega))).symm | exact (bI_f (by first | (clear hB; simp_all [Int32.not_le, Int32.not_lt]; done) | (clear hB; simp only [Int32.not_le, Int32.not_lt, Int32.lt_iff_toInt_lt, Int32.le_iff_toInt_le] at *; omega))).symm | rfl), by rfl⟩)
  · skip
    refine V_iload_n (pc := 5) dX11_in_5 0 rfl rfl ?_
    refine V_iload_n (pc := 6) dX11_in_6 2 rfl rfl ?_
    refine V_icmp_gt (pc := 7) (tgt := 14) dX11_in_7 (by decide) (fun h7 => ?_) (fun h7 => ?_)
    · skip
      refine V_iconst (v := 0) (pc := 14) dX11_in_14 (by decide) ?_
      exact V_zret (pc := 15) dX11_in_15 (Nat.le_of_ble_eq_true rfl) (Nat.le_of_ble_eq_true rfl) (Or.inl rfl) (hB _ _ ⟨congrArg (fun z => some (Value.int z)) (by first | exact (bI_t (by first | (clear hB; simp_all [Int32.not_le, Int32.not_lt]; done) | (clear hB; simp only [Int32.not_le, Int32.not_lt, Int32.lt_iff_toInt_lt, Int32.le_iff_toInt_le] at *; omega))).symm | exact (bI_f (by first | (clear hB; simp_all [Int32.not_le, Int32.not_lt]; done) | (clear hB; simp only [Int32.not_le, Int32.not_lt, Int32.lt_iff_toInt_lt, Int32.le_iff_toInt_le] at *; omega))).symm | rfl), by rfl⟩)
    · skip
      refine V_iconst (v := 1) (pc := 10) dX11_in_10 (by decide) ?_
      refine V_goto (pc := 11) (tgt := 15) dX11_in_11 (by decide) ?_
      exact V_zret (pc := 15) dX11_in_15 (Nat.le_of_ble_eq_true rfl) (Nat.le_of_ble_eq_true rfl) (Or.inr rfl) (hB _ _ ⟨congrArg (fun z => some (Value.int z)) (by first | exact (bI_t (by first | (clear hB; simp_all [Int32.not_le, Int32.not_lt]; done) | (clear hB; simp only [Int32.not_le, Int32.not_lt, Int32.lt_iff_toInt_lt, Int32.le_iff_toInt_le] at *; omega))).symm | exact (bI_f (by first | (clear hB; simp_all [Int32.not_le, Int32.not_lt]; done) | (clear hB; simp only [Int32.not_le, Int32.not_lt, Int32.lt_iff_toInt_lt, Int32.le_iff_toInt_le] at *; omega))).symm | rfl), by rfl⟩)
set_option maxHeartbeats 4000000 in
set_option maxRecDepth 100000 in
theorem cM_isKind (Z : VZ) (S : MS) (a : Int32) : CtF MW Z yX11_isKind cX11_isKind 1 (some .boolean) 1 0 0 [.int a] (S) (some (.int (bI (0 ≤ a ∧ a ≤ 5)))) (S) := by
  refine V_entry (own := RX11) (by decide) rfl (Nat.le_of_ble_eq_true rfl) ?_
  intro B hB
  refine V_sub (L' := [(0, .int a)]) [0] rfl ?_
  refine V_iload_n (pc := 0) dX11_isKind_0 0 rfl rfl ?_
  refine V_iconst (v := 0) (pc := 1) dX11_isKind_1 (by decide) ?_
  refine V_iconst (v := 5) (pc := 2) dX11_isKind_2 (by decide) ?_
  refine McSi (pc := 3) dX11_isKind_3 (cM_in Z _ _ _ _) kM_70 rfl (Nat.le_of_ble_eq_true rfl) (by decide) (by decide) ?_
  exact V_zret (pc := 6) dX11_isKind_6 (Nat.le_of_ble_eq_true rfl) (Nat.le_of_ble_eq_true rfl) (by exact bI_or _) (hB _ _ ⟨congrArg (fun z => some (Value.int z)) (by first | rfl | assumption | (simp_all; done)), by rfl⟩)
set_option maxHeartbeats 4000000 in
set_option maxRecDepth 100000 in
theorem cM_isState (Z : VZ) (S : MS) (a : Int32) (b : Int32) : CtF MW Z yX11_isState cX11_isState 2 (some .boolean) 1 0 0 [.int a, .int b] (S) (some (.int (bI (0 ≤ a ∧ a ≤ (1 <<< (b &&& 31)) - 1)))) (S) := by
  refine V_entry (own := RX11) (by decide) rfl (Nat.le_of_ble_eq_true rfl) ?_
  intro B hB
  refine V_sub (L' := [(0, .int a), (1, .int b)]) [0, 1] rfl ?_
  refine V_iload_n (pc := 0) dX11_isState_0 0 rfl rfl ?_
  refine V_iconst (v := 0) (pc := 1) dX11_isState_1 (by decide) ?_
  refine V_iconst (v := 1) (pc := 2) dX11_isState_2 (by decide) ?_
  refine V_iload_n (pc := 3) dX11_isState_3 1 rfl rfl ?_
  refine V_ishl (pc := 4) dX11_isState_4 ?_
  refine V_iconst (v := 1) (pc := 5) dX11_isState_5 (by decide) ?_
  refine V_isub (pc := 6) dX11_isState_6 ?_
  refine McSi (pc := 7) dX11_isState_7 (cM_in Z _ _ _ _) kM_70 rfl (Nat.le_of_ble_eq_true rfl) (by decide) (by decide) ?_
  exact V_zret (pc := 10) dX11_isState_10 (Nat.le_of_ble_eq_true rfl) (Nat.le_of_ble_eq_true rfl) (by exact bI_or _) (hB _ _ ⟨congrArg (fun z => some (Value.int z)) (by first | rfl | assumption | (simp_all; done)), by rfl⟩)
set_option maxHeartbeats 4000000 in
set_option maxRecDepth 100000 in
theorem cM_isSheet (Z : VZ) (S : MS) (a : Int32) : CtF MW Z yX11_isSheet cX11_isSheet 1 (some .boolean) 1 0 0 [.int a] (S) (some (.int (bI (0 ≤ a ∧ a ≤ 3)))) (S) := by
  refine V_entry (own := RX11) (by decide) rfl (Nat.le_of_ble_eq_true rfl) ?_
  intro B hB
  refine V_sub (L' := [(0, .int a)]) [0] rfl ?_
  refine V_iload_n (pc := 0) dX11_isSheet_0 0 rfl rfl ?_
  refine V_iconst (v := 0) (pc := 1) dX11_isSheet_1 (by decide) ?_
  refine V_iconst (v := 3) (pc := 2) dX11_isSheet_2 (by decide) ?_
  refine McSi (pc := 3) dX11_isSheet_3 (cM_in Z _ _ _ _) kM_70 rfl (Nat.le_of_ble_eq_true rfl) (by decide) (by decide) ?_
  exact V_zret (pc := 6) dX11_isSheet_6 (Nat.le_of_ble_eq_true rfl) (Nat.le_of_ble_eq_true rfl) (by exact bI_or _) (hB _ _ ⟨congrArg (fun z => some (Value.int z)) (by first | rfl | assumption | (simp_all; done)), by rfl⟩)
set_option maxHeartbeats 4000000 in
set_option maxRecDepth 100000 in
theorem cM_has (Z : VZ) (S : MS) (a : Int32) (b : Int32) : CtF MW Z yX11_has cX11_has 2 (some .boolean) 0 0 0 [.int a, .int b] (S) (some (.int (bI (a >>> (b &&& 31) &&& 1 = 1)))) (S) := by
  refine V_entry (own := RX11) (by decide) rfl (Nat.le_of_ble_eq_true rfl) ?_
  intro B hB
  refine V_sub (L' := [(0, .int a), (1, .int b)]) [0, 1] rfl ?_
  refine V_iload_n (pc := 0) dX11_has_0 0 rfl rfl ?_
  refine V_iload_n (pc := 1) dX11_has_1 1 rfl rfl ?_
  refine V_ishr (pc := 2) dX11_has_2 ?_
  refine V_iconst (v := 1) (pc := 3) dX11_has_3 (by decide) ?_
  refine V_iand (pc := 4) dX11_has_4 ?_
  refine V_iconst (v := 1) (pc := 5) dX11_has_5 (by decide) ?_
  refine V_icmp_ne (pc := 6) (tgt := 13) dX11_has_6 (by decide) (fun h6 => ?_) (fun h6 => ?_)
  · skip
    refine V_iconst (v := 0) (pc := 13) dX11_has_13 (by decide) ?_
    exact V_zret (pc := 14) dX11_has_14 (Nat.le_of_ble_eq_true rfl) (Nat.le_of_ble_eq_true rfl) (Or.inl rfl) (hB _ _ ⟨congrArg (fun z => some (Value.int z)) (by first | exact (bI_t (by first | (clear hB; simp_all [Int32.not_le, Int32.not_lt]; done) | (clear hB; simp only [Int32.not_le, Int32.not_lt, Int32.lt_iff_toInt_lt, Int32.le_iff_toInt_le] at *; omega))).symm | exact (bI_f (by first | (clear hB; simp_all [Int32.not_le, Int32.not_lt]; done) | (clear hB; simp only [Int32.not_le, Int32.not_lt, Int32.lt_iff_toInt_lt, Int32.le_iff_toInt_le] at *; omega))).symm | rfl), by rfl⟩)
  · skip
    refine V_iconst (v := 1) (pc := 9) dX11_has_9 (by decide) ?_
    refine V_goto (pc := 10) (tgt := 14) dX11_has_10 (by decide) ?_
    exact V_zret (pc := 14) dX11_has_14 (Nat.le_of_ble_eq_true rfl) (Nat.le_of_ble_eq_true rfl) (Or.inr rfl) (hB _ _ ⟨congrArg (fun z => some (Value.int z)) (by first | exact (bI_t (by first | (clear hB; simp_all [Int32.not_le, Int32.not_lt]; done) | (clear hB; simp only [Int32.not_le, Int32.not_lt, Int32.lt_iff_toInt_lt, Int32.le_iff_toInt_le] at *; omega))).symm | exact (bI_f (by first | (clear hB; simp_all [Int32.not_le, Int32.not_lt]; done) | (clear hB; simp only [Int32.not_le, Int32.not_lt, Int32.lt_iff_toInt_lt, Int32.le_iff_toInt_le] at *; omega))).symm | rfl), by rfl⟩)
set_option maxHeartbeats 4000000 in
set_option maxRecDepth 100000 in
theorem cM_isMachine (Z : VZ) (S : MS) (a : Int32) : CtF MW Z yX11_isMachine cX11_isMachine 2 (some .boolean) 1 0 0 [.ref (Z.2.2.2 99), .int a] (S) (some (.int (bI (0 ≤ a ∧ a ≤ S.1 0 - 1)))) (S) := by
  refine V_entry (own := RX11) (by decide) rfl (Nat.le_of_ble_eq_true rfl) ?_
  intro B hB
  refine V_sub (L' := [(0, .ref (Z.2.2.2 99)), (1, .int a)]) [0, 1] rfl ?_
  refine V_iload_n (pc := 0) dX11_isMachine_0 1 rfl rfl ?_
  refine V_iconst (v := 0) (pc := 1) dX11_isMachine_1 (by decide) ?_
  refine V_aload_n (pc := 2) dX11_isMachine_2 0 rfl rfl ?_
  refine Mg_many (pc := 3) (v := (S.1 0)) rfl dX11_isMachine_3 ?_
  refine V_iconst (v := 1) (pc := 6) dX11_isMachine_6 (by decide) ?_
  refine V_isub (pc := 7) dX11_isMachine_7 ?_
  refine McSi (pc := 8) dX11_isMachine_8 (cM_in Z _ _ _ _) kM_70 rfl (Nat.le_of_ble_eq_true rfl) (by decide) (by decide) ?_
  exact V_zret (pc := 11) dX11_isMachine_11 (Nat.le_of_ble_eq_true rfl) (Nat.le_of_ble_eq_true rfl) (by exact bI_or _) (hB _ _ ⟨congrArg (fun z => some (Value.int z)) (by first | rfl | assumption | (simp_all; done)), by rfl⟩)
set_option maxHeartbeats 4000000 in
set_option maxRecDepth 100000 in
theorem cM_isFraction (Z : VZ) (S : MS) (a : Int32) (b : Int32) : CtF MW Z yX11_isFraction cX11_isFraction 2 (some .boolean) 1 0 0 [.int a, .int b] (S) (some (.int (bI ((-9999 ≤ a ∧ a ≤ 9999) ∧ (1 ≤ b ∧ b ≤ 9999))))) (S) := by
  refine V_entry (own := RX11) (by decide) rfl (Nat.le_of_ble_eq_true rfl) ?_
  intro B hB
  refine V_sub (L' := [(0, .int a), (1, .int b)]) [0, 1] rfl ?_
  refine V_iload_n (pc := 0) dX11_isFraction_0 0 rfl rfl ?_
  refine V_sipush (v := (-9999)) (pc := 1) dX11_isFraction_1 (by decide) ?_
  refine V_sipush (v := 9999) (pc := 4) dX11_isFraction_4 (by decide) ?_
  refine McSi (pc := 7) dX11_isFraction_7 (cM_in Z _ _ _ _) kM_70 rfl (Nat.le_of_ble_eq_true rfl) (by decide) (by decide) ?_
  refine V_bif_eq (pc := 10) (tgt := 28) dX11_isFraction_10 (by decide) (fun h10 => ?_) (fun h10 => ?_)
  · skip
    refine V_iconst (v := 0) (pc := 28) dX11_isFraction_28 (by decide) ?_
    exact V_zret (pc := 29) dX11_isFraction_29 (Nat.le_of_ble_eq_true rfl) (Nat.le_of_ble_eq_true rfl) (Or.inl rfl) (hB _ _ ⟨congrArg (fun z => some (Value.int z)) (by first | exact (bI_t (by first | (clear hB; simp_all [Int32.not_le, Int32.not_lt]; done) | (clear hB; simp only [Int32.not_le, Int32.not_lt, Int32.lt_iff_toInt_lt, Int32.le_iff_toInt_le] at *; omega))).symm | exact (bI_f (by first | (clear hB; simp_all [Int32.not_le, Int32.not_lt]; done) | (clear hB; simp only [Int32.not_le, Int32.not_lt, Int32.lt_iff_toInt_lt, Int32.le_iff_toInt_le] at *; omega))).symm | rfl), by rfl⟩)
  · skip
    refine V_iload_n (pc := 13) dX11_isFraction_13 1 rfl rfl ?_
    refine V_iconst (v := 1) (pc := 14) dX11_isFraction_14 (by decide) ?_
    refine V_sipush (v := 9999) (pc := 15) dX11_isFraction_15 (by decide) ?_
    refine McSi (pc := 18) dX11_isFraction_18 (cM_in Z _ _ _ _) kM_70 rfl (Nat.le_of_ble_eq_true rfl) (by decide) (by decide) ?_
    refine V_bif_eq (pc := 21) (tgt := 28) dX11_isFraction_21 (by decide) (fun h21 => ?_) (fun h21 => ?_)
    · skip
      refine V_iconst (v := 0) (pc := 28) dX11_isFraction_28 (by decide) ?_
      exact V_zret (pc := 29) dX11_isFraction_29 (Nat.le_of_ble_eq_true rfl) (Nat.le_of_ble_eq_true rfl) (Or.inl rfl) (hB _ _ ⟨congrArg (fun z => some (Value.int z)) (by first | exact (bI_t (by first | (clear hB; simp_all [Int32.not_le, Int32.not_lt]; done) | (clear hB; simp only [Int32.not_le, Int32.not_lt, Int32.lt_iff_toInt_lt, Int32.le_iff_toInt_le] at *; omega))).symm | exact (bI_f (by first | (clear hB; simp_all [Int32.not_le, Int32.not_lt]; done) | (clear hB; simp only [Int32.not_le, Int32.not_lt, Int32.lt_iff_toInt_lt, Int32.le_iff_toInt_le] at *; omega))).symm | rfl), by rfl⟩)
    · skip
      refine V_iconst (v := 1) (pc := 24) dX11_isFraction_24 (by decide) ?_
      refine V_goto (pc := 25) (tgt := 29) dX11_isFraction_25 (by decide) ?_
      exact V_zret (pc := 29) dX11_isFraction_29 (Nat.le_of_ble_eq_true rfl) (Nat.le_of_ble_eq_true rfl) (Or.inr rfl) (hB _ _ ⟨congrArg (fun z => some (Value.int z)) (by first | exact (bI_t (by first | (clear hB; simp_all [Int32.not_le, Int32.not_lt]; done) | (clear hB; simp only [Int32.not_le, Int32.not_lt, Int32.lt_iff_toInt_lt, Int32.le_iff_toInt_le] at *; omega))).symm | exact (bI_f (by first | (clear hB; simp_all [Int32.not_le, Int32.not_lt]; done) | (clear hB; simp only [Int32.not_le, Int32.not_lt, Int32.lt_iff_toInt_lt, Int32.le_iff_toInt_le] at *; omega))).symm | rfl), by rfl⟩)
set_option maxHeartbeats 4000000 in
set_option maxRecDepth 100000 in
theorem cM_isUnder (Z : VZ) (S : MS) (a : Int32) (b : Int32) : CtF MW Z yX11_isUnder cX11_isUnder 2 (some .boolean) 0 0 0 [.int a, .int b] (S) (some (.int (bI (b = 0 ∨ a = b ∨ (a = 2 ∧ b = 1))))) (S) := by
  refine V_entry (own := RX11) (by decide) rfl (Nat.le_of_ble_eq_true rfl) ?_
  intro B hB
  refine V_sub (L' := [(0, .int a), (1, .int b)]) [0, 1] rfl ?_
  refine V_iload_n (pc := 0) dX11_isUnder_0 1 rfl rfl ?_
  refine V_if_eq (pc := 1) (tgt := 19) dX11_isUnder_1 (by decide) (fun h1 => ?_) (fun h1 => ?_)
  · skip
    refine V_iconst (v := 1) (pc := 19) dX11_isUnder_19 (by decide) ?_
    refine V_goto (pc := 20) (tgt := 24) dX11_isUnder_20 (by decide) ?_
    exact V_zret (pc := 24) dX11_isUnder_24 (Nat.le_of_ble_eq_true rfl) (Nat.le_of_ble_eq_true rfl) (Or.inr rfl) (hB _ _ ⟨congrArg (fun z => some (Value.int z)) (by first | exact (bI_t (by first | (clear hB; simp_all [Int32.not_le, Int32.not_lt]; done) | (clear hB; simp only [Int32.not_le, Int32.not_lt, Int32.lt_iff_toInt_lt, Int32.le_iff_toInt_le] at *; omega))).symm | exact (bI_f (by first | (clear hB; simp_all [Int32.not_le, Int32.not_lt]; done) | (clear hB; simp only [Int32.not_le, Int32.not_lt, Int32.lt_iff_toInt_lt, Int32.le_iff_toInt_le] at *; omega))).symm | rfl), by rfl⟩)
  · skip
    refine V_iload_n (pc := 4) dX11_isUnder_4 0 rfl rfl ?_
    refine V_iload_n (pc := 5) dX11_isUnder_5 1 rfl rfl ?_
    refine V_icmp_eq (pc := 6) (tgt := 19) dX11_isUnder_6 (by decide) (fun h6 => ?_) (fun h6 => ?_)
    · skip
      refine V_iconst (v := 1) (pc := 19) dX11_isUnder_19 (by decide) ?_
      refine V_goto (pc := 20) (tgt := 24) dX11_isUnder_20 (by decide) ?_
      exact V_zret (pc := 24) dX11_isUnder_24 (Nat.le_of_ble_eq_true rfl) (Nat.le_of_ble_eq_true rfl) (Or.inr rfl) (hB _ _ ⟨congrArg (fun z => some (Value.int z)) (by first | exact (bI_t (by first | (clear hB; simp_all [Int32.not_le, Int32.not_lt]; done) | (clear hB; simp only [Int32.not_le, Int32.not_lt, Int32.lt_iff_toInt_lt, Int32.le_iff_toInt_le] at *; omega))).symm | exact (bI_f (by first | (clear hB; simp_all [Int32.not_le, Int32.not_lt]; done) | (clear hB; simp only [Int32.not_le, Int32.not_lt, Int32.lt_iff_toInt_lt, Int32.le_iff_toInt_le] at *; omega))).symm | rfl), by rfl⟩)
    · skip
      refine V_iload_n (pc := 9) dX11_isUnder_9 0 rfl rfl ?_
      refine V_iconst (v := 2) (pc := 10) dX11_isUnder_10 (by decide) ?_
      refine V_icmp_ne (pc := 11) (tgt := 23) dX11_isUnder_11 (by decide) (fun h11 => ?_) (fun h11 => ?_)
      · skip
        refine V_iconst (v := 0) (pc := 23) dX11_isUnder_23 (by decide) ?_
        exact V_zret (pc := 24) dX11_isUnder_24 (Nat.le_of_ble_eq_true rfl) (Nat.le_of_ble_eq_true rfl) (Or.inl rfl) (hB _ _ ⟨congrArg (fun z => some (Value.int z)) (by first | exact (bI_t (by first | (clear hB; simp_all [Int32.not_le, Int32.not_lt]; done) | (clear hB; simp only [Int32.not_le, Int32.not_lt, Int32.lt_iff_toInt_lt, Int32.le_iff_toInt_le] at *; omega))).symm | exact (bI_f (by first | (clear hB; simp_all [Int32.not_le, Int32.not_lt]; done) | (clear hB; simp only [Int32.not_le, Int32.not_lt, Int32.lt_iff_toInt_lt, Int32.le_iff_toInt_le] at *; omega))).symm | rfl), by rfl⟩)
      · skip
        refine V_iload_n (pc := 14) dX11_isUnder_14 1 rfl rfl ?_
        refine V_iconst (v := 1) (pc := 15) dX11_isUnder_15 (by decide) ?_
        refine V_icmp_ne (pc := 16) (tgt := 23) dX11_isUnder_16 (by decide) (fun h16 => ?_) (fun h16 => ?_)
        · skip
          refine V_iconst (v := 0) (pc := 23) dX11_isUnder_23 (by decide) ?_
          exact V_zret (pc := 24) dX11_isUnder_24 (Nat.le_of_ble_eq_true rfl) (Nat.le_of_ble_eq_true rfl) (Or.inl rfl) (hB _ _ ⟨congrArg (fun z => some (Value.int z)) (by first | exact (bI_t (by first | (clear hB; simp_all [Int32.not_le, Int32.not_lt]; done) | (clear hB; simp only [Int32.not_le, Int32.not_lt, Int32.lt_iff_toInt_lt, Int32.le_iff_toInt_le] at *; omega))).symm | exact (bI_f (by first | (clear hB; simp_all [Int32.not_le, Int32.not_lt]; done) | (clear hB; simp only [Int32.not_le, Int32.not_lt, Int32.lt_iff_toInt_lt, Int32.le_iff_toInt_le] at *; omega))).symm | rfl), by rfl⟩)
        · skip
          refine V_iconst (v := 1) (pc := 19) dX11_isUnder_19 (by decide) ?_
          refine V_goto (pc := 20) (tgt := 24) dX11_isUnder_20 (by decide) ?_
          exact V_zret (pc := 24) dX11_isUnder_24 (Nat.le_of_ble_eq_true rfl) (Nat.le_of_ble_eq_true rfl) (Or.inr rfl) (hB _ _ ⟨congrArg (fun z => some (Value.int z)) (by first | exact (bI_t (by first | (clear hB; simp_all [Int32.not_le, Int32.not_lt]; done) | (clear hB; simp only [Int32.not_le, Int32.not_lt, Int32.lt_iff_toInt_lt, Int32.le_iff_toInt_le] at *; omega))).symm | exact (bI_f (by first | (clear hB; simp_all [Int32.not_le, Int32.not_lt]; done) | (clear hB; simp only [Int32.not_le, Int32.not_lt, Int32.lt_iff_toInt_lt, Int32.le_iff_toInt_le] at *; omega))).symm | rfl), by rfl⟩)
set_option maxHeartbeats 4000000 in
set_option maxRecDepth 100000 in
theorem cM_behind (Z : VZ) (S : MS) (a : Int32) (b : Int32) : CtF MW Z yX11_behind cX11_behind 2 (some .int) 0 0 0 [.int a, .int b] (S) (some (.int ((a - (a &&& 1) * b) / 2))) (S) := by
  refine V_entry (own := RX11) (by decide) rfl (Nat.le_of_ble_eq_true rfl) ?_
  intro B hB
  refine V_sub (L' := [(0, .int a), (1, .int b)]) [0, 1] rfl ?_
  refine V_iload_n (pc := 0) dX11_behind_0 0 rfl rfl ?_
  refine V_iload_n (pc := 1) dX11_behind_1 0 rfl rfl ?_
  refine V_iconst (v := 1) (pc := 2) dX11_behind_2 (by decide) ?_
  refine V_iand (pc := 3) dX11_behind_3 ?_
  refine V_iload_n (pc := 4) dX11_behind_4 1 rfl rfl ?_
  refine V_imul (pc := 5) dX11_behind_5 ?_
  refine V_isub (pc := 6) dX11_behind_6 ?_
  refine V_iconst (v := 2) (pc := 7) dX11_behind_7 (by decide) ?_
  refine V_idiv (pc := 8) dX11_behind_8 (by first | assumption | decide) ?_
  exact V_iret (pc := 9) dX11_behind_9 (Nat.le_of_ble_eq_true rfl) (Nat.le_of_ble_eq_true rfl) (hB _ _ ⟨congrArg (fun z => some (Value.int z)) (by first | rfl | assumption | (simp_all; done)), by rfl⟩)
set_option maxHeartbeats 4000000 in
set_option maxRecDepth 100000 in
theorem cM_manyOf (Z : VZ) (S : MS) (a : Int32) : CtF MW Z yX11_manyOf cX11_manyOf 1 (some .int) 0 0 0 [.int a] (S) (some (.int (if a = 0 then 4 else if a = 5 then 0 else 2))) (S) := by
  refine V_entry (own := RX11) (by decide) rfl (Nat.le_of_ble_eq_true rfl) ?_
  intro B hB
  refine V_sub (L' := [(0, .int a)]) [0] rfl ?_
  refine V_iload_n (pc := 0) dX11_manyOf_0 0 rfl rfl ?_
  refine V_if_ne (pc := 1) (tgt := 8) dX11_manyOf_1 (by decide) (fun h1 => ?_) (fun h1 => ?_)
  · skip
    refine V_iload_n (pc := 8) dX11_manyOf_8 0 rfl rfl ?_
    refine V_iconst (v := 5) (pc := 9) dX11_manyOf_9 (by decide) ?_
    refine V_icmp_ne (pc := 10) (tgt := 17) dX11_manyOf_10 (by decide) (fun h10 => ?_) (fun h10 => ?_)
    · skip
      refine V_iconst (v := 2) (pc := 17) dX11_manyOf_17 (by decide) ?_
      exact V_iret (pc := 18) dX11_manyOf_18 (Nat.le_of_ble_eq_true rfl) (Nat.le_of_ble_eq_true rfl) (hB _ _ ⟨congrArg (fun z => some (Value.int z)) (by first | rfl | assumption | (simp_all; done)), by rfl⟩)
    · skip
      refine V_iconst (v := 0) (pc := 13) dX11_manyOf_13 (by decide) ?_
      refine V_goto (pc := 14) (tgt := 18) dX11_manyOf_14 (by decide) ?_
      exact V_iret (pc := 18) dX11_manyOf_18 (Nat.le_of_ble_eq_true rfl) (Nat.le_of_ble_eq_true rfl) (hB _ _ ⟨congrArg (fun z => some (Value.int z)) (by first | rfl | assumption | (simp_all; done)), by rfl⟩)
  · skip
    refine V_iconst (v := 4) (pc := 4) dX11_manyOf_4 (by decide) ?_
    refine V_goto (pc := 5) (tgt := 18) dX11_manyOf_5 (by decide) ?_
    exact V_iret (pc := 18) dX11_manyOf_18 (Nat.le_of_ble_eq_true rfl) (Nat.le_of_ble_eq_true rfl) (hB _ _ ⟨congrArg (fun z => some (Value.int z)) (by first | rfl | assumption | (simp_all; done)), by rfl⟩)
set_option maxHeartbeats 4000000 in
set_option maxRecDepth 100000 in
theorem cM_drop (Z : VZ) (S : MS) : CtF MW Z yX11_drop cX11_drop 1 (some .int) 0 0 0 [.ref (Z.2.2.2 99)] (S) (some (.int (if S.1 0 = 0 then -3 else S.1 0 - 1))) ((if S.1 0 = 0 then S.1 else va_up S.1 0 (S.1 0 - 1), S.2)) := by
  refine V_entry (own := RX11) (by decide) rfl (Nat.le_of_ble_eq_true rfl) ?_
  intro B hB
  refine V_sub (L' := [(0, .ref (Z.2.2.2 99))]) [0] rfl ?_
  refine V_aload_n (pc := 0) dX11_drop_0 0 rfl rfl ?_
  refine Mg_many (pc := 1) (v := (S.1 0)) rfl dX11_drop_1 ?_
  refine V_if_ne (pc := 4) (tgt := 10) dX11_drop_4 (by decide) (fun h4 => ?_) (fun h4 => ?_)
  · skip
    refine V_aload_n (pc := 10) dX11_drop_10 0 rfl rfl ?_
    refine V_dup (pc := 11) dX11_drop_11 rfl ?_
    refine Mg_many (pc := 12) (v := (S.1 0)) rfl dX11_drop_12 ?_
    refine V_iconst (v := 1) (pc := 15) dX11_drop_15 (by decide) ?_
    refine V_isub (pc := 16) dX11_drop_16 ?_
    refine Mp_many (pc := 17) dX11_drop_17 ?_
    refine V_aload_n (pc := 20) dX11_drop_20 0 rfl rfl ?_
    refine Mg_many (pc := 21) (v := ((S.1 0) - 1)) rfl dX11_drop_21 ?_
    exact V_iret (pc := 24) dX11_drop_24 (Nat.le_of_ble_eq_true rfl) (Nat.le_of_ble_eq_true rfl) (hB _ _ ⟨congrArg (fun z => some (Value.int z)) (by first | rfl | assumption | (simp_all; done)), by simp_all⟩)
  · skip
    refine V_bipush (v := (-3)) (pc := 7) dX11_drop_7 (by decide) ?_
    exact V_iret (pc := 9) dX11_drop_9 (Nat.le_of_ble_eq_true rfl) (Nat.le_of_ble_eq_true rfl) (hB _ _ ⟨congrArg (fun z => some (Value.int z)) (by first | rfl | assumption | (simp_all; done)), by simp_all⟩)
