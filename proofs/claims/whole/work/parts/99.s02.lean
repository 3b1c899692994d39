theorem c_X8_init (Z : VZ) (a_ : Nat) : Ct RW Z yX8_init cX8_init 1 none 1 1 40 [.ref a_] [(a_, .inr (8, [.null, .int 0, .int 0]))] (fun v S' => v = none ∧ ∃ q1 : Nat, S' = [(a_, .inr (8, [.ref q1, .int (-1), .int 0])), (q1, .inl (Z.2.2.1 0, 40, .inl (fun _ => 0)))]) := by
  refine V_entryI (own := RX8) (by decide) rfl (Nat.le_of_ble_eq_true rfl) ?_
  intro B hB hnm
  refine V_sub (L' := [(0, .ref a_)]) [0] rfl ?_
  refine V_aload_n (pc := 0) dX8_init_0 0 rfl rfl ?_
  refine V_objI (pc := 1) dX8_init_1 tw_117 tw_27 tw_28 (Nat.le_of_ble_eq_true rfl) (Nat.le_of_ble_eq_true rfl) ?_
  refine V_aload_n (pc := 4) dX8_init_4 0 rfl rfl ?_
  refine V_bipush (v := 40) (pc := 5) dX8_init_5 (by decide) ?_
  refine R_newI (pc := 7) 40 tw_69 (by decide) (by decide) (Nat.le_of_ble_eq_true rfl) (Nat.le_of_ble_eq_true rfl) (Nat.le_of_ble_eq_true rfl) dX8_init_7 (fun q1 => ?_)
  refine V_eqS [(a_, .inr (8, [.null, .int 0, .int 0])), (q1, .inl (Z.2.2.1 0, 40, .inl (fun _ => 0)))] rfl ?_
  refine R_putF (pc := 9) (ty := (.array .int)) (C := RX8) (T := TX8) (N := 3) (ci := 8) iuX8 tyX8 tyX8_ok nmX8 rfl 0 0 rfl (by decide) tw_118 rfl hnm rfl (by decide +kernel) rfl rfl (Nat.le_of_ble_eq_true rfl) dX8_init_9 ?_
  refine V_eqS [(a_, .inr (8, [.ref q1, .int 0, .int 0])), (q1, .inl (Z.2.2.1 0, 40, .inl (fun _ => 0)))] rfl ?_
  refine V_aload_n (pc := 12) dX8_init_12 0 rfl rfl ?_
  refine V_iconst (v := -1) (pc := 13) dX8_init_13 (by decide) ?_
  refine R_put (pc := 14) (ty := .int) (C := RX8) (T := TX8) (N := 3) (ci := 8) iuX8 tyX8 tyX8_ok nmX8 rfl 0 1 rfl (by decide) tw_120 rfl (by decide +kernel) rfl rfl (Nat.le_of_ble_eq_true rfl) dX8_init_14 ?_
  refine V_eqS [(a_, .inr (8, [.ref q1, .int (-1), .int 0])), (q1, .inl (Z.2.2.1 0, 40, .inl (fun _ => 0)))] rfl ?_
  refine V_aload_n (pc := 17) dX8_init_17 0 rfl rfl ?_
  refine V_iconst (v := 0) (pc := 18) dX8_init_18 (by decide) ?_
  refine R_put (pc := 19) (ty := .int) (C := RX8) (T := TX8) (N := 3) (ci := 8) iuX8 tyX8 tyX8_ok nmX8 rfl 0 2 rfl (by decide) tw_122 rfl (by decide +kernel) rfl rfl (Nat.le_of_ble_eq_true rfl) dX8_init_19 ?_
  refine V_eqS [(a_, .inr (8, [.ref q1, .int (-1), .int 0])), (q1, .inl (Z.2.2.1 0, 40, .inl (fun _ => 0)))] rfl ?_
  exact V_vret (pc := 22) dX8_init_22 (Nat.le_of_ble_eq_true rfl) (Nat.le_of_ble_eq_true rfl) (hB _ _ ⟨rfl, q1, rfl⟩)
theorem c_X3_init (Z : VZ) (a_ : Nat) : Ct RW Z yX3_init cX3_init 1 none 1 0 0 [.ref a_] [(a_, .inr (3, [.int 0, .long 0]))] (fun v S' => v = none ∧ S' = [(a_, .inr (3, [.int 0, .long 0]))]) := by
  refine V_entryI (own := RX3) (by decide) rfl (Nat.le_of_ble_eq_true rfl) ?_
  intro B hB hnm
  refine V_sub (L' := [(0, .ref a_)]) [0] rfl ?_
  refine V_aload_n (pc := 0) dX3_init_0 0 rfl rfl ?_
  refine V_objI (pc := 1) dX3_init_1 tw_103 tw_27 tw_28 (Nat.le_of_ble_eq_true rfl) (Nat.le_of_ble_eq_true rfl) ?_
  refine V_aload_n (pc := 4) dX3_init_4 0 rfl rfl ?_
  refine V_iconst (v := 0) (pc := 5) dX3_init_5 (by decide) ?_
  refine R_put (pc := 6) (ty := .int) (C := RX3) (T := TX3) (N := 2) (ci := 3) iuX3 tyX3 tyX3_ok nmX3 rfl 0 0 rfl (by decide) tw_104 rfl (by decide +kernel) rfl rfl (Nat.le_of_ble_eq_true rfl) dX3_init_6 ?_
  refine V_eqS [(a_, .inr (3, [.int 0, .long 0]))] rfl ?_
  refine V_aload_n (pc := 9) dX3_init_9 0 rfl rfl ?_
  refine V_lconst (v := 0) (pc := 10) dX3_init_10 (by decide) ?_
  refine R_put (pc := 11) (ty := .long) (C := RX3) (T := TX3) (N := 2) (ci := 3) iuX3 tyX3 tyX3_ok nmX3 rfl 0 1 rfl (by decide) tw_106 rfl (by decide +kernel) rfl rfl (Nat.le_of_ble_eq_true rfl) dX3_init_11 ?_
  refine V_eqS [(a_, .inr (3, [.int 0, .long 0]))] rfl ?_
  exact V_vret (pc := 14) dX3_init_14 (Nat.le_of_ble_eq_true rfl) (Nat.le_of_ble_eq_true rfl) (hB _ _ ⟨rfl, rfl⟩)
theorem c_X4_init (Z : VZ) (a_ : Nat) : Ct RW Z yX4_init cX4_init 1 none 1 0 0 [.ref a_] [(a_, .inr (4, [.long 0, .long 0, .long 0, .long 0, .long 0, .long 0]))] (fun v S' => v = none ∧ S' = [(a_, .inr (4, [.long (-1), .long 1, .long 0, .long 0, .long 0, .long 0]))]) := by
  refine V_entryI (own := RX4) (by decide) rfl (Nat.le_of_ble_eq_true rfl) ?_
  intro B hB hnm
  refine V_sub (L' := [(0, .ref a_)]) [0] rfl ?_
  refine V_aload_n (pc := 0) dX4_init_0 0 rfl rfl ?_
  refine V_objI (pc := 1) dX4_init_1 tw_75 tw_27 tw_28 (Nat.le_of_ble_eq_true rfl) (Nat.le_of_ble_eq_true rfl) ?_
  refine V_aload_n (pc := 4) dX4_init_4 0 rfl rfl ?_
  refine V_ldc2 (pc := 5) dX4_init_5 tw_76 ?_
  refine R_put (pc := 8) (ty := .long) (C := RX4) (T := TX4) (N := 6) (ci := 4) iuX4 tyX4 tyX4_ok nmX4 rfl 0 0 rfl (by decide) tw_77 rfl (by decide +kernel) rfl rfl (Nat.le_of_ble_eq_true rfl) dX4_init_8 ?_
  refine V_eqS [(a_, .inr (4, [.long (-1), .long 0, .long 0, .long 0, .long 0, .long 0]))] rfl ?_
  refine V_aload_n (pc := 11) dX4_init_11 0 rfl rfl ?_
  refine V_lconst (v := 1) (pc := 12) dX4_init_12 (by decide) ?_
  refine R_put (pc := 13) (ty := .long) (C := RX4) (T := TX4) (N := 6) (ci := 4) iuX4 tyX4 tyX4_ok nmX4 rfl 0 1 rfl (by decide) tw_79 rfl (by decide +kernel) rfl rfl (Nat.le_of_ble_eq_true rfl) dX4_init_13 ?_
  refine V_eqS [(a_, .inr (4, [.long (-1), .long 1, .long 0, .long 0, .long 0, .long 0]))] rfl ?_
  exact V_vret (pc := 16) dX4_init_16 (Nat.le_of_ble_eq_true rfl) (Nat.le_of_ble_eq_true rfl) (hB _ _ ⟨rfl, rfl⟩)
theorem c_X7_init (Z : VZ) (a_ : Nat) : Ct RW Z yX7_init cX7_init 1 none 1 3 140 [.ref a_] [(a_, .inr (7, [.null, .int 0, .int 0, .null, .null, .int 0, .int 0, .int 0, .int 0]))] (fun v S' => v = none ∧ ∃ q1 q2 q3 : Nat, S' = [(a_, .inr (7, [.ref q1, .int 0, .int 0, .ref q2, .ref q3, .int 0, .int 0, .int 0, .int 0])), (q1, .inl (Z.2.2.1 0, 60, .inl (fun _ => 0))), (q2, .inl (Z.2.2.1 0, 16, .inl (fun _ => 0))), (q3, .inl (Z.2.2.1 0, 64, .inl (fun _ => 0)))]) := by
  refine V_entryI (own := RX7) (by decide) rfl (Nat.le_of_ble_eq_true rfl) ?_
  intro B hB hnm
  refine V_sub (L' := [(0, .ref a_)]) [0] rfl ?_
  refine V_aload_n (pc := 0) dX7_init_0 0 rfl rfl ?_
  refine V_objI (pc := 1) dX7_init_1 tw_38 tw_27 tw_28 (Nat.le_of_ble_eq_true rfl) (Nat.le_of_ble_eq_true rfl) ?_
  refine V_aload_n (pc := 4) dX7_init_4 0 rfl rfl ?_
  refine V_bipush (v := 60) (pc := 5) dX7_init_5 (by decide) ?_
  refine R_newI (pc := 7) 60 tw_69 (by decide) (by decide) (Nat.le_of_ble_eq_true rfl) (Nat.le_of_ble_eq_true rfl) (Nat.le_of_ble_eq_true rfl) dX7_init_7 (fun q1 => ?_)
  refine V_eqS [(a_, .inr (7, [.null, .int 0, .int 0, .null, .null, .int 0, .int 0, .int 0, .int 0])), (q1, .inl (Z.2.2.1 0, 60, .inl (fun _ => 0)))] rfl ?_
  refine R_putF (pc := 9) (ty := (.array .int)) (C := RX7) (T := TX7) (N := 9) (ci := 7) iuX7 tyX7 tyX7_ok nmX7 rfl 0 0 rfl (by decide) tw_39 rfl hnm rfl (by decide +kernel) rfl rfl (Nat.le_of_ble_eq_true rfl) dX7_init_9 ?_
  refine V_eqS [(a_, .inr (7, [.ref q1, .int 0, .int 0, .null, .null, .int 0, .int 0, .int 0, .int 0])), (q1, .inl (Z.2.2.1 0, 60, .inl (fun _ => 0)))] rfl ?_
  refine V_aload_n (pc := 12) dX7_init_12 0 rfl rfl ?_
  refine V_iconst (v := 0) (pc := 13) dX7_init_13 (by decide) ?_
  refine R_put (pc := 14) (ty := .int) (C := RX7) (T := TX7) (N := 9) (ci := 7) iuX7 tyX7 tyX7_ok nmX7 rfl 0 1 rfl (by decide) tw_40 rfl (by decide +kernel) rfl rfl (Nat.le_of_ble_eq_true rfl) dX7_init_14 ?_
  refine V_eqS [(a_, .inr (7, [.ref q1, .int 0, .int 0, .null, .null, .int 0, .int 0, .int 0, .int 0])), (q1, .inl (Z.2.2.1 0, 60, .inl (fun _ => 0)))] rfl ?_
  refine V_aload_n (pc := 17) dX7_init_17 0 rfl rfl ?_
  refine V_iconst (v := 0) (pc := 18) dX7_init_18 (by decide) ?_
  refine R_put (pc := 19) (ty := .int) (C := RX7) (T := TX7) (N := 9) (ci := 7) iuX7 tyX7 tyX7_ok nmX7 rfl 0 2 rfl (by decide) tw_42 rfl (by decide +kernel) rfl rfl (Nat.le_of_ble_eq_true rfl) dX7_init_19 ?_
  refine V_eqS [(a_, .inr (7, [.ref q1, .int 0, .int 0, .null, .null, .int 0, .int 0, .int 0, .int 0])), (q1, .inl (Z.2.2.1 0, 60, .inl (fun _ => 0)))] rfl ?_
  refine V_aload_n (pc := 22) dX7_init_22 0 rfl rfl ?_
  refine V_bipush (v := 16) (pc := 23) dX7_init_23 (by decide) ?_
  refine R_newI (pc := 25) 16 tw_69 (by decide) (by decide) (Nat.le_of_ble_eq_true rfl) (Nat.le_of_ble_eq_true rfl) (Nat.le_of_ble_eq_true rfl) dX7_init_25 (fun q2 => ?_)
  refine V_eqS [(a_, .inr (7, [.ref q1, .int 0, .int 0, .null, .null, .int 0, .int 0, .int 0, .int 0])), (q1, .inl (Z.2.2.1 0, 60, .inl (fun _ => 0))), (q2, .inl (Z.2.2.1 0, 16, .inl (fun _ => 0)))] rfl ?_
  refine R_putF (pc := 27) (ty := (.array .int)) (C := RX7) (T := TX7) (N := 9) (ci := 7) iuX7 tyX7 tyX7_ok nmX7 rfl 0 3 rfl (by decide) tw_44 rfl hnm rfl (by decide +kernel) rfl rfl (Nat.le_of_ble_eq_true rfl) dX7_init_27 ?_
  refine V_eqS [(a_, .inr (7, [.ref q1, .int 0, .int 0, .ref q2, .null, .int 0, .int 0, .int 0, .int 0])), (q1, .inl (Z.2.2.1 0, 60, .inl (fun _ => 0))), (q2, .inl (Z.2.2.1 0, 16, .inl (fun _ => 0)))] rfl ?_
  refine V_aload_n (pc := 30) dX7_init_30 0 rfl rfl ?_
  refine V_bipush (v := 64) (pc := 31) dX7_init_31 (by decide) ?_
  refine R_newI (pc := 33) 64 tw_69 (by decide) (by decide) (Nat.le_of_ble_eq_true rfl) (Nat.le_of_ble_eq_true rfl) (Nat.le_of_ble_eq_true rfl) dX7_init_33 (fun q3 => ?_)
  refine V_eqS [(a_, .inr (7, [.ref q1, .int 0, .int 0, .ref q2, .null, .int 0, .int 0, .int 0, .int 0])), (q1, .inl (Z.2.2.1 0, 60, .inl (fun _ => 0))), (q2, .inl (Z.2.2.1 0, 16, .inl (fun _ => 0))), (q3, .inl (Z.2.2.1 0, 64, .inl (fun _ => 0)))] rfl ?_
  refine R_putF (pc := 35) (ty := (.array .int)) (C := RX7) (T := TX7) (N := 9) (ci := 7) iuX7 tyX7 tyX7_ok nmX7 rfl 0 4 rfl (by decide) tw_45 rfl hnm rfl (by decide +kernel) rfl rfl (Nat.le_of_ble_eq_true rfl) dX7_init_35 ?_
  refine V_eqS [(a_, .inr (7, [.ref q1, .int 0, .int 0, .ref q2, .ref q3, .int 0, .int 0, .int 0, .int 0])), (q1, .inl (Z.2.2.1 0, 60, .inl (fun _ => 0))), (q2, .inl (Z.2.2.1 0, 16, .inl (fun _ => 0))), (q3, .inl (Z.2.2.1 0, 64, .inl (fun _ => 0)))] rfl ?_
  refine V_aload_n (pc := 38) dX7_init_38 0 rfl rfl ?_
  refine V_iconst (v := 0) (pc := 39) dX7_init_39 (by decide) ?_
  refine R_put (pc := 40) (ty := .int) (C := RX7) (T := TX7) (N := 9) (ci := 7) iuX7 tyX7 tyX7_ok nmX7 rfl 0 5 rfl (by decide) tw_46 rfl (by decide +kernel) rfl rfl (Nat.le_of_ble_eq_true rfl) dX7_init_40 ?_
  refine V_eqS [(a_, .inr (7, [.ref q1, .int 0, .int 0, .ref q2, .ref q3, .int 0, .int 0, .int 0, .int 0])), (q1, .inl (Z.2.2.1 0, 60, .inl (fun _ => 0))), (q2, .inl (Z.2.2.1 0, 16, .inl (fun _ => 0))), (q3, .inl (Z.2.2.1 0, 64, .inl (fun _ => 0)))] rfl ?_
  refine V_aload_n (pc := 43) dX7_init_43 0 rfl rfl ?_
  refine V_iconst (v := 0) (pc := 44) dX7_init_44 (by decide) ?_
  refine R_put (pc := 45) (ty := .int) (C := RX7) (T := TX7) (N := 9) (ci := 7) iuX7 tyX7 tyX7_ok nmX7 rfl 0 6 rfl (by decide) tw_47 rfl (by decide +kernel) rfl rfl (Nat.le_of_ble_eq_true rfl) dX7_init_45 ?_
  refine V_eqS [(a_, .inr (7, [.ref q1, .int 0, .int 0, .ref q2, .ref q3, .int 0, .int 0, .int 0, .int 0])), (q1, .inl (Z.2.2.1 0, 60, .inl (fun _ => 0))), (q2, .inl (Z.2.2.1 0, 16, .inl (fun _ => 0))), (q3, .inl (Z.2.2.1 0, 64, .inl (fun _ => 0)))] rfl ?_
  refine V_aload_n (pc := 48) dX7_init_48 0 rfl rfl ?_
  refine V_iconst (v := 0) (pc := 49) dX7_init_49 (by decide) ?_
  refine R_put (pc := 50) (ty := .int) (C := RX7) (T := TX7) (N := 9) (ci := 7) iuX7 tyX7 tyX7_ok nmX7 rfl 0 7 rfl (by decide) tw_48 rfl (by decide +kernel) rfl rfl (Nat.le_of_ble_eq_true rfl) dX7_init_50 ?_
  refine V_eqS [(a_, .inr (7, [.ref q1, .int 0, .int 0, .ref q2, .ref q3, .int 0, .int 0, .int 0, .int 0])), (q1, .inl (Z.2.2.1 0, 60, .inl (fun _ => 0))), (q2, .inl (Z.2.2.1 0, 16, .inl (fun _ => 0))), (q3, .inl (Z.2.2.1 0, 64, .inl (fun _ => 0)))] rfl ?_
  refine V_aload_n (pc := 53) dX7_init_53 0 rfl rfl ?_
  refine V_iconst (v := 0) (pc := 54) dX7_init_54 (by decide) ?_
  refine R_put (pc := 55) (ty := .int) (C := RX7) (T := TX7) (N := 9) (ci := 7) iuX7 tyX7 tyX7_ok nmX7 rfl 0 8 rfl (by decide) tw_49 rfl (by decide +kernel) rfl rfl (Nat.le_of_ble_eq_true rfl) dX7_init_55 ?_
  refine V_eqS [(a_, .inr (7, [.ref q1, .int 0, .int 0, .ref q2, .ref q3, .int 0, .int 0, .int 0, .int 0])), (q1, .inl (Z.2.2.1 0, 60, .inl (fun _ => 0))), (q2, .inl (Z.2.2.1 0, 16, .inl (fun _ => 0))), (q3, .inl (Z.2.2.1 0, 64, .inl (fun _ => 0)))] rfl ?_
  exact V_vret (pc := 58) dX7_init_58 (Nat.le_of_ble_eq_true rfl) (Nat.le_of_ble_eq_true rfl) (hB _ _ ⟨rfl, q1, q2, q3, rfl⟩)
