theorem ev2 {q : Int32} (h : 1 ≤ q ∧ q ≤ 9999) : (q - q / 2 * 2 = 0) ↔ q &&& 1 = 0 := by
  obtain ⟨k, hk, e⟩ := nI_of2 (n := 9999) rfl (Int32.not_lt.mpr (Int32.le_trans (by decide) h.1)) h.2
  subst e
  rw [show (2 : Int32) = nI 2 from rfl, pk_rem (by omega) (by decide) (by decide), pk_andN (by omega) 1 rfl]
theorem bh_i {x : Int32} {q : Int32} {y : Int} (hx : x.toInt = y) (hy : -9999 ≤ y ∧ y ≤ 9999) (hq : 1 ≤ q.toInt ∧ q.toInt ≤ 9999) (ho : q.toInt % 2 = 1) : ((x - (x &&& 1) * q) / 2).toInt = bh q.toInt y := by
  rw [bhi_int (by rw [hx]; omega) (by omega) ho, hx]
theorem ngI {q : Int32} (hq : 1 ≤ q.toInt ∧ q.toInt ≤ 9999) : (-q).toInt = -q.toInt := by
  rw [Int32.toInt_neg, Int.bmod_eq_of_le (by omega) (by omega)]
set_option maxHeartbeats 4000000 in
set_option maxRecDepth 100000 in
theorem cM_period (Z : VZ) (S : MS) (p_ : Int32) (q_ : Int32) (w_ : Int32) : Ct MW Z yX11_period cX11_period 8 (some .int) 2 0 0 [.ref (Z.2.2.2 99), .int p_, .int q_, .int w_] (S) (fun v S' => S = S' ∧ ((¬ ((0 ≤ w_ ∧ w_ ≤ 1) ∧ ((-9999 ≤ p_ ∧ p_ ≤ 9999) ∧ (1 ≤ q_ ∧ q_ ≤ 9999))) ∧ v = some (.int (-2))) ∨ (((0 ≤ w_ ∧ w_ ≤ 1) ∧ ((-9999 ≤ p_ ∧ p_ ≤ 9999) ∧ (1 ≤ q_ ∧ q_ ≤ 9999))) ∧ q_ - q_ / 2 * 2 = 0 ∧ v = some (.int (-3))) ∨ (((0 ≤ w_ ∧ w_ ≤ 1) ∧ ((-9999 ≤ p_ ∧ p_ ≤ 9999) ∧ (1 ≤ q_ ∧ q_ ≤ 9999))) ∧ ¬ q_ - q_ / 2 * 2 = 0 ∧ ∃ r, v = some (.int r) ∧ perQ p_.toInt q_.toInt w_ r))) := by
  refine V_entry (own := RX11) (by decide) rfl (Nat.le_of_ble_eq_true rfl) ?_
  intro B hB
  refine V_sub (L' := [(0, .ref (Z.2.2.2 99)), (1, .int p_), (2, .int q_), (3, .int w_)]) [0, 1, 2, 3] rfl ?_
  refine V_iload_n (pc := 0) dX11_period_0 3 rfl rfl ?_
  refine V_iconst (v := 0) (pc := 1) dX11_period_1 (by decide) ?_
  refine V_iconst (v := 1) (pc := 2) dX11_period_2 (by decide) ?_
  refine McSi (pc := 3) dX11_period_3 (cM_in Z _ _ _ _) kM_70 rfl (Nat.le_of_ble_eq_true rfl) (by decide) (by decide) ?_
  refine V_bif_eq (pc := 6) (tgt := 17) dX11_period_6 (by decide) (fun h6 => ?_) (fun h6 => ?_)
  · skip
    refine V_bipush (v := (-2)) (pc := 17) dX11_period_17 (by decide) ?_
    exact V_iret (pc := 19) dX11_period_19 (Nat.le_of_ble_eq_true rfl) (Nat.le_of_ble_eq_true rfl) (hB _ _ (by exact ⟨rfl, Or.inl ⟨fun h => h6 h.1, rfl⟩⟩))
  · skip
    refine V_iload_n (pc := 9) dX11_period_9 1 rfl rfl ?_
    refine V_iload_n (pc := 10) dX11_period_10 2 rfl rfl ?_
    refine McSi (pc := 11) dX11_period_11 (cM_isFraction Z _ _ _) kM_172 rfl (Nat.le_of_ble_eq_true rfl) (by decide) (by decide) ?_
    refine V_bif_ne (pc := 14) (tgt := 20) dX11_period_14 (by decide) (fun h14 => ?_) (fun h14 => ?_)
    · skip
      refine V_iload_n (pc := 20) dX11_period_20 2 rfl rfl ?_
      refine V_iconst (v := 2) (pc := 21) dX11_period_21 (by decide) ?_
      refine V_irem (pc := 22) dX11_period_22 (by decide) ?_
      refine V_if_ne (pc := 23) (tgt := 29) dX11_period_23 (by decide) (fun h23 => ?_) (fun h23 => ?_)
      · skip
        refine V_iload_n (pc := 29) dX11_period_29 1 rfl rfl ?_
        refine V_istore (pc := 30) (L2 := [(0, .ref (Z.2.2.2 99)), (1, .int p_), (2, .int q_), (3, .int w_)]) dX11_period_30 (by decide) rfl (fun x4_30 ex4_30 => ?_)
        subst ex4_30
        refine V_iconst (v := 0) (pc := 32) dX11_period_32 (by decide) ?_
        refine V_istore (pc := 33) (L2 := [(4, .int p_), (0, .ref (Z.2.2.2 99)), (1, .int p_), (2, .int q_), (3, .int w_)]) dX11_period_33 (by decide) rfl (fun x5_33 ex5_33 => ?_)
        subst ex5_33
        have fr := frI h14
        have ho := oddI (fun z => h23 ((ev2 h14.2).mpr z))
        refine V_sub (L' := [(5, .int (nI 0)), (4, .int p_), (0, .ref (Z.2.2.2 99)), (1, .int p_), (2, .int q_), (3, .int w_)]) [0, 1, 2, 3, 4, 5] rfl ?_
        refine Vloop (σ := Nat × Int32) (fun x => (x.2).toInt = (fn (bh q_.toInt) (x.1) p_.toInt) ∧ (∀ i, i < (x.1) → outQ q_.toInt (fn (bh q_.toInt) i p_.toInt))) (fun x => muQ q_.toInt (fn (bh q_.toInt) (x.1) p_.toInt)) (fun x => V MW Z cX11_period RX11 8 (some .int) 2 0 0 B 0 0 35 [(5, .int (nI (x.1))), (4, .int (x.2)), (0, .ref (Z.2.2.2 99)), (1, .int p_), (2, .int q_), (3, .int w_)] [] (S)) ?_ (0, p_) (by exact ⟨rfl, fun i hi => absurd hi (Nat.not_lt_zero _)⟩)
        rintro ⟨j, u⟩ hI35 ih35
        have hI35 : u.toInt = (fn (bh q_.toInt) j p_.toInt) ∧ (∀ i, i < j → outQ q_.toInt (fn (bh q_.toInt) i p_.toInt)) := hI35
        show V MW Z cX11_period RX11 8 (some .int) 2 0 0 B 0 0 35 [(5, .int (nI j)), (4, .int u), (0, .ref (Z.2.2.2 99)), (1, .int p_), (2, .int q_), (3, .int w_)] [] (S)
        refine V_iload (pc := 35) dX11_period_35 1 rfl ?_
        refine V_if_gt (pc := 37) (tgt := 47) dX11_period_37 (by decide) (fun h37 => ?_) (fun h37 => ?_)
        · skip
          have hout : outQ q_.toInt (fn (bh q_.toInt) j p_.toInt) := Or.inl (by rw [← hI35.1]; exact Int32.lt_iff_toInt_lt.mp h37)
          refine V_iload (pc := 47) dX11_period_47 1 rfl ?_
          refine V_iload_n (pc := 49) dX11_period_49 4 rfl rfl ?_
          refine McSi (pc := 50) dX11_period_50 (cM_behind Z _ _ _) kM_175 rfl (Nat.le_of_ble_eq_true rfl) (by decide) (by decide) ?_
          refine V_istore (pc := 53) (L2 := [(5, .int (nI j)), (0, .ref (Z.2.2.2 99)), (1, .int p_), (2, .int q_), (3, .int w_)]) dX11_period_53 (by decide) rfl (fun x4_53 ex4_53 => ?_)
          subst ex4_53
          refine V_iinc (pc := 55) (v := 1) (L2 := [(4, .int ((u - (u &&& 1) * q_) / 2)), (0, .ref (Z.2.2.2 99)), (1, .int p_), (2, .int q_), (3, .int w_)]) dX11_period_55 1 rfl (by decide) (by decide) rfl (fun x5_55 ex5_55 => ?_)
          rw [nI_1] at ex5_55
          subst ex5_55
          refine V_goto (pc := 58) (tgt := 35) dX11_period_58 (by decide) ?_
          refine V_sub (L' := [(5, .int (nI (j + 1))), (4, .int ((u - (u &&& 1) * q_) / 2)), (0, .ref (Z.2.2.2 99)), (1, .int p_), (2, .int q_), (3, .int w_)]) [0, 1, 2, 3, 4, 5] rfl ?_
          refine ih35 (((j + 1)), _) ?_ ?_
          · show (((u - (u &&& 1) * q_) / 2)).toInt = (fn (bh q_.toInt) ((j + 1)) p_.toInt) ∧ (∀ i, i < ((j + 1)) → outQ q_.toInt (fn (bh q_.toInt) i p_.toInt))
            refine ⟨?_, ?_⟩
            · rw [fn_s]; exact bh_i hI35.1 (bhN_bd fr.2 fr.1 j) fr.2 ho
            · intro i hi
              by_cases e : i = j
              · rw [e]; exact hout
              · exact hI35.2 i (by omega)
          · show muQ q_.toInt (fn (bh q_.toInt) (j + 1) p_.toInt) < muQ q_.toInt (fn (bh q_.toInt) j p_.toInt)
            rw [fn_s]
            exact mu_dec fr.2.1 ho hout
        · skip
          refine V_iload (pc := 40) dX11_period_40 1 rfl ?_
          refine V_iload_n (pc := 42) dX11_period_42 4 rfl rfl ?_
          refine V_ineg (pc := 43) dX11_period_43 ?_
          refine V_icmp_ge (pc := 44) (tgt := 61) dX11_period_44 (by decide) (fun h44 => ?_) (fun h44 => ?_)
          · skip
            have hin : ¬ outQ q_.toInt (fn (bh q_.toInt) j p_.toInt) := by
              rintro (z | z)
              · rw [← hI35.1] at z; exact h37 (Int32.lt_iff_toInt_lt.mpr z)
              · rw [← hI35.1, ← ngI fr.2] at z
                have z2 := Int32.lt_iff_toInt_lt.mpr z
                first | exact h44 z2 | exact absurd h44 (Int32.not_le.mpr z2)
            have hu : -q_.toInt ≤ u.toInt ∧ u.toInt ≤ 0 := by
              rw [hI35.1]
              exact ⟨Int.not_lt.mp (fun z => hin (Or.inr z)), Int.not_lt.mp (fun z => hin (Or.inl z))⟩
            obtain ⟨n0, n1, n2, n3⟩ := rnd_ex fr.2.1 ho hu
            refine V_iload_n (pc := 61) dX11_period_61 5 rfl rfl ?_
            refine V_iconst (v := 1) (pc := 62) dX11_period_62 (by decide) ?_
            refine V_icmp_ne (pc := 63) (tgt := 69) dX11_period_63 (by decide) (fun h63 => ?_) (fun h63 => ?_)
            · skip
              refine V_iconst (v := 1) (pc := 69) dX11_period_69 (by decide) ?_
              refine V_istore (pc := 70) (L2 := [(5, .int (nI j)), (4, .int u), (0, .ref (Z.2.2.2 99)), (1, .int p_), (2, .int q_), (3, .int w_)]) dX11_period_70 (by decide) rfl (fun x6_70 ex6_70 => ?_)
              subst ex6_70
              refine V_iload (pc := 72) dX11_period_72 2 rfl ?_
              refine V_iload_n (pc := 74) dX11_period_74 5 rfl rfl ?_
              refine McSi (pc := 75) dX11_period_75 (cM_behind Z _ _ _) kM_175 rfl (Nat.le_of_ble_eq_true rfl) (by decide) (by decide) ?_
              refine V_istore (pc := 78) (L2 := [(6, .int 1), (5, .int (nI j)), (4, .int u), (0, .ref (Z.2.2.2 99)), (1, .int p_), (2, .int q_), (3, .int w_)]) dX11_period_78 (by decide) rfl (fun x7_78 ex7_78 => ?_)
              subst ex7_78
              refine V_sub (L' := [(7, .int ((u - (u &&& 1) * q_) / 2)), (6, .int (nI 1)), (5, .int (nI j)), (4, .int u), (0, .ref (Z.2.2.2 99)), (1, .int p_), (2, .int q_), (3, .int w_)]) [0, 1, 2, 3, 4, 5, 6, 7] rfl ?_
              refine Vloop (σ := Nat × Int32) (fun x => 1 ≤ (x.1) ∧ (x.2).toInt = (fn (bh q_.toInt) (x.1) u.toInt) ∧ (∀ i, 1 ≤ i → i < (x.1) → (fn (bh q_.toInt) i u.toInt) ≠ u.toInt) ∧ (x.1) ≤ n0) (fun x => n0 - (x.1)) (fun x => V MW Z cX11_period RX11 8 (some .int) 2 0 0 B 0 0 80 [(7, .int (x.2)), (6, .int (nI (x.1))), (5, .int (nI j)), (4, .int u), (0, .ref (Z.2.2.2 99)), (1, .int p_), (2, .int q_), (3, .int w_)] [] (S)) ?_ (1, ((u - (u &&& 1) * q_) / 2)) (by exact ⟨Nat.le_refl _, bh_i (y := u.toInt) rfl (by omega) fr.2 ho, fun i h1 h2 => absurd (show i < 1 from h2) (by omega), n1⟩)
              rintro ⟨k, x_⟩ hI80 ih80
              have hI80 : 1 ≤ k ∧ x_.toInt = (fn (bh q_.toInt) k u.toInt) ∧ (∀ i, 1 ≤ i → i < k → (fn (bh q_.toInt) i u.toInt) ≠ u.toInt) ∧ k ≤ n0 := hI80
              show V MW Z cX11_period RX11 8 (some .int) 2 0 0 B 0 0 80 [(7, .int x_), (6, .int (nI k)), (5, .int (nI j)), (4, .int u), (0, .ref (Z.2.2.2 99)), (1, .int p_), (2, .int q_), (3, .int w_)] [] (S)
              refine V_iload (pc := 80) dX11_period_80 0 rfl ?_
              refine V_iload (pc := 82) dX11_period_82 3 rfl ?_
              refine V_icmp_eq (pc := 84) (tgt := 101) dX11_period_84 (by decide) (fun h84 => ?_) (fun h84 => ?_)
              · skip
                have heq : (fn (bh q_.toInt) k u.toInt) = u.toInt := by rw [← hI80.2.1, h84]
                refine V_iload (pc := 101) dX11_period_101 1 rfl ?_
                exact V_iret (pc := 103) dX11_period_103 (Nat.le_of_ble_eq_true rfl) (Nat.le_of_ble_eq_true rfl) (hB _ _ (by exact ⟨rfl, Or.inr (Or.inr ⟨⟨h6, h14⟩, h23, _, rfl, j, ⟨hin, hI35.2⟩, Or.inr ⟨h63, k, by rw [← hI35.1]; exact ⟨hI80.1, by rw [Nat.zero_add]; exact heq, fun i h1 h2 => by rw [Nat.zero_add]; exact hI80.2.2.1 i h1 h2⟩, rfl⟩⟩)⟩))
              · skip
                have hne : (fn (bh q_.toInt) k u.toInt) ≠ u.toInt := fun z => h84 (Int32.toInt_inj.mp (by rw [hI80.2.1, z]))
                have hjn : k ≠ n0 := fun z => hne (by rw [z]; exact n3)
                have hb0 := bhN_in fr.2.1 hu k
                have hbd : -9999 ≤ (fn (bh q_.toInt) k u.toInt) ∧ (fn (bh q_.toInt) k u.toInt) ≤ 9999 := by omega
                refine V_iinc (pc := 87) (v := 1) (L2 := [(7, .int x_), (5, .int (nI j)), (4, .int u), (0, .ref (Z.2.2.2 99)), (1, .int p_), (2, .int q_), (3, .int w_)]) dX11_period_87 1 rfl (by decide) (by decide) rfl (fun x6_87 ex6_87 => ?_)
                rw [nI_1] at ex6_87
                subst ex6_87
                refine V_iload (pc := 90) dX11_period_90 1 rfl ?_
                refine V_iload_n (pc := 92) dX11_period_92 6 rfl rfl ?_
                refine McSi (pc := 93) dX11_period_93 (cM_behind Z _ _ _) kM_175 rfl (Nat.le_of_ble_eq_true rfl) (by decide) (by decide) ?_
                refine V_istore (pc := 96) (L2 := [(6, .int (nI (k + 1))), (5, .int (nI j)), (4, .int u), (0, .ref (Z.2.2.2 99)), (1, .int p_), (2, .int q_), (3, .int w_)]) dX11_period_96 (by decide) rfl (fun x7_96 ex7_96 => ?_)
                subst ex7_96
                refine V_goto (pc := 98) (tgt := 80) dX11_period_98 (by decide) ?_
                refine V_sub (L' := [(7, .int ((x_ - (x_ &&& 1) * q_) / 2)), (6, .int (nI (k + 1))), (5, .int (nI j)), (4, .int u), (0, .ref (Z.2.2.2 99)), (1, .int p_), (2, .int q_), (3, .int w_)]) [0, 1, 2, 3, 4, 5, 6, 7] rfl ?_
                refine ih80 (((k + 1)), _) ?_ ?_
                · show 1 ≤ ((k + 1)) ∧ (((x_ - (x_ &&& 1) * q_) / 2)).toInt = (fn (bh q_.toInt) ((k + 1)) u.toInt) ∧ (∀ i, 1 ≤ i → i < ((k + 1)) → (fn (bh q_.toInt) i u.toInt) ≠ u.toInt) ∧ ((k + 1)) ≤ n0
                  refine ⟨by omega, ?_, ?_, ?_⟩
                  · rw [fn_s]; exact bh_i hI80.2.1 hbd fr.2 ho
                  · intro i h1 h2
                    by_cases e : i = k
                    · rw [e]; exact hne
                    · exact hI80.2.2.1 i h1 (by omega)
                  · exact Nat.lt_of_le_of_ne hI80.2.2.2 hjn
                · show n0 - (k + 1) < n0 - k
                  have := Nat.lt_of_le_of_ne hI80.2.2.2 hjn
                  omega
            · skip
              refine V_iload (pc := 66) dX11_period_66 0 rfl ?_
              exact V_iret (pc := 68) dX11_period_68 (Nat.le_of_ble_eq_true rfl) (Nat.le_of_ble_eq_true rfl) (hB _ _ (by exact ⟨rfl, Or.inr (Or.inr ⟨⟨h6, h14⟩, h23, _, rfl, j, ⟨hin, hI35.2⟩, Or.inl ⟨h63, rfl⟩⟩)⟩))
          · skip
            have hout : outQ q_.toInt (fn (bh q_.toInt) j p_.toInt) := Or.inr (by rw [← hI35.1, ← ngI fr.2]; exact Int32.lt_iff_toInt_lt.mp (by first | exact h44 | exact Int32.not_le.mp h44))
            refine V_iload (pc := 47) dX11_period_47 1 rfl ?_
            refine V_iload_n (pc := 49) dX11_period_49 4 rfl rfl ?_
            refine McSi (pc := 50) dX11_period_50 (cM_behind Z _ _ _) kM_175 rfl (Nat.le_of_ble_eq_true rfl) (by decide) (by decide) ?_
            refine V_istore (pc := 53) (L2 := [(5, .int (nI j)), (0, .ref (Z.2.2.2 99)), (1, .int p_), (2, .int q_), (3, .int w_)]) dX11_period_53 (by decide) rfl (fun x4_53 ex4_53 => ?_)
            subst ex4_53
            refine V_iinc (pc := 55) (v := 1) (L2 := [(4, .int ((u - (u &&& 1) * q_) / 2)), (0, .ref (Z.2.2.2 99)), (1, .int p_), (2, .int q_), (3, .int w_)]) dX11_period_55 1 rfl (by decide) (by decide) rfl (fun x5_55 ex5_55 => ?_)
            rw [nI_1] at ex5_55
            subst ex5_55
            refine V_goto (pc := 58) (tgt := 35) dX11_period_58 (by decide) ?_
            refine V_sub (L' := [(5, .int (nI (j + 1))), (4, .int ((u - (u &&& 1) * q_) / 2)), (0, .ref (Z.2.2.2 99)), (1, .int p_), (2, .int q_), (3, .int w_)]) [0, 1, 2, 3, 4, 5] rfl ?_
            refine ih35 (((j + 1)), _) ?_ ?_
            · show (((u - (u &&& 1) * q_) / 2)).toInt = (fn (bh q_.toInt) ((j + 1)) p_.toInt) ∧ (∀ i, i < ((j + 1)) → outQ q_.toInt (fn (bh q_.toInt) i p_.toInt))
              refine ⟨?_, ?_⟩
              · rw [fn_s]; exact bh_i hI35.1 (bhN_bd fr.2 fr.1 j) fr.2 ho
              · intro i hi
                by_cases e : i = j
                · rw [e]; exact hout
                · exact hI35.2 i (by omega)
            · show muQ q_.toInt (fn (bh q_.toInt) (j + 1) p_.toInt) < muQ q_.toInt (fn (bh q_.toInt) j p_.toInt)
              rw [fn_s]
              exact mu_dec fr.2.1 ho hout
      · skip
        refine V_bipush (v := (-3)) (pc := 26) dX11_period_26 (by decide) ?_
        exact V_iret (pc := 28) dX11_period_28 (Nat.le_of_ble_eq_true rfl) (Nat.le_of_ble_eq_true rfl) (hB _ _ (by exact ⟨rfl, Or.inr (Or.inl ⟨⟨h6, h14⟩, h23, rfl⟩)⟩))
    · skip
      refine V_bipush (v := (-2)) (pc := 17) dX11_period_17 (by decide) ?_
      exact V_iret (pc := 19) dX11_period_19 (Nat.le_of_ble_eq_true rfl) (Nat.le_of_ble_eq_true rfl) (hB _ _ (by exact ⟨rfl, Or.inl ⟨fun h => h14 h.2, rfl⟩⟩))
def gdQ : Nat → Nat → Nat → Prop
  | 0, _, b => b = 0
  | n + 1, a, b => b = 0 ∨ gdQ n b (a % b)
theorem gd_mono : ∀ (n a b : Nat), gdQ n a b → gdQ (n + 1) a b
  | 0, a, b, h => Or.inl h
  | n + 1, a, b, h => by
    rcases h with h | h
    · exact Or.inl h
    · exact Or.inr (gd_mono n _ _ h)
theorem gd_le {n m a b : Nat} (h : gdQ n a b) (k : n ≤ m) : gdQ m a b := by
  obtain ⟨d, rfl⟩ : ∃ d, m = n + d := ⟨m - n, by omega⟩
  clear k
  induction d with
  | zero => exact h
  | succ d ih => exact gd_mono _ _ _ ih
theorem gd_pow : ∀ (k a b : Nat), b < 2 ^ k → gdQ (2 * k) a b
  | 0, a, b, h => by
    show b = 0
    omega
  | k + 1, a, b, h => by
    rw [show 2 * (k + 1) = 2 * k + 1 + 1 by omega]
    rcases Nat.eq_zero_or_pos b with z | z
    · exact Or.inl z
    · refine Or.inr ?_
      rcases Nat.eq_zero_or_pos (a % b) with y | y
      · exact Or.inl y
      · refine Or.inr (gd_pow k _ _ ?_)
        have h1 := Nat.mod_lt a z
        have h2 : 2 * (b % (a % b)) < b + 1 := by
          have e := Nat.div_add_mod b (a % b)
          have l := Nat.mod_lt b y
          have q1 : 1 ≤ b / (a % b) := Nat.div_pos (by omega) y
          have q2 : a % b ≤ (a % b) * (b / (a % b)) := Nat.le_mul_of_pos_right _ q1
          omega
        rw [Nat.pow_succ] at h
        omega
set_option maxHeartbeats 4000000 in
set_option maxRecDepth 100000 in
theorem cM_common0 (Z : VZ) (S : MS) : ∀ (n a_ b_ : Nat), a_ < 2 ^ 31 → b_ < 2 ^ 31 → gdQ n a_ b_ → CtF MW Z yX11_common cX11_common 2 (some .int) n 0 0 [.int (nI a_), .int (nI b_)] S (some (.int (nI (Nat.gcd a_ b_)))) S := by
  intro n
  induction n with
  | zero =>
    intro a_ b_ ha hb hg
    have hg : b_ = 0 := hg
    subst hg
    refine V_entry (own := RX11) (by decide) rfl (Nat.le_of_ble_eq_true rfl) ?_
    intro B hB
    refine V_sub (L' := [(0, .int (nI a_)), (1, .int (nI 0))]) [0, 1] rfl ?_
    refine V_iload_n (pc := 0) dX11_common_0 1 rfl rfl ?_
    refine V_if_ne (pc := 1) (tgt := 8) dX11_common_1 (by decide) (fun h1 => ?_) (fun h1 => ?_)
    · exact absurd nI_0 h1
    · refine V_iload_n (pc := 4) dX11_common_4 0 rfl rfl ?_
      refine V_goto (pc := 5) (tgt := 15) dX11_common_5 (by decide) ?_
      exact V_iret (pc := 15) dX11_common_15 (Nat.le_refl _) (Nat.le_refl _) (hB _ _ ⟨by rw [Nat.gcd_zero_right], rfl⟩)
  | succ n ih =>
    intro a_ b_ ha hb hg
    refine V_entry (own := RX11) (by decide) rfl (Nat.le_of_ble_eq_true rfl) ?_
    intro B hB
    refine V_sub (L' := [(0, .int (nI a_)), (1, .int (nI b_))]) [0, 1] rfl ?_
    refine V_iload_n (pc := 0) dX11_common_0 1 rfl rfl ?_
    refine V_if_ne (pc := 1) (tgt := 8) dX11_common_1 (by decide) (fun h1 => ?_) (fun h1 => ?_)
    · have hb0 : 0 < b_ := by
        rcases Nat.eq_zero_or_pos b_ with z | z
        · subst z; exact absurd nI_0 h1
        · exact z
      have hm := Nat.mod_lt a_ hb0
      have hg : gdQ n b_ (a_ % b_) := by
        rcases hg with z | z
        · omega
        · exact z
      refine V_iload_n (pc := 8) dX11_common_8 1 rfl rfl ?_
      refine V_iload_n (pc := 9) dX11_common_9 0 rfl rfl ?_
      refine V_iload_n (pc := 10) dX11_common_10 1 rfl rfl ?_
      refine V_irem (pc := 11) dX11_common_11 h1 ?_
      refine V_eqi (nI (a_ % b_)) (pk_rem ha hb0 hb) ?_
      refine V_callSi (pc := 12) dX11_common_12 (ih b_ (a_ % b_) hb (by omega) hg) kM_207 rfl (Nat.le_of_ble_eq_true rfl) (Nat.le_refl _) (by omega) (Nat.le_refl _) (Nat.le_refl _) ?_
      exact V_iret (pc := 15) dX11_common_15 (Nat.le_refl _) (Nat.le_refl _) (hB _ _ ⟨by rw [Nat.gcd_comm b_ (a_ % b_), ← Nat.gcd_rec, Nat.gcd_comm], rfl⟩)
    · have hb0 : b_ = 0 := by
        rcases Nat.eq_zero_or_pos b_ with z | z
        · exact z
        · exact absurd h1 (nI_ne0 z hb)
      subst hb0
      refine V_iload_n (pc := 4) dX11_common_4 0 rfl rfl ?_
      refine V_goto (pc := 5) (tgt := 15) dX11_common_5 (by decide) ?_
      exact V_iret (pc := 15) dX11_common_15 (Nat.le_refl _) (Nat.le_refl _) (hB _ _ ⟨by rw [Nat.gcd_zero_right], rfl⟩)
theorem cM_common (Z : VZ) (S : MS) (a_ b_ : Nat) (ha : a_ < 1073741824) (hb : b_ < 1073741824) : CtF MW Z yX11_common cX11_common 2 (some .int) 60 0 0 [.int (nI a_), .int (nI b_)] S (some (.int (nI (Nat.gcd a_ b_)))) S := cM_common0 Z S 60 a_ b_ (by omega) (by omega) (gd_pow 30 a_ b_ (by omega))
