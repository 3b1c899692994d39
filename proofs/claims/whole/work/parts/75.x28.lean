set_option maxHeartbeats 4000000 in
set_option maxRecDepth 100000 in
theorem c_X7_readToken (Z : VZ) (S : XS) (a_ L_ : Nat) (k_ t_ v_ : Int32) (hL : S.1 31 = nI L_) (hL6 : L_ ≤ 60) (hT : ∀ i, i < L_ → ¬ (S.2.2.1 30) i = -1) (ha : a_ ≤ L_) : CtS XW Z yX7_readToken cX7_readToken 2 none 7 0 0 [.ref (Z.2.2.2 5)] (xTk S (nI a_) k_ t_ v_) (fun v S' => v = none ∧ S' = xTk S (nI (tkE (S.2.2.1 30) L_ (skp wsB (S.2.2.1 30) L_ a_))) (tkK (S.2.2.1 30) L_ (skp wsB (S.2.2.1 30) L_ a_)) (nI (skp wsB (S.2.2.1 30) L_ a_)) (tkU (S.2.2.1 30) L_ (skp wsB (S.2.2.1 30) L_ a_) v_)) := by
  refine V_entryS (own := RX7) (by decide +kernel) rfl (Nat.le_of_ble_eq_true rfl) ?_
  intro B hB hst
  refine V_sub (L' := [(0, .ref (Z.2.2.2 5))]) [0] rfl ?_
  refine Vloop (σ := Nat) (fun x => x ≤ L_ ∧ skp wsB (S.2.2.1 30) L_ x = (skp wsB (S.2.2.1 30) L_ a_)) (fun x => L_ - x) (fun x => V XW Z cX7_readToken RX7 2 none 7 0 0 B 0 0 0 [(0, .ref (Z.2.2.2 5))] [] (xTk S (nI x) k_ t_ v_)) ?_ a_ (by exact ⟨ha, rfl⟩)
  rintro b hI0 ih0
  have hI0 : b ≤ L_ ∧ skp wsB (S.2.2.1 30) L_ b = (skp wsB (S.2.2.1 30) L_ a_) := hI0
  show V XW Z cX7_readToken RX7 2 none 7 0 0 B 0 0 0 [(0, .ref (Z.2.2.2 5))] [] (xTk S (nI b) k_ t_ v_)
  refine V_aload_n (pc := 0) dX7_readToken_0 0 rfl rfl ?_
  refine Xg_X7_28 (pc := 1) (v := (nI b)) rfl dX7_readToken_1 ?_
  refine V_aload_n (pc := 4) dX7_readToken_4 0 rfl rfl ?_
  refine Xg_X7_15 (pc := 5) (v := (nI L_)) hL dX7_readToken_5 ?_
  refine V_icmp_ge (pc := 8) (tgt := 50) dX7_readToken_8 (by decide) (fun h8 => ?_) (fun h8 => ?_)
  · skip
    have hE : b = (skp wsB (S.2.2.1 30) L_ a_) := by rw [← hI0.2]; exact (skp_f (fun h => absurd h.1 (Nat.not_lt.mpr ((nI_leI (by omega) (by omega)).mp h8)))).symm
    refine V_aload_n (pc := 50) dX7_readToken_50 0 rfl rfl ?_
    refine V_aload_n (pc := 51) dX7_readToken_51 0 rfl rfl ?_
    refine Xg_X7_28 (pc := 52) (v := (nI b)) rfl dX7_readToken_52 ?_
    refine Xp_X7_34 (pc := 55) dX7_readToken_55 ?_
    refine V_eqS (xTk S (nI b) k_ (nI b) v_) (xTk_t S _ _ _ _ _) ?_
    refine V_aload_n (pc := 58) dX7_readToken_58 0 rfl rfl ?_
    refine V_aload_n (pc := 59) dX7_readToken_59 0 rfl rfl ?_
    refine Xg_X7_28 (pc := 60) (v := (nI b)) rfl dX7_readToken_60 ?_
    refine V_callVi (q0 := 13) (ci := 7) (C := RX7) (T := TX7) (N := 9) (pc := 63) dX7_readToken_63 (c_X7_byteAt Z _ (b) L_ (by exact hL) (by exact hL6) (by omega)) kX7_51 rfl rfl rfl rfl (Nat.le_of_ble_eq_true rfl) (by decide) (by decide) (Nat.le_of_ble_eq_true rfl) (Nat.le_of_ble_eq_true rfl) ?_
    refine V_eqi (if b < L_ then (S.2.2.1 30) b else -1) rfl ?_
    refine V_istore_n (pc := 66) (L2 := [(0, .ref (Z.2.2.2 5))]) dX7_readToken_66 rfl (by decide) rfl (fun x1_66 ex1_66 => ?_)
    subst ex1_66
    refine V_iload_n (pc := 67) dX7_readToken_67 0 rfl rfl ?_
    refine V_iconst (v := (-1)) (pc := 68) dX7_readToken_68 (by decide) ?_
    refine V_icmp_ne (pc := 69) (tgt := 80) dX7_readToken_69 (by decide) (fun h69 => ?_) (fun h69 => ?_)
    · skip
      have hbl : b < L_ := by
        refine Nat.not_le.mp (fun q => h69 ?_)
        exact if_neg (Nat.not_lt.mpr q)
      rw [if_pos hbl] at h69
      refine V_iload_n (pc := 80) dX7_readToken_80 0 rfl rfl ?_
      refine V_callSi (pc := 81) dX7_readToken_81 (c_X7_isLetter Z _ _) kX7_54 rfl (Nat.le_of_ble_eq_true rfl) (by decide) (by decide) (Nat.le_of_ble_eq_true rfl) (Nat.le_of_ble_eq_true rfl) ?_
      refine V_bif_eq (pc := 84) (tgt := 94) dX7_readToken_84 (by decide) (fun h84 => ?_) (fun h84 => ?_)
      · skip
        rw [if_pos hbl] at h84
        refine V_iload_n (pc := 94) dX7_readToken_94 0 rfl rfl ?_
        refine V_callSi (pc := 95) dX7_readToken_95 (c_X7_isDigit Z _ _) kX7_60 rfl (Nat.le_of_ble_eq_true rfl) (by decide) (by decide) (Nat.le_of_ble_eq_true rfl) (Nat.le_of_ble_eq_true rfl) ?_
        refine V_bif_ne (pc := 98) (tgt := 107) dX7_readToken_98 (by decide) (fun h98 => ?_) (fun h98 => ?_)
        · skip
          rw [if_pos hbl] at h98
          refine V_aload_n (pc := 107) dX7_readToken_107 1 rfl rfl ?_
          refine V_callVv (q0 := 13) (ci := 7) (C := RX7) (T := TX7) (N := 9) (pc := 108) dX7_readToken_108 (c_X7_readNumber Z _ b L_ _ _ _ (by exact hL) (by exact hL6) (by exact hbl)) kX7_63 rfl rfl rfl rfl (Nat.le_of_ble_eq_true rfl) (by decide) (by decide) (Nat.le_of_ble_eq_true rfl) (Nat.le_of_ble_eq_true rfl) ?_
          refine V_goto (pc := 111) (tgt := 139) dX7_readToken_111 (by decide) ?_
          exact V_vret (pc := 139) dX7_readToken_139 (Nat.le_of_ble_eq_true rfl) (Nat.le_of_ble_eq_true rfl) (hB _ _ (by refine ⟨rfl, ?_⟩; rw [← hE]; unfold tkE tkK tkU; rw [if_pos hbl, if_pos hbl, if_pos hbl, if_neg h84, if_neg h84, if_neg h84, if_pos (Or.inl h98), if_pos (Or.inl h98), if_pos (Or.inl h98)]))
        · skip
          rw [if_pos hbl] at h98
          refine V_iload_n (pc := 101) dX7_readToken_101 0 rfl rfl ?_
          refine V_bipush (v := 45) (pc := 102) dX7_readToken_102 (by decide) ?_
          refine V_icmp_ne (pc := 104) (tgt := 114) dX7_readToken_104 (by decide) (fun h104 => ?_) (fun h104 => ?_)
          · skip
            rw [if_pos hbl] at h104
            refine V_aload_n (pc := 114) dX7_readToken_114 1 rfl rfl ?_
            refine V_iload_n (pc := 115) dX7_readToken_115 0 rfl rfl ?_
            refine V_bipush (v := 59) (pc := 116) dX7_readToken_116 (by decide) ?_
            refine V_icmp_ne (pc := 118) (tgt := 125) dX7_readToken_118 (by decide) (fun h118 => ?_) (fun h118 => ?_)
            · skip
              rw [if_pos hbl] at h118
              refine V_iconst (v := 4) (pc := 125) dX7_readToken_125 (by decide) ?_
              refine Xp_X7_31 (pc := 126) dX7_readToken_126 ?_
              refine V_eqS _ (xTk_k S _ _ _ _ _) ?_
              refine V_aload_n (pc := 129) dX7_readToken_129 1 rfl rfl ?_
              refine V_dup (pc := 130) dX7_readToken_130 rfl ?_
              refine Xg_X7_28 (pc := 131) (v := (nI b)) rfl dX7_readToken_131 ?_
              refine V_iconst (v := 1) (pc := 134) dX7_readToken_134 (by decide) ?_
              refine V_iadd (pc := 135) dX7_readToken_135 ?_
              refine Xp_X7_28 (pc := 136) dX7_readToken_136 ?_
              refine V_eqS (xTk S (nI (b + 1)) _ (nI b) v_) (by rw [nI_1]; exact xTk_a S _ _ _ _ _) ?_
              exact V_vret (pc := 139) dX7_readToken_139 (Nat.le_of_ble_eq_true rfl) (Nat.le_of_ble_eq_true rfl) (hB _ _ (by refine ⟨rfl, ?_⟩; rw [← hE]; have hnn : ¬ (dgB ((S.2.2.1 30) b) = true ∨ (S.2.2.1 30) b = 45) := fun h => h.elim h98 h104; unfold tkE tkK tkU; rw [if_pos hbl, if_pos hbl, if_pos hbl, if_neg h84, if_neg h84, if_neg h84, if_neg hnn, if_neg hnn, if_neg hnn]; first | rw [if_pos h118] | rw [if_neg h118]))
            · skip
              rw [if_pos hbl] at h118
              refine V_iconst (v := 3) (pc := 121) dX7_readToken_121 (by decide) ?_
              refine V_goto (pc := 122) (tgt := 126) dX7_readToken_122 (by decide) ?_
              refine Xp_X7_31 (pc := 126) dX7_readToken_126 ?_
              refine V_eqS _ (xTk_k S _ _ _ _ _) ?_
              refine V_aload_n (pc := 129) dX7_readToken_129 1 rfl rfl ?_
              refine V_dup (pc := 130) dX7_readToken_130 rfl ?_
              refine Xg_X7_28 (pc := 131) (v := (nI b)) rfl dX7_readToken_131 ?_
              refine V_iconst (v := 1) (pc := 134) dX7_readToken_134 (by decide) ?_
              refine V_iadd (pc := 135) dX7_readToken_135 ?_
              refine Xp_X7_28 (pc := 136) dX7_readToken_136 ?_
              refine V_eqS (xTk S (nI (b + 1)) _ (nI b) v_) (by rw [nI_1]; exact xTk_a S _ _ _ _ _) ?_
              exact V_vret (pc := 139) dX7_readToken_139 (Nat.le_of_ble_eq_true rfl) (Nat.le_of_ble_eq_true rfl) (hB _ _ (by refine ⟨rfl, ?_⟩; rw [← hE]; have hnn : ¬ (dgB ((S.2.2.1 30) b) = true ∨ (S.2.2.1 30) b = 45) := fun h => h.elim h98 h104; unfold tkE tkK tkU; rw [if_pos hbl, if_pos hbl, if_pos hbl, if_neg h84, if_neg h84, if_neg h84, if_neg hnn, if_neg hnn, if_neg hnn]; first | rw [if_pos h118] | rw [if_neg h118]))
          · skip
            rw [if_pos hbl] at h104
            refine V_aload_n (pc := 107) dX7_readToken_107 1 rfl rfl ?_
            refine V_callVv (q0 := 13) (ci := 7) (C := RX7) (T := TX7) (N := 9) (pc := 108) dX7_readToken_108 (c_X7_readNumber Z _ b L_ _ _ _ (by exact hL) (by exact hL6) (by exact hbl)) kX7_63 rfl rfl rfl rfl (Nat.le_of_ble_eq_true rfl) (by decide) (by decide) (Nat.le_of_ble_eq_true rfl) (Nat.le_of_ble_eq_true rfl) ?_
            refine V_goto (pc := 111) (tgt := 139) dX7_readToken_111 (by decide) ?_
            exact V_vret (pc := 139) dX7_readToken_139 (Nat.le_of_ble_eq_true rfl) (Nat.le_of_ble_eq_true rfl) (hB _ _ (by refine ⟨rfl, ?_⟩; rw [← hE]; unfold tkE tkK tkU; rw [if_pos hbl, if_pos hbl, if_pos hbl, if_neg h84, if_neg h84, if_neg h84, if_pos (Or.inr h104), if_pos (Or.inr h104), if_pos (Or.inr h104)]))
      · skip
        rw [if_pos hbl] at h84
        refine V_aload_n (pc := 87) dX7_readToken_87 1 rfl rfl ?_
        refine V_callVS (q0 := 13) (ci := 7) (C := RX7) (T := TX7) (N := 9) (pc := 88) hst dX7_readToken_88 (c_X7_readWord Z _ b L_ _ _ (by exact hL) (by exact hL6) (by exact hI0.1)) kX7_57 rfl rfl rfl rfl (Nat.le_of_ble_eq_true rfl) (by decide) (by decide) (Nat.le_of_ble_eq_true rfl) (Nat.le_of_ble_eq_true rfl) (fun v88 S88 hp88 => ?_)
        obtain ⟨rfl, rfl⟩ := hp88
        refine V_goto (pc := 91) (tgt := 139) dX7_readToken_91 (by decide) ?_
        exact V_vret (pc := 139) dX7_readToken_139 (Nat.le_of_ble_eq_true rfl) (Nat.le_of_ble_eq_true rfl) (hB _ _ (by refine ⟨rfl, ?_⟩; rw [← hE]; unfold tkE tkK tkU; rw [if_pos hbl, if_pos hbl, if_pos hbl, if_pos h84, if_pos h84, if_pos h84]))
    · skip
      have hbl : ¬ b < L_ := by
        intro q
        rw [if_pos q] at h69
        exact hT b q h69
      refine V_aload_n (pc := 72) dX7_readToken_72 1 rfl rfl ?_
      refine V_iconst (v := 0) (pc := 73) dX7_readToken_73 (by decide) ?_
      refine Xp_X7_31 (pc := 74) dX7_readToken_74 ?_
      refine V_eqS _ (xTk_k S _ _ _ _ _) ?_
      refine V_goto (pc := 77) (tgt := 139) dX7_readToken_77 (by decide) ?_
      exact V_vret (pc := 139) dX7_readToken_139 (Nat.le_of_ble_eq_true rfl) (Nat.le_of_ble_eq_true rfl) (hB _ _ (by refine ⟨rfl, ?_⟩; rw [← hE]; unfold tkE tkK tkU; rw [if_neg hbl, if_neg hbl, if_neg hbl]))
  · skip
    have hj : b < L_ := Nat.not_le.mp (fun q => h8 (nI_le q (by omega)))
    refine V_aload_n (pc := 11) dX7_readToken_11 0 rfl rfl ?_
    refine V_aload_n (pc := 12) dX7_readToken_12 0 rfl rfl ?_
    refine Xg_X7_28 (pc := 13) (v := (nI b)) rfl dX7_readToken_13 ?_
    refine V_callVi (q0 := 13) (ci := 7) (C := RX7) (T := TX7) (N := 9) (pc := 16) dX7_readToken_16 (c_X7_byteAt Z _ (b) L_ (by exact hL) (by exact hL6) (by omega)) kX7_51 rfl rfl rfl rfl (Nat.le_of_ble_eq_true rfl) (by decide) (by decide) (Nat.le_of_ble_eq_true rfl) (Nat.le_of_ble_eq_true rfl) ?_
    refine V_eqi ((S.2.2.1 30) b) (if_pos hj) ?_
    refine V_bipush (v := 32) (pc := 19) dX7_readToken_19 (by decide) ?_
    refine V_icmp_eq (pc := 21) (tgt := 37) dX7_readToken_21 (by decide) (fun h21 => ?_) (fun h21 => ?_)
    · skip
      have hws : wsB ((S.2.2.1 30) b) = true := by unfold wsB; exact decide_eq_true (Or.inl h21)
      refine V_aload_n (pc := 37) dX7_readToken_37 0 rfl rfl ?_
      refine V_dup (pc := 38) dX7_readToken_38 rfl ?_
      refine Xg_X7_28 (pc := 39) (v := (nI b)) rfl dX7_readToken_39 ?_
      refine V_iconst (v := 1) (pc := 42) dX7_readToken_42 (by decide) ?_
      refine V_iadd (pc := 43) dX7_readToken_43 ?_
      refine Xp_X7_28 (pc := 44) dX7_readToken_44 ?_
      refine V_eqS (xTk S (nI (b + 1)) k_ t_ v_) (by rw [nI_1]; exact xTk_a S _ _ _ _ _) ?_
      refine V_goto (pc := 47) (tgt := 0) dX7_readToken_47 (by decide) ?_
      refine V_sub (L' := [(0, .ref (Z.2.2.2 5))]) [0] rfl ?_
      refine ih0 (b + 1) ?_ ?_
      · show (b + 1) ≤ L_ ∧ skp wsB (S.2.2.1 30) L_ (b + 1) = (skp wsB (S.2.2.1 30) L_ a_)
        exact ⟨hj, by rw [← hI0.2, skp_t hj hws]⟩
      · show L_ - (b + 1) < L_ - b
        omega
    · skip
      refine V_aload_n (pc := 24) dX7_readToken_24 0 rfl rfl ?_
      refine V_aload_n (pc := 25) dX7_readToken_25 0 rfl rfl ?_
      refine Xg_X7_28 (pc := 26) (v := (nI b)) rfl dX7_readToken_26 ?_
      refine V_callVi (q0 := 13) (ci := 7) (C := RX7) (T := TX7) (N := 9) (pc := 29) dX7_readToken_29 (c_X7_byteAt Z _ (b) L_ (by exact hL) (by exact hL6) (by omega)) kX7_51 rfl rfl rfl rfl (Nat.le_of_ble_eq_true rfl) (by decide) (by decide) (Nat.le_of_ble_eq_true rfl) (Nat.le_of_ble_eq_true rfl) ?_
      refine V_eqi ((S.2.2.1 30) b) (if_pos hj) ?_
      refine V_bipush (v := 10) (pc := 32) dX7_readToken_32 (by decide) ?_
      refine V_icmp_ne (pc := 34) (tgt := 50) dX7_readToken_34 (by decide) (fun h34 => ?_) (fun h34 => ?_)
      · skip
        have hE : b = (skp wsB (S.2.2.1 30) L_ a_) := by rw [← hI0.2]; exact (skp_f (fun h => (of_decide_eq_true h.2).elim h21 h34)).symm
        refine V_aload_n (pc := 50) dX7_readToken_50 0 rfl rfl ?_
        refine V_aload_n (pc := 51) dX7_readToken_51 0 rfl rfl ?_
        refine Xg_X7_28 (pc := 52) (v := (nI b)) rfl dX7_readToken_52 ?_
        refine Xp_X7_34 (pc := 55) dX7_readToken_55 ?_
        refine V_eqS (xTk S (nI b) k_ (nI b) v_) (xTk_t S _ _ _ _ _) ?_
        refine V_aload_n (pc := 58) dX7_readToken_58 0 rfl rfl ?_
        refine V_aload_n (pc := 59) dX7_readToken_59 0 rfl rfl ?_
        refine Xg_X7_28 (pc := 60) (v := (nI b)) rfl dX7_readToken_60 ?_
        refine V_callVi (q0 := 13) (ci := 7) (C := RX7) (T := TX7) (N := 9) (pc := 63) dX7_readToken_63 (c_X7_byteAt Z _ (b) L_ (by exact hL) (by exact hL6) (by omega)) kX7_51 rfl rfl rfl rfl (Nat.le_of_ble_eq_true rfl) (by decide) (by decide) (Nat.le_of_ble_eq_true rfl) (Nat.le_of_ble_eq_true rfl) ?_
        refine V_eqi (if b < L_ then (S.2.2.1 30) b else -1) rfl ?_
        refine V_istore_n (pc := 66) (L2 := [(0, .ref (Z.2.2.2 5))]) dX7_readToken_66 rfl (by decide) rfl (fun x1_66 ex1_66 => ?_)
        subst ex1_66
        refine V_iload_n (pc := 67) dX7_readToken_67 0 rfl rfl ?_
        refine V_iconst (v := (-1)) (pc := 68) dX7_readToken_68 (by decide) ?_
        refine V_icmp_ne (pc := 69) (tgt := 80) dX7_readToken_69 (by decide) (fun h69 => ?_) (fun h69 => ?_)
        · skip
          have hbl : b < L_ := by
            refine Nat.not_le.mp (fun q => h69 ?_)
            exact if_neg (Nat.not_lt.mpr q)
          rw [if_pos hbl] at h69
          refine V_iload_n (pc := 80) dX7_readToken_80 0 rfl rfl ?_
          refine V_callSi (pc := 81) dX7_readToken_81 (c_X7_isLetter Z _ _) kX7_54 rfl (Nat.le_of_ble_eq_true rfl) (by decide) (by decide) (Nat.le_of_ble_eq_true rfl) (Nat.le_of_ble_eq_true rfl) ?_
          refine V_bif_eq (pc := 84) (tgt := 94) dX7_readToken_84 (by decide) (fun h84 => ?_) (fun h84 => ?_)
          · skip
            rw [if_pos hbl] at h84
            refine V_iload_n (pc := 94) dX7_readToken_94 0 rfl rfl ?_
            refine V_callSi (pc := 95) dX7_readToken_95 (c_X7_isDigit Z _ _) kX7_60 rfl (Nat.le_of_ble_eq_true rfl) (by decide) (by decide) (Nat.le_of_ble_eq_true rfl) (Nat.le_of_ble_eq_true rfl) ?_
            refine V_bif_ne (pc := 98) (tgt := 107) dX7_readToken_98 (by decide) (fun h98 => ?_) (fun h98 => ?_)
            · skip
              rw [if_pos hbl] at h98
              refine V_aload_n (pc := 107) dX7_readToken_107 1 rfl rfl ?_
              refine V_callVv (q0 := 13) (ci := 7) (C := RX7) (T := TX7) (N := 9) (pc := 108) dX7_readToken_108 (c_X7_readNumber Z _ b L_ _ _ _ (by exact hL) (by exact hL6) (by exact hbl)) kX7_63 rfl rfl rfl rfl (Nat.le_of_ble_eq_true rfl) (by decide) (by decide) (Nat.le_of_ble_eq_true rfl) (Nat.le_of_ble_eq_true rfl) ?_
              refine V_goto (pc := 111) (tgt := 139) dX7_readToken_111 (by decide) ?_
              exact V_vret (pc := 139) dX7_readToken_139 (Nat.le_of_ble_eq_true rfl) (Nat.le_of_ble_eq_true rfl) (hB _ _ (by refine ⟨rfl, ?_⟩; rw [← hE]; unfold tkE tkK tkU; rw [if_pos hbl, if_pos hbl, if_pos hbl, if_neg h84, if_neg h84, if_neg h84, if_pos (Or.inl h98), if_pos (Or.inl h98), if_pos (Or.inl h98)]))
            · skip
              rw [if_pos hbl] at h98
              refine V_iload_n (pc := 101) dX7_readToken_101 0 rfl rfl ?_
              refine V_bipush (v := 45) (pc := 102) dX7_readToken_102 (by decide) ?_
              refine V_icmp_ne (pc := 104) (tgt := 114) dX7_readToken_104 (by decide) (fun h104 => ?_) (fun h104 => ?_)
              · skip
                rw [if_pos hbl] at h104
                refine V_aload_n (pc := 114) dX7_readToken_114 1 rfl rfl ?_
                refine V_iload_n (pc := 115) dX7_readToken_115 0 rfl rfl ?_
                refine V_bipush (v := 59) (pc := 116) dX7_readToken_116 (by decide) ?_
                refine V_icmp_ne (pc := 118) (tgt := 125) dX7_readToken_118 (by decide) (fun h118 => ?_) (fun h118 => ?_)
                · skip
                  rw [if_pos hbl] at h118
                  refine V_iconst (v := 4) (pc := 125) dX7_readToken_125 (by decide) ?_
                  refine Xp_X7_31 (pc := 126) dX7_readToken_126 ?_
                  refine V_eqS _ (xTk_k S _ _ _ _ _) ?_
                  refine V_aload_n (pc := 129) dX7_readToken_129 1 rfl rfl ?_
                  refine V_dup (pc := 130) dX7_readToken_130 rfl ?_
                  refine Xg_X7_28 (pc := 131) (v := (nI b)) rfl dX7_readToken_131 ?_
                  refine V_iconst (v := 1) (pc := 134) dX7_readToken_134 (by decide) ?_
                  refine V_iadd (pc := 135) dX7_readToken_135 ?_
                  refine Xp_X7_28 (pc := 136) dX7_readToken_136 ?_
                  refine V_eqS (xTk S (nI (b + 1)) _ (nI b) v_) (by rw [nI_1]; exact xTk_a S _ _ _ _ _) ?_
                  exact V_vret (pc := 139) dX7_readToken_139 (Nat.le_of_ble_eq_true rfl) (Nat.le_of_ble_eq_true rfl) (hB _ _ (by refine ⟨rfl, ?_⟩; rw [← hE]; have hnn : ¬ (dgB ((S.2.2.1 30) b) = true ∨ (S.2.2.1 30) b = 45) := fun h => h.elim h98 h104; unfold tkE tkK tkU; rw [if_pos hbl, if_pos hbl, if_pos hbl, if_neg h84, if_neg h84, if_neg h84, if_neg hnn, if_neg hnn, if_neg hnn]; first | rw [if_pos h118] | rw [if_neg h118]))
                · skip
                  rw [if_pos hbl] at h118
                  refine V_iconst (v := 3) (pc := 121) dX7_readToken_121 (by decide) ?_
                  refine V_goto (pc := 122) (tgt := 126) dX7_readToken_122 (by decide) ?_
                  refine Xp_X7_31 (pc := 126) dX7_readToken_126 ?_
                  refine V_eqS _ (xTk_k S _ _ _ _ _) ?_
                  refine V_aload_n (pc := 129) dX7_readToken_129 1 rfl rfl ?_
                  refine V_dup (pc := 130) dX7_readToken_130 rfl ?_
                  refine Xg_X7_28 (pc := 131) (v := (nI b)) rfl dX7_readToken_131 ?_
                  refine V_iconst (v := 1) (pc := 134) dX7_readToken_134 (by decide) ?_
                  refine V_iadd (pc := 135) dX7_readToken_135 ?_
                  refine Xp_X7_28 (pc := 136) dX7_readToken_136 ?_
                  refine V_eqS (xTk S (nI (b + 1)) _ (nI b) v_) (by rw [nI_1]; exact xTk_a S _ _ _ _ _) ?_
                  exact V_vret (pc := 139) dX7_readToken_139 (Nat.le_of_ble_eq_true rfl) (Nat.le_of_ble_eq_true rfl) (hB _ _ (by refine ⟨rfl, ?_⟩; rw [← hE]; have hnn : ¬ (dgB ((S.2.2.1 30) b) = true ∨ (S.2.2.1 30) b = 45) := fun h => h.elim h98 h104; unfold tkE tkK tkU; rw [if_pos hbl, if_pos hbl, if_pos hbl, if_neg h84, if_neg h84, if_neg h84, if_neg hnn, if_neg hnn, if_neg hnn]; first | rw [if_pos h118] | rw [if_neg h118]))
              · skip
                rw [if_pos hbl] at h104
                refine V_aload_n (pc := 107) dX7_readToken_107 1 rfl rfl ?_
                refine V_callVv (q0 := 13) (ci := 7) (C := RX7) (T := TX7) (N := 9) (pc := 108) dX7_readToken_108 (c_X7_readNumber Z _ b L_ _ _ _ (by exact hL) (by exact hL6) (by exact hbl)) kX7_63 rfl rfl rfl rfl (Nat.le_of_ble_eq_true rfl) (by decide) (by decide) (Nat.le_of_ble_eq_true rfl) (Nat.le_of_ble_eq_true rfl) ?_
                refine V_goto (pc := 111) (tgt := 139) dX7_readToken_111 (by decide) ?_
                exact V_vret (pc := 139) dX7_readToken_139 (Nat.le_of_ble_eq_true rfl) (Nat.le_of_ble_eq_true rfl) (hB _ _ (by refine ⟨rfl, ?_⟩; rw [← hE]; unfold tkE tkK tkU; rw [if_pos hbl, if_pos hbl, if_pos hbl, if_neg h84, if_neg h84, if_neg h84, if_pos (Or.inr h104), if_pos (Or.inr h104), if_pos (Or.inr h104)]))
          · skip
            rw [if_pos hbl] at h84
            refine V_aload_n (pc := 87) dX7_readToken_87 1 rfl rfl ?_
            refine V_callVS (q0 := 13) (ci := 7) (C := RX7) (T := TX7) (N := 9) (pc := 88) hst dX7_readToken_88 (c_X7_readWord Z _ b L_ _ _ (by exact hL) (by exact hL6) (by exact hI0.1)) kX7_57 rfl rfl rfl rfl (Nat.le_of_ble_eq_true rfl) (by decide) (by decide) (Nat.le_of_ble_eq_true rfl) (Nat.le_of_ble_eq_true rfl) (fun v88 S88 hp88 => ?_)
            obtain ⟨rfl, rfl⟩ := hp88
            refine V_goto (pc := 91) (tgt := 139) dX7_readToken_91 (by decide) ?_
            exact V_vret (pc := 139) dX7_readToken_139 (Nat.le_of_ble_eq_true rfl) (Nat.le_of_ble_eq_true rfl) (hB _ _ (by refine ⟨rfl, ?_⟩; rw [← hE]; unfold tkE tkK tkU; rw [if_pos hbl, if_pos hbl, if_pos hbl, if_pos h84, if_pos h84, if_pos h84]))
        · skip
          have hbl : ¬ b < L_ := by
            intro q
            rw [if_pos q] at h69
            exact hT b q h69
          refine V_aload_n (pc := 72) dX7_readToken_72 1 rfl rfl ?_
          refine V_iconst (v := 0) (pc := 73) dX7_readToken_73 (by decide) ?_
          refine Xp_X7_31 (pc := 74) dX7_readToken_74 ?_
          refine V_eqS _ (xTk_k S _ _ _ _ _) ?_
          refine V_goto (pc := 77) (tgt := 139) dX7_readToken_77 (by decide) ?_
          exact V_vret (pc := 139) dX7_readToken_139 (Nat.le_of_ble_eq_true rfl) (Nat.le_of_ble_eq_true rfl) (hB _ _ (by refine ⟨rfl, ?_⟩; rw [← hE]; unfold tkE tkK tkU; rw [if_neg hbl, if_neg hbl, if_neg hbl]))
      · skip
        have hws : wsB ((S.2.2.1 30) b) = true := by unfold wsB; exact decide_eq_true (Or.inr h34)
        refine V_aload_n (pc := 37) dX7_readToken_37 0 rfl rfl ?_
        refine V_dup (pc := 38) dX7_readToken_38 rfl ?_
        refine Xg_X7_28 (pc := 39) (v := (nI b)) rfl dX7_readToken_39 ?_
        refine V_iconst (v := 1) (pc := 42) dX7_readToken_42 (by decide) ?_
        refine V_iadd (pc := 43) dX7_readToken_43 ?_
        refine Xp_X7_28 (pc := 44) dX7_readToken_44 ?_
        refine V_eqS (xTk S (nI (b + 1)) k_ t_ v_) (by rw [nI_1]; exact xTk_a S _ _ _ _ _) ?_
        refine V_goto (pc := 47) (tgt := 0) dX7_readToken_47 (by decide) ?_
        refine V_sub (L' := [(0, .ref (Z.2.2.2 5))]) [0] rfl ?_
        refine ih0 (b + 1) ?_ ?_
        · show (b + 1) ≤ L_ ∧ skp wsB (S.2.2.1 30) L_ (b + 1) = (skp wsB (S.2.2.1 30) L_ a_)
          exact ⟨hj, by rw [← hI0.2, skp_t hj hws]⟩
        · show L_ - (b + 1) < L_ - b
          omega
