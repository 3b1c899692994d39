def fdX (T : Nat → Int32) (tp : Nat) (a b c d e : Int32) (j : Nat) : Nat → Int32 := it (fun i g => upd g (tp + i) (fdV a b c d e i)) j T
def fdS (S : XS) (L : Nat) (a b c d e : Int32) (j : Nat) : XS := xF (xA S 30 (fdX (S.2.2.1 30) L a b c d e j)) 31 (nI (L + j))
theorem fdS_0 {S : XS} {L : Nat} (a b c d e : Int32) (h : S.1 31 = nI L) : S = fdS S L a b c d e 0 := by
  refine Prod.ext (funext fun j => ?_) (Prod.ext rfl (Prod.ext (funext fun j => ?_) rfl))
  · show S.1 j = if j = 31 then nI (L + 0) else S.1 j
    split
    · rename_i h1; rw [h1]; exact h
    · rfl
  · show S.2.2.1 j = if j = 30 then S.2.2.1 30 else S.2.2.1 j
    split
    · rename_i h1; rw [h1]
    · rfl
theorem fdS_s (S : XS) (L : Nat) (a b c d e v : Int32) (j : Nat) (hv : v = fdV a b c d e j) : xF (xA (fdS S L a b c d e j) 30 (upd ((fdS S L a b c d e j).2.2.1 30) (L + j) v)) 31 (nI (L + j + 1)) = fdS S L a b c d e (j + 1) := by
  subst hv
  refine Prod.ext (funext fun i => ?_) (Prod.ext rfl (Prod.ext (funext fun i => ?_) rfl))
  · show (if i = 31 then nI (L + j + 1) else if i = 31 then nI (L + j) else S.1 i) = if i = 31 then nI (L + (j + 1)) else S.1 i
    split <;> rfl
  · show (if i = 30 then upd (fdX (S.2.2.1 30) L a b c d e j) (L + j) (fdV a b c d e j) else if i = 30 then _ else S.2.2.1 i) = if i = 30 then upd (fdX (S.2.2.1 30) L a b c d e j) (L + j) (fdV a b c d e j) else S.2.2.1 i
    split <;> rfl
theorem n5 {n : Int32} (h : 1 ≤ n ∧ n ≤ 5) : n = 1 ∨ n = 2 ∨ n = 3 ∨ n = 4 ∨ n = 5 := by
  obtain ⟨e, h5⟩ := in5 h
  have h1 : 1 ≤ n.toNatClampNeg := by
    have := h.1
    rw [e] at this
    exact (nI_leI (a := 1) (by decide) (by omega)).mp this
  rw [e]
  rcases (show n.toNatClampNeg = 1 ∨ n.toNatClampNeg = 2 ∨ n.toNatClampNeg = 3 ∨ n.toNatClampNeg = 4 ∨ n.toNatClampNeg = 5 by omega) with q | q | q | q | q <;> rw [q]
  · exact Or.inl rfl
  · exact Or.inr (Or.inl rfl)
  · exact Or.inr (Or.inr (Or.inl rfl))
  · exact Or.inr (Or.inr (Or.inr (Or.inl rfl)))
  · exact Or.inr (Or.inr (Or.inr (Or.inr rfl)))
set_option maxHeartbeats 4000000 in
set_option maxRecDepth 100000 in
theorem c_X10_feed (Z : VZ) (S : XS) (L_ : Nat) (n_ : Int32) (a_ : Int32) (b_ : Int32) (c_ : Int32) (d_ : Int32) (e_ : Int32) (hL : S.1 31 = nI L_) (hL6 : L_ ≤ 60) : CtF XW Z yX10_feed cX10_feed 7 (some .int) 2 0 0 [.ref (Z.2.2.2 99), .int n_, .int a_, .int b_, .int c_, .int d_, .int e_] (S) (some (.int (if ((1 ≤ n_ ∧ n_ ≤ 5) ∧ (0 ≤ a_ ∧ a_ ≤ 255) ∧ (0 ≤ b_ ∧ b_ ≤ 255) ∧ (0 ≤ c_ ∧ c_ ≤ 255) ∧ (0 ≤ d_ ∧ d_ ≤ 255) ∧ (0 ≤ e_ ∧ e_ ≤ 255)) then (if S.1 31 + n_ ≤ 60 then S.1 31 + n_ else -4) else -2))) (if ((1 ≤ n_ ∧ n_ ≤ 5) ∧ (0 ≤ a_ ∧ a_ ≤ 255) ∧ (0 ≤ b_ ∧ b_ ≤ 255) ∧ (0 ≤ c_ ∧ c_ ≤ 255) ∧ (0 ≤ d_ ∧ d_ ≤ 255) ∧ (0 ≤ e_ ∧ e_ ≤ 255)) ∧ S.1 31 + n_ ≤ 60 then fdS S L_ a_ b_ c_ d_ e_ n_.toNatClampNeg else S) := by
  refine V_entry (own := RX10) (by decide) rfl (Nat.le_of_ble_eq_true rfl) ?_
  intro B hB
  refine V_sub (L' := [(0, .ref (Z.2.2.2 99)), (1, .int n_), (2, .int a_), (3, .int b_), (4, .int c_), (5, .int d_), (6, .int e_)]) [0, 1, 2, 3, 4, 5, 6] rfl ?_
  refine V_iload_n (pc := 0) dX10_feed_0 1 rfl rfl ?_
  refine V_iconst (v := 1) (pc := 1) dX10_feed_1 (by decide) ?_
  refine V_iconst (v := 5) (pc := 2) dX10_feed_2 (by decide) ?_
  refine V_callSi (pc := 3) dX10_feed_3 (c_X10_between Z _ _ _ _) kX10_60 rfl (Nat.le_of_ble_eq_true rfl) (by decide) (by decide) (Nat.le_of_ble_eq_true rfl) (Nat.le_of_ble_eq_true rfl) ?_
  refine V_bif_eq (pc := 6) (tgt := 47) dX10_feed_6 (by decide) (fun h6 => ?_) (fun h6 => ?_)
  · skip
    refine V_bipush (v := (-2)) (pc := 47) dX10_feed_47 (by decide) ?_
    exact V_iret (pc := 49) dX10_feed_49 (Nat.le_of_ble_eq_true rfl) (Nat.le_of_ble_eq_true rfl) (hB _ _ ⟨congrArg (fun z => some (Value.int z)) (by exact (if_neg (fun h => h6 h.1)).symm), by exact (if_neg (fun h => h6 h.1.1)).symm⟩)
  · skip
    refine V_iload_n (pc := 9) dX10_feed_9 2 rfl rfl ?_
    refine V_callSi (pc := 10) dX10_feed_10 (c_X10_isByte Z _ _) kX10_232 rfl (Nat.le_of_ble_eq_true rfl) (by decide) (by decide) (Nat.le_of_ble_eq_true rfl) (Nat.le_of_ble_eq_true rfl) ?_
    refine V_bif_eq (pc := 13) (tgt := 47) dX10_feed_13 (by decide) (fun h13 => ?_) (fun h13 => ?_)
    · skip
      refine V_bipush (v := (-2)) (pc := 47) dX10_feed_47 (by decide) ?_
      exact V_iret (pc := 49) dX10_feed_49 (Nat.le_of_ble_eq_true rfl) (Nat.le_of_ble_eq_true rfl) (hB _ _ ⟨congrArg (fun z => some (Value.int z)) (by exact (if_neg (fun h => h13 h.2.1)).symm), by exact (if_neg (fun h => h13 h.1.2.1)).symm⟩)
    · skip
      refine V_iload_n (pc := 16) dX10_feed_16 3 rfl rfl ?_
      refine V_callSi (pc := 17) dX10_feed_17 (c_X10_isByte Z _ _) kX10_232 rfl (Nat.le_of_ble_eq_true rfl) (by decide) (by decide) (Nat.le_of_ble_eq_true rfl) (Nat.le_of_ble_eq_true rfl) ?_
      refine V_bif_eq (pc := 20) (tgt := 47) dX10_feed_20 (by decide) (fun h20 => ?_) (fun h20 => ?_)
      · skip
        refine V_bipush (v := (-2)) (pc := 47) dX10_feed_47 (by decide) ?_
        exact V_iret (pc := 49) dX10_feed_49 (Nat.le_of_ble_eq_true rfl) (Nat.le_of_ble_eq_true rfl) (hB _ _ ⟨congrArg (fun z => some (Value.int z)) (by exact (if_neg (fun h => h20 h.2.2.1)).symm), by exact (if_neg (fun h => h20 h.1.2.2.1)).symm⟩)
      · skip
        refine V_iload (pc := 23) dX10_feed_23 4 rfl ?_
        refine V_callSi (pc := 25) dX10_feed_25 (c_X10_isByte Z _ _) kX10_232 rfl (Nat.le_of_ble_eq_true rfl) (by decide) (by decide) (Nat.le_of_ble_eq_true rfl) (Nat.le_of_ble_eq_true rfl) ?_
        refine V_bif_eq (pc := 28) (tgt := 47) dX10_feed_28 (by decide) (fun h28 => ?_) (fun h28 => ?_)
        · skip
          refine V_bipush (v := (-2)) (pc := 47) dX10_feed_47 (by decide) ?_
          exact V_iret (pc := 49) dX10_feed_49 (Nat.le_of_ble_eq_true rfl) (Nat.le_of_ble_eq_true rfl) (hB _ _ ⟨congrArg (fun z => some (Value.int z)) (by exact (if_neg (fun h => h28 h.2.2.2.1)).symm), by exact (if_neg (fun h => h28 h.1.2.2.2.1)).symm⟩)
        · skip
          refine V_iload (pc := 31) dX10_feed_31 5 rfl ?_
          refine V_callSi (pc := 33) dX10_feed_33 (c_X10_isByte Z _ _) kX10_232 rfl (Nat.le_of_ble_eq_true rfl) (by decide) (by decide) (Nat.le_of_ble_eq_true rfl) (Nat.le_of_ble_eq_true rfl) ?_
          refine V_bif_eq (pc := 36) (tgt := 47) dX10_feed_36 (by decide) (fun h36 => ?_) (fun h36 => ?_)
          · skip
            refine V_bipush (v := (-2)) (pc := 47) dX10_feed_47 (by decide) ?_
            exact V_iret (pc := 49) dX10_feed_49 (Nat.le_of_ble_eq_true rfl) (Nat.le_of_ble_eq_true rfl) (hB _ _ ⟨congrArg (fun z => some (Value.int z)) (by exact (if_neg (fun h => h36 h.2.2.2.2.1)).symm), by exact (if_neg (fun h => h36 h.1.2.2.2.2.1)).symm⟩)
          · skip
            refine V_iload (pc := 39) dX10_feed_39 6 rfl ?_
            refine V_callSi (pc := 41) dX10_feed_41 (c_X10_isByte Z _ _) kX10_232 rfl (Nat.le_of_ble_eq_true rfl) (by decide) (by decide) (Nat.le_of_ble_eq_true rfl) (Nat.le_of_ble_eq_true rfl) ?_
            refine V_bif_ne (pc := 44) (tgt := 50) dX10_feed_44 (by decide) (fun h44 => ?_) (fun h44 => ?_)
            · skip
              refine V_aload_n (pc := 50) dX10_feed_50 0 rfl rfl ?_
              refine Xg_X10_37 (pc := 51) dX10_feed_51 ?_
              refine V_iload_n (pc := 54) dX10_feed_54 1 rfl rfl ?_
              refine V_callVi (q0 := 13) (ci := 7) (C := RX7) (T := TX7) (N := 9) (pc := 55) dX10_feed_55 (c_X7_hasRoom Z _ _) kX10_236 rfl rfl rfl rfl (Nat.le_of_ble_eq_true rfl) (by decide) (by decide) (Nat.le_of_ble_eq_true rfl) (Nat.le_of_ble_eq_true rfl) ?_
              refine V_bif_ne (pc := 58) (tgt := 64) dX10_feed_58 (by decide) (fun h58 => ?_) (fun h58 => ?_)
              · skip
                have h59 : S.1 31 + n_ ≤ 60 := h58
                have h60 : ∀ m, n_ = nI m → m ≤ 5 → L_ + m ≤ 60 := fun m e h => by
                  rw [hL, e, nI_add] at h59
                  exact (nI_leI (b := 60) (by omega) (by decide)).mp h59
                refine V_eqS _ (fdS_0 a_ b_ c_ d_ e_ hL) ?_
                have hr0 : L_ + 0 < 60 := by
                  rcases n5 h6 with e | e | e | e | e
                  · have := h60 1 e (by omega); omega
                  · have := h60 2 e (by omega); omega
                  · have := h60 3 e (by omega); omega
                  · have := h60 4 e (by omega); omega
                  · have := h60 5 e (by omega); omega
                refine V_aload_n (pc := 64) dX10_feed_64 0 rfl rfl ?_
                refine Xg_X10_37 (pc := 65) dX10_feed_65 ?_
                refine V_iload_n (pc := 68) dX10_feed_68 2 rfl rfl ?_
                refine V_callVv (q0 := 13) (ci := 7) (C := RX7) (T := TX7) (N := 9) (pc := 69) dX10_feed_69 (c_X7_add Z _ (L_ + 0) _ (by rfl) (by exact hr0)) kX10_239 rfl rfl rfl rfl (Nat.le_of_ble_eq_true rfl) (by decide) (by decide) (Nat.le_of_ble_eq_true rfl) (Nat.le_of_ble_eq_true rfl) ?_
                refine V_eqS (fdS S L_ a_ b_ c_ d_ e_ 1) (fdS_s S L_ a_ b_ c_ d_ e_ _ 0 rfl) ?_
                refine V_iload_n (pc := 72) dX10_feed_72 1 rfl rfl ?_
                refine V_iconst (v := 1) (pc := 73) dX10_feed_73 (by decide) ?_
                refine V_icmp_le (pc := 74) (tgt := 85) dX10_feed_74 (by decide) (fun h74 => ?_) (fun h74 => ?_)
                · skip
                  have en : n_ = 1 := by
                    rcases n5 h6 with e | e | e | e | e
                    · exact e
                    · exact absurd (e ▸ h74) (by decide)
                    · exact absurd (e ▸ h74) (by decide)
                    · exact absurd (e ▸ h74) (by decide)
                    · exact absurd (e ▸ h74) (by decide)
                  refine V_iload_n (pc := 85) dX10_feed_85 1 rfl rfl ?_
                  refine V_iconst (v := 2) (pc := 86) dX10_feed_86 (by decide) ?_
                  refine V_icmp_le (pc := 87) (tgt := 99) dX10_feed_87 (by decide) (fun h87 => ?_) (fun h87 => ?_)
                  · skip
                    skip
                    refine V_iload_n (pc := 99) dX10_feed_99 1 rfl rfl ?_
                    refine V_iconst (v := 3) (pc := 100) dX10_feed_100 (by decide) ?_
                    refine V_icmp_le (pc := 101) (tgt := 113) dX10_feed_101 (by decide) (fun h101 => ?_) (fun h101 => ?_)
                    · skip
                      skip
                      refine V_iload_n (pc := 113) dX10_feed_113 1 rfl rfl ?_
                      refine V_iconst (v := 4) (pc := 114) dX10_feed_114 (by decide) ?_
                      refine V_icmp_le (pc := 115) (tgt := 127) dX10_feed_115 (by decide) (fun h115 => ?_) (fun h115 => ?_)
                      · skip
                        skip
                        refine V_aload_n (pc := 127) dX10_feed_127 0 rfl rfl ?_
                        refine Xg_X10_37 (pc := 128) dX10_feed_128 ?_
                        refine Xg_X10_242 (pc := 131) (v := (nI (L_ + 1))) rfl dX10_feed_131 ?_
                        exact V_iret (pc := 134) dX10_feed_134 (Nat.le_of_ble_eq_true rfl) (Nat.le_of_ble_eq_true rfl) (hB _ _ ⟨congrArg (fun z => some (Value.int z)) (by rw [if_pos ⟨h6, h13, h20, h28, h36, h44⟩, if_pos h59, hL, en, ← nI_add]; rfl), by rw [if_pos ⟨⟨h6, h13, h20, h28, h36, h44⟩, h59⟩, en]; rfl⟩)
                      · skip
                        exact absurd (en ▸ h115) (by decide)
                    · skip
                      exact absurd (en ▸ h101) (by decide)
                  · skip
                    exact absurd (en ▸ h87) (by decide)
                · skip
                  have hr1 : L_ + 1 < 60 := by
                    rcases n5 h6 with e | e | e | e | e
                    · exact absurd (show n_ ≤ 1 by rw [e]; decide) h74
                    · have := h60 2 e (by omega); omega
                    · have := h60 3 e (by omega); omega
                    · have := h60 4 e (by omega); omega
                    · have := h60 5 e (by omega); omega
                  refine V_aload_n (pc := 77) dX10_feed_77 0 rfl rfl ?_
                  refine Xg_X10_37 (pc := 78) dX10_feed_78 ?_
                  refine V_iload_n (pc := 81) dX10_feed_81 3 rfl rfl ?_
                  refine V_callVv (q0 := 13) (ci := 7) (C := RX7) (T := TX7) (N := 9) (pc := 82) dX10_feed_82 (c_X7_add Z _ (L_ + 1) _ (by rfl) (by exact hr1)) kX10_239 rfl rfl rfl rfl (Nat.le_of_ble_eq_true rfl) (by decide) (by decide) (Nat.le_of_ble_eq_true rfl) (Nat.le_of_ble_eq_true rfl) ?_
                  refine V_eqS (fdS S L_ a_ b_ c_ d_ e_ 2) (fdS_s S L_ a_ b_ c_ d_ e_ _ 1 rfl) ?_
                  refine V_iload_n (pc := 85) dX10_feed_85 1 rfl rfl ?_
                  refine V_iconst (v := 2) (pc := 86) dX10_feed_86 (by decide) ?_
                  refine V_icmp_le (pc := 87) (tgt := 99) dX10_feed_87 (by decide) (fun h87 => ?_) (fun h87 => ?_)
                  · skip
                    have en : n_ = 2 := by
                      rcases n5 h6 with e | e | e | e | e
                      · exact absurd (show n_ ≤ 1 by rw [e]; decide) h74
                      · exact e
                      · exact absurd (e ▸ h87) (by decide)
                      · exact absurd (e ▸ h87) (by decide)
                      · exact absurd (e ▸ h87) (by decide)
                    refine V_iload_n (pc := 99) dX10_feed_99 1 rfl rfl ?_
                    refine V_iconst (v := 3) (pc := 100) dX10_feed_100 (by decide) ?_
                    refine V_icmp_le (pc := 101) (tgt := 113) dX10_feed_101 (by decide) (fun h101 => ?_) (fun h101 => ?_)
                    · skip
                      skip
                      refine V_iload_n (pc := 113) dX10_feed_113 1 rfl rfl ?_
                      refine V_iconst (v := 4) (pc := 114) dX10_feed_114 (by decide) ?_
                      refine V_icmp_le (pc := 115) (tgt := 127) dX10_feed_115 (by decide) (fun h115 => ?_) (fun h115 => ?_)
                      · skip
                        skip
                        refine V_aload_n (pc := 127) dX10_feed_127 0 rfl rfl ?_
                        refine Xg_X10_37 (pc := 128) dX10_feed_128 ?_
                        refine Xg_X10_242 (pc := 131) (v := (nI (L_ + 2))) rfl dX10_feed_131 ?_
                        exact V_iret (pc := 134) dX10_feed_134 (Nat.le_of_ble_eq_true rfl) (Nat.le_of_ble_eq_true rfl) (hB _ _ ⟨congrArg (fun z => some (Value.int z)) (by rw [if_pos ⟨h6, h13, h20, h28, h36, h44⟩, if_pos h59, hL, en, ← nI_add]; rfl), by rw [if_pos ⟨⟨h6, h13, h20, h28, h36, h44⟩, h59⟩, en]; rfl⟩)
                      · skip
                        exact absurd (en ▸ h115) (by decide)
                    · skip
                      exact absurd (en ▸ h101) (by decide)
                  · skip
                    have hr2 : L_ + 2 < 60 := by
                      rcases n5 h6 with e | e | e | e | e
                      · exact absurd (show n_ ≤ 2 by rw [e]; decide) h87
                      · exact absurd (show n_ ≤ 2 by rw [e]; decide) h87
                      · have := h60 3 e (by omega); omega
                      · have := h60 4 e (by omega); omega
                      · have := h60 5 e (by omega); omega
                    refine V_aload_n (pc := 90) dX10_feed_90 0 rfl rfl ?_
                    refine Xg_X10_37 (pc := 91) dX10_feed_91 ?_
                    refine V_iload (pc := 94) dX10_feed_94 4 rfl ?_
                    refine V_callVv (q0 := 13) (ci := 7) (C := RX7) (T := TX7) (N := 9) (pc := 96) dX10_feed_96 (c_X7_add Z _ (L_ + 2) _ (by rfl) (by exact hr2)) kX10_239 rfl rfl rfl rfl (Nat.le_of_ble_eq_true rfl) (by decide) (by decide) (Nat.le_of_ble_eq_true rfl) (Nat.le_of_ble_eq_true rfl) ?_
                    refine V_eqS (fdS S L_ a_ b_ c_ d_ e_ 3) (fdS_s S L_ a_ b_ c_ d_ e_ _ 2 rfl) ?_
                    refine V_iload_n (pc := 99) dX10_feed_99 1 rfl rfl ?_
                    refine V_iconst (v := 3) (pc := 100) dX10_feed_100 (by decide) ?_
                    refine V_icmp_le (pc := 101) (tgt := 113) dX10_feed_101 (by decide) (fun h101 => ?_) (fun h101 => ?_)
                    · skip
                      have en : n_ = 3 := by
                        rcases n5 h6 with e | e | e | e | e
                        · exact absurd (show n_ ≤ 2 by rw [e]; decide) h87
                        · exact absurd (show n_ ≤ 2 by rw [e]; decide) h87
                        · exact e
                        · exact absurd (e ▸ h101) (by decide)
                        · exact absurd (e ▸ h101) (by decide)
                      refine V_iload_n (pc := 113) dX10_feed_113 1 rfl rfl ?_
                      refine V_iconst (v := 4) (pc := 114) dX10_feed_114 (by decide) ?_
                      refine V_icmp_le (pc := 115) (tgt := 127) dX10_feed_115 (by decide) (fun h115 => ?_) (fun h115 => ?_)
                      · skip
                        skip
                        refine V_aload_n (pc := 127) dX10_feed_127 0 rfl rfl ?_
                        refine Xg_X10_37 (pc := 128) dX10_feed_128 ?_
                        refine Xg_X10_242 (pc := 131) (v := (nI (L_ + 3))) rfl dX10_feed_131 ?_
                        exact V_iret (pc := 134) dX10_feed_134 (Nat.le_of_ble_eq_true rfl) (Nat.le_of_ble_eq_true rfl) (hB _ _ ⟨congrArg (fun z => some (Value.int z)) (by rw [if_pos ⟨h6, h13, h20, h28, h36, h44⟩, if_pos h59, hL, en, ← nI_add]; rfl), by rw [if_pos ⟨⟨h6, h13, h20, h28, h36, h44⟩, h59⟩, en]; rfl⟩)
                      · skip
                        exact absurd (en ▸ h115) (by decide)
                    · skip
                      have hr3 : L_ + 3 < 60 := by
                        rcases n5 h6 with e | e | e | e | e
                        · exact absurd (show n_ ≤ 3 by rw [e]; decide) h101
                        · exact absurd (show n_ ≤ 3 by rw [e]; decide) h101
                        · exact absurd (show n_ ≤ 3 by rw [e]; decide) h101
                        · have := h60 4 e (by omega); omega
                        · have := h60 5 e (by omega); omega
                      refine V_aload_n (pc := 104) dX10_feed_104 0 rfl rfl ?_
                      refine Xg_X10_37 (pc := 105) dX10_feed_105 ?_
                      refine V_iload (pc := 108) dX10_feed_108 5 rfl ?_
                      refine V_callVv (q0 := 13) (ci := 7) (C := RX7) (T := TX7) (N := 9) (pc := 110) dX10_feed_110 (c_X7_add Z _ (L_ + 3) _ (by rfl) (by exact hr3)) kX10_239 rfl rfl rfl rfl (Nat.le_of_ble_eq_true rfl) (by decide) (by decide) (Nat.le_of_ble_eq_true rfl) (Nat.le_of_ble_eq_true rfl) ?_
                      refine V_eqS (fdS S L_ a_ b_ c_ d_ e_ 4) (fdS_s S L_ a_ b_ c_ d_ e_ _ 3 rfl) ?_
                      refine V_iload_n (pc := 113) dX10_feed_113 1 rfl rfl ?_
                      refine V_iconst (v := 4) (pc := 114) dX10_feed_114 (by decide) ?_
                      refine V_icmp_le (pc := 115) (tgt := 127) dX10_feed_115 (by decide) (fun h115 => ?_) (fun h115 => ?_)
                      · skip
                        have en : n_ = 4 := by
                          rcases n5 h6 with e | e | e | e | e
                          · exact absurd (show n_ ≤ 3 by rw [e]; decide) h101
                          · exact absurd (show n_ ≤ 3 by rw [e]; decide) h101
                          · exact absurd (show n_ ≤ 3 by rw [e]; decide) h101
                          · exact e
                          · exact absurd (e ▸ h115) (by decide)
                        refine V_aload_n (pc := 127) dX10_feed_127 0 rfl rfl ?_
                        refine Xg_X10_37 (pc := 128) dX10_feed_128 ?_
                        refine Xg_X10_242 (pc := 131) (v := (nI (L_ + 4))) rfl dX10_feed_131 ?_
                        exact V_iret (pc := 134) dX10_feed_134 (Nat.le_of_ble_eq_true rfl) (Nat.le_of_ble_eq_true rfl) (hB _ _ ⟨congrArg (fun z => some (Value.int z)) (by rw [if_pos ⟨h6, h13, h20, h28, h36, h44⟩, if_pos h59, hL, en, ← nI_add]; rfl), by rw [if_pos ⟨⟨h6, h13, h20, h28, h36, h44⟩, h59⟩, en]; rfl⟩)
                      · skip
                        have hr4 : L_ + 4 < 60 := by
                          rcases n5 h6 with e | e | e | e | e
                          · exact absurd (show n_ ≤ 4 by rw [e]; decide) h115
                          · exact absurd (show n_ ≤ 4 by rw [e]; decide) h115
                          · exact absurd (show n_ ≤ 4 by rw [e]; decide) h115
                          · exact absurd (show n_ ≤ 4 by rw [e]; decide) h115
                          · have := h60 5 e (by omega); omega
                        have en : n_ = 5 := by
                          rcases n5 h6 with e | e | e | e | e
                          · exact absurd (show n_ ≤ 4 by rw [e]; decide) h115
                          · exact absurd (show n_ ≤ 4 by rw [e]; decide) h115
                          · exact absurd (show n_ ≤ 4 by rw [e]; decide) h115
                          · exact absurd (show n_ ≤ 4 by rw [e]; decide) h115
                          · exact e
                        refine V_aload_n (pc := 118) dX10_feed_118 0 rfl rfl ?_
                        refine Xg_X10_37 (pc := 119) dX10_feed_119 ?_
                        refine V_iload (pc := 122) dX10_feed_122 6 rfl ?_
                        refine V_callVv (q0 := 13) (ci := 7) (C := RX7) (T := TX7) (N := 9) (pc := 124) dX10_feed_124 (c_X7_add Z _ (L_ + 4) _ (by rfl) (by exact hr4)) kX10_239 rfl rfl rfl rfl (Nat.le_of_ble_eq_true rfl) (by decide) (by decide) (Nat.le_of_ble_eq_true rfl) (Nat.le_of_ble_eq_true rfl) ?_
                        refine V_eqS (fdS S L_ a_ b_ c_ d_ e_ 5) (fdS_s S L_ a_ b_ c_ d_ e_ _ 4 rfl) ?_
                        refine V_aload_n (pc := 127) dX10_feed_127 0 rfl rfl ?_
                        refine Xg_X10_37 (pc := 128) dX10_feed_128 ?_
                        refine Xg_X10_242 (pc := 131) (v := (nI (L_ + 5))) rfl dX10_feed_131 ?_
                        exact V_iret (pc := 134) dX10_feed_134 (Nat.le_of_ble_eq_true rfl) (Nat.le_of_ble_eq_true rfl) (hB _ _ ⟨congrArg (fun z => some (Value.int z)) (by rw [if_pos ⟨h6, h13, h20, h28, h36, h44⟩, if_pos h59, hL, en, ← nI_add]; rfl), by rw [if_pos ⟨⟨h6, h13, h20, h28, h36, h44⟩, h59⟩, en]; rfl⟩)
              · skip
                refine V_bipush (v := (-4)) (pc := 61) dX10_feed_61 (by decide) ?_
                exact V_iret (pc := 63) dX10_feed_63 (Nat.le_of_ble_eq_true rfl) (Nat.le_of_ble_eq_true rfl) (hB _ _ ⟨congrArg (fun z => some (Value.int z)) (by rw [if_pos ⟨h6, h13, h20, h28, h36, h44⟩, if_neg h58]), by exact (if_neg (fun h => h58 h.2)).symm⟩)
            · skip
              refine V_bipush (v := (-2)) (pc := 47) dX10_feed_47 (by decide) ?_
              exact V_iret (pc := 49) dX10_feed_49 (Nat.le_of_ble_eq_true rfl) (Nat.le_of_ble_eq_true rfl) (hB _ _ ⟨congrArg (fun z => some (Value.int z)) (by exact (if_neg (fun h => h44 h.2.2.2.2.2)).symm), by exact (if_neg (fun h => h44 h.1.2.2.2.2.2)).symm⟩)
