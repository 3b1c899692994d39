theorem mcl_xN (S : XS) (q : Nat) (k : Int32) (g : Nat → Int32) : mcl (xmk (xN S q (kc k) g) q) := by rw [xmk_xN]; exact mcl_kc k
theorem mcl_xNc (S : XS) (q c : Nat) (g : Nat → Int32) (h : mcl c) : mcl (xmk (xN S q c g) q) := by rw [xmk_xN]; exact h
theorem mfoR_xN (S : XS) (q c : Nat) (g : Nat → Int32) : (xN S q c g).2.2.2.2.2.2.2 q = g := va_up_self _ _ _
theorem xN_put (S : XS) (q c : Nat) (g : Nat → Int32) (f : Nat) (x : Int32) : xM (xN S q c g) q (upd ((xN S q c g).2.2.2.2.2.2.2 q) f x) = xN S q c (upd g f x) := by rw [xN_M, mfoR_xN]
theorem xN_ini (S : XS) (q c : Nat) (g : Nat → Int32) (k t s y z a : Int32) : xM (xN S q c g) q (gG (mfo (xN S q c g) q) k a t s y z) = xN S q c (gG g k a t s y z) := by rw [xN_M, mfo_xN]
theorem gM_sy (k c t s y : Int32) : upd (upd (gM k c t 0 0) 3 s) 4 y = gM k c t s y := by
  funext j
  simp only [gM, gG, upd]
  repeat' split
  all_goals first | rfl | omega
def xJ (S : XS) (q : Nat) : XS := (va_up S.1 1 (S.1 1 + 1), S.2.1, S.2.2.1, S.2.2.2.1, va_up S.2.2.2.2.1 (S.1 1).toNatClampNeg (some q), S.2.2.2.2.2)
def xD (S : XS) : XS := (va_up S.1 1 (S.1 1 - 1), S.2.1, S.2.2.1, S.2.2.2.1, va_up S.2.2.2.2.1 (S.1 1 - 1).toNatClampNeg none, S.2.2.2.2.2)
theorem xOK_in {S : XS} (h : xOK S) (h9 : S.1 1 < 4) : vp_in (S.1 1) 4 := by
  obtain ⟨n, hn, e, f⟩ := h
  rw [e] at h9 ⊢
  exact vp_in_nI ((nI_ltI (b := 4) (by omega) (by decide)).mp h9) (by decide)
theorem xOK_in1 {S : XS} (h : xOK S) (h9 : ¬ S.1 1 < 1) : vp_in (S.1 1 - 1) 4 := by
  obtain ⟨n, hn, e, f⟩ := h
  rw [e] at h9 ⊢
  have h1 : ¬ n < 1 := fun q => h9 (nI_lt (b := 1) q (by decide))
  rw [show (1 : Int32) = nI 1 from rfl, pk_sub (by omega)]
  exact vp_in_nI (by omega) (by decide)
theorem xOK_le {S : XS} (h : xOK S) : S.1 1 ≤ 4 := by
  obtain ⟨n, hn, e, f⟩ := h
  rw [e]
  exact nI_le (b := 4) hn (by decide)
set_option maxHeartbeats 4000000 in
set_option maxRecDepth 100000 in
theorem c_X10_made (Z : VZ) (S : XS) (k_ : Int32) (c_ : Int32) (t_ : Int32) (s_ : Int32) (y_ : Int32) : Ct XW Z yX10_made cX10_made 6 (some (.object "CarryShifts$Carrying")) 5 1 6 [.int k_, .int c_, .int t_, .int s_, .int y_] (S) (fun v S' => ∃ q, v = some (.ref q) ∧ q ∉ xL S ∧ S' = xN S q (kc k_) (gM k_ c_ t_ s_ y_)) := by
  refine V_entry (own := RX10) (by decide) rfl (Nat.le_of_ble_eq_true rfl) ?_
  intro B hB
  refine V_sub (L' := [(0, .int k_), (1, .int c_), (2, .int t_), (3, .int s_), (4, .int y_)]) [0, 1, 2, 3, 4] rfl ?_
  refine V_iload_n (pc := 0) dX10_made_0 0 rfl rfl ?_
  by_cases h1_1 : k_ = 1
  · refine V_eqi 1 h1_1 ?_
    refine V_tableIn (pc := 1) (tgt := 36) dX10_made_1 (by decide) (by decide) rfl (by decide) ?_
    refine Xnew_5 (pc := 36) dX10_made_36 (Nat.le_of_ble_eq_true rfl) (Nat.le_of_ble_eq_true rfl) (fun q36 hq36 => ?_)
    refine V_widen (n' := 1) (k' := 6) (Nat.le_refl _) (Nat.le_refl _) ?_
    refine V_eqS (xN S q36 5 (fun _ => 0)) rfl ?_
    refine V_dup (pc := 39) dX10_made_39 rfl ?_
    refine V_iconst (v := 1) (pc := 40) dX10_made_40 (by decide) ?_
    refine V_iload_n (pc := 41) dX10_made_41 1 rfl rfl ?_
    refine V_iload_n (pc := 42) dX10_made_42 2 rfl rfl ?_
    refine V_callIv (pc := 43) dX10_made_43 (c_X5_init Z _ _ _ _ _ (by exact in_xN _ _ _ _) (by exact mcl_xNc _ _ _ _ (by simp [mcl])) (by exact Or.inl (xmk_xN _ _ _ _))) kX10_296 rfl (Nat.le_of_ble_eq_true rfl) (by decide) (by decide) (Nat.le_of_ble_eq_true rfl) (Nat.le_of_ble_eq_true rfl) ?_
    refine V_eqS (xN S q36 5 (gM k_ c_ t_ 0 0)) (by refine (xN_ini _ _ _ _ _ _ _ _ _ _).trans ?_; simp [gM, kf, kd, *]) ?_
    refine V_astore (pc := 46) (L2 := [(0, .int k_), (1, .int c_), (2, .int t_), (3, .int s_), (4, .int y_)]) dX10_made_46 (by decide) rfl (fun x5_46 ex5_46 => ?_)
    subst ex5_46
    refine V_goto (pc := 48) (tgt := 119) dX10_made_48 (by decide) ?_
    refine V_aload (pc := 119) dX10_made_119 0 rfl ?_
    refine V_iload_n (pc := 121) dX10_made_121 4 rfl rfl ?_
    refine Xmp_state (pc := 122) (by exact in_xN _ _ _ _) (by exact mcl_xNc _ _ _ _ (by simp [mcl])) dX10_made_122 tw_210 (Or.inl rfl) ?_
    refine V_eqS _ (xN_put _ _ _ _ _ _) ?_
    refine V_aload (pc := 125) dX10_made_125 0 rfl ?_
    refine V_iload (pc := 127) dX10_made_127 5 rfl ?_
    refine Xmp_carry (pc := 129) (by exact in_xN _ _ _ _) (by exact mcl_xNc _ _ _ _ (by simp [mcl])) dX10_made_129 tw_218 (Or.inl rfl) ?_
    refine V_eqS _ (xN_put _ _ _ _ _ _) ?_
    refine V_aload (pc := 132) dX10_made_132 0 rfl ?_
    exact V_aret (pc := 134) dX10_made_134 (Nat.le_of_ble_eq_true rfl) (Nat.le_of_ble_eq_true rfl) (Or.inl ⟨_, rfl⟩) (Or.inr ⟨_, rfl⟩) (hB _ _ (by exact ⟨_, rfl, by assumption, by rw [gM_sy]; simp [kc, *]⟩))
  by_cases h1_2 : k_ = 2
  · refine V_eqi 2 h1_2 ?_
    refine V_tableIn (pc := 1) (tgt := 51) dX10_made_1 (by decide) (by decide) rfl (by decide) ?_
    refine Xnew_9 (pc := 51) dX10_made_51 (Nat.le_of_ble_eq_true rfl) (Nat.le_of_ble_eq_true rfl) (fun q51 hq51 => ?_)
    refine V_widen (n' := 1) (k' := 6) (Nat.le_refl _) (Nat.le_refl _) ?_
    refine V_eqS (xN S q51 9 (fun _ => 0)) rfl ?_
    refine V_dup (pc := 54) dX10_made_54 rfl ?_
    refine V_iload_n (pc := 55) dX10_made_55 1 rfl rfl ?_
    refine V_iload_n (pc := 56) dX10_made_56 2 rfl rfl ?_
    refine V_callIv (pc := 57) dX10_made_57 (c_X9_init Z _ _ _ _ (by exact in_xN _ _ _ _) (by exact mcl_xNc _ _ _ _ (by simp [mcl])) (by exact xmk_xN _ _ _ _)) kX10_301 rfl (Nat.le_of_ble_eq_true rfl) (by decide) (by decide) (Nat.le_of_ble_eq_true rfl) (Nat.le_of_ble_eq_true rfl) ?_
    refine V_eqS (xN S q51 9 (gM k_ c_ t_ 0 0)) (by refine (xN_ini _ _ _ _ _ _ _ _ _ _).trans ?_; simp [gM, kf, kd, *]) ?_
    refine V_astore (pc := 60) (L2 := [(0, .int k_), (1, .int c_), (2, .int t_), (3, .int s_), (4, .int y_)]) dX10_made_60 (by decide) rfl (fun x5_60 ex5_60 => ?_)
    subst ex5_60
    refine V_goto (pc := 62) (tgt := 119) dX10_made_62 (by decide) ?_
    refine V_aload (pc := 119) dX10_made_119 0 rfl ?_
    refine V_iload_n (pc := 121) dX10_made_121 4 rfl rfl ?_
    refine Xmp_state (pc := 122) (by exact in_xN _ _ _ _) (by exact mcl_xNc _ _ _ _ (by simp [mcl])) dX10_made_122 tw_210 (Or.inl rfl) ?_
    refine V_eqS _ (xN_put _ _ _ _ _ _) ?_
    refine V_aload (pc := 125) dX10_made_125 0 rfl ?_
    refine V_iload (pc := 127) dX10_made_127 5 rfl ?_
    refine Xmp_carry (pc := 129) (by exact in_xN _ _ _ _) (by exact mcl_xNc _ _ _ _ (by simp [mcl])) dX10_made_129 tw_218 (Or.inl rfl) ?_
    refine V_eqS _ (xN_put _ _ _ _ _ _) ?_
    refine V_aload (pc := 132) dX10_made_132 0 rfl ?_
    exact V_aret (pc := 134) dX10_made_134 (Nat.le_of_ble_eq_true rfl) (Nat.le_of_ble_eq_true rfl) (Or.inl ⟨_, rfl⟩) (Or.inr ⟨_, rfl⟩) (hB _ _ (by exact ⟨_, rfl, by assumption, by rw [gM_sy]; simp [kc, *]⟩))
  by_cases h1_3 : k_ = 3
  · refine V_eqi 3 h1_3 ?_
    refine V_tableIn (pc := 1) (tgt := 65) dX10_made_1 (by decide) (by decide) rfl (by decide) ?_
    refine Xnew_0 (pc := 65) dX10_made_65 (Nat.le_of_ble_eq_true rfl) (Nat.le_of_ble_eq_true rfl) (fun q65 hq65 => ?_)
    refine V_widen (n' := 1) (k' := 6) (Nat.le_refl _) (Nat.le_refl _) ?_
    refine V_eqS (xN S q65 0 (fun _ => 0)) rfl ?_
    refine V_dup (pc := 68) dX10_made_68 rfl ?_
    refine V_iload_n (pc := 69) dX10_made_69 1 rfl rfl ?_
    refine V_iload_n (pc := 70) dX10_made_70 2 rfl rfl ?_
    refine V_callIv (pc := 71) dX10_made_71 (c_X0_init Z _ _ _ _ (by exact in_xN _ _ _ _) (by exact mcl_xNc _ _ _ _ (by simp [mcl])) (by exact xmk_xN _ _ _ _)) kX10_305 rfl (Nat.le_of_ble_eq_true rfl) (by decide) (by decide) (Nat.le_of_ble_eq_true rfl) (Nat.le_of_ble_eq_true rfl) ?_
    refine V_eqS (xN S q65 0 (gM k_ c_ t_ 0 0)) (by refine (xN_ini _ _ _ _ _ _ _ _ _ _).trans ?_; simp [gM, kf, kd, *]) ?_
    refine V_astore (pc := 74) (L2 := [(0, .int k_), (1, .int c_), (2, .int t_), (3, .int s_), (4, .int y_)]) dX10_made_74 (by decide) rfl (fun x5_74 ex5_74 => ?_)
    subst ex5_74
    refine V_goto (pc := 76) (tgt := 119) dX10_made_76 (by decide) ?_
    refine V_aload (pc := 119) dX10_made_119 0 rfl ?_
    refine V_iload_n (pc := 121) dX10_made_121 4 rfl rfl ?_
    refine Xmp_state (pc := 122) (by exact in_xN _ _ _ _) (by exact mcl_xNc _ _ _ _ (by simp [mcl])) dX10_made_122 tw_210 (Or.inl rfl) ?_
    refine V_eqS _ (xN_put _ _ _ _ _ _) ?_
    refine V_aload (pc := 125) dX10_made_125 0 rfl ?_
    refine V_iload (pc := 127) dX10_made_127 5 rfl ?_
    refine Xmp_carry (pc := 129) (by exact in_xN _ _ _ _) (by exact mcl_xNc _ _ _ _ (by simp [mcl])) dX10_made_129 tw_218 (Or.inl rfl) ?_
    refine V_eqS _ (xN_put _ _ _ _ _ _) ?_
    refine V_aload (pc := 132) dX10_made_132 0 rfl ?_
    exact V_aret (pc := 134) dX10_made_134 (Nat.le_of_ble_eq_true rfl) (Nat.le_of_ble_eq_true rfl) (Or.inl ⟨_, rfl⟩) (Or.inr ⟨_, rfl⟩) (hB _ _ (by exact ⟨_, rfl, by assumption, by rw [gM_sy]; simp [kc, *]⟩))
  by_cases h1_4 : k_ = 4
  · refine V_eqi 4 h1_4 ?_
    refine V_tableIn (pc := 1) (tgt := 79) dX10_made_1 (by decide) (by decide) rfl (by decide) ?_
    refine Xnew_2 (pc := 79) dX10_made_79 (Nat.le_of_ble_eq_true rfl) (Nat.le_of_ble_eq_true rfl) (fun q79 hq79 => ?_)
    refine V_widen (n' := 1) (k' := 6) (Nat.le_refl _) (Nat.le_refl _) ?_
    refine V_eqS (xN S q79 2 (fun _ => 0)) rfl ?_
    refine V_dup (pc := 82) dX10_made_82 rfl ?_
    refine V_iload_n (pc := 83) dX10_made_83 1 rfl rfl ?_
    refine V_iload_n (pc := 84) dX10_made_84 2 rfl rfl ?_
    refine V_callIv (pc := 85) dX10_made_85 (c_X2_init Z _ _ _ _ (by exact in_xN _ _ _ _) (by exact mcl_xNc _ _ _ _ (by simp [mcl])) (by exact xmk_xN _ _ _ _)) kX10_308 rfl (Nat.le_of_ble_eq_true rfl) (by decide) (by decide) (Nat.le_of_ble_eq_true rfl) (Nat.le_of_ble_eq_true rfl) ?_
    refine V_eqS (xN S q79 2 (gM k_ c_ t_ 0 0)) (by refine (xN_ini _ _ _ _ _ _ _ _ _ _).trans ?_; simp [gM, kf, kd, *]) ?_
    refine V_astore (pc := 88) (L2 := [(0, .int k_), (1, .int c_), (2, .int t_), (3, .int s_), (4, .int y_)]) dX10_made_88 (by decide) rfl (fun x5_88 ex5_88 => ?_)
    subst ex5_88
    refine V_goto (pc := 90) (tgt := 119) dX10_made_90 (by decide) ?_
    refine V_aload (pc := 119) dX10_made_119 0 rfl ?_
    refine V_iload_n (pc := 121) dX10_made_121 4 rfl rfl ?_
    refine Xmp_state (pc := 122) (by exact in_xN _ _ _ _) (by exact mcl_xNc _ _ _ _ (by simp [mcl])) dX10_made_122 tw_210 (Or.inl rfl) ?_
    refine V_eqS _ (xN_put _ _ _ _ _ _) ?_
    refine V_aload (pc := 125) dX10_made_125 0 rfl ?_
    refine V_iload (pc := 127) dX10_made_127 5 rfl ?_
    refine Xmp_carry (pc := 129) (by exact in_xN _ _ _ _) (by exact mcl_xNc _ _ _ _ (by simp [mcl])) dX10_made_129 tw_218 (Or.inl rfl) ?_
    refine V_eqS _ (xN_put _ _ _ _ _ _) ?_
    refine V_aload (pc := 132) dX10_made_132 0 rfl ?_
    exact V_aret (pc := 134) dX10_made_134 (Nat.le_of_ble_eq_true rfl) (Nat.le_of_ble_eq_true rfl) (Or.inl ⟨_, rfl⟩) (Or.inr ⟨_, rfl⟩) (hB _ _ (by exact ⟨_, rfl, by assumption, by rw [gM_sy]; simp [kc, *]⟩))
  by_cases h1_5 : k_ = 5
  · refine V_eqi 5 h1_5 ?_
    refine V_tableIn (pc := 1) (tgt := 93) dX10_made_1 (by decide) (by decide) rfl (by decide) ?_
    refine Xnew_6 (pc := 93) dX10_made_93 (Nat.le_of_ble_eq_true rfl) (Nat.le_of_ble_eq_true rfl) (fun q93 hq93 => ?_)
    refine V_widen (n' := 1) (k' := 6) (Nat.le_refl _) (Nat.le_refl _) ?_
    refine V_eqS (xN S q93 6 (fun _ => 0)) rfl ?_
    refine V_dup (pc := 96) dX10_made_96 rfl ?_
    refine V_iload_n (pc := 97) dX10_made_97 1 rfl rfl ?_
    refine V_iload_n (pc := 98) dX10_made_98 2 rfl rfl ?_
    refine V_callIv (pc := 99) dX10_made_99 (c_X6_init Z _ _ _ _ (by exact in_xN _ _ _ _) (by exact mcl_xNc _ _ _ _ (by simp [mcl])) (by exact xmk_xN _ _ _ _)) kX10_311 rfl (Nat.le_of_ble_eq_true rfl) (by decide) (by decide) (Nat.le_of_ble_eq_true rfl) (Nat.le_of_ble_eq_true rfl) ?_
    refine V_eqS (xN S q93 6 (gM k_ c_ t_ 0 0)) (by refine (xN_ini _ _ _ _ _ _ _ _ _ _).trans ?_; simp [gM, kf, kd, *]) ?_
    refine V_astore (pc := 102) (L2 := [(0, .int k_), (1, .int c_), (2, .int t_), (3, .int s_), (4, .int y_)]) dX10_made_102 (by decide) rfl (fun x5_102 ex5_102 => ?_)
    subst ex5_102
    refine V_goto (pc := 104) (tgt := 119) dX10_made_104 (by decide) ?_
    refine V_aload (pc := 119) dX10_made_119 0 rfl ?_
    refine V_iload_n (pc := 121) dX10_made_121 4 rfl rfl ?_
    refine Xmp_state (pc := 122) (by exact in_xN _ _ _ _) (by exact mcl_xNc _ _ _ _ (by simp [mcl])) dX10_made_122 tw_210 (Or.inl rfl) ?_
    refine V_eqS _ (xN_put _ _ _ _ _ _) ?_
    refine V_aload (pc := 125) dX10_made_125 0 rfl ?_
    refine V_iload (pc := 127) dX10_made_127 5 rfl ?_
    refine Xmp_carry (pc := 129) (by exact in_xN _ _ _ _) (by exact mcl_xNc _ _ _ _ (by simp [mcl])) dX10_made_129 tw_218 (Or.inl rfl) ?_
    refine V_eqS _ (xN_put _ _ _ _ _ _) ?_
    refine V_aload (pc := 132) dX10_made_132 0 rfl ?_
    exact V_aret (pc := 134) dX10_made_134 (Nat.le_of_ble_eq_true rfl) (Nat.le_of_ble_eq_true rfl) (Or.inl ⟨_, rfl⟩) (Or.inr ⟨_, rfl⟩) (hB _ _ (by exact ⟨_, rfl, by assumption, by rw [gM_sy]; simp [kc, *]⟩))
  refine V_tableOut (pc := 1) (tgt := 107) dX10_made_1 (by have a0 := lv_neT h1_1 (a := 1) rfl; have a1 := lv_neT h1_2 (a := 2) rfl; have a2 := lv_neT h1_3 (a := 3) rfl; have a3 := lv_neT h1_4 (a := 4) rfl; have a4 := lv_neT h1_5 (a := 5) rfl; omega) (by decide) ?_
  refine Xnew_1 (pc := 107) dX10_made_107 (Nat.le_of_ble_eq_true rfl) (Nat.le_of_ble_eq_true rfl) (fun q107 hq107 => ?_)
  refine V_widen (n' := 1) (k' := 6) (Nat.le_refl _) (Nat.le_refl _) ?_
  refine V_eqS (xN S q107 1 (fun _ => 0)) rfl ?_
  refine V_dup (pc := 110) dX10_made_110 rfl ?_
  refine V_iconst (v := 0) (pc := 111) dX10_made_111 (by decide) ?_
  refine V_iload_n (pc := 112) dX10_made_112 1 rfl rfl ?_
  refine V_iload_n (pc := 113) dX10_made_113 2 rfl rfl ?_
  refine V_callIv (pc := 114) dX10_made_114 (c_X1_init Z _ _ _ _ _ (by exact in_xN _ _ _ _) (by exact mcl_xNc _ _ _ _ (by simp [mcl]))) kX10_312 rfl (Nat.le_of_ble_eq_true rfl) (by decide) (by decide) (Nat.le_of_ble_eq_true rfl) (Nat.le_of_ble_eq_true rfl) ?_
  refine V_eqS (xN S q107 1 (gM k_ c_ t_ 0 0)) (by refine (xN_ini _ _ _ _ _ _ _ _ _ _).trans ?_; simp [gM, kf, kd, *]) ?_
  refine V_astore (pc := 117) (L2 := [(0, .int k_), (1, .int c_), (2, .int t_), (3, .int s_), (4, .int y_)]) dX10_made_117 (by decide) rfl (fun x5_117 ex5_117 => ?_)
  subst ex5_117
  refine V_aload (pc := 119) dX10_made_119 0 rfl ?_
  refine V_iload_n (pc := 121) dX10_made_121 4 rfl rfl ?_
  refine Xmp_state (pc := 122) (by exact in_xN _ _ _ _) (by exact mcl_xNc _ _ _ _ (by simp [mcl])) dX10_made_122 tw_210 (Or.inl rfl) ?_
  refine V_eqS _ (xN_put _ _ _ _ _ _) ?_
  refine V_aload (pc := 125) dX10_made_125 0 rfl ?_
  refine V_iload (pc := 127) dX10_made_127 5 rfl ?_
  refine Xmp_carry (pc := 129) (by exact in_xN _ _ _ _) (by exact mcl_xNc _ _ _ _ (by simp [mcl])) dX10_made_129 tw_218 (Or.inl rfl) ?_
  refine V_eqS _ (xN_put _ _ _ _ _ _) ?_
  refine V_aload (pc := 132) dX10_made_132 0 rfl ?_
  exact V_aret (pc := 134) dX10_made_134 (Nat.le_of_ble_eq_true rfl) (Nat.le_of_ble_eq_true rfl) (Or.inl ⟨_, rfl⟩) (Or.inr ⟨_, rfl⟩) (hB _ _ (by exact ⟨_, rfl, by assumption, by rw [gM_sy]; simp [kc, *]⟩))
set_option maxHeartbeats 4000000 in
set_option maxRecDepth 100000 in
theorem c_X10_thoughtOf (Z : VZ) (S : XS) (a_ : Nat) (ha : a_ ∈ xL S) (hm : mcl (xmk S a_)) : Ct XW Z yX10_thoughtOf cX10_thoughtOf 1 (some (.object "CarryShifts$Carrying")) 6 1 6 [.ref (a_)] (S) (fun v S' => ∃ q, v = some (.ref q) ∧ q ∉ xL S ∧ S' = xN S q (kc (mfo S a_ 0)) (gM (mfo S a_ 0) (mfo S a_ 1) (mfo S a_ 2) (mfo S a_ 3) (mfo S a_ 4))) := by
  refine V_entry (own := RX10) (by decide) rfl (Nat.le_of_ble_eq_true rfl) ?_
  intro B hB
  refine V_sub (L' := [(0, .ref (a_))]) [0] rfl ?_
  refine V_aload_n (pc := 0) dX10_thoughtOf_0 0 rfl rfl ?_
  refine Xmg_kind (pc := 1) (v := (mfo S a_ 0)) (by exact ha) (by exact hm) rfl dX10_thoughtOf_1 tw_198 (Or.inl rfl) ?_
  refine V_aload_n (pc := 4) dX10_thoughtOf_4 0 rfl rfl ?_
  refine Xmg_cells (pc := 5) (v := (mfo S a_ 1)) (by exact ha) (by exact hm) rfl dX10_thoughtOf_5 tw_202 (Or.inl rfl) ?_
  refine V_aload_n (pc := 8) dX10_thoughtOf_8 0 rfl rfl ?_
  refine Xmg_taps (pc := 9) (v := (mfo S a_ 2)) (by exact ha) (by exact hm) rfl dX10_thoughtOf_9 tw_206 (Or.inl rfl) ?_
  refine V_aload_n (pc := 12) dX10_thoughtOf_12 0 rfl rfl ?_
  refine Xmg_state (pc := 13) (v := (mfo S a_ 3)) (by exact ha) (by exact hm) rfl dX10_thoughtOf_13 tw_210 (Or.inl rfl) ?_
  refine V_aload_n (pc := 16) dX10_thoughtOf_16 0 rfl rfl ?_
  refine Xmg_carry (pc := 17) (v := (mfo S a_ 4)) (by exact ha) (by exact hm) rfl dX10_thoughtOf_17 tw_218 (Or.inl rfl) ?_
  refine V_callS (pc := 20) dX10_thoughtOf_20 (c_X10_made Z _ _ _ _ _ _) kX10_68 rfl (Nat.le_of_ble_eq_true rfl) (by decide) (by decide) (Nat.le_of_ble_eq_true rfl) (Nat.le_of_ble_eq_true rfl) (fun v20 S20 hp20 => ?_)
  refine V_widen (n' := 1) (k' := 6) (Nat.le_refl _) (Nat.le_refl _) ?_
  obtain ⟨q_, rfl, hq_, rfl⟩ := hp20
  exact V_aret (pc := 23) dX10_thoughtOf_23 (Nat.le_of_ble_eq_true rfl) (Nat.le_of_ble_eq_true rfl) (Or.inl ⟨_, rfl⟩) (Or.inr ⟨_, rfl⟩) (hB _ _ (by exact ⟨q_, rfl, hq_, rfl⟩))
set_option maxHeartbeats 4000000 in
set_option maxRecDepth 100000 in
theorem c_X10_join (Z : VZ) (S : XS) (q_ : Nat) (hx : xOK S) (ha : q_ ∈ xL S) (hm : mcl (xmk S q_)) : CtF XW Z yX10_join cX10_join 2 (some .int) 0 0 0 [.ref (Z.2.2.2 99), .ref (q_)] (S) (some (.int (if S.1 1 < 4 then S.1 1 + 1 - 1 else -4))) (if S.1 1 < 4 then xJ S q_ else S) := by
  refine V_entry (own := RX10) (by decide) rfl (Nat.le_of_ble_eq_true rfl) ?_
  intro B hB
  refine V_sub (L' := [(0, .ref (Z.2.2.2 99)), (1, .ref (q_))]) [0, 1] rfl ?_
  refine V_aload_n (pc := 0) dX10_join_0 0 rfl rfl ?_
  refine Xg_X10_17 (pc := 1) (v := (S.1 1)) rfl dX10_join_1 ?_
  refine V_aload_n (pc := 4) dX10_join_4 0 rfl rfl ?_
  refine Xg_X10_13 (pc := 5) dX10_join_5 ?_
  refine Xn_0 (pc := 8) dX10_join_8 ?_
  refine V_icmp_lt (pc := 9) (tgt := 15) dX10_join_9 (by decide) (fun h9 => ?_) (fun h9 => ?_)
  · skip
    refine V_aload_n (pc := 15) dX10_join_15 0 rfl rfl ?_
    refine Xg_X10_13 (pc := 16) dX10_join_16 ?_
    refine V_aload_n (pc := 19) dX10_join_19 0 rfl rfl ?_
    refine Xg_X10_17 (pc := 20) (v := (S.1 1)) rfl dX10_join_20 ?_
    refine V_aload_n (pc := 23) dX10_join_23 1 rfl rfl ?_
    refine Xs_m (pc := 24) (by exact ha) (by exact hm) dX10_join_24 (by exact xOK_in hx h9) ?_
    refine V_aload_n (pc := 25) dX10_join_25 0 rfl rfl ?_
    refine V_dup (pc := 26) dX10_join_26 rfl ?_
    refine Xg_X10_17 (pc := 27) (v := (S.1 1)) rfl dX10_join_27 ?_
    refine V_iconst (v := 1) (pc := 30) dX10_join_30 (by decide) ?_
    refine V_iadd (pc := 31) dX10_join_31 ?_
    refine Xp_X10_17 (pc := 32) dX10_join_32 ?_
    refine V_aload_n (pc := 35) dX10_join_35 0 rfl rfl ?_
    refine Xg_X10_17 (pc := 36) (v := ((S.1 1) + 1)) rfl dX10_join_36 ?_
    refine V_iconst (v := 1) (pc := 39) dX10_join_39 (by decide) ?_
    refine V_isub (pc := 40) dX10_join_40 ?_
    exact V_iret (pc := 41) dX10_join_41 (Nat.le_of_ble_eq_true rfl) (Nat.le_of_ble_eq_true rfl) (hB _ _ ⟨congrArg (fun z => some (Value.int z)) (by exact (if_pos h9).symm), by exact (if_pos h9).symm⟩)
  · skip
    refine V_bipush (v := (-4)) (pc := 12) dX10_join_12 (by decide) ?_
    exact V_iret (pc := 14) dX10_join_14 (Nat.le_of_ble_eq_true rfl) (Nat.le_of_ble_eq_true rfl) (hB _ _ ⟨congrArg (fun z => some (Value.int z)) (by exact (if_neg h9).symm), by exact (if_neg h9).symm⟩)
set_option maxHeartbeats 4000000 in
set_option maxRecDepth 100000 in
theorem c_X10_drop (Z : VZ) (S : XS) (hx : xOK S) : CtF XW Z yX10_drop cX10_drop 1 (some .int) 0 0 0 [.ref (Z.2.2.2 99)] (S) (some (.int (if S.1 1 < 1 then -3 else S.1 1 - 1))) (if S.1 1 < 1 then S else xD S) := by
  refine V_entry (own := RX10) (by decide) rfl (Nat.le_of_ble_eq_true rfl) ?_
  intro B hB
  refine V_sub (L' := [(0, .ref (Z.2.2.2 99))]) [0] rfl ?_
  refine V_aload_n (pc := 0) dX10_drop_0 0 rfl rfl ?_
  refine Xg_X10_17 (pc := 1) (v := (S.1 1)) rfl dX10_drop_1 ?_
  refine V_iconst (v := 1) (pc := 4) dX10_drop_4 (by decide) ?_
  refine V_icmp_lt (pc := 5) (tgt := 20) dX10_drop_5 (by decide) (fun h5 => ?_) (fun h5 => ?_)
  · skip
    refine V_bipush (v := (-3)) (pc := 20) dX10_drop_20 (by decide) ?_
    exact V_iret (pc := 22) dX10_drop_22 (Nat.le_of_ble_eq_true rfl) (Nat.le_of_ble_eq_true rfl) (hB _ _ ⟨congrArg (fun z => some (Value.int z)) (by exact (if_pos h5).symm), by exact (if_pos h5).symm⟩)
  · skip
    refine V_aload_n (pc := 8) dX10_drop_8 0 rfl rfl ?_
    refine Xg_X10_17 (pc := 9) (v := (S.1 1)) rfl dX10_drop_9 ?_
    refine V_aload_n (pc := 12) dX10_drop_12 0 rfl rfl ?_
    refine Xg_X10_13 (pc := 13) dX10_drop_13 ?_
    refine Xn_0 (pc := 16) dX10_drop_16 ?_
    refine V_icmp_le (pc := 17) (tgt := 23) dX10_drop_17 (by decide) (fun h17 => ?_) (fun h17 => ?_)
    · skip
      refine V_aload_n (pc := 23) dX10_drop_23 0 rfl rfl ?_
      refine V_dup (pc := 24) dX10_drop_24 rfl ?_
      refine Xg_X10_17 (pc := 25) (v := (S.1 1)) rfl dX10_drop_25 ?_
      refine V_iconst (v := 1) (pc := 28) dX10_drop_28 (by decide) ?_
      refine V_isub (pc := 29) dX10_drop_29 ?_
      refine Xp_X10_17 (pc := 30) dX10_drop_30 ?_
      refine V_aload_n (pc := 33) dX10_drop_33 0 rfl rfl ?_
      refine Xg_X10_13 (pc := 34) dX10_drop_34 ?_
      refine V_aload_n (pc := 37) dX10_drop_37 0 rfl rfl ?_
      refine Xg_X10_17 (pc := 38) (v := ((S.1 1) - 1)) rfl dX10_drop_38 ?_
      refine V_null (pc := 41) dX10_drop_41 ?_
      refine Xs_mN (pc := 42) dX10_drop_42 (by exact xOK_in1 hx h5) ?_
      refine V_aload_n (pc := 43) dX10_drop_43 0 rfl rfl ?_
      refine Xg_X10_17 (pc := 44) (v := (S.1 1 - 1)) rfl dX10_drop_44 ?_
      exact V_iret (pc := 47) dX10_drop_47 (Nat.le_of_ble_eq_true rfl) (Nat.le_of_ble_eq_true rfl) (hB _ _ ⟨congrArg (fun z => some (Value.int z)) (by exact (if_neg h5).symm), by exact (if_neg h5).symm⟩)
    · skip
      exact absurd (xOK_le hx) h17
