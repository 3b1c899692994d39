theorem kJ0_335 : LkV RJ0 335 yJ0_coder_7d493 cJ0_coder_7d493 1 (some .byte) 0 := ⟨tw_733, tw_734, tw_735, tw_736, tw_17, by decide +kernel⟩
theorem kJ0_492 : LkV RJ0 492 yJ0_isLatin1_aae02 cJ0_isLatin1_aae02 1 (some .boolean) 0 := ⟨tw_743, tw_744, tw_745, tw_746, tw_17, by decide +kernel⟩
theorem kX7_74 : LkV RX7 74 yJ0_length_8abf5 cJ0_length_8abf5 1 (some .int) 0 := ⟨tw_729, tw_730, tw_731, tw_732, tw_17, by decide +kernel⟩
theorem kX7_80 : LkV RX7 80 yJ0_charAt_5068e cJ0_charAt_5068e 2 (some .char) 1 := ⟨tw_739, tw_740, tw_741, tw_742, tw_17, by decide +kernel⟩
theorem kX11_275 : LkV RX11 275 yJ0_length_8abf5 cJ0_length_8abf5 1 (some .int) 0 := ⟨tw_1255, tw_730, tw_731, tw_732, tw_17, by decide +kernel⟩
theorem kX11_279 : LkV RX11 279 yJ0_charAt_5068e cJ0_charAt_5068e 2 (some .char) 1 := ⟨tw_1256, tw_740, tw_741, tw_742, tw_17, by decide +kernel⟩
abbrev stC (i j : Nat) : Int32 := (stB.getD i []).getD j 0
theorem st_len : ∀ i, i < 6 → stL.getD i 0 < 8 := by decide
theorem st_nar : ∀ i, i < 6 → ∀ j, j < 8 → (Int32.toUInt32 (stC i j &&& 255) % 65536).toInt32 = stC i j ∧ narrow .char (.int (stC i j)) = .int (stC i j) := by decide +kernel
set_option maxHeartbeats 4000000 in
set_option maxRecDepth 100000 in
theorem g_preN {St : Type} {Wd : VZ → St → va_W} (Z : VZ) (S : St) (x_ n_ : Int32) (hx0 : ¬ x_ < 0) (hx1 : x_ < n_) : CtS Wd Z yJ3_checkIndex_8e157 cJ3_checkIndex_8e157 3 (some .int) 0 0 0 [.int x_, .int n_, .null] S (fun v S' => v = some (.int x_) ∧ S = S') := by
  refine V_entryS (own := RJ3) (by decide +kernel) rfl (Nat.le_of_ble_eq_true rfl) ?_
  intro B hB hst
  refine V_sub (L' := [(0, .int x_), (1, .int n_), (2, .null)]) [0, 1, 2] rfl ?_
  refine V_iload_n (pc := 0) dJ3_checkIndex_8e157_0 0 rfl rfl ?_
  refine V_if_lt (pc := 1) (tgt := 9) dJ3_checkIndex_8e157_1 (by decide) (fun h1 => ?_) (fun h1 => ?_)
  · skip
    exact absurd h1 hx0
  · skip
    refine V_iload_n (pc := 4) dJ3_checkIndex_8e157_4 0 rfl rfl ?_
    refine V_iload_n (pc := 5) dJ3_checkIndex_8e157_5 1 rfl rfl ?_
    refine V_icmp_lt (pc := 6) (tgt := 16) dJ3_checkIndex_8e157_6 (by decide) (fun h6 => ?_) (fun h6 => ?_)
    · skip
      refine V_iload_n (pc := 16) dJ3_checkIndex_8e157_16 0 rfl rfl ?_
      exact V_iret (pc := 17) dJ3_checkIndex_8e157_17 (Nat.le_of_ble_eq_true rfl) (Nat.le_of_ble_eq_true rfl) (hB _ _ ⟨congrArg (fun z => some (Value.int z)) (by first | rfl | assumption | (simp_all; done)), by rfl⟩)
    · skip
      exact absurd hx1 h6
set_option maxHeartbeats 4000000 in
set_option maxRecDepth 100000 in
theorem g_preR {St : Type} {Wd : VZ → St → va_W} (Z : VZ) (S : St) (x_ n_ : Int32) (t_ : Nat) (hx0 : ¬ x_ < 0) (hx1 : x_ < n_) : CtS Wd Z yJ3_checkIndex_8e157 cJ3_checkIndex_8e157 3 (some .int) 0 0 0 [.int x_, .int n_, .ref (t_)] S (fun v S' => v = some (.int x_) ∧ S = S') := by
  refine V_entryS (own := RJ3) (by decide +kernel) rfl (Nat.le_of_ble_eq_true rfl) ?_
  intro B hB hst
  refine V_sub (L' := [(0, .int x_), (1, .int n_), (2, .ref (t_))]) [0, 1, 2] rfl ?_
  refine V_iload_n (pc := 0) dJ3_checkIndex_8e157_0 0 rfl rfl ?_
  refine V_if_lt (pc := 1) (tgt := 9) dJ3_checkIndex_8e157_1 (by decide) (fun h1 => ?_) (fun h1 => ?_)
  · skip
    exact absurd h1 hx0
  · skip
    refine V_iload_n (pc := 4) dJ3_checkIndex_8e157_4 0 rfl rfl ?_
    refine V_iload_n (pc := 5) dJ3_checkIndex_8e157_5 1 rfl rfl ?_
    refine V_icmp_lt (pc := 6) (tgt := 16) dJ3_checkIndex_8e157_6 (by decide) (fun h6 => ?_) (fun h6 => ?_)
    · skip
      refine V_iload_n (pc := 16) dJ3_checkIndex_8e157_16 0 rfl rfl ?_
      exact V_iret (pc := 17) dJ3_checkIndex_8e157_17 (Nat.le_of_ble_eq_true rfl) (Nat.le_of_ble_eq_true rfl) (hB _ _ ⟨congrArg (fun z => some (Value.int z)) (by first | rfl | assumption | (simp_all; done)), by rfl⟩)
    · skip
      exact absurd hx1 h6
set_option maxHeartbeats 4000000 in
set_option maxRecDepth 100000 in
theorem g_checkIndex {St : Type} {Wd : VZ → St → va_W} (Z : VZ) (S : St) (x_ n_ : Int32) (hx0 : ¬ x_ < 0) (hx1 : x_ < n_) : CtS Wd Z yJ0_checkIndex_df160 cJ0_checkIndex_df160 2 none 1 0 0 [.int x_, .int n_] S (fun v S' => v = none ∧ S = S') := by
  refine V_entryS (own := RJ0) (by decide +kernel) rfl (Nat.le_of_ble_eq_true rfl) ?_
  intro B hB hst
  refine V_sub (L' := [(0, .int x_), (1, .int n_)]) [0, 1] rfl ?_
  refine V_iload_n (pc := 0) dJ0_checkIndex_df160_0 0 rfl rfl ?_
  refine V_iload_n (pc := 1) dJ0_checkIndex_df160_1 1 rfl rfl ?_
  refine V_gfm (pc := 2) hst dJ0_checkIndex_df160_2 ?_ (fun t_ => ?_)
  · skip
    refine V_callSS (pc := 5) hst dJ0_checkIndex_df160_5 (g_preN Z S x_ n_ hx0 hx1) kJ0_1059 rfl (Nat.le_of_ble_eq_true rfl) (by decide) (by decide) (Nat.le_refl _) (Nat.le_refl _) (fun v5 S5 hp5 => ?_)
    obtain ⟨rfl, rfl⟩ := hp5
    refine V_pop (pc := 8) dJ0_checkIndex_df160_8 rfl ?_
    exact V_vret (pc := 9) dJ0_checkIndex_df160_9 (Nat.le_of_ble_eq_true rfl) (Nat.le_of_ble_eq_true rfl) (hB _ _ ⟨rfl, by rfl⟩)
  · skip
    refine V_callSS (pc := 5) hst dJ0_checkIndex_df160_5 (g_preR Z S x_ n_ t_ hx0 hx1) kJ0_1059 rfl (Nat.le_of_ble_eq_true rfl) (by decide) (by decide) (Nat.le_refl _) (Nat.le_refl _) (fun v5 S5 hp5 => ?_)
    obtain ⟨rfl, rfl⟩ := hp5
    refine V_pop (pc := 8) dJ0_checkIndex_df160_8 rfl ?_
    exact V_vret (pc := 9) dJ0_checkIndex_df160_9 (Nat.le_of_ble_eq_true rfl) (Nat.le_of_ble_eq_true rfl) (hB _ _ ⟨rfl, by rfl⟩)
set_option maxHeartbeats 4000000 in
set_option maxRecDepth 100000 in
theorem g_coder {St : Type} {Wd : VZ → St → va_W} (Z : VZ) (S : St) (i_ : Nat) (hi : i_ < 6) : CtS Wd Z yJ0_coder_7d493 cJ0_coder_7d493 1 (some .byte) 0 0 0 [.ref (sAd Z i_)] S (fun v S' => v = some (.int 0) ∧ S = S') := by
  refine V_entryS (own := RJ0) (by decide +kernel) rfl (Nat.le_of_ble_eq_true rfl) ?_
  intro B hB hst
  refine V_sub (L' := [(0, .ref (sAd Z i_))]) [0] rfl ?_
  refine V_gcs (pc := 0) hst dJ0_coder_7d493_0 ?_
  refine V_if_eq (pc := 3) (tgt := 13) dJ0_coder_7d493_3 (by decide) (fun h3 => ?_) (fun h3 => ?_)
  · skip
    first | exact absurd h3 (by decide) | exact absurd rfl h3
  · skip
    refine V_aload_n (pc := 6) dJ0_coder_7d493_6 0 rfl rfl ?_
    refine V_scod (pc := 7) hst hi dJ0_coder_7d493_7 ?_
    refine V_goto (pc := 10) (tgt := 14) dJ0_coder_7d493_10 (by decide) ?_
    exact V_cret (pc := 14) dJ0_coder_7d493_14 (Nat.le_of_ble_eq_true rfl) (Nat.le_of_ble_eq_true rfl) (by rfl) (hB _ _ ⟨congrArg (fun z => some (Value.int z)) (by rfl), rfl⟩)
set_option maxHeartbeats 4000000 in
set_option maxRecDepth 100000 in
theorem g_isLatin1 {St : Type} {Wd : VZ → St → va_W} (Z : VZ) (S : St) (i_ : Nat) (hi : i_ < 6) : CtS Wd Z yJ0_isLatin1_aae02 cJ0_isLatin1_aae02 1 (some .boolean) 0 0 0 [.ref (sAd Z i_)] S (fun v S' => v = some (.int 1) ∧ S = S') := by
  refine V_entryS (own := RJ0) (by decide +kernel) rfl (Nat.le_of_ble_eq_true rfl) ?_
  intro B hB hst
  refine V_sub (L' := [(0, .ref (sAd Z i_))]) [0] rfl ?_
  refine V_gcs (pc := 0) hst dJ0_isLatin1_aae02_0 ?_
  refine V_if_eq (pc := 3) (tgt := 17) dJ0_isLatin1_aae02_3 (by decide) (fun h3 => ?_) (fun h3 => ?_)
  · skip
    first | exact absurd h3 (by decide) | exact absurd rfl h3
  · skip
    refine V_aload_n (pc := 6) dJ0_isLatin1_aae02_6 0 rfl rfl ?_
    refine V_scod (pc := 7) hst hi dJ0_isLatin1_aae02_7 ?_
    refine V_if_ne (pc := 10) (tgt := 17) dJ0_isLatin1_aae02_10 (by decide) (fun h10 => ?_) (fun h10 => ?_)
    · skip
      first | exact absurd h10 (by decide) | exact absurd rfl h10
    · skip
      refine V_iconst (v := 1) (pc := 13) dJ0_isLatin1_aae02_13 (by decide) ?_
      refine V_goto (pc := 14) (tgt := 18) dJ0_isLatin1_aae02_14 (by decide) ?_
      exact V_zret (pc := 18) dJ0_isLatin1_aae02_18 (Nat.le_of_ble_eq_true rfl) (Nat.le_of_ble_eq_true rfl) (Or.inr rfl) (hB _ _ ⟨congrArg (fun z => some (Value.int z)) (by first | rfl | assumption | (simp_all; done)), by rfl⟩)
set_option maxHeartbeats 4000000 in
set_option maxRecDepth 100000 in
theorem g_length {St : Type} {Wd : VZ → St → va_W} (Z : VZ) (S : St) (i_ : Nat) (hi : i_ < 6) : CtS Wd Z yJ0_length_8abf5 cJ0_length_8abf5 1 (some .int) 1 0 0 [.ref (sAd Z i_)] S (fun v S' => v = some (.int (nI (stL.getD i_ 0))) ∧ S = S') := by
  refine V_entryS (own := RJ0) (by decide +kernel) rfl (Nat.le_of_ble_eq_true rfl) ?_
  intro B hB hst
  refine V_sub (L' := [(0, .ref (sAd Z i_))]) [0] rfl ?_
  refine V_aload_n (pc := 0) dJ0_length_8abf5_0 0 rfl rfl ?_
  refine V_sval (pc := 1) hst hi dJ0_length_8abf5_1 ?_
  refine V_slen (pc := 4) hst hi dJ0_length_8abf5_4 ?_
  refine V_aload_n (pc := 5) dJ0_length_8abf5_5 0 rfl rfl ?_
  refine V_callK (pc := 6) hst hi dJ0_length_8abf5_6 (g_coder Z S i_ hi) kJ0_335 rfl rfl (Nat.le_of_ble_eq_true rfl) (by decide) (by decide) (Nat.le_refl _) (Nat.le_refl _) (fun v6 S6 hp6 => ?_)
  obtain ⟨rfl, rfl⟩ := hp6
  refine V_ishr (pc := 9) dJ0_length_8abf5_9 ?_
  exact V_iret (pc := 10) dJ0_length_8abf5_10 (Nat.le_of_ble_eq_true rfl) (Nat.le_of_ble_eq_true rfl) (hB _ _ ⟨congrArg (fun z => some (Value.int z)) (by have := st_len i_ hi; exact sc_shr0 (by omega)), by rfl⟩)
set_option maxHeartbeats 4000000 in
set_option maxRecDepth 100000 in
theorem g_l1charAt {St : Type} {Wd : VZ → St → va_W} (Z : VZ) (S : St) (i_ j_ : Nat) (hi : i_ < 6) (hj : j_ < stL.getD i_ 0) : CtS Wd Z yJ1_charAt_3b067 cJ1_charAt_3b067 2 (some .char) 2 0 0 [.ref (sAv Z i_), .int (nI j_)] S (fun v S' => v = some (.int (stC i_ j_)) ∧ S = S') := by
  refine V_entryS (own := RJ1) (by decide +kernel) rfl (Nat.le_of_ble_eq_true rfl) ?_
  intro B hB hst
  refine V_sub (L' := [(0, .ref (sAv Z i_)), (1, .int (nI j_))]) [0, 1] rfl ?_
  refine V_iload_n (pc := 0) dJ1_charAt_3b067_0 1 rfl rfl ?_
  refine V_aload_n (pc := 1) dJ1_charAt_3b067_1 0 rfl rfl ?_
  refine V_slen (pc := 2) hst hi dJ1_charAt_3b067_2 ?_
  refine V_callSS (pc := 3) hst dJ1_charAt_3b067_3 (g_checkIndex Z S (nI j_) (nI (stL.getD i_ 0)) (nI_pos (by have := st_len i_ hi; omega)) (nI_lt hj (by have := st_len i_ hi; omega))) kJ1_9 rfl (Nat.le_of_ble_eq_true rfl) (by decide) (by decide) (Nat.le_refl _) (Nat.le_refl _) (fun v3 S3 hp3 => ?_)
  obtain ⟨rfl, rfl⟩ := hp3
  refine V_aload_n (pc := 6) dJ1_charAt_3b067_6 0 rfl rfl ?_
  refine V_iload_n (pc := 7) dJ1_charAt_3b067_7 1 rfl rfl ?_
  refine V_sbl (pc := 8) hst hi (by exact vp_in_nI hj (by have := st_len i_ hi; omega)) dJ1_charAt_3b067_8 ?_
  refine V_sipush (v := 255) (pc := 9) dJ1_charAt_3b067_9 (by decide) ?_
  refine V_iand (pc := 12) dJ1_charAt_3b067_12 ?_
  refine V_i2c (pc := 13) dJ1_charAt_3b067_13 rfl ?_
  have hl8 := st_len i_ hi
  refine V_eqi (stC i_ j_) (by rw [nI_clamp (by omega)]; exact (st_nar i_ hi j_ (by omega)).1) ?_
  exact V_cret (pc := 14) dJ1_charAt_3b067_14 (Nat.le_of_ble_eq_true rfl) (Nat.le_of_ble_eq_true rfl) (by exact (st_nar i_ hi j_ (by omega)).2) (hB _ _ ⟨congrArg (fun z => some (Value.int z)) (by rfl), rfl⟩)
set_option maxHeartbeats 4000000 in
set_option maxRecDepth 100000 in
theorem g_charAt {St : Type} {Wd : VZ → St → va_W} (Z : VZ) (S : St) (i_ j_ : Nat) (hi : i_ < 6) (hj : j_ < stL.getD i_ 0) : CtS Wd Z yJ0_charAt_5068e cJ0_charAt_5068e 2 (some .char) 3 0 0 [.ref (sAd Z i_), .int (nI j_)] S (fun v S' => v = some (.int (stC i_ j_)) ∧ S = S') := by
  refine V_entryS (own := RJ0) (by decide +kernel) rfl (Nat.le_of_ble_eq_true rfl) ?_
  intro B hB hst
  refine V_sub (L' := [(0, .ref (sAd Z i_)), (1, .int (nI j_))]) [0, 1] rfl ?_
  refine V_aload_n (pc := 0) dJ0_charAt_5068e_0 0 rfl rfl ?_
  refine V_callK (pc := 1) hst hi dJ0_charAt_5068e_1 (g_isLatin1 Z S i_ hi) kJ0_492 rfl rfl (Nat.le_of_ble_eq_true rfl) (by decide) (by decide) (Nat.le_refl _) (Nat.le_refl _) (fun v1 S1 hp1 => ?_)
  obtain ⟨rfl, rfl⟩ := hp1
  refine V_if_eq (pc := 4) (tgt := 16) dJ0_charAt_5068e_4 (by decide) (fun h4 => ?_) (fun h4 => ?_)
  · skip
    first | exact absurd h4 (by decide) | exact absurd rfl h4
  · skip
    refine V_aload_n (pc := 7) dJ0_charAt_5068e_7 0 rfl rfl ?_
    refine V_sval (pc := 8) hst hi dJ0_charAt_5068e_8 ?_
    refine V_iload_n (pc := 11) dJ0_charAt_5068e_11 1 rfl rfl ?_
    refine V_callSS (pc := 12) hst dJ0_charAt_5068e_12 (g_l1charAt Z S i_ j_ hi hj) kJ0_495 rfl (Nat.le_of_ble_eq_true rfl) (by decide) (by decide) (Nat.le_refl _) (Nat.le_refl _) (fun v12 S12 hp12 => ?_)
    obtain ⟨rfl, rfl⟩ := hp12
    exact V_cret (pc := 15) dJ0_charAt_5068e_15 (Nat.le_of_ble_eq_true rfl) (Nat.le_of_ble_eq_true rfl) (by have := st_len i_ hi; exact (st_nar i_ hi j_ (by omega)).2) (hB _ _ ⟨congrArg (fun z => some (Value.int z)) (by rfl), rfl⟩)
