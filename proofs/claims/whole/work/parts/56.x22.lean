theorem mul_bd {a b : Int} {A B : Nat} (ha : a.natAbs ≤ A) (hb : b.natAbs ≤ B) : (a * b).natAbs ≤ A * B := by
  rw [Int.natAbs_mul]
  exact Nat.mul_le_mul ha hb
theorem fdv_bd {a b : Int} (hb : 0 < b) : (a.fdiv b).natAbs ≤ a.natAbs := by
  obtain ⟨h1, h2⟩ := fdv (a := a) hb
  generalize a.fdiv b = t at *
  rcases Int.lt_or_le t 0 with h | h
  · have m : 0 ≤ (-t - 1) * (b - 1) := Int.mul_nonneg (by omega) (by omega)
    rw [Int.sub_mul, Int.neg_mul, Int.mul_sub] at m
    omega
  · have m : 0 ≤ t * (b - 1) := Int.mul_nonneg (by omega) (by omega)
    rw [Int.mul_sub] at m
    omega
theorem cr_bd (u v : Int) : (crQ u v).natAbs ≤ u.natAbs + 1 := by
  by_cases h : v = 0
  · unfold crQ
    rw [if_pos h]
    omega
  · obtain ⟨h1, h2⟩ := cr_spec (u := u) h
    generalize crQ u v = t at *
    rcases Int.lt_or_gt_of_ne h with hv | hv
    · obtain ⟨a1, a2⟩ := h2 hv
      rcases Int.lt_or_le t 0 with h | h
      · have m : 0 ≤ (-t - 1) * (-v - 1) := Int.mul_nonneg (by omega) (by omega)
        rw [Int.sub_mul, Int.neg_mul, Int.mul_sub, Int.mul_neg] at m
        omega
      · have m : 0 ≤ t * (-v - 1) := Int.mul_nonneg (by omega) (by omega)
        rw [Int.mul_sub, Int.mul_neg] at m
        omega
    · obtain ⟨a1, a2⟩ := h1 hv
      rcases Int.lt_or_le t 0 with h | h
      · have m : 0 ≤ (-t - 1) * (v - 1) := Int.mul_nonneg (by omega) (by omega)
        rw [Int.sub_mul, Int.neg_mul, Int.mul_sub] at m
        omega
      · have m : 0 ≤ t * (v - 1) := Int.mul_nonneg (by omega) (by omega)
        rw [Int.mul_sub] at m
        omega
/-- the offers around a place -/
def oaQ (p q r s t : Int) (u : Int × Int) : Int × Int := ofQ (ofQ u (r + t * p) (s + t * q)) (r + (t + 1) * p) (s + (t + 1) * q)
theorem of_sm {u : Int × Int} {x y : Int} (h1 : smQ u.1) (h2 : smQ u.2) (hx : smQ x) (hy : smQ y) : smQ (ofQ u x y).1 ∧ smQ (ofQ u x y).2 := by
  unfold ofQ
  split
  · exact ⟨h1, h2⟩
  · split
    · unfold nrP nrB
      refine ⟨?_, ?_⟩
      · show smQ (if y < 0 then -x else x)
        split <;> omega
      · show smQ (if y < 0 then -y else y)
        split <;> omega
    · exact ⟨h1, h2⟩
abbrev s24 (x : Int) : Prop := x.natAbs ≤ 16777216
theorem ln_sm {r p i : Int} (hr : s24 r) (hp : s24 p) (hi : i.natAbs ≤ 268435456) : smQ (r + i * p) := by
  have := mul_bd hi hp
  omega
theorem oa_sm {p q r s t : Int} {u : Int × Int} (hp : s24 p) (hq : s24 q) (hr : s24 r) (hs : s24 s) (ht : t.natAbs ≤ 134217728) (h1 : smQ u.1) (h2 : smQ u.2) : smQ (oaQ p q r s t u).1 ∧ smQ (oaQ p q r s t u).2 := by
  obtain ⟨a1, a2⟩ := of_sm h1 h2 (ln_sm hr hp (i := t) (by omega)) (ln_sm hs hq (i := t) (by omega))
  exact of_sm a1 a2 (ln_sm hr hp (by omega)) (ln_sm hs hq (by omega))
def okU (N M : Int) (u : Int × Int) : Prop := u.2 = 0 ∨ (u.2 % 2 = 1 ∧ 0 < u.2 ∧ ltQ N M u.1 u.2)
def leU (v u : Int × Int) : Prop := u.2 ≠ 0 → v.2 ≠ 0 ∧ ∀ x y, ¬ lsQ x y u.1 u.2 → ¬ lsQ x y v.1 v.2
theorem leU_rf (u : Int × Int) : leU u u := fun h => ⟨h, fun _ _ z => z⟩
theorem leU_tr {u v w : Int × Int} (h : leU u v) (k : leU v w) : leU u w := fun z => ⟨(h (k z).1).1, fun x y n => (h (k z).1).2 x y ((k z).2 x y n)⟩
theorem lt_neg {N M p q : Int} (h : ltQ N M p q) : ltQ N M (-p) (-q) := by
  obtain ⟨k, e⟩ := h
  exact ⟨-k, by grind⟩
theorem of_ok {N M : Int} {u : Int × Int} {x y : Int} (h : okU N M u) (hx : ltQ N M x y) : okU N M (ofQ u x y) := by
  unfold ofQ
  split
  · exact h
  · rename_i ho
    split
    · refine Or.inr ?_
      show nrB y % 2 = 1 ∧ 0 < nrB y ∧ ltQ N M (nrP x y) (nrB y)
      unfold nrB nrP
      split
      · exact ⟨by omega, by omega, lt_neg hx⟩
      · exact ⟨by omega, by omega, hx⟩
    · exact h
theorem of_le (u : Int × Int) (x y : Int) : leU (ofQ u x y) u := by
  unfold ofQ
  split
  · exact leU_rf u
  · rename_i ho
    split
    · rename_i hc
      intro h0
      refine ⟨?_, ?_⟩
      · show nrB y ≠ 0
        unfold nrB
        split <;> omega
      · intro a b hn hl
        rcases hc with hc | hc
        · exact h0 hc
        · exact hn (ls_tr hl hc)
    · exact leU_rf u
theorem of_hit (u : Int × Int) {x y : Int} (h : y % 2 = 1) : (ofQ u x y).2 ≠ 0 ∧ ¬ lsQ (nrP x y) (nrB y) (ofQ u x y).1 (ofQ u x y).2 := by
  unfold ofQ
  rw [if_neg (by omega)]
  split
  · refine ⟨?_, fun z => ls_irr z⟩
    show nrB y ≠ 0
    unfold nrB
    split <;> omega
  · rename_i hc
    exact ⟨fun z => hc (Or.inl z), fun z => hc (Or.inr z)⟩
theorem lt_line {N M p q r s : Int} (h1 : ltQ N M p q) (h2 : ltQ N M r s) (i : Int) : ltQ N M (r + i * p) (s + i * q) := by
  obtain ⟨k1, e1⟩ := h1
  obtain ⟨k2, e2⟩ := h2
  exact ⟨k2 + i * k1, by grind⟩
theorem oa_ok {N M p q r s : Int} (h1 : ltQ N M p q) (h2 : ltQ N M r s) (t : Int) {u : Int × Int} (h : okU N M u) : okU N M (oaQ p q r s t u) := of_ok (of_ok h (lt_line h1 h2 _)) (lt_line h1 h2 _)
theorem oa_le (p q r s t : Int) (u : Int × Int) : leU (oaQ p q r s t u) u := leU_tr (of_le _ _ _) (of_le _ _ _)
theorem oa_hit' (p q r s t : Int) (u : Int × Int) {i : Int} (h1 : t ≤ i) (h2 : i ≤ t + 1) (ho : (s + i * q) % 2 = 1) : (oaQ p q r s t u).2 ≠ 0 ∧ ¬ lsQ (nrP (r + i * p) (s + i * q)) (nrB (s + i * q)) (oaQ p q r s t u).1 (oaQ p q r s t u).2 := by
  rcases (show i = t ∨ i = t + 1 by omega) with e | e
  · rw [e] at ho ⊢
    obtain ⟨a, b⟩ := of_hit u (x := r + t * p) ho
    have k := of_le (ofQ u (r + t * p) (s + t * q)) (r + (t + 1) * p) (s + (t + 1) * q) a
    exact ⟨k.1, k.2 _ _ b⟩
  · rw [e] at ho ⊢
    exact of_hit _ ho
/-- all that the class looks at -/
def allQ (p q r s : Int) : Int × Int := oaQ p q r s (crQ (r + s) (p + q)) (oaQ p q r s (crQ (r - s) (p - q)) (oaQ p q r s 0 (ofQ (-1, 0) p q)))
theorem all_lea {N M p q r s : Int} (hM : 1 < M) (red : redQ N M p q r s) : leaQ N M (allQ p q r s).1 (allQ p q r s).2 := by
  have l1 := red.1.1
  have l2 := red.1.2.1
  have k3 := oa_le p q r s (crQ (r + s) (p + q)) (oaQ p q r s (crQ (r - s) (p - q)) (oaQ p q r s 0 (ofQ (-1, 0) p q)))
  have k2 := leU_tr k3 (oa_le p q r s (crQ (r - s) (p - q)) (oaQ p q r s 0 (ofQ (-1, 0) p q)))
  have k1 := leU_tr k2 (oa_le p q r s 0 (ofQ (-1, 0) p q))
  have ok : okU N M (allQ p q r s) := oa_ok l1 l2 _ (oa_ok l1 l2 _ (oa_ok l1 l2 _ (of_ok (Or.inl rfl) l1)))
  have hs : q % 2 = 1 → (allQ p q r s).2 ≠ 0 ∧ ¬ lsQ (nrP p q) (nrB q) (allQ p q r s).1 (allQ p q r s).2 := fun ho => by
    obtain ⟨a, b⟩ := of_hit (-1, 0) (x := p) ho
    exact ⟨(k1 a).1, (k1 a).2 _ _ b⟩
  have hi : ∀ i, neQ p q r s i → (s + i * q) % 2 = 1 → (allQ p q r s).2 ≠ 0 ∧ ¬ lsQ (nrP (r + i * p) (s + i * q)) (nrB (s + i * q)) (allQ p q r s).1 (allQ p q r s).2 := by
    rintro i ⟨c, hc, c1, c2⟩ ho
    rcases hc with rfl | rfl | rfl
    · obtain ⟨a, b⟩ := oa_hit' p q r s 0 (ofQ (-1, 0) p q) c1 c2 ho
      exact ⟨(k2 a).1, (k2 a).2 _ _ b⟩
    · obtain ⟨a, b⟩ := oa_hit' p q r s (crQ (r - s) (p - q)) (oaQ p q r s 0 (ofQ (-1, 0) p q)) c1 c2 ho
      exact ⟨(k3 a).1, (k3 a).2 _ _ b⟩
    · exact oa_hit' p q r s (crQ (r + s) (p + q)) _ c1 c2 ho
  have hne : (allQ p q r s).2 ≠ 0 := by
    rcases Int.emod_two_eq q with e | e
    · have hs1 : s % 2 = 1 := by
        obtain ⟨a, b, ea, eb⟩ := bas_comb (by omega) red.1 (x := N) (y := 1) ⟨0, by omega⟩
        rcases Int.emod_two_eq s with z | z
        · exfalso
          have h1 : (a * q + b * s) % 2 = 1 := by rw [← eb]; rfl
          rw [Int.add_emod, Int.mul_emod, Int.mul_emod b s, z, e, Int.mul_zero, Int.mul_zero] at h1
          exact absurd h1 (by decide)
        · exact z
      exact (hi 0 ⟨0, Or.inl rfl, by omega, by omega⟩ (by rw [Int.zero_mul, Int.add_zero]; exact hs1)).1
    · exact (hs e).1
  rcases ok with h | h
  · exact absurd h hne
  · exact lea_main hM red h (fun ho => (hs ho).2) (fun i hn ho => (hi i hn ho).2)
set_option maxHeartbeats 4000000 in
set_option maxRecDepth 100000 in
theorem c_X4_crossing (Z : VZ) (S : XS) (x y : Int) (hx : smQ x) (hy : smQ y) : CtF XW Z yX4_crossing cX4_crossing 4 (some .long) 1 0 0 [.long (iL x), .long (iL y)] (S) (some (.long (iL (crQ x y)))) (S) := by
  refine V_entry (own := RX4) (by decide) rfl (Nat.le_of_ble_eq_true rfl) ?_
  intro B hB
  refine V_sub (L' := [(0, .long (iL x)), (2, .long (iL y))]) [0, 1] rfl ?_
  refine V_lload_n (pc := 0) dX4_crossing_0 1 rfl rfl ?_
  refine V_lconst (v := 0) (pc := 1) dX4_crossing_1 (by decide) ?_
  refine V_lcmp (pc := 2) dX4_crossing_2 ?_
  refine V_if_ne (pc := 3) (tgt := 10) dX4_crossing_3 (by decide) (fun h3 => ?_) (fun h3 => ?_)
  · skip
    rw [lg_cmp_eq, show (0 : Int64) = iL 0 from rfl, iL_eq (by omega) (by omega)] at h3
    refine V_lload_n (pc := 10) dX4_crossing_10 0 rfl rfl ?_
    refine V_lneg (pc := 11) dX4_crossing_11 ?_
    refine V_eql (iL (-x)) (iL_neg x) ?_
    refine V_lload_n (pc := 12) dX4_crossing_12 1 rfl rfl ?_
    refine V_callSl (pc := 13) dX4_crossing_13 (c_J9_floorDiv_f86c9 Z _ _ _ (by rw [show (0 : Int64) = iL 0 from rfl, iL_eq (by omega) (by omega)]; exact h3)) kX4_59 rfl (Nat.le_of_ble_eq_true rfl) (by decide) (by decide) (Nat.le_of_ble_eq_true rfl) (Nat.le_of_ble_eq_true rfl) ?_
    exact V_lret (pc := 16) dX4_crossing_16 (Nat.le_of_ble_eq_true rfl) (Nat.le_of_ble_eq_true rfl) (hB _ _ ⟨congrArg (fun z => some (Value.long z)) (by unfold crQ; first | (rw [if_pos h3]; done) | (rw [if_pos h3]; rfl) | (rw [if_neg h3]; exact flD_i (by omega) (by omega) h3)), by rfl⟩)
  · skip
    rw [lg_cmp_eq, show (0 : Int64) = iL 0 from rfl, iL_eq (by omega) (by omega)] at h3
    refine V_lconst (v := 0) (pc := 6) dX4_crossing_6 (by decide) ?_
    refine V_goto (pc := 7) (tgt := 16) dX4_crossing_7 (by decide) ?_
    exact V_lret (pc := 16) dX4_crossing_16 (Nat.le_of_ble_eq_true rfl) (Nat.le_of_ble_eq_true rfl) (hB _ _ ⟨congrArg (fun z => some (Value.long z)) (by unfold crQ; first | (rw [if_pos h3]; done) | (rw [if_pos h3]; rfl) | (rw [if_neg h3]; exact flD_i (by omega) (by omega) h3)), by rfl⟩)
set_option maxHeartbeats 4000000 in
set_option maxRecDepth 100000 in
theorem c_X4_offerAround (Z : VZ) (S : XS) (a b p q r s : Int) (t : Int) (ha : smQ a) (hb : smQ b) (hp : s24 p) (hq : s24 q) (hr : s24 r) (hs : s24 s) (ht : t.natAbs ≤ 134217728) : CtF XW Z yX4_offerAround cX4_offerAround 3 none 4 0 0 [.ref (Z.2.2.2 6), .long (iL t)] (xQ S a b p q r s) none (xQ S (oaQ p q r s t (a, b)).1 (oaQ p q r s t (a, b)).2 p q r s) := by
  refine V_entry (own := RX4) (by decide) rfl (Nat.le_of_ble_eq_true rfl) ?_
  intro B hB
  refine V_sub (L' := [(0, .ref (Z.2.2.2 6)), (1, .long (iL t))]) [0, 1] rfl ?_
  refine V_aload_n (pc := 0) dX4_offerAround_0 0 rfl rfl ?_
  refine V_aload_n (pc := 1) dX4_offerAround_1 0 rfl rfl ?_
  refine Xg_X4_35 (pc := 2) (v := (iL r)) rfl dX4_offerAround_2 ?_
  refine V_lload_n (pc := 5) dX4_offerAround_5 1 rfl rfl ?_
  refine V_aload_n (pc := 6) dX4_offerAround_6 0 rfl rfl ?_
  refine Xg_X4_22 (pc := 7) (v := (iL p)) rfl dX4_offerAround_7 ?_
  refine V_lmul (pc := 10) dX4_offerAround_10 ?_
  refine V_ladd (pc := 11) dX4_offerAround_11 ?_
  refine V_eql (iL (r + t * p)) (by rw [iL_mul, iL_add]) ?_
  refine V_aload_n (pc := 12) dX4_offerAround_12 0 rfl rfl ?_
  refine Xg_X4_38 (pc := 13) (v := (iL s)) rfl dX4_offerAround_13 ?_
  refine V_lload_n (pc := 16) dX4_offerAround_16 1 rfl rfl ?_
  refine V_aload_n (pc := 17) dX4_offerAround_17 0 rfl rfl ?_
  refine Xg_X4_25 (pc := 18) (v := (iL q)) rfl dX4_offerAround_18 ?_
  refine V_lmul (pc := 21) dX4_offerAround_21 ?_
  refine V_ladd (pc := 22) dX4_offerAround_22 ?_
  refine V_eql (iL (s + t * q)) (by rw [iL_mul, iL_add]) ?_
  refine V_callVv (q0 := 17) (ci := 4) (C := RX4) (T := TX4) (N := 6) (pc := 23) dX4_offerAround_23 (c_X4_offer Z _ _ _ _ _ _ _ _ _ (by exact ha) (by exact hb) (by exact ln_sm hr hp (by omega)) (by exact ln_sm hs hq (by omega))) kX4_28 rfl rfl rfl rfl (Nat.le_of_ble_eq_true rfl) (by decide) (by decide) (Nat.le_of_ble_eq_true rfl) (Nat.le_of_ble_eq_true rfl) ?_
  refine V_eqS (xQ S (ofQ (a, b) (r + t * p) (s + t * q)).1 (ofQ (a, b) (r + t * p) (s + t * q)).2 p q r s) rfl ?_
  have sm := of_sm (u := (a, b)) ha hb (ln_sm hr hp (i := t) (by omega)) (ln_sm hs hq (i := t) (by omega))
  refine V_aload_n (pc := 26) dX4_offerAround_26 0 rfl rfl ?_
  refine V_aload_n (pc := 27) dX4_offerAround_27 0 rfl rfl ?_
  refine Xg_X4_35 (pc := 28) (v := (iL r)) rfl dX4_offerAround_28 ?_
  refine V_lload_n (pc := 31) dX4_offerAround_31 1 rfl rfl ?_
  refine V_lconst (v := 1) (pc := 32) dX4_offerAround_32 (by decide) ?_
  refine V_ladd (pc := 33) dX4_offerAround_33 ?_
  refine V_eql (iL (t + 1)) (by rw [show (1 : Int64) = iL 1 from rfl, iL_add]) ?_
  refine V_aload_n (pc := 34) dX4_offerAround_34 0 rfl rfl ?_
  refine Xg_X4_22 (pc := 35) (v := (iL p)) rfl dX4_offerAround_35 ?_
  refine V_lmul (pc := 38) dX4_offerAround_38 ?_
  refine V_ladd (pc := 39) dX4_offerAround_39 ?_
  refine V_eql (iL (r + (t + 1) * p)) (by rw [iL_mul, iL_add]) ?_
  refine V_aload_n (pc := 40) dX4_offerAround_40 0 rfl rfl ?_
  refine Xg_X4_38 (pc := 41) (v := (iL s)) rfl dX4_offerAround_41 ?_
  refine V_lload_n (pc := 44) dX4_offerAround_44 1 rfl rfl ?_
  refine V_lconst (v := 1) (pc := 45) dX4_offerAround_45 (by decide) ?_
  refine V_ladd (pc := 46) dX4_offerAround_46 ?_
  refine V_eql (iL (t + 1)) (by rw [show (1 : Int64) = iL 1 from rfl, iL_add]) ?_
  refine V_aload_n (pc := 47) dX4_offerAround_47 0 rfl rfl ?_
  refine Xg_X4_25 (pc := 48) (v := (iL q)) rfl dX4_offerAround_48 ?_
  refine V_lmul (pc := 51) dX4_offerAround_51 ?_
  refine V_ladd (pc := 52) dX4_offerAround_52 ?_
  refine V_eql (iL (s + (t + 1) * q)) (by rw [iL_mul, iL_add]) ?_
  refine V_callVv (q0 := 17) (ci := 4) (C := RX4) (T := TX4) (N := 6) (pc := 53) dX4_offerAround_53 (c_X4_offer Z _ _ _ _ _ _ _ _ _ (by exact sm.1) (by exact sm.2) (by exact ln_sm hr hp (by omega)) (by exact ln_sm hs hq (by omega))) kX4_28 rfl rfl rfl rfl (Nat.le_of_ble_eq_true rfl) (by decide) (by decide) (Nat.le_of_ble_eq_true rfl) (Nat.le_of_ble_eq_true rfl) ?_
  exact V_vret (pc := 56) dX4_offerAround_56 (Nat.le_of_ble_eq_true rfl) (Nat.le_of_ble_eq_true rfl) (hB _ _ ⟨rfl, by rfl⟩)
theorem sq_bd {p : Int} (h : s24 p) : p * p ≤ 281474976710656 ∧ 0 ≤ p * p := by
  have a := mul_bd h h
  have b := sq_nn p
  omega
theorem pr_bd {p q : Int} (h : s24 p) (k : s24 q) : (p * q).natAbs ≤ 281474976710656 := mul_bd h k
set_option maxHeartbeats 4000000 in
set_option maxRecDepth 100000 in
theorem c_X4_swapIfLonger (Z : VZ) (S : XS) (a b p q r s : Int) (hp : s24 p) (hq : s24 q) (hr : s24 r) (hs : s24 s) : CtF XW Z yX4_swapIfLonger cX4_swapIfLonger 9 none 0 0 0 [.ref (Z.2.2.2 6)] (xQ S a b p q r s) none (if (p * p + q * q) ≤ (r * r + s * s) then xQ S a b p q r s else xQ S a b r s p q) := by
  refine V_entry (own := RX4) (by decide) rfl (Nat.le_of_ble_eq_true rfl) ?_
  intro B hB
  have b1 := sq_bd hp
  have b2 := sq_bd hq
  have b3 := sq_bd hr
  have b4 := sq_bd hs
  refine V_sub (L' := [(0, .ref (Z.2.2.2 6))]) [0] rfl ?_
  refine V_aload_n (pc := 0) dX4_swapIfLonger_0 0 rfl rfl ?_
  refine Xg_X4_22 (pc := 1) (v := (iL p)) rfl dX4_swapIfLonger_1 ?_
  refine V_aload_n (pc := 4) dX4_swapIfLonger_4 0 rfl rfl ?_
  refine Xg_X4_22 (pc := 5) (v := (iL p)) rfl dX4_swapIfLonger_5 ?_
  refine V_lmul (pc := 8) dX4_swapIfLonger_8 ?_
  refine V_aload_n (pc := 9) dX4_swapIfLonger_9 0 rfl rfl ?_
  refine Xg_X4_25 (pc := 10) (v := (iL q)) rfl dX4_swapIfLonger_10 ?_
  refine V_aload_n (pc := 13) dX4_swapIfLonger_13 0 rfl rfl ?_
  refine Xg_X4_25 (pc := 14) (v := (iL q)) rfl dX4_swapIfLonger_14 ?_
  refine V_lmul (pc := 17) dX4_swapIfLonger_17 ?_
  refine V_ladd (pc := 18) dX4_swapIfLonger_18 ?_
  refine V_lstore_n (pc := 19) (L2 := [(0, .ref (Z.2.2.2 6))]) dX4_swapIfLonger_19 rfl (by decide) rfl (fun n1 en1 => ?_)
  rw [iL_mul, iL_mul, iL_add] at en1
  subst en1
  refine V_aload_n (pc := 20) dX4_swapIfLonger_20 1 rfl rfl ?_
  refine Xg_X4_35 (pc := 21) (v := (iL r)) rfl dX4_swapIfLonger_21 ?_
  refine V_aload_n (pc := 24) dX4_swapIfLonger_24 1 rfl rfl ?_
  refine Xg_X4_35 (pc := 25) (v := (iL r)) rfl dX4_swapIfLonger_25 ?_
  refine V_lmul (pc := 28) dX4_swapIfLonger_28 ?_
  refine V_aload_n (pc := 29) dX4_swapIfLonger_29 1 rfl rfl ?_
  refine Xg_X4_38 (pc := 30) (v := (iL s)) rfl dX4_swapIfLonger_30 ?_
  refine V_aload_n (pc := 33) dX4_swapIfLonger_33 1 rfl rfl ?_
  refine Xg_X4_38 (pc := 34) (v := (iL s)) rfl dX4_swapIfLonger_34 ?_
  refine V_lmul (pc := 37) dX4_swapIfLonger_37 ?_
  refine V_ladd (pc := 38) dX4_swapIfLonger_38 ?_
  refine V_lstore_n (pc := 39) (L2 := [(1, .long (iL (p * p + q * q))), (0, .ref (Z.2.2.2 6))]) dX4_swapIfLonger_39 rfl (by decide) rfl (fun n2 en2 => ?_)
  rw [iL_mul, iL_mul, iL_add] at en2
  subst en2
  refine V_lload_n (pc := 40) dX4_swapIfLonger_40 1 rfl rfl ?_
  refine V_lload_n (pc := 41) dX4_swapIfLonger_41 0 rfl rfl ?_
  refine V_lcmp (pc := 42) dX4_swapIfLonger_42 ?_
  refine V_if_gt (pc := 43) (tgt := 47) dX4_swapIfLonger_43 (by decide) (fun h43 => ?_) (fun h43 => ?_)
  · skip
    rw [lg_cmp_gt, iL_lt (by omega) (by omega)] at h43
    refine V_aload_n (pc := 47) dX4_swapIfLonger_47 2 rfl rfl ?_
    refine Xg_X4_22 (pc := 48) (v := (iL p)) rfl dX4_swapIfLonger_48 ?_
    refine V_lstore (pc := 51) (L2 := [(3, .long (iL (r * r + s * s))), (1, .long (iL (p * p + q * q))), (0, .ref (Z.2.2.2 6))]) dX4_swapIfLonger_51 (by decide) rfl (fun x5_51 ex5_51 => ?_)
    subst ex5_51
    refine V_aload_n (pc := 53) dX4_swapIfLonger_53 3 rfl rfl ?_
    refine Xg_X4_25 (pc := 54) (v := (iL q)) rfl dX4_swapIfLonger_54 ?_
    refine V_lstore (pc := 57) (L2 := [(5, .long (iL p)), (3, .long (iL (r * r + s * s))), (1, .long (iL (p * p + q * q))), (0, .ref (Z.2.2.2 6))]) dX4_swapIfLonger_57 (by decide) rfl (fun x7_57 ex7_57 => ?_)
    subst ex7_57
    refine V_aload_n (pc := 59) dX4_swapIfLonger_59 4 rfl rfl ?_
    refine V_aload_n (pc := 60) dX4_swapIfLonger_60 4 rfl rfl ?_
    refine Xg_X4_35 (pc := 61) (v := (iL r)) rfl dX4_swapIfLonger_61 ?_
    refine Xp_X4_22 (pc := 64) dX4_swapIfLonger_64 ?_
    refine V_eqS _ (xQ2 S a b p q r s r) ?_
    refine V_aload_n (pc := 67) dX4_swapIfLonger_67 4 rfl rfl ?_
    refine V_aload_n (pc := 68) dX4_swapIfLonger_68 4 rfl rfl ?_
    refine Xg_X4_38 (pc := 69) (v := (iL s)) rfl dX4_swapIfLonger_69 ?_
    refine Xp_X4_25 (pc := 72) dX4_swapIfLonger_72 ?_
    refine V_eqS _ (xQ3 S a b r q r s s) ?_
    refine V_aload_n (pc := 75) dX4_swapIfLonger_75 4 rfl rfl ?_
    refine V_lload (pc := 76) dX4_swapIfLonger_76 1 rfl ?_
    refine Xp_X4_35 (pc := 78) dX4_swapIfLonger_78 ?_
    refine V_eqS _ (xQ4 S a b r s r s p) ?_
    refine V_aload_n (pc := 81) dX4_swapIfLonger_81 4 rfl rfl ?_
    refine V_lload (pc := 82) dX4_swapIfLonger_82 0 rfl ?_
    refine Xp_X4_38 (pc := 84) dX4_swapIfLonger_84 ?_
    refine V_eqS _ (xQ5 S a b r s p s q) ?_
    exact V_vret (pc := 87) dX4_swapIfLonger_87 (Nat.le_of_ble_eq_true rfl) (Nat.le_of_ble_eq_true rfl) (hB _ _ ⟨rfl, by rw [if_neg (by omega)]⟩)
  · skip
    rw [lg_cmp_gt, iL_lt (by omega) (by omega)] at h43
    exact V_vret (pc := 46) dX4_swapIfLonger_46 (Nat.le_of_ble_eq_true rfl) (Nat.le_of_ble_eq_true rfl) (hB _ _ ⟨rfl, by rw [if_pos (by omega)]⟩)
theorem gs_s24 {N M : Int} {j : Nat} {p q r s : Int} (hM : 0 < M) (hM2 : M ≤ 16777216) (h : gsI N M j p q r s) : s24 p ∧ s24 q ∧ s24 r ∧ s24 s := by
  have key : ∀ x y : Int, x * x + y * y ≤ M * M → s24 x ∧ s24 y := by
    intro x y hxy
    have m : M * M ≤ 16777216 * 16777216 := Int.mul_le_mul hM2 hM2 (by omega) (by omega)
    have a := sq_nn x
    have b := sq_nn y
    have one : ∀ z : Int, z * z ≤ 16777216 * 16777216 → s24 z := by
      intro z hz
      refine Nat.not_lt.mp (fun hlt => ?_)
      rcases Int.le_total 0 z with h | h
      · have := Int.mul_le_mul (show (16777217 : Int) ≤ z by omega) (show (16777217 : Int) ≤ z by omega) (by omega) (by omega)
        omega
      · have := Int.mul_le_mul (show (16777217 : Int) ≤ -z by omega) (show (16777217 : Int) ≤ -z by omega) (by omega) (by omega)
        rw [Int.neg_mul_neg] at this
        omega
    exact ⟨one x (by omega), one y (by omega)⟩
  exact ⟨(key p q h.2.1).1, (key p q h.2.1).2, (key r s h.2.2.1).1, (key r s h.2.2.1).2⟩
theorem tm_bd {p q r s : Int} (h0 : 0 < p * p + q * q) (hp : s24 p) (hq : s24 q) (hr : s24 r) (hs : s24 s) : (tmQ p q r s).natAbs ≤ 2251799813685248 := by
  have a := fdv_bd (a := 2 * (p * r + q * s) + (p * p + q * q)) (b := 2 * (p * p + q * q)) (by omega)
  have b1 := pr_bd hp hr
  have b2 := pr_bd hq hs
  have b3 := sq_bd hp
  have b4 := sq_bd hq
  have e : tmQ p q r s = (2 * (p * r + q * s) + (p * p + q * q)).fdiv (2 * (p * p + q * q)) := rfl
  rw [e]
  omega
set_option maxHeartbeats 4000000 in
set_option maxRecDepth 100000 in
theorem c_X4_shorten (Z : VZ) (S : XS) (a b p q r s : Int) (N_ M_ : Int) (hM : 0 < M_) (hM2 : M_ ≤ 16777216) (hN : 0 ≤ N_ ∧ N_ < M_) : Ct XW Z yX4_shorten cX4_shorten 12 none 1 0 0 [.ref (Z.2.2.2 6), .long (iL N_), .long (iL M_)] (xQ S a b p q r s) (fun v S' => v = none ∧ ∃ p' q' r' s', S' = xQ S a b p' q' r' s' ∧ redQ N_ M_ p' q' r' s') := by
  refine V_entry (own := RX4) (by decide) rfl (Nat.le_of_ble_eq_true rfl) ?_
  intro B hB
  refine V_sub (L' := [(0, .ref (Z.2.2.2 6)), (1, .long (iL N_)), (3, .long (iL M_))]) [0, 1, 2] rfl ?_
  refine V_aload_n (pc := 0) dX4_shorten_0 0 rfl rfl ?_
  refine V_lload_n (pc := 1) dX4_shorten_1 1 rfl rfl ?_
  refine Xp_X4_22 (pc := 2) dX4_shorten_2 ?_
  refine V_eqS _ (xQ2 S a b p q r s N_) ?_
  refine V_aload_n (pc := 5) dX4_shorten_5 0 rfl rfl ?_
  refine V_lconst (v := 1) (pc := 6) dX4_shorten_6 (by decide) ?_
  refine Xp_X4_25 (pc := 7) dX4_shorten_7 ?_
  refine V_eqS _ (xQ3 S a b N_ q r s 1) ?_
  refine V_aload_n (pc := 10) dX4_shorten_10 0 rfl rfl ?_
  refine V_lload_n (pc := 11) dX4_shorten_11 2 rfl rfl ?_
  refine Xp_X4_35 (pc := 12) dX4_shorten_12 ?_
  refine V_eqS _ (xQ4 S a b N_ 1 r s M_) ?_
  refine V_aload_n (pc := 15) dX4_shorten_15 0 rfl rfl ?_
  refine V_lconst (v := 0) (pc := 16) dX4_shorten_16 (by decide) ?_
  refine Xp_X4_38 (pc := 17) dX4_shorten_17 ?_
  refine V_eqS _ (xQ5 S a b N_ 1 M_ s 0) ?_
  refine V_iconst (v := 0) (pc := 20) dX4_shorten_20 (by decide) ?_
  refine V_istore (pc := 21) (L2 := [(0, .ref (Z.2.2.2 6)), (1, .long (iL N_)), (3, .long (iL M_))]) dX4_shorten_21 (by decide) rfl (fun x5_21 ex5_21 => ?_)
  subst ex5_21
  refine V_sub (L' := [(5, .int (nI 0)), (0, .ref (Z.2.2.2 6)), (1, .long (iL N_)), (3, .long (iL M_))]) [0, 1, 2, 3] rfl ?_
  refine Vloop (σ := Int × Int × Int × Int × Nat) (fun x => gsI N_ M_ (x.2.2.2.2) (x.1) (x.2.1) (x.2.2.1) (x.2.2.2.1)) (fun x => 50 - (x.2.2.2.2)) (fun x => V XW Z cX4_shorten RX4 12 none 1 0 0 B 0 0 23 [(5, .int (nI (x.2.2.2.2))), (0, .ref (Z.2.2.2 6)), (1, .long (iL N_)), (3, .long (iL M_))] [] (xQ S a b (x.1) (x.2.1) (x.2.2.1) (x.2.2.2.1))) ?_ (N_, 1, M_, 0, 0) (by exact gs_0 hN.1 hN.2 hM2)
  rintro ⟨u1, u2, u3, u4, j⟩ hI23 ih23
  have hI23 : gsI N_ M_ j u1 u2 u3 u4 := hI23
  show V XW Z cX4_shorten RX4 12 none 1 0 0 B 0 0 23 [(5, .int (nI j)), (0, .ref (Z.2.2.2 6)), (1, .long (iL N_)), (3, .long (iL M_))] [] (xQ S a b u1 u2 u3 u4)
  refine V_iload (pc := 23) dX4_shorten_23 0 rfl ?_
  refine V_sipush (v := 1000) (pc := 25) dX4_shorten_25 (by decide) ?_
  refine V_icmp_ge (pc := 28) (tgt := 154) dX4_shorten_28 (by decide) (fun h28 => ?_) (fun h28 => ?_)
  · skip
    exact absurd h28 (Int32.not_le.mpr (nI_lt (b := 1000) (by have := gs_j hI23; omega) (by decide)))
  · skip
    obtain ⟨c1, c2, c3, c4⟩ := gs_s24 hM hM2 hI23
    obtain ⟨gn1, gn2⟩ := gs_next hM hM2 hI23
    refine V_aload_n (pc := 31) dX4_shorten_31 1 rfl rfl ?_
    refine V_callVv (q0 := 17) (ci := 4) (C := RX4) (T := TX4) (N := 6) (pc := 32) dX4_shorten_32 (c_X4_swapIfLonger Z _ _ _ _ _ _ _ (by exact c1) (by exact c2) (by exact c3) (by exact c4)) kX4_54 rfl rfl rfl rfl (Nat.le_of_ble_eq_true rfl) (by decide) (by decide) (Nat.le_of_ble_eq_true rfl) (Nat.le_of_ble_eq_true rfl) ?_
    by_cases hsw : u1 * u1 + u2 * u2 ≤ u3 * u3 + u4 * u4
    · refine V_eqS (xQ S a b u1 u2 u3 u4) (if_pos hsw) ?_
      have d1 := c1
      have d2 := c2
      have d3 := c3
      have d4 := c4
      have hle : u1 * u1 + u2 * u2 ≤ u3 * u3 + u4 * u4 := hsw
      have hbs := hI23.1
      have hll := hI23.2.2.1
      have gn := gn1 hsw
      refine V_aload_n (pc := 35) dX4_shorten_35 1 rfl rfl ?_
      refine Xg_X4_22 (pc := 36) (v := (iL u1)) rfl dX4_shorten_36 ?_
      refine V_aload_n (pc := 39) dX4_shorten_39 1 rfl rfl ?_
      refine Xg_X4_22 (pc := 40) (v := (iL u1)) rfl dX4_shorten_40 ?_
      refine V_lmul (pc := 43) dX4_shorten_43 ?_
      refine V_aload_n (pc := 44) dX4_shorten_44 1 rfl rfl ?_
      refine Xg_X4_25 (pc := 45) (v := (iL u2)) rfl dX4_shorten_45 ?_
      refine V_aload_n (pc := 48) dX4_shorten_48 1 rfl rfl ?_
      refine Xg_X4_25 (pc := 49) (v := (iL u2)) rfl dX4_shorten_49 ?_
      refine V_lmul (pc := 52) dX4_shorten_52 ?_
      refine V_ladd (pc := 53) dX4_shorten_53 ?_
      refine V_lstore (pc := 54) (L2 := [(5, .int (nI j)), (0, .ref (Z.2.2.2 6)), (1, .long (iL N_)), (3, .long (iL M_))]) dX4_shorten_54 (by decide) rfl (fun sq esq => ?_)
      rw [iL_mul, iL_mul, iL_add] at esq
      subst esq
      have hpos := bas_pos hM hbs
      have b1 := sq_bd d1
      have b2 := sq_bd d2
      have b3 := pr_bd d1 d3
      have b4 := pr_bd d2 d4
      have btm := tm_bd hpos d1 d2 d3 d4
      refine V_aload_n (pc := 56) dX4_shorten_56 2 rfl rfl ?_
      refine Xg_X4_22 (pc := 57) (v := (iL u1)) rfl dX4_shorten_57 ?_
      refine V_aload_n (pc := 60) dX4_shorten_60 2 rfl rfl ?_
      refine Xg_X4_35 (pc := 61) (v := (iL u3)) rfl dX4_shorten_61 ?_
      refine V_lmul (pc := 64) dX4_shorten_64 ?_
      refine V_aload_n (pc := 65) dX4_shorten_65 2 rfl rfl ?_
      refine Xg_X4_25 (pc := 66) (v := (iL u2)) rfl dX4_shorten_66 ?_
      refine V_aload_n (pc := 69) dX4_shorten_69 2 rfl rfl ?_
      refine Xg_X4_38 (pc := 70) (v := (iL u4)) rfl dX4_shorten_70 ?_
      refine V_lmul (pc := 73) dX4_shorten_73 ?_
      refine V_ladd (pc := 74) dX4_shorten_74 ?_
      refine V_lstore (pc := 75) (L2 := [(6, .long (iL (u1 * u1 + u2 * u2))), (5, .int (nI j)), (0, .ref (Z.2.2.2 6)), (1, .long (iL N_)), (3, .long (iL M_))]) dX4_shorten_75 (by decide) rfl (fun al eal => ?_)
      rw [iL_mul, iL_mul, iL_add] at eal
      subst eal
      refine V_lload (pc := 77) dX4_shorten_77 1 rfl ?_
      refine V_lconst (v := 0) (pc := 79) dX4_shorten_79 (by decide) ?_
      refine V_lcmp (pc := 80) dX4_shorten_80 ?_
      refine V_if_le (pc := 81) (tgt := 105) dX4_shorten_81 (by decide) (fun h81 => ?_) (fun h81 => ?_)
      · skip
        exact absurd ((iL_le (b := 0) (by omega) (by omega)).mp ((lg_cmp_le _ _).mp h81)) (by omega)
      · skip
        refine V_ldc2 (pc := 84) dX4_shorten_84 tw_491 ?_
        refine V_lload (pc := 87) dX4_shorten_87 0 rfl ?_
        refine V_lmul (pc := 89) dX4_shorten_89 ?_
        refine V_lload (pc := 90) dX4_shorten_90 1 rfl ?_
        refine V_ladd (pc := 92) dX4_shorten_92 ?_
        refine V_eql (iL (2 * (u1 * u3 + u2 * u4) + (u1 * u1 + u2 * u2))) (by rw [show (2 : Int64) = iL 2 from rfl, iL_mul, iL_add]) ?_
        refine V_ldc2 (pc := 93) dX4_shorten_93 tw_491 ?_
        refine V_lload (pc := 96) dX4_shorten_96 1 rfl ?_
        refine V_lmul (pc := 98) dX4_shorten_98 ?_
        refine V_eql (iL (2 * (u1 * u1 + u2 * u2))) (by rw [show (2 : Int64) = iL 2 from rfl, iL_mul]) ?_
        refine V_callSl (pc := 99) dX4_shorten_99 (c_J9_floorDiv_f86c9 Z _ _ _ (by rw [show (0 : Int64) = iL 0 from rfl, iL_eq (by omega) (by omega)]; omega)) kX4_59 rfl (Nat.le_of_ble_eq_true rfl) (by decide) (by decide) (Nat.le_of_ble_eq_true rfl) (Nat.le_of_ble_eq_true rfl) ?_
        refine V_eql (iL (tmQ u1 u2 u3 u4)) (flD_i (by omega) (by omega) (by omega)) ?_
        refine V_goto (pc := 102) (tgt := 106) dX4_shorten_102 (by decide) ?_
        refine V_lstore (pc := 106) (L2 := [(8, .long (iL (u1 * u3 + u2 * u4))), (6, .long (iL (u1 * u1 + u2 * u2))), (5, .int (nI j)), (0, .ref (Z.2.2.2 6)), (1, .long (iL N_)), (3, .long (iL M_))]) dX4_shorten_106 (by decide) rfl (fun x10_106 ex10_106 => ?_)
        subst ex10_106
        refine V_lload (pc := 108) dX4_shorten_108 0 rfl ?_
        refine V_lconst (v := 0) (pc := 110) dX4_shorten_110 (by decide) ?_
        refine V_lcmp (pc := 111) dX4_shorten_111 ?_
        refine V_if_ne (pc := 112) (tgt := 116) dX4_shorten_112 (by decide) (fun h112 => ?_) (fun h112 => ?_)
        · skip
          rw [lg_cmp_eq, show (0 : Int64) = iL 0 from rfl, iL_eq (by omega) (by omega)] at h112
          refine V_aload_n (pc := 116) dX4_shorten_116 4 rfl rfl ?_
          refine V_dup (pc := 117) dX4_shorten_117 rfl ?_
          refine Xg_X4_35 (pc := 118) (v := (iL u3)) rfl dX4_shorten_118 ?_
          refine V_lload (pc := 121) dX4_shorten_121 0 rfl ?_
          refine V_aload_n (pc := 123) dX4_shorten_123 4 rfl rfl ?_
          refine Xg_X4_22 (pc := 124) (v := (iL u1)) rfl dX4_shorten_124 ?_
          refine V_lmul (pc := 127) dX4_shorten_127 ?_
          refine V_lsub (pc := 128) dX4_shorten_128 ?_
          refine Xp_X4_35 (pc := 129) dX4_shorten_129 ?_
          refine V_eqS (xQ S a b u1 u2 (u3 - (tmQ u1 u2 u3 u4) * u1) u4) (by rw [iL_mul, iL_sub]; exact xQ4 S a b _ _ _ _ _) ?_
          refine V_aload_n (pc := 132) dX4_shorten_132 4 rfl rfl ?_
          refine V_dup (pc := 133) dX4_shorten_133 rfl ?_
          refine Xg_X4_38 (pc := 134) (v := (iL u4)) rfl dX4_shorten_134 ?_
          refine V_lload (pc := 137) dX4_shorten_137 0 rfl ?_
          refine V_aload_n (pc := 139) dX4_shorten_139 4 rfl rfl ?_
          refine Xg_X4_25 (pc := 140) (v := (iL u2)) rfl dX4_shorten_140 ?_
          refine V_lmul (pc := 143) dX4_shorten_143 ?_
          refine V_lsub (pc := 144) dX4_shorten_144 ?_
          refine Xp_X4_38 (pc := 145) dX4_shorten_145 ?_
          refine V_eqS (xQ S a b u1 u2 (u3 - (tmQ u1 u2 u3 u4) * u1) (u4 - (tmQ u1 u2 u3 u4) * u2)) (by rw [iL_mul, iL_sub]; exact xQ5 S a b _ _ _ _ _) ?_
          refine V_iinc (pc := 148) (v := 1) (L2 := [(10, .long (iL (tmQ u1 u2 u3 u4))), (8, .long (iL (u1 * u3 + u2 * u4))), (6, .long (iL (u1 * u1 + u2 * u2))), (0, .ref (Z.2.2.2 6)), (1, .long (iL N_)), (3, .long (iL M_))]) dX4_shorten_148 3 rfl (by decide) (by decide) rfl (fun x5_148 ex5_148 => ?_)
          rw [nI_1] at ex5_148
          subst ex5_148
          refine V_goto (pc := 151) (tgt := 23) dX4_shorten_151 (by decide) ?_
          refine V_sub (L' := [(5, .int (nI (j + 1))), (0, .ref (Z.2.2.2 6)), (1, .long (iL N_)), (3, .long (iL M_))]) [0, 4, 5, 6] rfl ?_
          refine ih23 (u1, u2, (u3 - (tmQ u1 u2 u3 u4) * u1), (u4 - (tmQ u1 u2 u3 u4) * u2), ((j + 1))) ?_ ?_
          · show gsI N_ M_ ((j + 1)) u1 u2 (u3 - (tmQ u1 u2 u3 u4) * u1) (u4 - (tmQ u1 u2 u3 u4) * u2)
            exact gn h112
          · show 50 - (j + 1) < 50 - j
            have := gs_j hI23
            omega
        · skip
          rw [lg_cmp_eq, show (0 : Int64) = iL 0 from rfl, iL_eq (by omega) (by omega)] at h112
          exact V_vret (pc := 115) dX4_shorten_115 (Nat.le_of_ble_eq_true rfl) (Nat.le_of_ble_eq_true rfl) (hB _ _ (by exact ⟨rfl, _, _, _, _, rfl, gs_red hM hbs hle hll h112⟩))
    · refine V_eqS (xQ S a b u3 u4 u1 u2) (if_neg hsw) ?_
      have d1 := c3
      have d2 := c4
      have d3 := c1
      have d4 := c2
      have hle : u3 * u3 + u4 * u4 ≤ u1 * u1 + u2 * u2 := by omega
      have hbs := bas_swap hI23.1
      have hll := hI23.2.1
      have gn := gn2 hsw
      refine V_aload_n (pc := 35) dX4_shorten_35 1 rfl rfl ?_
      refine Xg_X4_22 (pc := 36) (v := (iL u3)) rfl dX4_shorten_36 ?_
      refine V_aload_n (pc := 39) dX4_shorten_39 1 rfl rfl ?_
      refine Xg_X4_22 (pc := 40) (v := (iL u3)) rfl dX4_shorten_40 ?_
      refine V_lmul (pc := 43) dX4_shorten_43 ?_
      refine V_aload_n (pc := 44) dX4_shorten_44 1 rfl rfl ?_
      refine Xg_X4_25 (pc := 45) (v := (iL u4)) rfl dX4_shorten_45 ?_
      refine V_aload_n (pc := 48) dX4_shorten_48 1 rfl rfl ?_
      refine Xg_X4_25 (pc := 49) (v := (iL u4)) rfl dX4_shorten_49 ?_
      refine V_lmul (pc := 52) dX4_shorten_52 ?_
      refine V_ladd (pc := 53) dX4_shorten_53 ?_
      refine V_lstore (pc := 54) (L2 := [(5, .int (nI j)), (0, .ref (Z.2.2.2 6)), (1, .long (iL N_)), (3, .long (iL M_))]) dX4_shorten_54 (by decide) rfl (fun sq esq => ?_)
      rw [iL_mul, iL_mul, iL_add] at esq
      subst esq
      have hpos := bas_pos hM hbs
      have b1 := sq_bd d1
      have b2 := sq_bd d2
      have b3 := pr_bd d1 d3
      have b4 := pr_bd d2 d4
      have btm := tm_bd hpos d1 d2 d3 d4
      refine V_aload_n (pc := 56) dX4_shorten_56 2 rfl rfl ?_
      refine Xg_X4_22 (pc := 57) (v := (iL u3)) rfl dX4_shorten_57 ?_
      refine V_aload_n (pc := 60) dX4_shorten_60 2 rfl rfl ?_
      refine Xg_X4_35 (pc := 61) (v := (iL u1)) rfl dX4_shorten_61 ?_
      refine V_lmul (pc := 64) dX4_shorten_64 ?_
      refine V_aload_n (pc := 65) dX4_shorten_65 2 rfl rfl ?_
      refine Xg_X4_25 (pc := 66) (v := (iL u4)) rfl dX4_shorten_66 ?_
      refine V_aload_n (pc := 69) dX4_shorten_69 2 rfl rfl ?_
      refine Xg_X4_38 (pc := 70) (v := (iL u2)) rfl dX4_shorten_70 ?_
      refine V_lmul (pc := 73) dX4_shorten_73 ?_
      refine V_ladd (pc := 74) dX4_shorten_74 ?_
      refine V_lstore (pc := 75) (L2 := [(6, .long (iL (u3 * u3 + u4 * u4))), (5, .int (nI j)), (0, .ref (Z.2.2.2 6)), (1, .long (iL N_)), (3, .long (iL M_))]) dX4_shorten_75 (by decide) rfl (fun al eal => ?_)
      rw [iL_mul, iL_mul, iL_add] at eal
      subst eal
      refine V_lload (pc := 77) dX4_shorten_77 1 rfl ?_
      refine V_lconst (v := 0) (pc := 79) dX4_shorten_79 (by decide) ?_
      refine V_lcmp (pc := 80) dX4_shorten_80 ?_
      refine V_if_le (pc := 81) (tgt := 105) dX4_shorten_81 (by decide) (fun h81 => ?_) (fun h81 => ?_)
      · skip
        exact absurd ((iL_le (b := 0) (by omega) (by omega)).mp ((lg_cmp_le _ _).mp h81)) (by omega)
      · skip
        refine V_ldc2 (pc := 84) dX4_shorten_84 tw_491 ?_
        refine V_lload (pc := 87) dX4_shorten_87 0 rfl ?_
        refine V_lmul (pc := 89) dX4_shorten_89 ?_
        refine V_lload (pc := 90) dX4_shorten_90 1 rfl ?_
        refine V_ladd (pc := 92) dX4_shorten_92 ?_
        refine V_eql (iL (2 * (u3 * u1 + u4 * u2) + (u3 * u3 + u4 * u4))) (by rw [show (2 : Int64) = iL 2 from rfl, iL_mul, iL_add]) ?_
        refine V_ldc2 (pc := 93) dX4_shorten_93 tw_491 ?_
        refine V_lload (pc := 96) dX4_shorten_96 1 rfl ?_
        refine V_lmul (pc := 98) dX4_shorten_98 ?_
        refine V_eql (iL (2 * (u3 * u3 + u4 * u4))) (by rw [show (2 : Int64) = iL 2 from rfl, iL_mul]) ?_
        refine V_callSl (pc := 99) dX4_shorten_99 (c_J9_floorDiv_f86c9 Z _ _ _ (by rw [show (0 : Int64) = iL 0 from rfl, iL_eq (by omega) (by omega)]; omega)) kX4_59 rfl (Nat.le_of_ble_eq_true rfl) (by decide) (by decide) (Nat.le_of_ble_eq_true rfl) (Nat.le_of_ble_eq_true rfl) ?_
        refine V_eql (iL (tmQ u3 u4 u1 u2)) (flD_i (by omega) (by omega) (by omega)) ?_
        refine V_goto (pc := 102) (tgt := 106) dX4_shorten_102 (by decide) ?_
        refine V_lstore (pc := 106) (L2 := [(8, .long (iL (u3 * u1 + u4 * u2))), (6, .long (iL (u3 * u3 + u4 * u4))), (5, .int (nI j)), (0, .ref (Z.2.2.2 6)), (1, .long (iL N_)), (3, .long (iL M_))]) dX4_shorten_106 (by decide) rfl (fun x10_106 ex10_106 => ?_)
        subst ex10_106
        refine V_lload (pc := 108) dX4_shorten_108 0 rfl ?_
        refine V_lconst (v := 0) (pc := 110) dX4_shorten_110 (by decide) ?_
        refine V_lcmp (pc := 111) dX4_shorten_111 ?_
        refine V_if_ne (pc := 112) (tgt := 116) dX4_shorten_112 (by decide) (fun h112 => ?_) (fun h112 => ?_)
        · skip
          rw [lg_cmp_eq, show (0 : Int64) = iL 0 from rfl, iL_eq (by omega) (by omega)] at h112
          refine V_aload_n (pc := 116) dX4_shorten_116 4 rfl rfl ?_
          refine V_dup (pc := 117) dX4_shorten_117 rfl ?_
          refine Xg_X4_35 (pc := 118) (v := (iL u1)) rfl dX4_shorten_118 ?_
          refine V_lload (pc := 121) dX4_shorten_121 0 rfl ?_
          refine V_aload_n (pc := 123) dX4_shorten_123 4 rfl rfl ?_
          refine Xg_X4_22 (pc := 124) (v := (iL u3)) rfl dX4_shorten_124 ?_
          refine V_lmul (pc := 127) dX4_shorten_127 ?_
          refine V_lsub (pc := 128) dX4_shorten_128 ?_
          refine Xp_X4_35 (pc := 129) dX4_shorten_129 ?_
          refine V_eqS (xQ S a b u3 u4 (u1 - (tmQ u3 u4 u1 u2) * u3) u2) (by rw [iL_mul, iL_sub]; exact xQ4 S a b _ _ _ _ _) ?_
          refine V_aload_n (pc := 132) dX4_shorten_132 4 rfl rfl ?_
          refine V_dup (pc := 133) dX4_shorten_133 rfl ?_
          refine Xg_X4_38 (pc := 134) (v := (iL u2)) rfl dX4_shorten_134 ?_
          refine V_lload (pc := 137) dX4_shorten_137 0 rfl ?_
          refine V_aload_n (pc := 139) dX4_shorten_139 4 rfl rfl ?_
          refine Xg_X4_25 (pc := 140) (v := (iL u4)) rfl dX4_shorten_140 ?_
          refine V_lmul (pc := 143) dX4_shorten_143 ?_
          refine V_lsub (pc := 144) dX4_shorten_144 ?_
          refine Xp_X4_38 (pc := 145) dX4_shorten_145 ?_
          refine V_eqS (xQ S a b u3 u4 (u1 - (tmQ u3 u4 u1 u2) * u3) (u2 - (tmQ u3 u4 u1 u2) * u4)) (by rw [iL_mul, iL_sub]; exact xQ5 S a b _ _ _ _ _) ?_
          refine V_iinc (pc := 148) (v := 1) (L2 := [(10, .long (iL (tmQ u3 u4 u1 u2))), (8, .long (iL (u3 * u1 + u4 * u2))), (6, .long (iL (u3 * u3 + u4 * u4))), (0, .ref (Z.2.2.2 6)), (1, .long (iL N_)), (3, .long (iL M_))]) dX4_shorten_148 3 rfl (by decide) (by decide) rfl (fun x5_148 ex5_148 => ?_)
          rw [nI_1] at ex5_148
          subst ex5_148
          refine V_goto (pc := 151) (tgt := 23) dX4_shorten_151 (by decide) ?_
          refine V_sub (L' := [(5, .int (nI (j + 1))), (0, .ref (Z.2.2.2 6)), (1, .long (iL N_)), (3, .long (iL M_))]) [0, 4, 5, 6] rfl ?_
          refine ih23 (u3, u4, (u1 - (tmQ u3 u4 u1 u2) * u3), (u2 - (tmQ u3 u4 u1 u2) * u4), ((j + 1))) ?_ ?_
          · show gsI N_ M_ ((j + 1)) u3 u4 (u1 - (tmQ u3 u4 u1 u2) * u3) (u2 - (tmQ u3 u4 u1 u2) * u4)
            exact gn h112
          · show 50 - (j + 1) < 50 - j
            have := gs_j hI23
            omega
        · skip
          rw [lg_cmp_eq, show (0 : Int64) = iL 0 from rfl, iL_eq (by omega) (by omega)] at h112
          exact V_vret (pc := 115) dX4_shorten_115 (Nat.le_of_ble_eq_true rfl) (Nat.le_of_ble_eq_true rfl) (hB _ _ (by exact ⟨rfl, _, _, _, _, rfl, gs_red hM hbs hle hll h112⟩))
