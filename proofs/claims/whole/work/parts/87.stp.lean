/-! a machine's step: the class's and the reference's are one -/
theorem sh_am : ∀ i, i < 32 → ((nI i &&& 31 : Int32)).toBitVec.smod 32 = BitVec.ofNat 32 i := by decide +kernel
theorem shb (x : Int32) {i : Nat} (h : i < 32) : x >>> (nI i &&& 31) &&& 1 = if x.toBitVec.getLsbD i then 1 else 0 := by
  refine Int32.toBitVec_inj.mp ?_
  rw [Int32.toBitVec_and, Int32.toBitVec_shiftRight, sh_am i h]
  refine BitVec.eq_of_getLsbD_eq fun j hj => ?_
  rw [BitVec.getLsbD_and, show (1 : Int32).toBitVec = 1#32 from rfl, show x.toBitVec.sshiftRight' (BitVec.ofNat 32 i) = x.toBitVec.sshiftRight i from by show x.toBitVec.sshiftRight (BitVec.ofNat 32 i).toNat = _; rw [BitVec.toNat_ofNat, Nat.mod_eq_of_lt (by omega)], BitVec.getLsbD_sshiftRight]
  rcases Nat.eq_zero_or_pos j with z | z
  · subst z
    rw [show (1#32).getLsbD 0 = true from rfl, Bool.and_true]
    simp only [Nat.add_zero]
    rw [if_pos h]
    cases hb : x.toBitVec.getLsbD i <;> rfl
  · have e : (1#32).getLsbD j = false := by
      rw [BitVec.getLsbD_one]
      simp; omega
    rw [e, Bool.and_false]
    cases hb : x.toBitVec.getLsbD i
    · simp
    · show false = (1#32).getLsbD j
      exact e.symm
abbrev yz (z : Nat) : Int32 := nI z - 9
abbrev mk6 (c : Nat) : Int32 := 1 <<< (nI c &&& 31) - 1
theorem r6_asm : ∀ c, c ≤ 6 → ∀ x, x < 2 ^ c → it (fun i a => a ||| (nI x >>> (nI i &&& 31) &&& 1) <<< (nI i &&& 31)) c 0 = nI x := by decide +kernel
theorem r6_xor : ∀ a, a < 64 → ∀ b, b < 64 → nI a ^^^ nI b = nI (a ^^^ b) := by decide +kernel
theorem r6_and : ∀ a, a < 64 → ∀ b, b < 64 → nI a &&& nI b = nI (a &&& b) := by decide +kernel
theorem r6_or : ∀ a, a < 64 → ∀ b, b < 64 → nI a ||| nI b = nI (a ||| b) := by decide +kernel
theorem r6_a : ∀ s, s < 64 → nI s >>> (1 &&& 31) = nI (s / 2) := by decide +kernel
theorem r6_1 : ∀ c, c ≤ 6 → ∀ s, s < 2 ^ c → ∀ i, i < c → (if ¬ nI c ≤ nI i + 1 ∧ nI s >>> ((nI i + 1) &&& 31) &&& 1 = 1 then (1 : Int32) else 0) = nI (s / 2) >>> (nI i &&& 31) &&& 1 := by decide +kernel
theorem r6_m : ∀ c, c ≤ 6 → ∀ z, z < 73 → yz z &&& mk6 c = nI ((yz z &&& mk6 c).toNatClampNeg) ∧ (yz z &&& mk6 c).toNatClampNeg < 2 ^ c ∧ ∀ i, i < c → yz z >>> (nI i &&& 31) &&& 1 = (yz z &&& mk6 c) >>> (nI i &&& 31) &&& 1 := by decide +kernel
theorem r6_s : ∀ s, s < 64 → nI s &&& 1 = 0 ∨ nI s &&& 1 = 1 := by decide +kernel
theorem r6_q (a b d : Bool) : (((if a then 1 else 0) + (if b then 1 else 0)) + (if d then 1 else 0) : Int32) - (((if a then 1 else 0) + (if b then 1 else 0)) + (if d then 1 else 0) : Int32) / 2 * 2 = (if (a ^^ b) ^^ d then 1 else 0) ∧ (((if a then 1 else 0) + (if b then 1 else 0)) + (if d then 1 else 0) : Int32) / 2 = (if (a && b || a && d) || b && d then 1 else 0) := by
  cases a <;> cases b <;> cases d <;> decide
/-- a valid machine's numbers -/
def vldN (k c t s z : Nat) : Prop := k ≤ 5 ∧ 1 ≤ c ∧ c ≤ 6 ∧ 1 ≤ t ∧ t < 2 ^ c ∧ s < 2 ^ c ∧ z < 73
theorem pw6 {c x : Nat} (hc : c ≤ 6) (h : x < 2 ^ c) : x < 64 := Nat.lt_of_lt_of_le h (Nat.pow_le_pow_right (by decide) hc)
theorem rgA_b {c t s z : Nat} (hc : c ≤ 6) (ht : t < 2 ^ c) (hs : s < 2 ^ c) (hz : z < 73) {i : Nat} (hi : i < c) :
    rgA (nI c) (nI t) (nI s) (yz z) i = ((if (nI s >>> (1 &&& 31)).toBitVec.getLsbD i then 1 else 0) + (if (yz z &&& mk6 c).toBitVec.getLsbD i then 1 else 0)) + (if (if nI s &&& 1 = 1 then nI t else 0).toBitVec.getLsbD i then 1 else 0) := by
  unfold rgA
  have h32 : i < 32 := by omega
  rw [r6_1 c hc s hs i hi, ← r6_a s (pw6 hc hs), (r6_m c hc z hz).2.2 i hi, shb _ h32, shb _ h32, shb _ h32]
  congr 1
  rcases r6_s s (pw6 hc hs) with e | e
  · rw [e, if_neg (by decide : ¬ (0 : Int32) = 1)]
    rw [show (0 : Int32).toBitVec = 0#32 from rfl, BitVec.getLsbD_zero]
    simp
  · rw [e, if_pos rfl]
    cases (nI t).toBitVec.getLsbD i <;> rfl
theorem ringS {c t s z : Nat} (hc : c ≤ 6) (ht : t < 2 ^ c) (hs : s < 2 ^ c) (hz : z < 73) :
    (∃ x, x < 2 ^ c ∧ rgN (nI c) (nI t) (nI s) (yz z) = nI x) ∧ rgN (nI c) (nI t) (nI s) (yz z) = (nI s >>> (1 &&& 31) ^^^ (yz z &&& mk6 c)) ^^^ (if nI s &&& 1 = 1 then nI t else 0) := by
  obtain ⟨m1, m2, _⟩ := r6_m c hc z hz
  have h64 : (2 : Nat) ^ c ≤ 64 := Nat.pow_le_pow_right (by decide) hc
  have hF : ∃ f, f < 2 ^ c ∧ (if nI s &&& 1 = 1 then nI t else 0 : Int32) = nI f := by
    split
    · exact ⟨t, ht, rfl⟩
    · exact ⟨0, Nat.two_pow_pos c, rfl⟩
  obtain ⟨f, hf, ef⟩ := hF
  have hA : s / 2 < 2 ^ c := Nat.lt_of_le_of_lt (Nat.div_le_self _ _) hs
  have eX : (nI s >>> (1 &&& 31) ^^^ (yz z &&& mk6 c)) ^^^ (if nI s &&& 1 = 1 then nI t else 0) = nI ((s / 2 ^^^ (yz z &&& mk6 c).toNatClampNeg) ^^^ f) := by
    rw [ef, r6_a s (pw6 hc hs)]
    have q := Nat.xor_lt_two_pow hA m2
    rw [← r6_xor _ (by omega) _ (by omega), ← r6_xor _ (by omega) _ (by omega), ← m1]
  have hX : (s / 2 ^^^ (yz z &&& mk6 c).toNatClampNeg) ^^^ f < 2 ^ c := Nat.xor_lt_two_pow (Nat.xor_lt_two_pow hA m2) hf
  have e : rgN (nI c) (nI t) (nI s) (yz z) = nI ((s / 2 ^^^ (yz z &&& mk6 c).toNatClampNeg) ^^^ f) := by
    rw [← r6_asm c hc _ hX, ← eX]
    unfold rgN
    rw [nI_clamp (by omega)]
    refine it_cg (fun i hi => funext fun a => ?_) _
    rw [rgA_b hc ht hs hz hi, shb _ (show i < 32 by omega), (r6_q _ _ _).1, Int32.toBitVec_xor, Int32.toBitVec_xor, BitVec.getLsbD_xor, BitVec.getLsbD_xor]
  exact ⟨⟨_, hX, e⟩, e.trans eX.symm⟩
theorem ringY {c t s z : Nat} (hc : c ≤ 6) (ht : t < 2 ^ c) (hs : s < 2 ^ c) (hz : z < 73) :
    (∃ x, x < 2 ^ c ∧ rgM (nI c) (nI t) (nI s) (yz z) = nI x) ∧ rgM (nI c) (nI t) (nI s) (yz z) = (nI s >>> (1 &&& 31) &&& (yz z &&& mk6 c) ||| nI s >>> (1 &&& 31) &&& (if nI s &&& 1 = 1 then nI t else 0)) ||| (yz z &&& mk6 c) &&& (if nI s &&& 1 = 1 then nI t else 0) := by
  obtain ⟨m1, m2, _⟩ := r6_m c hc z hz
  have h64 : (2 : Nat) ^ c ≤ 64 := Nat.pow_le_pow_right (by decide) hc
  have hF : ∃ f, f < 2 ^ c ∧ (if nI s &&& 1 = 1 then nI t else 0 : Int32) = nI f := by
    split
    · exact ⟨t, ht, rfl⟩
    · exact ⟨0, Nat.two_pow_pos c, rfl⟩
  obtain ⟨f, hf, ef⟩ := hF
  have hA : s / 2 < 2 ^ c := Nat.lt_of_le_of_lt (Nat.div_le_self _ _) hs
  obtain ⟨m, em⟩ : ∃ m, m = (yz z &&& mk6 c).toNatClampNeg := ⟨_, rfl⟩
  rw [← em] at m1 m2
  have q1 : s / 2 &&& m < 2 ^ c := Nat.lt_of_le_of_lt Nat.and_le_left hA
  have q2 : s / 2 &&& f < 2 ^ c := Nat.lt_of_le_of_lt Nat.and_le_left hA
  have q3 : m &&& f < 2 ^ c := Nat.lt_of_le_of_lt Nat.and_le_left m2
  have q4 : (s / 2 &&& m) ||| (s / 2 &&& f) < 2 ^ c := Nat.or_lt_two_pow q1 q2
  have hX : ((s / 2 &&& m) ||| (s / 2 &&& f)) ||| (m &&& f) < 2 ^ c := Nat.or_lt_two_pow q4 q3
  have eX : (nI s >>> (1 &&& 31) &&& (yz z &&& mk6 c) ||| nI s >>> (1 &&& 31) &&& (if nI s &&& 1 = 1 then nI t else 0)) ||| (yz z &&& mk6 c) &&& (if nI s &&& 1 = 1 then nI t else 0) = nI (((s / 2 &&& m) ||| (s / 2 &&& f)) ||| (m &&& f)) := by
    rw [ef, r6_a s (pw6 hc hs), m1, r6_and _ (by omega) _ (by omega), r6_and _ (by omega) _ (by omega), r6_and _ (by omega) _ (by omega), r6_or _ (by omega) _ (by omega), r6_or _ (by omega) _ (by omega)]
  have e : rgM (nI c) (nI t) (nI s) (yz z) = nI (((s / 2 &&& m) ||| (s / 2 &&& f)) ||| (m &&& f)) := by
    rw [← r6_asm c hc _ hX, ← eX]
    unfold rgM
    rw [nI_clamp (by omega)]
    refine it_cg (fun i hi => funext fun a => ?_) _
    rw [rgA_b hc ht hs hz hi, shb _ (show i < 32 by omega), (r6_q _ _ _).2]
    simp only [Int32.toBitVec_or, Int32.toBitVec_and, BitVec.getLsbD_or, BitVec.getLsbD_and]
  exact ⟨⟨_, hX, e⟩, e.trans eX.symm⟩
theorem and1 (x : Int32) : x &&& 1 = 0 ∨ x &&& 1 = 1 := by
  have h := shb x (i := 0) (by decide)
  rw [show (nI 0 &&& 31 : Int32) = 0 from by decide, show x >>> (0 : Int32) = x from by simp] at h
  rw [h]
  split
  · exact Or.inr rfl
  · exact Or.inl rfl
theorem bts_N : ∀ x, x < 64 → bcI (nI x) = bts (nI x) ∧ bts (nI x) = nI (bts (nI x)).toNatClampNeg ∧ (bts (nI x)).toNatClampNeg ≤ 6 := by decide +kernel
theorem stS_N : ∀ c, c ≤ 6 → 1 ≤ c → ∀ s, s < 2 ^ c → ∀ b, b < 2 → (nI s >>> (1 &&& 31) ||| (nI b) <<< ((nI c - 1) &&& 31)) = nI (nI s >>> (1 &&& 31) ||| (nI b) <<< ((nI c - 1) &&& 31)).toNatClampNeg ∧ (nI s >>> (1 &&& 31) ||| (nI b) <<< ((nI c - 1) &&& 31)).toNatClampNeg < 2 ^ c := by decide +kernel
abbrev zy (y : Int32) : Nat := (y + 9).toNatClampNeg
theorem stY_N : ∀ f, f ≤ 6 → ∀ z, z < 73 → ((nI f + yz z) >>> (1 &&& 31) = yz (zy ((nI f + yz z) >>> (1 &&& 31))) ∧ zy ((nI f + yz z) >>> (1 &&& 31)) < 73) ∧ ((yz z - nI f) >>> (1 &&& 31) = yz (zy ((yz z - nI f) >>> (1 &&& 31))) ∧ zy ((yz z - nI f) >>> (1 &&& 31)) < 73) ∧ ((if (nI f + yz z) >>> (1 &&& 31) < 1 then (nI f + yz z) >>> (1 &&& 31) else 1) = yz (zy (if (nI f + yz z) >>> (1 &&& 31) < 1 then (nI f + yz z) >>> (1 &&& 31) else 1)) ∧ zy (if (nI f + yz z) >>> (1 &&& 31) < 1 then (nI f + yz z) >>> (1 &&& 31) else 1) < 73) := by decide +kernel
theorem yz_n : ∀ x, x < 64 → nI x = yz (x + 9) := by decide +kernel
/-- a step keeps a machine valid -/
theorem step_ok {k c t s z : Nat} (h : vldN k c t s z) : ∃ s' z', stS (nI k) (nI c) (nI t) (nI s) (yz z) = nI s' ∧ stY (nI k) (nI c) (nI t) (nI s) (yz z) = yz z' ∧ vldN k c t s' z' := by
  obtain ⟨hk, hc1, hc, ht1, ht, hs, hz⟩ := h
  have hst : s &&& t < 64 := Nat.lt_of_le_of_lt Nat.and_le_left (pw6 hc hs)
  obtain ⟨b1, b2, b3⟩ := bts_N (s &&& t) hst
  rw [← r6_and _ (pw6 hc hs) _ (pw6 hc ht)] at b1 b2 b3
  by_cases h5 : k = 5
  · subst h5
    obtain ⟨⟨x, hx, ex⟩, _⟩ := ringS hc ht hs hz
    obtain ⟨⟨w, hw, ew⟩, _⟩ := ringY hc ht hs hz
    have := pw6 hc hw
    exact ⟨x, w + 9, ex, (show stY (nI 5) _ _ _ _ = rgM _ _ _ _ from rfl).trans (ew.trans (yz_n w this)), hk, hc1, hc, ht1, ht, hx, by omega⟩
  · have e5 : ¬ nI k = 5 := fun q => h5 ((nI_eq (b := 5) (by omega) (by decide)).mp q)
    have hS : ∃ s', s' < 2 ^ c ∧ stS (nI k) (nI c) (nI t) (nI s) (yz z) = nI s' := by
      unfold stS
      rw [if_neg e5]
      rcases and1 (mSum (nI k) (nI t) (nI s) (yz z)) with q | q <;> rw [q]
      · exact ⟨_, (stS_N c hc hc1 s hs 0 (by decide)).2, (stS_N c hc hc1 s hs 0 (by decide)).1⟩
      · exact ⟨_, (stS_N c hc hc1 s hs 1 (by decide)).2, (stS_N c hc hc1 s hs 1 (by decide)).1⟩
    obtain ⟨s', hs', es'⟩ := hS
    obtain ⟨y1, y2, y3⟩ := stY_N _ b3 z hz
    rw [← b2] at y1 y2 y3
    have hY : ∃ z', z' < 73 ∧ stY (nI k) (nI c) (nI t) (nI s) (yz z) = yz z' := by
      rcases (show k = 0 ∨ k = 1 ∨ k = 2 ∨ k = 3 ∨ k = 4 by omega) with rfl | rfl | rfl | rfl | rfl
      · exact ⟨_, y1.2, y1.1⟩
      · exact ⟨z, hz, rfl⟩
      · exact ⟨z, hz, rfl⟩
      · exact ⟨_, y2.2, y2.1⟩
      · exact ⟨_, y3.2, y3.1⟩
    obtain ⟨z', hz', ez'⟩ := hY
    exact ⟨s', z', es', ez', hk, hc1, hc, ht1, ht, hs', hz'⟩
theorem gM_34 (k c t s y s' y' : Int32) : upd (upd (gM k c t s y) 3 s') 4 y' = gM k c t s' y' := by
  funext j
  show (if j = 4 then y' else if j = 3 then s' else gG _ _ c t s y _ j) = gG _ _ c t s' y' _ j
  unfold gG
  by_cases h4 : j = 4
  · subst h4; rfl
  · by_cases h3 : j = 3
    · subst h3; rfl
    · rw [if_neg h4, if_neg h3]
      simp only [h3, h4, if_false]
/-- the class's step is the reference's -/
theorem step_eq {k c t s z : Nat} (h : vldN k c t s z) : adv (kc (nI k)) (gM (nI k) (nI c) (nI t) (nI s) (yz z)) = gM (nI k) (nI c) (nI t) (stS (nI k) (nI c) (nI t) (nI s) (yz z)) (stY (nI k) (nI c) (nI t) (nI s) (yz z)) := by
  obtain ⟨hk, hc1, hc, ht1, ht, hs, hz⟩ := h
  have hst : s &&& t < 64 := Nat.lt_of_le_of_lt Nat.and_le_left (pw6 hc hs)
  have b1 := (bts_N (s &&& t) hst).1
  rw [← r6_and _ (pw6 hc hs) _ (pw6 hc ht)] at b1
  unfold adv
  rw [gM_34]
  have e : aS (kc (nI k)) (gM (nI k) (nI c) (nI t) (nI s) (yz z)) = stS (nI k) (nI c) (nI t) (nI s) (yz z) ∧ aY (kc (nI k)) (gM (nI k) (nI c) (nI t) (nI s) (yz z)) = stY (nI k) (nI c) (nI t) (nI s) (yz z) := by
    rcases (show k = 0 ∨ k = 1 ∨ k = 2 ∨ k = 3 ∨ k = 4 ∨ k = 5 by omega) with rfl | rfl | rfl | rfl | rfl | rfl
    · constructor
      · show nI s >>> (1 &&& 31) ||| ((bcI (nI s &&& nI t) + yz z) &&& 1) <<< ((nI c - 1) &&& 31) = nI s >>> (1 &&& 31) ||| ((bts (nI s &&& nI t) + yz z) &&& 1) <<< ((nI c - 1) &&& 31)
        rw [b1]
      · show (bcI (nI s &&& nI t) + yz z) >>> (1 &&& 31) = (bts (nI s &&& nI t) + yz z) >>> (1 &&& 31)
        rw [b1]
    · constructor
      · show nI s >>> (1 &&& 31) ||| (bcI (nI s &&& nI t) &&& 1) <<< ((nI c - 1) &&& 31) = nI s >>> (1 &&& 31) ||| (bts (nI s &&& nI t) &&& 1) <<< ((nI c - 1) &&& 31)
        rw [b1]
      · rfl
    · constructor
      · show nI s >>> (1 &&& 31) ||| ((bcI (nI s &&& nI t) + 1) &&& 1) <<< ((nI c - 1) &&& 31) = nI s >>> (1 &&& 31) ||| ((bts (nI s &&& nI t) + 1) &&& 1) <<< ((nI c - 1) &&& 31)
        rw [b1]
      · rfl
    · constructor
      · show nI s >>> (1 &&& 31) ||| ((yz z - bcI (nI s &&& nI t)) &&& 1) <<< ((nI c - 1) &&& 31) = nI s >>> (1 &&& 31) ||| ((yz z - bts (nI s &&& nI t)) &&& 1) <<< ((nI c - 1) &&& 31)
        rw [b1]
      · show (yz z - bcI (nI s &&& nI t)) >>> (1 &&& 31) = (yz z - bts (nI s &&& nI t)) >>> (1 &&& 31)
        rw [b1]
    · constructor
      · show nI s >>> (1 &&& 31) ||| ((bcI (nI s &&& nI t) + yz z) &&& 1) <<< ((nI c - 1) &&& 31) = nI s >>> (1 &&& 31) ||| ((bts (nI s &&& nI t) + yz z) &&& 1) <<< ((nI c - 1) &&& 31)
        rw [b1]
      · show (if (bcI (nI s &&& nI t) + yz z) >>> (1 &&& 31) < 1 then (bcI (nI s &&& nI t) + yz z) >>> (1 &&& 31) else 1) = (if (bts (nI s &&& nI t) + yz z) >>> (1 &&& 31) < 1 then (bts (nI s &&& nI t) + yz z) >>> (1 &&& 31) else 1)
        rw [b1]
    · exact ⟨(ringS hc ht hs hz).2.symm, (ringY hc ht hs hz).2.symm⟩
  rw [e.1, e.2]
