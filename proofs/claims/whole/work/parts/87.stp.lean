/-! a machine's step: the class's and the reference's are one -/
theorem sh_am : ∀ i, i < 32 → ((nI i &&& 31 : Int32)).toBitVec.smod 32 = BitVec.ofNat 32 i := by decide +kernel
theorem shb (x : Int32) {i : Nat} (h : i < 32) : x >>> (nI i &&& 31) &&& 1 = if x.toBitVec.getLsbD i then 1 else 0 := by
  refine Int32.toBitVec_inj.mp ?_
  rw [Int32.toBitVec_and, Int32.toBitVec_shiftRight, sh_am i h]
  refine BitVec.eq_of_getLsbD_eq fun j hj => ?_
  rw [BitVec.getLsbD_and, show (1 : Int32).toBitVec = 1#32 from rfl, show x.toBitVec.sshiftRight' (BitVec.ofNat 32 i) = x.toBitVec.sshiftRight i from by show x.toBitVec.sshiftRight (BitVec.ofNat 32 i).toNat = _; rw [BitVec.toNat_ofNat, Nat.mod_eq_of_lt (by omega)], BitVec.getLsbD_sshiftRight]
  rcases Nat.eq_zero_or_pos j with z | z
  · subst z
    rw [show (1#32).getLsbD 0 = true from rfl, Bool.and_true]
    simp only [Nat.add_zero]
    rw [if_pos h]
    cases hb : x.toBitVec.getLsbD i <;> rfl
  · have e : (1#32).getLsbD j = false := by
      rw [BitVec.getLsbD_one]
      simp; omega
    rw [e, Bool.and_false]
    cases hb : x.toBitVec.getLsbD i
    · simp
    · show false = (1#32).getLsbD j
      exact e.symm
abbrev yz (z : Nat) : Int32 := nI z - 9
abbrev mk6 (c : Nat) : Int32 := 1 <<< (nI c &&& 31) - 1
theorem r6_asm : ∀ c, c ≤ 6 → ∀ x, x < 2 ^ c → it (fun i a => a ||| (nI x >>> (nI i &&& 31) &&& 1) <<< (nI i &&& 31)) c 0 = nI x := by decide +kernel
theorem r6_xor : ∀ a, a < 64 → ∀ b, b < 64 → nI a ^^^ nI b = nI (a ^^^ b) := by decide +kernel
theorem r6_and : ∀ a, a < 64 → ∀ b, b < 64 → nI a &&& nI b = nI (a &&& b) := by decide +kernel
theorem r6_or : ∀ a, a < 64 → ∀ b, b < 64 → nI a ||| nI b = nI (a ||| b) := by decide +kernel
theorem r6_a : ∀ s, s < 64 → nI s >>> (1 &&& 31) = nI (s / 2) := by decide +kernel
theorem r6_1 : ∀ c, c ≤ 6 → ∀ s, s < 2 ^ c → ∀ i, i < c → (if ¬ nI c ≤ nI i + 1 ∧ nI s >>> ((nI i + 1) &&& 31) &&& 1 = 1 then (1 : Int32) else 0) = nI (s / 2) >>> (nI i &&& 31) &&& 1 := by decide +kernel
theorem r6_m : ∀ c, c ≤ 6 → ∀ z, z < 73 → yz z &&& mk6 c = nI ((yz z &&& mk6 c).toNatClampNeg) ∧ (yz z &&& mk6 c).toNatClampNeg < 2 ^ c ∧ ∀ i, i < c → yz z >>> (nI i &&& 31) &&& 1 = (yz z &&& mk6 c) >>> (nI i &&& 31) &&& 1 := by decide +kernel
theorem r6_s : ∀ s, s < 64 → nI s &&& 1 = 0 ∨ nI s &&& 1 = 1 := by decide +kernel
theorem r6_q (a b d : Bool) : (((if a then 1 else 0) + (if b then 1 else 0)) + (if d then 1 else 0) : Int32) - (((if a then 1 else 0) + (if b then 1 else 0)) + (if d then 1 else 0) : Int32) / 2 * 2 = (if (a ^^ b) ^^ d then 1 else 0) ∧ (((if a then 1 else 0) + (if b then 1 else 0)) + (if d then 1 else 0) : Int32) / 2 = (if (a && b || a && d) || b && d then 1 else 0) := by
  cases a <;> cases b <;> cases d <;> decide
/-- a valid machine's numbers -/
def vldN (k c t s z : Nat) : Prop := k ≤ 5 ∧ 1 ≤ c ∧ c ≤ 6 ∧ 1 ≤ t ∧ t < 2 ^ c ∧ s < 2 ^ c ∧ z < 73
theorem pw6 {c x : Nat} (hc : c ≤ 6) (h : x < 2 ^ c) : x < 64 := Nat.lt_of_lt_of_le h (Nat.pow_le_pow_right (by decide) hc)
theorem rgA_b {c t s z : Nat} (hc : c ≤ 6) (ht : t < 2 ^ c) (hs : s < 2 ^ c) (hz : z < 73) {i : Nat} (hi : i < c) :
    rgA (nI c) (nI t) (nI s) (yz z) i = ((if (nI s >>> (1 &&& 31)).toBitVec.getLsbD i then 1 else 0) + (if (yz z &&& mk6 c).toBitVec.getLsbD i then 1 else 0)) + (if (if nI s &&& 1 = 1 then nI t else 0).toBitVec.getLsbD i then 1 else 0) := by
  unfold rgA
  have h32 : i < 32 := by omega
  rw [r6_1 c hc s hs i hi, ← r6_a s (pw6 hc hs), (r6_m c hc z hz).2.2 i hi, shb _ h32, shb _ h32, shb _ h32]
  congr 1
  rcases r6_s s (pw6 hc hs) with e | e
  · rw [e, if_neg (by decide : ¬ (0 : Int32) = 1)]
    rw [show (0 : Int32).toBitVec = 0#32 from rfl, BitVec.getLsbD_zero]
    simp
  · rw [e, if_pos rfl]
    cases (nI t).toBitVec.getLsbD i <;> rfl
theorem ringS {c t s z : Nat} (hc : c ≤ 6) (ht : t < 2 ^ c) (hs : s < 2 ^ c) (hz : z < 73) :
    (∃ x, x < 2 ^ c ∧ rgN (nI c) (nI t) (nI s) (yz z) = nI x) ∧ rgN (nI c) (nI t) (nI s) (yz z) = (nI s >>> (1 &&& 31) ^^^ (yz z &&& mk6 c)) ^^^ (if nI s &&& 1 = 1 then nI t else 0) := by
  obtain ⟨m1, m2, _⟩ := r6_m c hc z hz
  have h64 : (2 : Nat) ^ c ≤ 64 := Nat.pow_le_pow_right (by decide) hc
  have hF : ∃ f, f < 2 ^ c ∧ (if nI s &&& 1 = 1 then nI t else 0 : Int32) = nI f := by
    split
    · exact ⟨t, ht, rfl⟩
    · exact ⟨0, Nat.two_pow_pos c, rfl⟩
  obtain ⟨f, hf, ef⟩ := hF
  have hA : s / 2 < 2 ^ c := Nat.lt_of_le_of_lt (Nat.div_le_self _ _) hs
  have eX : (nI s >>> (1 &&& 31) ^^^ (yz z &&& mk6 c)) ^^^ (if nI s &&& 1 = 1 then nI t else 0) = nI ((s / 2 ^^^ (yz z &&& mk6 c).toNatClampNeg) ^^^ f) := by
    rw [ef, r6_a s (pw6 hc hs)]
    have q := Nat.xor_lt_two_pow hA m2
    rw [← r6_xor _ (by omega) _ (by omega), ← r6_xor _ (by omega) _ (by omega), ← m1]
  have hX : (s / 2 ^^^ (yz z &&& mk6 c).toNatClampNeg) ^^^ f < 2 ^ c := Nat.xor_lt_two_pow (Nat.xor_lt_two_pow hA m2) hf
  have e : rgN (nI c) (nI t) (nI s) (yz z) = nI ((s / 2 ^^^ (yz z &&& mk6 c).toNatClampNeg) ^^^ f) := by
    rw [← r6_asm c hc _ hX, ← eX]
    unfold rgN
    rw [nI_clamp (by omega)]
    refine it_cg (fun i hi => funext fun a => ?_) _
    rw [rgA_b hc ht hs hz hi, shb _ (show i < 32 by omega), (r6_q _ _ _).1, Int32.toBitVec_xor, Int32.toBitVec_xor, BitVec.getLsbD_xor, BitVec.getLsbD_xor]
  exact ⟨⟨_, hX, e⟩, e.trans eX.symm⟩
