/-! fractions that machines tell; machines that fractions build -/
theorem td_A : ∀ c, c < 7 → ∀ t, t < 2 ^ c → ∀ s, s < 2 ^ c → awX (nI c) (nI t) (nI s) c = (rst (nI c) (nI t) (nI s)).toInt64 ∧ -5000 ≤ (rst (nI c) (nI t) (nI s)).toInt ∧ (rst (nI c) (nI t) (nI s)).toInt ≤ 5000 ∧ ((rst (nI c) (nI t) (nI s)).toInt - (lnk (nI c) (nI t)).toInt * s) % 2 ^ c = 0 := by decide +kernel
theorem td_B0 : ∀ c, c < 7 → ∀ t, t < 2 ^ c → c = 0 ∨ t = 0 ∨ (lnkX (nI c) (nI t) c = lnk (nI c) (nI t) ∧ lnk (nI c) (nI t) = nI (lnk (nI c) (nI t)).toNatClampNeg ∧ 0 < (lnk (nI c) (nI t)).toNatClampNeg ∧ (lnk (nI c) (nI t)).toNatClampNeg < 1000) := by decide +kernel
theorem td_B (c : Nat) (hc : c < 7) (c1 : 1 ≤ c) (t : Nat) (ht : t < 2 ^ c) (t1 : 1 ≤ t) : lnkX (nI c) (nI t) c = lnk (nI c) (nI t) ∧ lnk (nI c) (nI t) = nI (lnk (nI c) (nI t)).toNatClampNeg ∧ 0 < (lnk (nI c) (nI t)).toNatClampNeg ∧ (lnk (nI c) (nI t)).toNatClampNeg < 1000 := by
  rcases td_B0 c hc t ht with h | h | h
  · omega
  · omega
  · exact h
theorem td_Y : ∀ z, z < 73 → ∀ c, c < 7 → (yz z).toInt64 <<< ((nI c).toInt64 &&& 63) = (yz z <<< (nI c &&& 31)).toInt64 ∧ -5000 ≤ (yz z <<< (nI c &&& 31)).toInt ∧ (yz z <<< (nI c &&& 31)).toInt ≤ 5000 := by decide +kernel
theorem sub64 {x y : Int32} (hx : -5000 ≤ x.toInt ∧ x.toInt ≤ 5000) (hy : -5000 ≤ y.toInt ∧ y.toInt ≤ 5000) : (x - y).toInt = x.toInt - y.toInt ∧ x.toInt64 - y.toInt64 = (x - y).toInt64 := by
  have e : (x - y).toInt = x.toInt - y.toInt := by rw [Int32.toInt_sub, Int.bmod_eq_of_le (by omega) (by omega)]
  refine ⟨e, Int64.toInt_inj.mp ?_⟩
  rw [Int64.toInt_sub, tqI, tqI, tqI, e, Int.bmod_eq_of_le (by omega) (by omega)]
theorem tdv_le (a b : Int) : (a.tdiv b).natAbs ≤ a.natAbs := by
  rw [Int.natAbs_tdiv]
  exact Nat.div_le_self _ _
theorem dv64 {x g : Int32} (hx : -20000 ≤ x.toInt ∧ x.toInt ≤ 20000) : x.toInt64 / g.toInt64 = (x / g).toInt64 := by
  have l := tdv_le x.toInt g.toInt
  refine Int64.toInt_inj.mp ?_
  rw [Int64.toInt_div, tqI, tqI, tqI, Int32.toInt_div, Int.bmod_eq_of_le (by omega) (by omega), Int.bmod_eq_of_le (by omega) (by omega)]
theorem td_v {S : XS} {M : MS} {a j k c t s z : Nat} (hv : vldN k c t s z) (q2 : M.2.2 2 j = nI c) (q3 : M.2.2 3 j = nI t) (q4 : M.2.2 4 j = nI s) (q5 : M.2.2 5 j = yz z) (q6 : mfo S a = gM (nI k) (nI c) (nI t) (nI s) (yz z)) : tdA (mfo S a) = (tmP M j).toInt64 ∧ (-10000 ≤ (tmP M j).toInt ∧ (tmP M j).toInt ≤ 10000) ∧ ∃ b, 0 < b ∧ b < 1000 ∧ tdB (mfo S a) = nI b ∧ lnk (M.2.2 2 j) (M.2.2 3 j) = nI b := by
  obtain ⟨hk, hc1, hc, ht1, ht, hs, hz⟩ := hv
  obtain ⟨a1, a2, a3, _⟩ := td_A c (by omega) t ht s hs
  obtain ⟨b1, b2, b3, b4⟩ := td_B c (by omega) hc1 t ht ht1
  obtain ⟨y1, y2, y3⟩ := td_Y z hz c (by omega)
  obtain ⟨d1, d2⟩ := sub64 ⟨a2, a3⟩ ⟨y2, y3⟩
  have en : (nI c).toNatClampNeg = c := nI_clamp (by omega)
  have eP : tmP M j = rst (nI c) (nI t) (nI s) - yz z <<< (nI c &&& 31) := by
    unfold tmP
    rw [q2, q3, q4, q5]
  refine ⟨?_, ?_, (lnk (nI c) (nI t)).toNatClampNeg, b3, b4, ?_, ?_⟩
  · rw [eP, q6]
    show awX (nI c) (nI t) (nI s) (nI c).toNatClampNeg - (yz z).toInt64 <<< ((nI c).toInt64 &&& 63) = _
    rw [en, a1, y1, d2]
  · rw [eP, d1]; omega
  · rw [q6]
    show lnkX (nI c) (nI t) (nI c).toNatClampNeg = _
    rw [en, b1]; exact b2
  · rw [q2, q3]; exact b2
theorem Rel_tdOK {S : XS} {M : MS} (h : Rel S M) {m : Int32} (g : 0 ≤ m ∧ m < S.1 1) : tdOK (mfo S (xAd S m)) := by
  obtain ⟨N, j, hN, _, e1, e2, _, ec, _, _, _, k, c, t, s, z, hv, q1, q2, q3, q4, q5, q6⟩ := rel_at h g
  obtain ⟨p1, p2, b, p3, p4, p5, p6⟩ := td_v hv q2 q3 q4 q5 q6
  refine ⟨?_, b, p5, p3, by omega⟩
  rw [p1, tqI]
  omega
theorem Rel_tmOK {S : XS} {M : MS} (h : Rel S M) {m : Int32} (g : 0 ≤ m ∧ m ≤ M.1 0 - 1) : tmOK M m.toNatClampNeg := by
  obtain ⟨N, j, hN, _, e1, e2, _, ec, _, _, _, k, c, t, s, z, hv, q1, q2, q3, q4, q5, q6⟩ := rel_at h ((grd h m).mpr g)
  obtain ⟨p1, p2, b, p3, p4, p5, p6⟩ := td_v hv q2 q3 q4 q5 q6
  rw [ec]
  exact ⟨by omega, b, p6, p3, by omega⟩
theorem r_told {S S' : XS} {M M' : MS} {m_ w_ : Int32} {v v' : Option Value} (h : Rel S M) (hx : (v = (some (.long (if ((0 ≤ m_ ∧ m_ < S.1 1) ∧ (0 ≤ w_ ∧ w_ ≤ 1) ∧ mfo S (xAd S m_) 0 = 0) then ltX (tdA (mfo S (xAd S m_))) (tdB (mfo S (xAd S m_))).toNatClampNeg w_ else -9223372036854775808))) ∧ S' = (S))) (hm : (v' = (some (.long (if ((0 ≤ m_ ∧ m_ ≤ M.1 0 - 1) ∧ (0 ≤ w_ ∧ w_ ≤ 1) ∧ M.2.2 1 m_.toNatClampNeg = 0) then tmR (tmP M m_.toNatClampNeg) (lnk (M.2.2 2 m_.toNatClampNeg) (M.2.2 3 m_.toNatClampNeg)).toNatClampNeg w_ else -9223372036854775808))) ∧ M' = (M))) : v = v' ∧ Rel S' M' := by
  obtain ⟨hx1, hx2⟩ := hx
  obtain ⟨hm1, hm2⟩ := hm
  rw [hx1, hm1, hx2, hm2]
  refine ⟨congrArg (fun x => some (Value.long x)) (ite_c ⟨fun q => ?_, fun q => ?_⟩ (fun g => ?_) (fun _ => rfl)), h⟩
  · obtain ⟨N, j, hN, _, e1, e2, _, ec, _, _, _, k, c, t, s, z, hv, q1, q2, q3, q4, q5, q6⟩ := rel_at h q.1
    rw [(gT_eq hv.1 q6).2] at q
    rw [ec, q1]
    exact ⟨(grd h m_).mp q.1, q.2⟩
  · obtain ⟨N, j, hN, _, e1, e2, _, ec, _, _, _, k, c, t, s, z, hv, q1, q2, q3, q4, q5, q6⟩ := rel_at h ((grd h m_).mpr q.1)
    rw [ec, q1] at q
    rw [(gT_eq hv.1 q6).2]
    exact ⟨(grd h m_).mpr q.1, q.2⟩
  · obtain ⟨N, j, hN, _, e1, e2, _, ec, _, _, _, k, c, t, s, z, hv, q1, q2, q3, q4, q5, q6⟩ := rel_at h ((grd h m_).mpr g.1)
    obtain ⟨p1, p2, b, p3, p4, p5, p6⟩ := td_v hv q2 q3 q4 q5 q6
    rw [ec, p1, p5, p6, nI_clamp (by omega)]
    unfold ltX tmR
    rw [tqI, Nat.gcd_comm]
    have gp : Nat.gcd b (tmP M j).toInt.natAbs ≤ b := Nat.gcd_le_left _ p3
    rw [← nI_l (n := Nat.gcd b (tmP M j).toInt.natAbs) (by omega), ← nI_l (n := b) (by omega)]
    by_cases w0 : w_ = 0
    · rw [if_pos w0, if_pos w0, dv64 (by omega)]
    · rw [if_neg w0, if_neg w0, dv64 (by rw [nI_toInt (by omega)]; omega)]
/-! build -/
theorem dg_bd (n : Nat) (h : 0 < n) : 2 ^ (dgl n - 1) ≤ n ∧ n < 2 ^ dgl n := by
  induction n using Nat.strongRecOn with
  | _ n ih =>
    rw [dgl_pos h]
    by_cases z : n / 2 = 0
    · rw [z, dgl_0]
      have : n = 1 := by omega
      rw [this]; decide
    · obtain ⟨a, b⟩ := ih (n / 2) (by omega) (by omega)
      have d : 1 ≤ dgl (n / 2) := by rw [dgl_pos (by omega)]; omega
      have e1 : 2 ^ (dgl (n / 2) + 1 - 1) = 2 ^ (dgl (n / 2) - 1) * 2 := by rw [← Nat.pow_succ]; congr 1; omega
      have e2 : 2 ^ (dgl (n / 2) + 1) = 2 ^ dgl (n / 2) * 2 := Nat.pow_succ ..
      have e3 : 1 + dgl (n / 2) = dgl (n / 2) + 1 := Nat.add_comm _ _
      try rw [e3]
      rw [e1, e2]
      omega
theorem bl_1 {B : Int} (h1 : 1 ≤ B) (hb : smQ B) : iL B + 1 = lN (B + 1).toNat ∧ (B + 1).toNat < 2 ^ 62 ∧ 2 ≤ (B + 1).toNat := by
  refine ⟨?_, by omega, by omega⟩
  have e : (1 : Int64) = iL 1 := rfl
  rw [e, iL_add, iL_lN (by omega) (by omega)]
theorem bfC_eq {B : Int} (h1 : 1 ≤ B) (hb : smQ B) : bfC B = nI (mbC B) ∧ 1 ≤ mbC B ∧ mbC B < 100 ∧ 2 ^ mbC B ≤ (B + 1).toNat ∧ (B + 1).toNat < 2 ^ (mbC B + 1) := by
  obtain ⟨e1, e2, e3⟩ := bl_1 h1 hb
  have g := dgl_ge e3
  have l := dgl_lt 62 _ e2
  obtain ⟨d1, d2⟩ := dg_bd (B + 1).toNat (by omega)
  unfold bfC mbC
  rw [e1, nlz_N e2]
  refine ⟨?_, by omega, by omega, d1, by rw [show dgl (B + 1).toNat - 1 + 1 = dgl (B + 1).toNat by omega]; exact d2⟩
  obtain ⟨m, em⟩ : ∃ m, dgl (B + 1).toNat = m + 1 := ⟨dgl (B + 1).toNat - 1, by omega⟩
  rw [em, nI_pred, Nat.add_sub_cancel]
theorem bl_T0 : ∀ c : Nat, c < 7 → ∀ b : Nat, b < 128 → c = 0 ∨ ¬ b % 2 = 1 ∨ ¬ 2 ^ c ≤ b + 1 ∨ ¬ b + 1 < 2 ^ (c + 1) ∨ (bfT (b : Int) (nI c) c = mbT (b : Int) c c ∧ mbT (b : Int) c c = nI (mbT (b : Int) c c).toNatClampNeg ∧ 1 ≤ (mbT (b : Int) c c).toNatClampNeg ∧ (mbT (b : Int) c c).toNatClampNeg < 2 ^ c ∧ lnk (nI c) (mbT (b : Int) c c) = nI b) := by decide +kernel
theorem bl_T (c : Nat) (hc : c < 7) (c1 : 1 ≤ c) (b : Nat) (hb : b < 128) (bo : b % 2 = 1) (h1 : 2 ^ c ≤ b + 1) (h2 : b + 1 < 2 ^ (c + 1)) : bfT (b : Int) (nI c) c = mbT (b : Int) c c ∧ mbT (b : Int) c c = nI (mbT (b : Int) c c).toNatClampNeg ∧ 1 ≤ (mbT (b : Int) c c).toNatClampNeg ∧ (mbT (b : Int) c c).toNatClampNeg < 2 ^ c ∧ lnk (nI c) (mbT (b : Int) c c) = nI b := by
  rcases bl_T0 c hc b hb with h | h | h | h | h
  · omega
  · exact absurd bo h
  · exact absurd h1 h
  · exact absurd h2 h
  · exact h
theorem bhd_big {x q : Int64} (hx : -(2 ^ 60) ≤ x.toInt ∧ x.toInt ≤ 2 ^ 60) (hq : 0 ≤ q.toInt ∧ q.toInt ≤ 2 ^ 60) : (bhd x q).toInt = bh q.toInt x.toInt := by
  unfold bhd bh
  rw [shr1_l, Int64.toInt_sub, Int64.toInt_mul, and1_l]
  rcases Int.emod_two_eq x.toInt with e | e <;> rw [e]
  · rw [Int.zero_mul, Int.bmod_eq_of_le (n := 0) (by omega) (by omega), Int.bmod_eq_of_le (by omega) (by omega)]
  · rw [Int.one_mul, Int.bmod_eq_of_le (n := q.toInt) (by omega) (by omega), Int.bmod_eq_of_le (by omega) (by omega)]
theorem a1_64 (x : Int64) : Int32.toInt64 (x &&& 1).toInt32 = x &&& 1 := by
  obtain ⟨n, hn, rfl⟩ := wb_of x
  rw [wb_a1 hn]
  have : ∀ m, m < 2 → Int32.toInt64 (lN m).toInt32 = lN m := by decide +kernel
  exact this _ (by omega)
theorem bhm_big {x q : Int64} (hx : -(2 ^ 60) ≤ x.toInt ∧ x.toInt ≤ 2 ^ 60) (hq : 0 ≤ q.toInt ∧ q.toInt ≤ 2 ^ 60) (ho : q.toInt % 2 = 1) : ((x - Int32.toInt64 (x &&& 1).toInt32 * q) / 2).toInt = bh q.toInt x.toInt := by
  unfold bh
  have e2 : (2 : Int64).toInt = 2 := rfl
  rw [a1_64, Int64.toInt_div, Int64.toInt_sub, Int64.toInt_mul, and1_l, e2]
  rcases Int.emod_two_eq x.toInt with e | e <;> rw [e]
  · rw [Int.zero_mul, Int.bmod_eq_of_le (n := 0) (by omega) (by omega), Int.bmod_eq_of_le (n := x.toInt - 0) (by omega) (by omega), Int.tdiv_eq_ediv_of_dvd (by omega), Int.bmod_eq_of_le (by omega) (by omega)]
  · rw [Int.one_mul, Int.bmod_eq_of_le (n := q.toInt) (by omega) (by omega), Int.bmod_eq_of_le (n := x.toInt - q.toInt) (by omega) (by omega), Int.tdiv_eq_ediv_of_dvd (by omega), Int.bmod_eq_of_le (by omega) (by omega)]
theorem bhN_big {q x : Int} (hq : 1 ≤ q ∧ q ≤ 2 ^ 60) (h : -(2 ^ 60) ≤ x ∧ x ≤ 2 ^ 60) (n : Nat) : -(2 ^ 60) ≤ fn (bh q) n x ∧ fn (bh q) n x ≤ 2 ^ 60 := by
  induction n with
  | zero => exact h
  | succ n ih =>
    show -(2 ^ 60) ≤ bh q (fn (bh q) n x) ∧ bh q (fn (bh q) n x) ≤ 2 ^ 60
    revert ih
    generalize fn (bh q) n x = y
    intro ih
    unfold bh
    rcases Int.emod_two_eq y with e | e <;> rw [e] <;> omega
theorem fdQ_b {A B : Int} (ha : smQ A) (hb : smQ B) (h1 : 1 ≤ B) : ∀ j, (fdQ (iL A) (iL B) j).toInt = fn (bh B) j A
  | 0 => iL_t (by omega)
  | j + 1 => by
    have ih := fdQ_b ha hb h1 j
    have bd := bhN_big (q := B) (x := A) (by omega) ha j
    have eB : (iL B).toInt = B := iL_t (by omega)
    rw [fn_s]
    show (bhd (fdQ (iL A) (iL B) j) (iL B)).toInt = _
    rw [bhd_big (by rw [ih]; exact bd) (by rw [eB]; omega), ih, eB]
theorem mbF_b {A B : Int} (ha : smQ A) (hb : smQ B) (h1 : 1 ≤ B) (ho : B % 2 = 1) : ∀ j, (mbF A B j).toInt = fn (bh B) j A
  | 0 => iL_t (by omega)
  | j + 1 => by
    have ih := mbF_b ha hb h1 ho j
    have bd := bhN_big (q := B) (x := A) (by omega) ha j
    have eB : (iL B).toInt = B := iL_t (by omega)
    rw [fn_s]
    show ((mbF A B j - Int32.toInt64 (mbF A B j &&& 1).toInt32 * iL B) / 2).toInt = _
    rw [bhm_big (by rw [ih]; exact bd) (by rw [eB]; omega) (by rw [eB]; exact ho), ih, eB]
/-- the digits -/
def dgZ (A B : Int) (i : Nat) : Nat := (fn (bh B) i A % 2).toNat
theorem dgZ_lt (A B : Int) (i : Nat) : dgZ A B i < 2 := by unfold dgZ; omega
theorem and1_of {x : Int64} {d : Nat} (hd : d < 2) (h : x.toInt % 2 = (d : Int)) : x &&& 1 = (nI d &&& 1).toInt64 ∧ (x &&& 1).toInt32 = nI d := by
  have e : x &&& 1 = lN d := by
    refine Int64.toInt_inj.mp ?_
    rw [and1_l, h, pk_lT (by omega)]
  rw [e]
  have : ∀ d, d < 2 → lN d = (nI d &&& 1).toInt64 ∧ (lN d).toInt32 = nI d := by decide +kernel
  exact this d hd
theorem dg_or {A B : Int} (ha : smQ A) (hb : smQ B) (h1 : 1 ≤ B) (ho : B % 2 = 1) {c : Nat} (hc : c ≤ 6) : bfS A B (nI c) = nI (rwN (dgZ A B) c) ∧ mbS A B c = nI (rwN (dgZ A B) c) := by
  have eX : rwX (fun i => nI (dgZ A B i)) c = rwN (dgZ A B) c := by
    show rwN (fun i => bt1 (nI (dgZ A B i))) c = _
    have : (fun i => bt1 (nI (dgZ A B i))) = dgZ A B := funext fun i => bt1_n (dgZ_lt A B i)
    rw [this]
  have en : (nI c).toNatClampNeg = c := nI_clamp (by omega)
  constructor
  · unfold bfS
    rw [en]
    have e : fdB (iL A) (iL B) c = btL (fun i => nI (dgZ A B i)) c := by
      unfold fdB btL
      refine it_cg (fun i hi => funext fun b => ?_) _
      rw [(and1_of (x := fdQ (iL A) (iL B) i) (dgZ_lt A B i) (by rw [fdQ_b ha hb h1]; unfold dgZ; omega)).1]
    rw [e, btL_N _ (by omega), lN_i2]
    exact congrArg nI eX
  · have e : mbS A B c = wdA (fun i => nI (dgZ A B i)) 0 c := by
      unfold mbS wdA
      refine it_cg (fun i hi => funext fun b => ?_) _
      rw [(and1_of (x := mbF A B i) (dgZ_lt A B i) (by rw [mbF_b ha hb h1 ho]; unfold dgZ; omega)).2, Nat.zero_add]
    have lt : rwN (dgZ A B) c < 2 ^ c := rwN_lt (dgZ_lt A B) c
    rw [e, wdA_N (X := rwN (dgZ A B) c) c (by omega) (fun i hi => by
      have q := rwX_at (fun i => nI (dgZ A B i)) (n := c) (i := i) (by omega)
      rw [eX] at q
      rw [← q]
      exact (nI_and1 (dgZ_lt A B i)).symm)]
    show nI (rwN (dgZ A B) c / 2 ^ 0 % 2 ^ c) = _
    rw [Nat.pow_zero, Nat.div_one, Nat.mod_eq_of_lt lt]
theorem bh2 {B : Int} (ho : B % 2 = 1) (y : Int) : 2 * bh B y = y - (((y % 2).toNat : Nat) : Int) * B := by
  unfold bh
  rcases Int.emod_two_eq y with q | q <;> rw [q]
  · rw [Int.zero_mul, show (((0 : Int).toNat : Nat) : Int) * B = 0 from Int.zero_mul B]; omega
  · rw [Int.one_mul, show (((1 : Int).toNat : Nat) : Int) * B = B from Int.one_mul B]; omega
theorem dg_sum {A B : Int} (ho : B % 2 = 1) : ∀ c, A = B * (rwN (dgZ A B) c : Int) + 2 ^ c * fn (bh B) c A
  | 0 => by
    show A = B * ((0 : Nat) : Int) + 2 ^ 0 * A
    rw [Int.pow_zero]; omega
  | c + 1 => by
    have ih := dg_sum (A := A) ho c
    have e : 2 * fn (bh B) (c + 1) A = fn (bh B) c A - (dgZ A B c : Int) * B := by
      rw [fn_s]
      exact bh2 ho _
    rw [rwN_s, Int.natCast_add, Int.natCast_mul, Int.natCast_pow, Int.pow_succ]
    have e2 : ((2 : Nat) : Int) = 2 := rfl
    rw [e2]
    grind
theorem b_y {A B : Int} (ha : smQ A) (hb : smQ B) (h1 : 1 ≤ B) (ho : B % 2 = 1) (hc : mbC B ≤ 6) : ∃ t s, vldN 0 (mbC B) t s 0 ∧ bfT B (nI (mbC B)) (mbC B) = nI t ∧ mbT B (mbC B) (mbC B) = nI t ∧ bfS A B (nI (mbC B)) = nI s ∧ mbS A B (mbC B) = nI s ∧ bfY A B (nI (mbC B)) = mbY A B (mbC B) := by
  obtain ⟨_, c1, _, d1, d2⟩ := bfC_eq h1 hb
  obtain ⟨b, rfl⟩ : ∃ b : Nat, B = (b : Int) := ⟨B.toNat, by omega⟩
  have eb : ((b : Int) + 1).toNat = b + 1 := by omega
  rw [eb] at d1 d2
  generalize mbC (b : Int) = c at hc c1 d1 d2 ⊢
  have p7 : 2 ^ (c + 1) ≤ 2 ^ 7 := Nat.pow_le_pow_right (by decide) (by omega)
  obtain ⟨t1, t2, t3, t4, t5⟩ := bl_T c (by omega) c1 b (by omega) (by omega) d1 d2
  obtain ⟨s1, s2⟩ := dg_or ha hb h1 ho hc
  have sl : rwN (dgZ A b) c < 2 ^ c := rwN_lt (dgZ_lt A b) c
  generalize (mbT (b : Int) c c).toNatClampNeg = t at t2 t3 t4
  rw [t2] at t1 t5
  refine ⟨t, _, ⟨by decide, c1, hc, t3, t4, sl, by decide⟩, t1, t2, s1, s2, ?_⟩
  unfold bfY mbY
  have en : (nI c).toNatClampNeg = c := nI_clamp (by omega)
  rw [en, s1, s2, t1, t2]
  obtain ⟨a1, a2, a3, a4⟩ := td_A c (by omega) t t4 _ sl
  rw [a1]
  refine Int64.toInt_inj.mp ?_
  have sum := dg_sum (A := A) ho c
  rw [t5, nI_toInt (by omega)] at a4
  have eR : ((rst (nI c) (nI t) (nI (rwN (dgZ A b) c))).toInt64 - iL A).toInt = (rst (nI c) (nI t) (nI (rwN (dgZ A b) c))).toInt - A := by
    rw [Int64.toInt_sub, tqI, iL_t (by omega), Int.bmod_eq_of_le (by omega) (by omega)]
  have dvd : ((2 : Int) ^ c) ∣ (rst (nI c) (nI t) (nI (rwN (dgZ A b) c))).toInt - A := by
    refine Int.dvd_of_emod_eq_zero ?_
    have : (rst (nI c) (nI t) (nI (rwN (dgZ A b) c))).toInt - A = ((rst (nI c) (nI t) (nI (rwN (dgZ A b) c))).toInt - (b : Int) * (rwN (dgZ A b) c : Int)) - 2 ^ c * fn (bh b) c A := by
      have sum2 := sum
      generalize fn (bh b) c A = y at sum2 ⊢
      generalize rwN (dgZ A b) c = X at sum2 ⊢
      generalize (b : Int) * (X : Int) = u at sum2 ⊢
      generalize (2 : Int) ^ c * y = w at sum2 ⊢
      omega
    rw [this, Int.sub_mul_emod_self_left]
    exact a4
  have e1 : (1 : Int64) <<< ((nI c).toInt64 &&& 63) = lN (2 ^ c) := by
    have e := wb_shl 1 (k := c) (by omega)
    rw [Nat.one_mul] at e
    exact e
  have p6 : 2 ^ c ≤ 2 ^ 6 := Nat.pow_le_pow_right (by decide) hc
  have e2 : (lN (2 ^ c)).toInt = (2 : Int) ^ c := by
    rw [pk_lT (by omega), Int.natCast_pow]; rfl
  rw [shr_l _ (by omega), e1, Int64.toInt_div, eR, e2, Int.tdiv_eq_ediv_of_dvd dvd]
  have l := tdv_le ((rst (nI c) (nI t) (nI (rwN (dgZ A b) c))).toInt - A) (2 ^ c)
  rw [Int.tdiv_eq_ediv_of_dvd dvd] at l
  rw [Int.bmod_eq_of_le (by omega) (by omega)]
theorem y9 {y : Int64} (h1 : ¬ lg_cmp y (-9) < 0) (h2 : lg_cmp y 9 ≤ 0) : ∃ z, z < 73 ∧ y.toInt32 = yz z := by
  have a1 : -9 ≤ y.toInt := by
    rw [lg_cmp_lt, Int64.lt_iff_toInt_lt] at h1
    have e : (-9 : Int64).toInt = -9 := rfl
    omega
  have a2 : y.toInt ≤ 9 := by
    have h3 : ¬ 0 < lg_cmp y 9 := Int32.not_lt.mpr h2
    rw [lg_cmp_gt, Int64.lt_iff_toInt_lt] at h3
    have e : (9 : Int64).toInt = 9 := rfl
    omega
  have t : ∀ k : Nat, k < 19 → (iL ((k : Int) - 9)).toInt32 = yz k := by decide +kernel
  refine ⟨(y.toInt + 9).toNat, by omega, ?_⟩
  have q := t (y.toInt + 9).toNat (by omega)
  rw [show (((y.toInt + 9).toNat : Nat) : Int) - 9 = y.toInt by omega, ← iL_of] at q
  exact q
theorem r_join {S : XS} {M : MS} {q k c t s z : Nat} (h : Rel S M) (h4 : S.1 1 < 4) (hq : q ∉ xL S) (hvl : vldN k c t s z) : Rel (xJ (xN S q (kc (nI k)) (gM (nI k) (nI c) (nI t) (nI s) (yz z))) q) (mF (mLay M (M.1 0).toNatClampNeg (nI k) (nI c) (nI t) (nI s) (yz z)) 0 (M.1 0 + 1)) := by
  obtain ⟨n, hn, e1, e2, A, hA, inj⟩ := h.1
  have hn4 : n < 4 := by rw [e1] at h4; exact (nI_s4 hn).mp h4
  have ec : (nI n).toNatClampNeg = n := nI_clamp (by omega)
  have em : (M.1 0).toNatClampNeg = n := by rw [e2, ec]
  have ex : ((xN S q (kc (nI k)) (gM (nI k) (nI c) (nI t) (nI s) (yz z))).1 1).toNatClampNeg = n := by
    rw [show (xN S q (kc (nI k)) (gM (nI k) (nI c) (nI t) (nI s) (yz z))).1 1 = S.1 1 from rfl, e1, ec]
  refine Rel_of h ?_ (fun i hi => if_neg hi) rfl (fun i hi _ => if_neg hi) (fun j hj => ?_)
  · refine ⟨n + 1, hn4, ?_, ?_, fun i => if i = n then q else A i, fun i hi => ?_, fun i hi j hj e => ?_⟩
    · show S.1 1 + 1 = _
      rw [e1, nI_1]
    · show M.1 0 + 1 = _
      rw [e2, nI_1]
    · rw [em]
      by_cases z2 : i = n
      · subst z2
        show machR _ _ i (if i = i then q else A i)
        rw [if_pos rfl]
        refine ⟨?_, List.mem_append_right _ (List.mem_singleton.mpr rfl), ?_, k, c, t, s, z, hvl, if_pos rfl, if_pos rfl, if_pos rfl, if_pos rfl, if_pos rfl, if_pos rfl⟩
        · show (if i = ((xN S q _ _).1 1).toNatClampNeg then some q else _) = some q
          rw [ex, if_pos rfl]
        · show (if q = q then kc (nI k) else _) = kc (if i = i then nI k else _)
          rw [if_pos rfl, if_pos rfl]
      · show machR _ _ i (if i = n then q else A i)
        rw [if_neg z2]
        obtain ⟨h1, h2, h3, w⟩ := machR_N (c := kc (nI k)) (g := gM (nI k) (nI c) (nI t) (nI s) (yz z)) hq (hA i (by omega))
        refine ⟨?_, h2, ?_, ?_⟩
        · show (if i = ((xN S q _ _).1 1).toNatClampNeg then some q else S.2.2.2.2.1 i) = some (A i)
          rw [ex, if_neg z2]; exact h1
        · show xmk (xN S q _ _) (A i) = kc (if i = n then nI k else M.2.2 1 i)
          rw [if_neg z2]; exact h3
        · show ∃ k' c' t' s' z', vldN k' c' t' s' z' ∧ (if i = n then nI k else M.2.2 1 i) = nI k' ∧ (if i = n then nI c else M.2.2 2 i) = nI c' ∧ (if i = n then nI t else M.2.2 3 i) = nI t' ∧ (if i = n then nI s else M.2.2 4 i) = nI s' ∧ (if i = n then yz z else M.2.2 5 i) = yz z' ∧ mfo (xN S q _ _) (A i) = gM (nI k') (nI c') (nI t') (nI s') (yz z')
          rw [if_neg z2, if_neg z2, if_neg z2, if_neg z2, if_neg z2]
          exact w
    · have e : (if i = n then q else A i) = (if j = n then q else A j) := e
      by_cases z2 : i = n
      · by_cases z3 : j = n
        · omega
        · rw [if_pos z2, if_neg z3] at e
          exact absurd (e ▸ (hA j (by omega)).2.1) hq
      · by_cases z3 : j = n
        · rw [if_neg z2, if_pos z3] at e
          exact absurd (e ▸ (hA i (by omega)).2.1) hq
        · rw [if_neg z2, if_neg z3] at e
          exact inj i (by omega) j (by omega) e
  · show (if j = 5 then _ else if j = 4 then _ else if j = 3 then _ else if j = 2 then _ else if j = 1 then _ else M.2.2 j) = _
    rw [if_neg (by omega), if_neg (by omega), if_neg (by omega), if_neg (by omega), if_neg (by omega)]
theorem leaX_odd {N : Int} {n : Nat} {A B : Int} (h : leaX N n A B) : B % 2 = 1 := by
  rcases h with ⟨_, _, h⟩ | ⟨_, h⟩
  · rw [h]; decide
  · exact h.1.1
theorem bOK_iff {A B : Int} (ha : smQ A) (hb : smQ B) (h1 : 1 ≤ B) (ho : B % 2 = 1) : bfOK A B ↔ mbOK A B := by
  obtain ⟨e, c1, c2, _⟩ := bfC_eq h1 hb
  have g : (1 ≤ bfC B ∧ bfC B ≤ 6) ↔ mbC B ≤ 6 := by
    rw [e, show (1 : Int32) = nI 1 from rfl, show (6 : Int32) = nI 6 from rfl, nI_leI (by decide) (by omega), nI_leI (by omega) (by decide)]
    omega
  constructor
  · intro q
    have c6 := g.mp q.1
    obtain ⟨t, s, _, _, _, _, _, ey⟩ := b_y ha hb h1 ho c6
    refine ⟨c6, ?_⟩
    rw [← ey, ← e]
    exact q.2
  · intro q
    obtain ⟨t, s, _, _, _, _, _, ey⟩ := b_y ha hb h1 ho q.1
    refine ⟨g.mpr q.1, ?_⟩
    rw [e, ey]
    exact q.2
theorem r_build {S S' : XS} {M M' : MS} {a_ : Int32} {v v' : Option Value} (h : Rel S M) (hx : ((((¬ ((0 ≤ a_ ∧ a_ ≤ 3)) ∨ (¬ (S.1 (10 + a_.toNatClampNeg) = -1) ∧ ¬ (S.1 (20 + a_.toNatClampNeg)) ≤ 24)) ∧ v = some (.int (-2)) ∧ S' = S) ∨ (((0 ≤ a_ ∧ a_ ≤ 3)) ∧ (S.1 (10 + a_.toNatClampNeg) = -1) ∧ v = some (.int (-11)) ∧ S' = S) ∨ (((0 ≤ a_ ∧ a_ ≤ 3)) ∧ ¬ (S.1 (10 + a_.toNatClampNeg) = -1) ∧ (S.1 (20 + a_.toNatClampNeg)) ≤ 24 ∧ ¬ S.1 1 < 4 ∧ v = some (.int (-4)) ∧ S' = S) ∨ (((0 ≤ a_ ∧ a_ ≤ 3)) ∧ ¬ (S.1 (10 + a_.toNatClampNeg) = -1) ∧ (S.1 (20 + a_.toNatClampNeg)) ≤ 24 ∧ S.1 1 < 4 ∧ ∃ A B p q r s, leaX ((btL (S.2.2.1 (20 + a_.toNatClampNeg)) (S.1 (20 + a_.toNatClampNeg)).toNatClampNeg)).toInt (S.1 (20 + a_.toNatClampNeg)).toNatClampNeg A B ∧ smQ A ∧ smQ B ∧ bldX (xQ S A B p q r s) A B v S')))) (hm : (bldM M a_ v' M')) : v = v' ∧ Rel S' M' := by
  obtain ⟨N, hN, e1, e2, _⟩ := h.1
  have e4 : (S.1 1 < 4) ↔ ¬ M.1 0 = 4 := by
    rw [e1, e2, nI_s4 hN, show (4 : Int32) = nI 4 from rfl, nI_eq (by omega) (by decide)]
    omega
  unfold bldM at hm
  by_cases g : 0 ≤ a_ ∧ a_ ≤ 3
  · obtain ⟨j, n, ej, hj, hn, s1, s2, s3, s4, s5, s6⟩ := sheet_of h g
    rw [ej, s1, s3, nI_clamp (by omega), s6] at hx
    rw [ej, s2, nI_clamp (by omega)] at hm
    rcases hx with ⟨q, rfl, rfl⟩ | ⟨q1, q2, rfl, rfl⟩ | ⟨q1, q2, q3, q4, rfl, rfl⟩ | ⟨q1, q2, q3, q4, A, B, p, q, r, s, l, ha, hb, bx⟩
    · rcases hm with ⟨_, rfl, rfl⟩ | ⟨p1, p2, _⟩ | ⟨p1, p2, p3, _⟩ | ⟨p1, p2, p3, _⟩
      · exact ⟨rfl, h⟩
      · rcases q with q | q
        · exact absurd g q
        · exact absurd (s4.mp q.1) p2
      · rcases q with q | q
        · exact absurd g q
        · exact absurd p3 q.2
      · rcases q with q | q
        · exact absurd g q
        · exact absurd p3 q.2
    · rcases hm with ⟨p, _⟩ | ⟨p1, p2, rfl, rfl⟩ | ⟨p1, p2, p3, _⟩ | ⟨p1, p2, p3, _⟩
      · rcases p with p | p
        · exact absurd g p
        · exact absurd q2 (s4.mpr p.1)
      · exact ⟨rfl, h⟩
      · exact absurd q2 (s4.mpr p2)
      · exact absurd q2 (s4.mpr p2)
    · rcases hm with ⟨p, _⟩ | ⟨p1, p2, _⟩ | ⟨p1, p2, p3, p4, rfl, rfl⟩ | ⟨p1, p2, p3, p4, _⟩
      · rcases p with p | p
        · exact absurd g p
        · exact absurd q3 p.2
      · exact absurd (s4.mp q2) p2
      · exact ⟨rfl, h⟩
      · exact absurd (e4.mpr p4) q4
    · rcases hm with ⟨p, _⟩ | ⟨p1, p2, _⟩ | ⟨p1, p2, p3, p4, _⟩ | ⟨p1, p2, p3, p4, A', B', l', _, _, bm⟩
      · rcases p with p | p
        · exact absurd g p
        · exact absurd q3 p.2
      · exact absurd (s4.mp q2) p2
      · exact absurd p4 (e4.mp q4)
      · obtain ⟨rfl, rfl⟩ := leaX_uni l l'
        have h1 := leaX_pos l
        have ho := leaX_odd l
        have ok := bOK_iff ha hb h1 ho
        have h0 : Rel (xQ S A B p q r s) M := Rel_cor h (xCor_Q S A B p q r s) (mCor_rfl M)
        rcases bx with ⟨b1, rfl, rfl⟩ | ⟨b1, rfl, u, hu, rfl⟩
        · rcases bm with ⟨d1, rfl, d3⟩ | ⟨d1, _⟩
          · exact ⟨rfl, Rel_cor h0 (xCor_rfl _) d3⟩
          · exact absurd (ok.mpr d1) b1
        · rcases bm with ⟨d1, _⟩ | ⟨d1, rfl, d3⟩
          · exact absurd (ok.mp b1) d1
          · obtain ⟨ec, c1, c2, _⟩ := bfC_eq h1 hb
            obtain ⟨t, s9, hv, t1, t2, t3, t4, ey⟩ := b_y ha hb h1 ho d1.1
            obtain ⟨z, hz, eyz⟩ := y9 d1.2.1 d1.2.2
            have q4' : (xQ S A B p q r s).1 1 < 4 := q4
            have ecn : (nI (mbC B)).toNatClampNeg = mbC B := nI_clamp (by omega)
            rw [if_pos q4', if_pos q4']
            refine ⟨?_, Rel_cor ?_ (xCor_rfl _) d3⟩
            · show some (Value.int (S.1 1 + 1 - 1)) = _
              rw [e1, e2]
            · unfold bfN mbN
              rw [ec, ecn, ey, t1, t2, t3, t4, eyz]
              exact r_join (k := 0) h0 q4' hu ⟨hv.1, hv.2.1, hv.2.2.1, hv.2.2.2.1, hv.2.2.2.2.1, hv.2.2.2.2.2.1, hz⟩
  · rcases hx with ⟨_, rfl, rfl⟩ | ⟨q, _⟩ | ⟨q, _⟩ | ⟨q, _⟩
    · rcases hm with ⟨_, rfl, rfl⟩ | ⟨p, _⟩ | ⟨p, _⟩ | ⟨p, _⟩
      · exact ⟨rfl, h⟩
      · exact absurd p g
      · exact absurd p g
      · exact absurd p g
    · exact absurd q g
    · exact absurd q g
    · exact absurd q g
