/-! rows that are replayed -/
theorem ow_iff {M : MS} {j n : Nat} (hn : n ≤ 40) (s2 : M.2.2 33 j = nI n) (k c t s y : Int32) : owT (mRd M j) k c t s y < LN (mRd M j) ↔ ¬ ∀ i, i < n → (rn k c t i (s, y)).1 &&& 1 = M.2.2 34 (40 * j + i) &&& 1 := by
  have en : (nI n).toNatClampNeg = n := nI_clamp (by omega)
  have e3 : LN (mRd M j) = n := by
    show (M.2.2 33 j).toNatClampNeg = n
    rw [s2, en]
  have e4 : owT (mRd M j) k c t s y = fmis (rdI M j n) (fun i => (rn k c t i (s, y)).1 &&& 1) n 0 := by
    show fmis (rdI M j (M.2.2 33 j).toNatClampNeg) (fun i => (rn k c t i (s, y)).1 &&& 1) (M.2.2 33 j).toNatClampNeg 0 = _
    rw [s2, en]
  have q := fmis_iff (rdI M j n) (fun i => (rn k c t i (s, y)).1 &&& 1) n 0
  rw [Nat.zero_add] at q
  rw [e3, e4, q]
  refine not_congr ⟨fun w i hi => ?_, fun w i hi => ?_⟩
  · have := w i hi
    rw [Nat.zero_add, rdI_at, if_pos hi] at this
    exact this
  · rw [Nat.zero_add, rdI_at, if_pos hi]
    exact w i hi
theorem ow_tr {M : MS} {j n k c t s z : Nat} (hn : n ≤ 40) (s2 : M.2.2 33 j = nI n) (hv : vldN k c t s z) : trX (kc (nI k)) (gM (nI k) (nI c) (nI t) (nI s) (yz z)) (rwM M j n) n ↔ ¬ owT (mRd M j) (nI k) (nI c) (nI t) (nI s) (yz z) < LN (mRd M j) := by
  rw [ow_iff hn s2, Classical.not_not]
  constructor
  · intro w i hi
    have := w i hi
    rw [rn_adv hv, gM_3, lbt_bt _ hn hi] at this
    exact this
  · intro w i hi
    rw [rn_adv hv, gM_3, lbt_bt _ hn hi]
    exact w i hi
theorem fmis_d {f g : Nat → Int32} : ∀ k x, fmis f g k x < x + k → ∃ d, d < k ∧ fmis f g k x = x + d ∧ (∀ i, i < d → g (x + i) = f (x + i)) ∧ ¬ g (x + d) = f (x + d)
  | 0, x, h => absurd h (Nat.lt_irrefl _)
  | k + 1, x, h => by
    have e : fmis f g (k + 1) x = if g x = f x then fmis f g k (x + 1) else x := rfl
    rw [e] at h ⊢
    by_cases z : g x = f x
    · rw [if_pos z] at h ⊢
      obtain ⟨d, h1, h2, h3, h4⟩ := fmis_d (f := f) (g := g) k (x + 1) (by omega)
      refine ⟨d + 1, by omega, by omega, fun i hi => ?_, ?_⟩
      · rcases Nat.eq_zero_or_pos i with y | y
        · rw [y]; exact z
        · have := h3 (i - 1) (by omega)
          rw [show x + 1 + (i - 1) = x + i by omega] at this
          exact this
      · rw [show x + (d + 1) = x + 1 + d by omega]; exact h4
    · rw [if_neg z]
      exact ⟨0, by omega, rfl, fun i hi => absurd hi (Nat.not_lt_zero _), z⟩
/-! trailing zeroes -/
theorem nz_tb {N : Nat} : ∀ k, (∀ i, i < k → tb N i = 0) → N % 2 ^ k = 0
  | 0, _ => Nat.mod_one N
  | k + 1, h => by
    have a := nz_tb k (fun i hi => h i (by omega))
    have b : N / 2 ^ k % 2 = 0 := h k (by omega)
    rw [Nat.mod_pow_succ, a, b, Nat.mul_zero]
theorem ntz_dec {N k : Nat} (h : ∀ i, i < k → tb N i = 0) (h1 : tb N k = 1) : ∃ m, N = 2 ^ k * (2 * m + 1) := by
  have a := nz_tb k h
  have b : N / 2 ^ k % 2 = 1 := h1
  refine ⟨N / 2 ^ k / 2, ?_⟩
  have c := Nat.div_add_mod N (2 ^ k)
  rw [a, Nat.add_zero] at c
  have d : 2 * (N / 2 ^ k / 2) + 1 = N / 2 ^ k := by omega
  rw [d, c]
theorem ntz_b {k m i : Nat} : (((2 ^ k * (2 * m + 1)).testBit i ^^ true) && (2 ^ k * (2 * m + 1) - 1).testBit i) = decide (i < k) := by
  have p : 0 < 2 ^ k := Nat.two_pow_pos k
  have e : 2 ^ k * (2 * m + 1) - 1 = 2 ^ k * (2 * m) + (2 ^ k - 1) := by
    rw [Nat.mul_add, Nat.mul_one]; omega
  rw [e, Nat.testBit_two_pow_mul_add _ (by omega), Nat.testBit_two_pow_mul]
  by_cases z : i < k
  · rw [if_pos z, Nat.testBit_two_pow_sub_one, decide_eq_true z]
    have : decide (i ≥ k) = false := decide_eq_false (by omega)
    rw [this]; rfl
  · rw [if_neg z, decide_eq_false z]
    have : decide (i ≥ k) = true := decide_eq_true (by omega)
    rw [this, Bool.true_and]
    cases i - k with
    | zero =>
      have a : (2 * m + 1).testBit 0 = true := by rw [Nat.testBit_zero]; exact decide_eq_true (by omega)
      rw [a]; rfl
    | succ j =>
      rw [Nat.testBit_succ, Nat.testBit_succ, show (2 * m + 1) / 2 = m by omega, show 2 * m / 2 = m by omega]
      cases m.testBit j <;> rfl
theorem tz0_m : ∀ k, k < 32 → tz0 (nI (2 ^ k - 1)) = nI k := by decide +kernel
theorem ntzI_N {k m : Nat} (hk : k < 32) : ntzI (nI (2 ^ k * (2 * m + 1))) = nI k := by
  have p : 0 < 2 ^ k := Nat.two_pow_pos k
  have q : 0 < 2 ^ k * (2 * m + 1) := Nat.mul_pos p (by omega)
  unfold ntzI
  have e1 : nI (2 ^ k * (2 * m + 1)) - 1 = nI (2 ^ k * (2 * m + 1) - 1) := by
    obtain ⟨N, eN⟩ : ∃ N, 2 ^ k * (2 * m + 1) = N + 1 := ⟨2 ^ k * (2 * m + 1) - 1, by omega⟩
    rw [eN, nI_pred, Nat.add_sub_cancel]
  have e2 : ((nI (2 ^ k * (2 * m + 1)) ^^^ (-1)) &&& (nI (2 ^ k * (2 * m + 1)) - 1)) = nI (2 ^ k - 1) := by
    rw [e1]
    apply Int32.toBitVec_inj.mp
    show (BitVec.ofNat 32 (2 ^ k * (2 * m + 1)) ^^^ BitVec.allOnes 32) &&& BitVec.ofNat 32 (2 ^ k * (2 * m + 1) - 1) = BitVec.ofNat 32 (2 ^ k - 1)
    apply BitVec.eq_of_getLsbD_eq
    intro i hi
    rw [BitVec.getLsbD_and, BitVec.getLsbD_xor, BitVec.getLsbD_ofNat, BitVec.getLsbD_ofNat, BitVec.getLsbD_ofNat, BitVec.getLsbD_allOnes, decide_eq_true hi, Bool.true_and, Bool.true_and, Bool.true_and, ntz_b, Nat.testBit_two_pow_sub_one]
  rw [e2]
  exact tz0_m k hk
theorem ntzL_N {k m : Nat} (hk : k < 40) (h : 2 ^ k * (2 * m + 1) < 2 ^ 62) : ntzL (lN (2 ^ k * (2 * m + 1))) = nI k := by
  unfold ntzL
  have e : us64 (lN (2 ^ k * (2 * m + 1))) 32 = lN (2 ^ k * (2 * m + 1) / 2 ^ 32) := us_N (by omega) (by decide)
  rw [e, lN_i2, lN_i2]
  have z0 : ∀ N, nI N = 0 ↔ N % 2 ^ 32 = 0 := fun N => by
    constructor
    · intro z
      have : (BitVec.ofNat 32 N).toNat = 0 := congrArg (fun x : Int32 => x.toBitVec.toNat) z
      rw [BitVec.toNat_ofNat] at this
      exact this
    · intro z
      apply Int32.toBitVec_inj.mp
      apply BitVec.eq_of_toNat_eq
      show (BitVec.ofNat 32 N).toNat = 0
      rw [BitVec.toNat_ofNat]; exact z
  by_cases c : k < 32
  · have nz : ¬ nI (2 ^ k * (2 * m + 1)) = 0 := by
      rw [z0]
      intro z
      have d : 2 ^ 32 ∣ 2 ^ k * (2 * m + 1) := Nat.dvd_of_mod_eq_zero z
      rw [show 2 ^ 32 = 2 ^ k * 2 ^ (32 - k) by rw [← Nat.pow_add]; congr 1; omega] at d
      have d2 := Nat.dvd_of_mul_dvd_mul_left (Nat.two_pow_pos k) d
      rw [show 2 ^ (32 - k) = 2 * 2 ^ (31 - k) by rw [Nat.mul_comm, ← Nat.pow_succ]; congr 1; omega] at d2
      have d3 : 2 ∣ 2 * m + 1 := Nat.dvd_trans ⟨_, rfl⟩ d2
      omega
    rw [if_neg nz, ntzI_N c]
  · have e3 : 2 ^ k * (2 * m + 1) = 2 ^ 32 * (2 ^ (k - 32) * (2 * m + 1)) := by
      rw [← Nat.mul_assoc, ← Nat.pow_add]; congr 2; omega
    rw [if_pos ((z0 _).mpr (by rw [e3]; exact Nat.mul_mod_right _ _)), e3, Nat.mul_div_cancel_left _ (by decide), ntzI_N (by omega)]
    rw [show (32 : Int32) = nI 32 from rfl, nI_add, show 32 + (k - 32) = k by omega]
theorem lN_inj {a b : Nat} (ha : a < 2 ^ 64) (hb : b < 2 ^ 64) : lN a = lN b ↔ a = b := by
  constructor
  · intro h
    have := congrArg (fun x : Int64 => x.toBitVec.toNat) h
    rw [wb_tn ha, wb_tn hb] at this
    exact this
  · intro h; rw [h]
theorem fo_eq {F G : Nat → Int32} {n : Nat} (hn : n ≤ 40) : (if btL F n ^^^ btL G n = 0 then -1 else ntzL (btL F n ^^^ btL G n)) = if fmis (fun i => G i &&& 1) (fun i => F i &&& 1) n 0 < n then nI (fmis (fun i => G i &&& 1) (fun i => F i &&& 1) n 0) else -1 := by
  have eF : btL F n = lN (rwX F n) := btL_N _ (by omega)
  have eG : btL G n = lN (rwX G n) := btL_N _ (by omega)
  have lF := rwX_lt F hn
  have lG := rwX_lt G hn
  have lx : rwX F n ^^^ rwX G n < 2 ^ 40 := Nat.xor_lt_two_pow lF lG
  have zi := fmis_iff (fun i => G i &&& 1) (fun i => F i &&& 1) n 0
  rw [Nat.zero_add] at zi
  by_cases c : fmis (fun i => G i &&& 1) (fun i => F i &&& 1) n 0 < n
  · obtain ⟨d, h1, h2, h3, h4⟩ := fmis_d (f := fun i => G i &&& 1) (g := fun i => F i &&& 1) n 0 (by omega)
    rw [if_pos c, h2, Nat.zero_add]
    have b3 : ∀ i, i < d → tb (rwX F n ^^^ rwX G n) i = 0 := fun i hi => by
      have q := h3 i hi
      rw [Nat.zero_add, rwX_at F (n := n) (by omega), rwX_at G (n := n) (by omega)] at q
      have l1 := tb_lt (rwX F n) i
      have l2 := tb_lt (rwX G n) i
      have := (nI_eq (by omega) (by omega)).mp q
      rw [tb_xor]; omega
    have b4 : tb (rwX F n ^^^ rwX G n) d = 1 := by
      have q := h4
      rw [Nat.zero_add, rwX_at F (n := n) (by omega), rwX_at G (n := n) (by omega)] at q
      have l1 := tb_lt (rwX F n) d
      have l2 := tb_lt (rwX G n) d
      rw [nI_eq (by omega) (by omega)] at q
      rw [tb_xor]; omega
    obtain ⟨m, em⟩ := ntz_dec b3 b4
    rw [eF, eG, lN_xr]
    have nz : ¬ lN (rwX F n ^^^ rwX G n) = 0 := by
      rw [show (0 : Int64) = lN 0 from rfl, lN_inj (by omega) (by decide)]
      intro z
      rw [z] at b4
      unfold tb at b4
      rw [Nat.zero_div] at b4
      exact absurd b4 (by decide)
    rw [if_neg nz, em]
    exact ntzL_N (by omega) (by rw [← em]; omega)
  · have al := Classical.byContradiction (fun q => c (zi.mpr q))
    have e : btL F n = btL G n := (btL_inj hn).mpr (fun i hi => by have := al i hi; rw [Nat.zero_add] at this; exact this)
    have e0 : btL F n ^^^ btL G n = 0 := by rw [e, Int64.xor_self]
    rw [if_pos e0, if_neg c]
theorem fmis_cg {f f' g g' : Nat → Int32} : ∀ k x, (∀ i, i < k → f (x + i) = f' (x + i) ∧ g (x + i) = g' (x + i)) → fmis f g k x = fmis f' g' k x
  | 0, _, _ => rfl
  | k + 1, x, h => by
    show (if g x = f x then fmis f g k (x + 1) else x) = if g' x = f' x then fmis f' g' k (x + 1) else x
    obtain ⟨a, b⟩ := h 0 (by omega)
    rw [Nat.add_zero] at a b
    rw [a, b, fmis_cg k (x + 1) (fun i hi => by rw [show x + 1 + i = x + (i + 1) by omega]; exact h (i + 1) (by omega))]
theorem r_replays {S S' : XS} {M M' : MS} {m_ b_ w_ : Int32} {v v' : Option Value} (h : Rel S M) (hx : (v = some (.int (if ((0 ≤ m_ ∧ m_ < S.1 1) ∧ (0 ≤ b_ ∧ b_ ≤ 3) ∧ (0 ≤ w_ ∧ w_ ≤ 2)) then (if (S.1 (10 + b_.toNatClampNeg) = -1) then -11 else if w_ = 0 then foX S (xAd S m_) (btL (S.2.2.1 (20 + b_.toNatClampNeg)) (S.1 (20 + b_.toNatClampNeg)).toNatClampNeg) (S.1 (20 + b_.toNatClampNeg)).toNatClampNeg else if w_ = 1 then rkX S (xAd S m_) (btL (S.2.2.1 (20 + b_.toNatClampNeg)) (S.1 (20 + b_.toNatClampNeg)).toNatClampNeg) (S.1 (20 + b_.toNatClampNeg)).toNatClampNeg 6 else rcX S (xAd S m_) (btL (S.2.2.1 (20 + b_.toNatClampNeg)) (S.1 (20 + b_.toNatClampNeg)).toNatClampNeg) (S.1 (20 + b_.toNatClampNeg)).toNatClampNeg 19) else -2)) ∧ xCor S S')) (hm : (v' = some (.int (if ((0 ≤ m_ ∧ m_ ≤ M.1 0 - 1) ∧ (0 ≤ b_ ∧ b_ ≤ 3) ∧ (0 ≤ w_ ∧ w_ ≤ 2)) then (if 0 ≤ M.2.2 32 b_.toNatClampNeg then rpR M (mRd M b_.toNatClampNeg) m_.toNatClampNeg w_ else -11) else -2)) ∧ mCor M M')) : v = v' ∧ Rel S' M' := by
  refine ⟨?_, Rel_cor h hx.2 hm.2⟩
  rw [hx.1, hm.1]
  refine congrArg (fun x => some (Value.int x)) (ite_c ⟨fun q => ⟨(grd h m_).mp q.1, q.2⟩, fun q => ⟨(grd h m_).mpr q.1, q.2⟩⟩ (fun g => ?_) (fun _ => rfl))
  obtain ⟨N, j, hN, _, e1, e2, _, ec, _, _, _, k, c, t, s, z, hv, q1, q2, q3, q4, q5, q6⟩ := rel_at h ((grd h m_).mpr g.1)
  obtain ⟨b, n, ej, hj, hn, s1, s2, s3, s4, s5, s6⟩ := sheet_of h g.2.1
  rw [ej, s1, s3, nI_clamp (by omega), s6, ec]
  by_cases ms : M.2.2 32 b = -1
  · rw [if_pos ms, if_neg (fun q => s4.mpr q ms)]
  · rw [if_neg ms, if_pos (s4.mp ms)]
    have f0 : mfo S (xAd S m_) 0 = nI k := (gT_eq hv.1 q6).2
    have f1 : mfo S (xAd S m_) 1 = nI c := by rw [q6]; rfl
    have f2 : mfo S (xAd S m_) 2 = nI t := by rw [q6]; rfl
    have f3 : mfo S (xAd S m_) 3 = nI s := by rw [q6]; rfl
    have f4 : mfo S (xAd S m_) 4 = yz z := by rw [q6]; rfl
    unfold rpR
    refine ite_c Iff.rfl (fun _ => ?_) (fun _ => ite_c Iff.rfl (fun _ => ?_) (fun _ => ?_))
    · unfold foX
      rw [tell_eq hv q1 q2 q3 q4 q5 q6, fo_eq hn]
      have en : (nI n).toNatClampNeg = n := nI_clamp (by omega)
      have e3 : LN (mRd M b) = n := by
        show (M.2.2 33 b).toNatClampNeg = n
        rw [s2, en]
      have e4 : owT (mRd M b) (M.2.2 1 j) (M.2.2 2 j) (M.2.2 3 j) (M.2.2 4 j) (M.2.2 5 j) = fmis (fun i => M.2.2 34 (40 * b + i) &&& 1) (fun i => (mRn M j i).1 &&& 1) n 0 := by
        show fmis (rdI M b (M.2.2 33 b).toNatClampNeg) (fun i => (mRn M j i).1 &&& 1) (M.2.2 33 b).toNatClampNeg 0 = _
        rw [s2, en]
        exact fmis_cg n 0 (fun i hi => ⟨by rw [Nat.zero_add, rdI_at, if_pos hi], rfl⟩)
      rw [e3, e4]
    · unfold rkX rpK
      rw [f1, f2, f3, f4, q2, q3, q4, q5]
      refine it_cg (fun i hi => funext fun u => ?_) _
      have o := ow_tr (k := i) hn s2 ⟨by omega, hv.2⟩
      by_cases y : owT (mRd M b) (nI i) (nI c) (nI t) (nI s) (yz z) < LN (mRd M b)
      · rw [if_pos y, if_neg (fun q => o.mp q y)]
      · rw [if_neg y, if_pos (o.mpr y)]
    · unfold rcX rpC
      rw [f0, f1, f2, f3, q1, q2, q3, q4]
      refine it_cg (fun i hi => funext fun u => ?_) _
      have o := ow_tr (z := i) hn s2 ⟨hv.1, hv.2.1, hv.2.2.1, hv.2.2.2.1, hv.2.2.2.2.1, hv.2.2.2.2.2.1, by omega⟩
      have o : trX (kc (nI k)) (gM (nI k) (nI c) (nI t) (nI s) (nI i - 9)) (rwM M b n) n ↔ ¬ owT (mRd M b) (nI k) (nI c) (nI t) (nI s) (nI i - 9) < LN (mRd M b) := o
      by_cases y : owT (mRd M b) (nI k) (nI c) (nI t) (nI s) (nI i - 9) < LN (mRd M b)
      · rw [if_pos y, if_neg (fun q => o.mp q y)]
      · rw [if_neg y, if_pos (o.mpr y)]
/-! the search -/
theorem adv_5 (c n : Nat) (g : Nat → Int32) (x : Int32) : advN c n (upd g 5 x) = upd (advN c n g) 5 x := by
  induction n with
  | zero => rfl
  | succ n ih =>
    show adv c (advN c n (upd g 5 x)) = upd (adv c (advN c n g)) 5 x
    rw [ih]
    funext j
    show (if j = 4 then aY c (advN c n g) else if j = 3 then aS c (advN c n g) else if j = 5 then x else advN c n g j) = if j = 5 then x else if j = 4 then aY c (advN c n g) else if j = 3 then aS c (advN c n g) else advN c n g j
    repeat' split
    all_goals first | rfl | omega
theorem gR_5 (k c s t y : Int32) : gR k c s t y = upd (gM k c t s y) 5 (kd k 1) := by
  funext j
  unfold gR gM gG
  simp only [upd]
  repeat' split
  all_goals first | rfl | omega
theorem ff_cg {P Q : Nat → Bool} : ∀ g j, (∀ i, i < j + g → P i = Q i) → ff P g j = ff Q g j
  | 0, _, _ => rfl
  | g + 1, j, h => by
    show (if P j then some j else ff P g (j + 1)) = if Q j then some j else ff Q g (j + 1)
    rw [h j (by omega), ff_cg g (j + 1) (fun i hi => h i (by omega))]
theorem fO_cg {P : Nat → Nat → Bool} {T : MS} {k c f : Int32} {m : Nat} (h : ∀ t, 1 ≤ t → t < m → ∀ j, j < 19 → P t j = srP T k c f t j) : ∀ g t, 1 ≤ t → t + g ≤ m → fO P g t = srO T k c f g t
  | 0, _, _, _ => rfl
  | g + 1, t, h1, h2 => by
    have e : ff (P t) 19 0 = srI T k c f t := ff_cg 19 0 (fun i hi => h t h1 (by omega) i (by omega))
    have ih := fO_cg h g (t + 1) (by omega) (by omega)
    cases q : srI T k c f t with
    | none => rw [srO_n q, fO_n (e.trans q)]; exact ih
    | some jc => rw [srO_s q, fO_s (e.trans q)]
theorem sr_m : ∀ c, c < 7 → 1 ≤ c → (1 <<< (nI c &&& 31) - 1 : Int32).toNatClampNeg = 2 ^ c - 1 ∧ (1 <<< (nI c &&& 31) : Int32).toNatClampNeg - 1 = 2 ^ c - 1 := by decide +kernel
theorem r_search {S S' : XS} {M M' : MS} {a_ k_ c_ : Int32} {v v' : Option Value} (h : Rel S M) (hx : (v = some (.int (if ((0 ≤ a_ ∧ a_ ≤ 3) ∧ (0 ≤ k_ ∧ k_ ≤ 5) ∧ (1 ≤ c_ ∧ c_ ≤ 6)) then (if (S.1 (10 + a_.toNatClampNeg) = -1) then -11 else if c_ ≤ S.1 (20 + a_.toNatClampNeg) then fO (fsP (btL (S.2.2.1 (20 + a_.toNatClampNeg)) (S.1 (20 + a_.toNatClampNeg)).toNatClampNeg) (S.1 (20 + a_.toNatClampNeg)).toNatClampNeg k_ c_ (((btL (S.2.2.1 (20 + a_.toNatClampNeg)) (S.1 (20 + a_.toNatClampNeg)).toNatClampNeg) &&& Int32.toInt64 (1 <<< (c_ &&& 31) - 1)).toInt32)) (1 <<< (c_ &&& 31) - 1 : Int32).toNatClampNeg 1 else -3) else -2)) ∧ xCor S S')) (hm : (v' = some (.int (if ((0 ≤ a_ ∧ a_ ≤ 3) ∧ (0 ≤ k_ ∧ k_ ≤ 5) ∧ (1 ≤ c_ ∧ c_ ≤ 6)) then (if 0 ≤ M.2.2 32 a_.toNatClampNeg then (if c_ ≤ M.2.2 33 a_.toNatClampNeg then srO (mRd M a_.toNatClampNeg) k_ c_ (wdA (rdI M a_.toNatClampNeg (M.2.2 33 a_.toNatClampNeg).toNatClampNeg) 0 c_.toNatClampNeg) ((1 <<< (c_ &&& 31) : Int32).toNatClampNeg - 1) 1 else -3) else -11) else -2)) ∧ mCor M M')) : v = v' ∧ Rel S' M' := by
  refine ⟨?_, Rel_cor h hx.2 hm.2⟩
  rw [hx.1, hm.1]
  refine congrArg (fun x => some (Value.int x)) (ite_c Iff.rfl (fun g => ?_) (fun _ => rfl))
  obtain ⟨b, n, ej, hj, hn, s1, s2, s3, s4, s5, s6⟩ := sheet_of h g.1
  obtain ⟨k, rfl, _, hk⟩ := nI_rng (a := 0) (b := 5) (by decide) g.2.1.1 g.2.1.2 (by decide)
  obtain ⟨c, rfl, c1, hc⟩ := nI_rng (a := 1) (b := 6) (by decide) g.2.2.1 g.2.2.2 (by decide)
  have en : (nI n).toNatClampNeg = n := nI_clamp (by omega)
  have ecn : (nI c).toNatClampNeg = c := nI_clamp (by omega)
  rw [ej, s1, s3, s2, en, s6, ecn]
  by_cases ms : M.2.2 32 b = -1
  · rw [if_pos ms, if_neg (fun q => s4.mpr q ms)]
  · rw [if_neg ms, if_pos (s4.mp ms)]
    refine ite_c Iff.rfl (fun lc => ?_) (fun _ => rfl)
    have hcn : c ≤ n := (nI_leI (by omega) (by omega)).mp lc
    have hX := rwX_lt (fun i => M.2.2 34 (40 * b + i)) hn
    have es : (rwM M b n &&& Int32.toInt64 (1 <<< (nI c &&& 31) - 1)).toInt32 = nI (wN (rwX (fun i => M.2.2 34 (40 * b + i)) n) 0 c) := by
      rw [show rwM M b n = lN (rwX (fun i => M.2.2 34 (40 * b + i)) n) from btL_N _ (by omega), wm_N c (by omega), wb_mask (by omega) (by omega), lN_i2]
      show _ = nI (rwX (fun i => M.2.2 34 (40 * b + i)) n / 2 ^ 0 % 2 ^ c)
      rw [Nat.pow_zero, Nat.div_one]
    have ef : wdA (rdI M b n) 0 c = nI (wN (rwX (fun i => M.2.2 34 (40 * b + i)) n) 0 c) := wdA_N c (by omega) (fun i hi => by
      rw [rdI_at, if_pos (by omega)]
      exact rwX_at (fun i => M.2.2 34 (40 * b + i)) (by omega))
    have ls : wN (rwX (fun i => M.2.2 34 (40 * b + i)) n) 0 c < 2 ^ c := Nat.mod_lt _ (Nat.two_pow_pos c)
    rw [es, ef, (sr_m c (by omega) c1).1, (sr_m c (by omega) c1).2]
    refine fO_cg (m := 2 ^ c) (fun t t1 t2 j hj => ?_) _ 1 (Nat.le_refl _) (by have := Nat.two_pow_pos c; omega)
    unfold fsP srP
    have o := ow_tr (k := k) (c := c) (t := t) (s := wN (rwX (fun i => M.2.2 34 (40 * b + i)) n) 0 c) (z := j) hn s2 ⟨hk, c1, hc, t1, t2, ls, by omega⟩
    have o2 : trX (kc (nI k)) (gR (nI k) (nI c) (nI (wN (rwX (fun i => M.2.2 34 (40 * b + i)) n) 0 c)) (nI t) (nI j - 9)) (rwM M b n) n ↔ ¬ owT (mRd M b) (nI k) (nI c) (nI t) (nI (wN (rwX (fun i => M.2.2 34 (40 * b + i)) n) 0 c)) (nI j - 9) < LN (mRd M b) := by
      rw [gR_5]
      refine Iff.trans ⟨fun w i hi => ?_, fun w i hi => ?_⟩ o
      · have := w i hi
        rw [adv_5] at this
        exact this
      · rw [adv_5]
        exact w i hi
    by_cases y : owT (mRd M b) (nI k) (nI c) (nI t) (nI (wN (rwX (fun i => M.2.2 34 (40 * b + i)) n) 0 c)) (nI j - 9) < LN (mRd M b)
    · rw [decide_eq_true y, decide_eq_false (fun q => o2.mp q y)]; rfl
    · rw [decide_eq_false y, decide_eq_true (o2.mpr y)]; rfl
