theorem ite_c {α : Type} {P Q : Prop} [Decidable P] [Decidable Q] {x y x' y' : α} (h : P ↔ Q) (h1 : Q → x = x') (h2 : ¬ Q → y = y') : (if P then x else y) = if Q then x' else y' := by
  by_cases q : Q
  · rw [if_pos q, if_pos (h.mpr q)]; exact h1 q
  · rw [if_neg q, if_neg (fun z => q (h.mp z))]; exact h2 q
theorem Rel_ite {P Q : Prop} [Decidable P] [Decidable Q] {x y : XS} {x' y' : MS} (h : P ↔ Q) (h1 : Q → Rel x x') (h2 : ¬ Q → Rel y y') : Rel (if P then x else y) (if Q then x' else y') := by
  by_cases q : Q
  · rw [if_pos q, if_pos (h.mpr q)]; exact h1 q
  · rw [if_neg q, if_neg (fun z => q (h.mp z))]; exact h2 q
theorem sh_lt {a : Int32} (h : 0 ≤ a ∧ a ≤ 3) : a.toNatClampNeg < 4 := by
  obtain ⟨j, _, e, hj⟩ := sh4 h
  rw [e]; exact hj
theorem so_m {x : Int32} (h : x = -1 ∨ x = 0 ∨ x = 1) : (¬ x = -1 ↔ 0 ≤ x) ∧ (¬ x = -1 ↔ ¬ x < 0) := by
  rcases h with rfl | rfl | rfl <;> decide
theorem sub_le {m : Nat} {i n : Int32} (hm : m ≤ 40) (h : ¬ i < 0 ∧ ¬ n < 0 ∧ ¬ nI m - n < i) : i.toNatClampNeg + n.toNatClampNeg ≤ m := by
  obtain ⟨h1, h2, h3⟩ := h
  obtain ⟨x, hx, rfl⟩ := nI_of h1
  obtain ⟨y, hy, rfl⟩ := nI_of h2
  rw [nI_clamp hx, nI_clamp hy]
  have h3 := Int32.le_iff_toInt_le.mp (Int32.not_lt.mp h3)
  rw [nI_toInt hx, Int32.toInt_sub, nI_toInt (by omega), nI_toInt hy, Int.bmod_eq_of_le (by omega) (by omega)] at h3
  omega
theorem r_copy {S : XS} {M : MS} (h : Rel S M) (a_ i_ b_ j_ n_ : Int32) : (if ((0 ≤ a_ ∧ a_ ≤ 3) ∧ (0 ≤ b_ ∧ b_ ≤ 3)) then (if (¬ S.1 (10 + a_.toNatClampNeg) = -1 ∧ ¬ S.1 (10 + b_.toNatClampNeg) = -1) then (if (S.1 (10 + a_.toNatClampNeg) = S.1 (10 + b_.toNatClampNeg)) then (if ((¬ lg_cmp (Int32.toInt64 i_) 0 < 0 ∧ ¬ lg_cmp (Int32.toInt64 n_) 0 < 0 ∧ ¬ 0 < lg_cmp (Int32.toInt64 i_ + Int32.toInt64 n_) (Int32.toInt64 (S.1 (20 + a_.toNatClampNeg))) ∧ ¬ 40 < S.1 (20 + a_.toNatClampNeg)) ∧ (¬ lg_cmp (Int32.toInt64 j_) 0 < 0 ∧ ¬ lg_cmp (Int32.toInt64 n_) 0 < 0 ∧ ¬ 0 < lg_cmp (Int32.toInt64 j_ + Int32.toInt64 n_) (Int32.toInt64 (S.1 (20 + b_.toNatClampNeg))) ∧ ¬ 40 < S.1 (20 + b_.toNatClampNeg))) then n_ else -12) else -13) else -11) else -2) = (if ((0 ≤ a_ ∧ a_ ≤ 3) ∧ (0 ≤ b_ ∧ b_ ≤ 3)) then (if (¬ M.2.2 32 a_.toNatClampNeg < 0 ∧ 0 ≤ M.2.2 32 b_.toNatClampNeg) then (if M.2.2 32 a_.toNatClampNeg = M.2.2 32 b_.toNatClampNeg then (if ((¬ i_ < 0 ∧ ¬ n_ < 0 ∧ ¬ M.2.2 33 a_.toNatClampNeg - n_ < i_) ∧ (¬ j_ < 0 ∧ ¬ n_ < 0 ∧ ¬ M.2.2 33 b_.toNatClampNeg - n_ < j_)) then n_ else -12) else -13) else -11) else -2) ∧ Rel (if ((0 ≤ a_ ∧ a_ ≤ 3) ∧ (0 ≤ b_ ∧ b_ ≤ 3)) ∧ (¬ S.1 (10 + a_.toNatClampNeg) = -1 ∧ ¬ S.1 (10 + b_.toNatClampNeg) = -1) ∧ (S.1 (10 + a_.toNatClampNeg) = S.1 (10 + b_.toNatClampNeg)) ∧ ((¬ lg_cmp (Int32.toInt64 i_) 0 < 0 ∧ ¬ lg_cmp (Int32.toInt64 n_) 0 < 0 ∧ ¬ 0 < lg_cmp (Int32.toInt64 i_ + Int32.toInt64 n_) (Int32.toInt64 (S.1 (20 + a_.toNatClampNeg))) ∧ ¬ 40 < S.1 (20 + a_.toNatClampNeg)) ∧ (¬ lg_cmp (Int32.toInt64 j_) 0 < 0 ∧ ¬ lg_cmp (Int32.toInt64 n_) 0 < 0 ∧ ¬ 0 < lg_cmp (Int32.toInt64 j_ + Int32.toInt64 n_) (Int32.toInt64 (S.1 (20 + b_.toNatClampNeg))) ∧ ¬ 40 < S.1 (20 + b_.toNatClampNeg))) then xA S (20 + b_.toNatClampNeg) (va_cpy (S.2.2.1 (20 + a_.toNatClampNeg)) (S.2.2.1 (20 + b_.toNatClampNeg)) i_.toNatClampNeg j_.toNatClampNeg n_.toNatClampNeg) else S) (if ((0 ≤ a_ ∧ a_ ≤ 3) ∧ (0 ≤ b_ ∧ b_ ≤ 3)) ∧ (¬ M.2.2 32 a_.toNatClampNeg < 0 ∧ 0 ≤ M.2.2 32 b_.toNatClampNeg) ∧ M.2.2 32 a_.toNatClampNeg = M.2.2 32 b_.toNatClampNeg ∧ ((¬ i_ < 0 ∧ ¬ n_ < 0 ∧ ¬ M.2.2 33 a_.toNatClampNeg - n_ < i_) ∧ (¬ j_ < 0 ∧ ¬ n_ < 0 ∧ ¬ M.2.2 33 b_.toNatClampNeg - n_ < j_)) then mA M 34 (va_cpy (M.2.2 34) (M.2.2 34) (40 * a_.toNatClampNeg + i_.toNatClampNeg) (40 * b_.toNatClampNeg + j_.toNatClampNeg) n_.toNatClampNeg) else M) := by
  have hs : ((0 ≤ a_ ∧ a_ ≤ 3) ∧ (0 ≤ b_ ∧ b_ ≤ 3)) → ((¬ S.1 (10 + a_.toNatClampNeg) = -1 ∧ ¬ S.1 (10 + b_.toNatClampNeg) = -1) ↔ (¬ M.2.2 32 a_.toNatClampNeg < 0 ∧ 0 ≤ M.2.2 32 b_.toNatClampNeg)) ∧ (S.1 (10 + a_.toNatClampNeg) = S.1 (10 + b_.toNatClampNeg) ↔ M.2.2 32 a_.toNatClampNeg = M.2.2 32 b_.toNatClampNeg) ∧ (((¬ lg_cmp (Int32.toInt64 i_) 0 < 0 ∧ ¬ lg_cmp (Int32.toInt64 n_) 0 < 0 ∧ ¬ 0 < lg_cmp (Int32.toInt64 i_ + Int32.toInt64 n_) (Int32.toInt64 (S.1 (20 + a_.toNatClampNeg))) ∧ ¬ 40 < S.1 (20 + a_.toNatClampNeg)) ∧ (¬ lg_cmp (Int32.toInt64 j_) 0 < 0 ∧ ¬ lg_cmp (Int32.toInt64 n_) 0 < 0 ∧ ¬ 0 < lg_cmp (Int32.toInt64 j_ + Int32.toInt64 n_) (Int32.toInt64 (S.1 (20 + b_.toNatClampNeg))) ∧ ¬ 40 < S.1 (20 + b_.toNatClampNeg))) ↔ ((¬ i_ < 0 ∧ ¬ n_ < 0 ∧ ¬ M.2.2 33 a_.toNatClampNeg - n_ < i_) ∧ (¬ j_ < 0 ∧ ¬ n_ < 0 ∧ ¬ M.2.2 33 b_.toNatClampNeg - n_ < j_))) := by
    intro g
    obtain ⟨a1, a2, a3, ⟨m, hm, a4⟩, _⟩ := h.2.2.1 _ (sh_lt g.1)
    obtain ⟨b1, b2, b3, ⟨m', hm', b4⟩, _⟩ := h.2.2.1 _ (sh_lt g.2)
    rw [a1, b1, a2, b2, a4, b4, has_n hm, has_n hm', (so_m a3).2, (so_m b3).1]
    exact ⟨Iff.rfl, Iff.rfl, Iff.rfl⟩
  refine ⟨ite_c Iff.rfl (fun g => ite_c (hs g).1 (fun _ => ite_c (hs g).2.1 (fun _ => ite_c (hs g).2.2 (fun _ => rfl) (fun _ => rfl)) (fun _ => rfl)) (fun _ => rfl)) (fun _ => rfl), Rel_ite ⟨fun q => ⟨q.1, (hs q.1).1.mp q.2.1, (hs q.1).2.1.mp q.2.2.1, (hs q.1).2.2.mp q.2.2.2⟩, fun q => ⟨q.1, (hs q.1).1.mpr q.2.1, (hs q.1).2.1.mpr q.2.2.1, (hs q.1).2.2.mpr q.2.2.2⟩⟩ (fun q => ?_) (fun _ => h)⟩
  obtain ⟨g, _, _, qa, qb⟩ := q
  obtain ⟨a1, a2, a3, ⟨m, hm, a4⟩, a5⟩ := h.2.2.1 _ (sh_lt g.1)
  obtain ⟨b1, b2, b3, ⟨m', hm', b4⟩, b5⟩ := h.2.2.1 _ (sh_lt g.2)
  rw [a4] at qa
  rw [b4] at qb
  have la := sub_le hm qa
  have lb := sub_le hm' qb
  refine RS_it h (sh_lt g.2) (fun k hk => ?_) (fun b' hb ne k hk => ?_)
  · unfold va_cpy
    refine ite_c ⟨fun q => ⟨by omega, by omega⟩, fun q => ⟨by omega, by omega⟩⟩ (fun q => ?_) (fun _ => b5 k hk)
    rw [a5 _ (by omega)]
    exact congrArg (M.2.2 34) (by omega)
  · unfold va_cpy
    have := sh_lt g.2
    rw [if_neg (by omega)]
