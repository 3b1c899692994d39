theorem tw_nat : Cond.native arraycopyName ∈ uw := tu tw_856 rfl
theorem Mcpy_16_18 {Z : VZ} {cc : ByteArray} {nL : Nat} {ret : Option FieldType} {d mc ms : Nat} {B : VB MS} {n k pc : Nat} {L : List (Nat × Value)} {st : List Value} {S : MS} {sp dp u : Int32} (hd : decode cc pc = .ok (.invokestatic 223, 3)) (h1 : ¬ sp < 0) (h2 : ¬ dp < 0) (h3 : ¬ u < 0) (h4 : sp.toNatClampNeg + u.toNatClampNeg ≤ 41) (h5 : dp.toNatClampNeg + u.toNatClampNeg ≤ 41) (hd1 : 1 ≤ d) (hrm : (st.map fun v => v.category).sum + (nativeFrameWords "java/lang/System" "arraycopy" 5 + 11) ≤ 100 * d) (kk : V MW Z cc RX11 nL ret d mc ms B n k (pc + 3) L st (S.1, S.2.1, va_up S.2.2 18 (va_cpy (S.2.2 16) (S.2.2 18) sp.toNatClampNeg dp.toNatClampNeg u.toNatClampNeg))) : V MW Z cc RX11 nL ret d mc ms B n k pc L (.int u :: .int dp :: .ref (Z.2.2.2 18) :: .int sp :: .ref (Z.2.2.2 16) :: st) S := by
  intro p e s m args below meth c S0 po hB hk H locs ls hP hD hS hl
  have hts := hk.2.2.2.2.1
  exact va_copyi hk.1 hk.2.1 (hk.2.2.1.trans hl.1.symm) hk.2.2.2.1 (hts _ tw_1164) (hts _ tw_nat) (hts _ tw_855) (hts _ tw_16) hk.2.2.2.2.2.2.2.1 hP hD hS 8 10 0 0 rfl rfl rfl rfl rfl h1 h2 h3 h4 h5 (fun _ _ => rfl) hd1 hrm hd (fun H locs hP hD hS => kk p e s m args below meth c S0 po hB hk H locs ls hP hD hS hl)
theorem Mcpy_18_17 {Z : VZ} {cc : ByteArray} {nL : Nat} {ret : Option FieldType} {d mc ms : Nat} {B : VB MS} {n k pc : Nat} {L : List (Nat × Value)} {st : List Value} {S : MS} {sp dp u : Int32} (hd : decode cc pc = .ok (.invokestatic 223, 3)) (h1 : ¬ sp < 0) (h2 : ¬ dp < 0) (h3 : ¬ u < 0) (h4 : sp.toNatClampNeg + u.toNatClampNeg ≤ 41) (h5 : dp.toNatClampNeg + u.toNatClampNeg ≤ 41) (hd1 : 1 ≤ d) (hrm : (st.map fun v => v.category).sum + (nativeFrameWords "java/lang/System" "arraycopy" 5 + 11) ≤ 100 * d) (kk : V MW Z cc RX11 nL ret d mc ms B n k (pc + 3) L st (S.1, S.2.1, va_up S.2.2 17 (va_cpy (S.2.2 18) (S.2.2 17) sp.toNatClampNeg dp.toNatClampNeg u.toNatClampNeg))) : V MW Z cc RX11 nL ret d mc ms B n k pc L (.int u :: .int dp :: .ref (Z.2.2.2 17) :: .int sp :: .ref (Z.2.2.2 18) :: st) S := by
  intro p e s m args below meth c S0 po hB hk H locs ls hP hD hS hl
  have hts := hk.2.2.2.2.1
  exact va_copyi hk.1 hk.2.1 (hk.2.2.1.trans hl.1.symm) hk.2.2.2.1 (hts _ tw_1164) (hts _ tw_nat) (hts _ tw_855) (hts _ tw_16) hk.2.2.2.2.2.2.2.1 hP hD hS 10 9 0 0 rfl rfl rfl rfl rfl h1 h2 h3 h4 h5 (fun _ _ => rfl) hd1 hrm hd (fun H locs hP hD hS => kk p e s m args below meth c S0 po hB hk H locs ls hP hD hS hl)
theorem Mcpy_1_31 {Z : VZ} {cc : ByteArray} {nL : Nat} {ret : Option FieldType} {d mc ms : Nat} {B : VB MS} {n k pc : Nat} {L : List (Nat × Value)} {st : List Value} {S : MS} {sp dp u : Int32} (hd : decode cc pc = .ok (.invokestatic 223, 3)) (h1 : ¬ sp < 0) (h2 : ¬ dp < 0) (h3 : ¬ u < 0) (h4 : sp.toNatClampNeg + u.toNatClampNeg ≤ 4) (h5 : dp.toNatClampNeg + u.toNatClampNeg ≤ 20) (hd1 : 1 ≤ d) (hrm : (st.map fun v => v.category).sum + (nativeFrameWords "java/lang/System" "arraycopy" 5 + 11) ≤ 100 * d) (kk : V MW Z cc RX11 nL ret d mc ms B n k (pc + 3) L st (S.1, S.2.1, va_up S.2.2 31 (va_cpy (S.2.2 1) (S.2.2 31) sp.toNatClampNeg dp.toNatClampNeg u.toNatClampNeg))) : V MW Z cc RX11 nL ret d mc ms B n k pc L (.int u :: .int dp :: .ref (Z.2.2.2 31) :: .int sp :: .ref (Z.2.2.2 1) :: st) S := by
  intro p e s m args below meth c S0 po hB hk H locs ls hP hD hS hl
  have hts := hk.2.2.2.2.1
  exact va_copyi hk.1 hk.2.1 (hk.2.2.1.trans hl.1.symm) hk.2.2.2.1 (hts _ tw_1164) (hts _ tw_nat) (hts _ tw_855) (hts _ tw_16) hk.2.2.2.2.2.2.2.1 hP hD hS 1 15 0 0 rfl rfl rfl rfl rfl h1 h2 h3 h4 h5 (fun _ _ => rfl) hd1 hrm hd (fun H locs hP hD hS => kk p e s m args below meth c S0 po hB hk H locs ls hP hD hS hl)
theorem Mcpy_2_31 {Z : VZ} {cc : ByteArray} {nL : Nat} {ret : Option FieldType} {d mc ms : Nat} {B : VB MS} {n k pc : Nat} {L : List (Nat × Value)} {st : List Value} {S : MS} {sp dp u : Int32} (hd : decode cc pc = .ok (.invokestatic 223, 3)) (h1 : ¬ sp < 0) (h2 : ¬ dp < 0) (h3 : ¬ u < 0) (h4 : sp.toNatClampNeg + u.toNatClampNeg ≤ 4) (h5 : dp.toNatClampNeg + u.toNatClampNeg ≤ 20) (hd1 : 1 ≤ d) (hrm : (st.map fun v => v.category).sum + (nativeFrameWords "java/lang/System" "arraycopy" 5 + 11) ≤ 100 * d) (kk : V MW Z cc RX11 nL ret d mc ms B n k (pc + 3) L st (S.1, S.2.1, va_up S.2.2 31 (va_cpy (S.2.2 2) (S.2.2 31) sp.toNatClampNeg dp.toNatClampNeg u.toNatClampNeg))) : V MW Z cc RX11 nL ret d mc ms B n k pc L (.int u :: .int dp :: .ref (Z.2.2.2 31) :: .int sp :: .ref (Z.2.2.2 2) :: st) S := by
  intro p e s m args below meth c S0 po hB hk H locs ls hP hD hS hl
  have hts := hk.2.2.2.2.1
  exact va_copyi hk.1 hk.2.1 (hk.2.2.1.trans hl.1.symm) hk.2.2.2.1 (hts _ tw_1164) (hts _ tw_nat) (hts _ tw_855) (hts _ tw_16) hk.2.2.2.2.2.2.2.1 hP hD hS 2 15 0 0 rfl rfl rfl rfl rfl h1 h2 h3 h4 h5 (fun _ _ => rfl) hd1 hrm hd (fun H locs hP hD hS => kk p e s m args below meth c S0 po hB hk H locs ls hP hD hS hl)
theorem Mcpy_3_31 {Z : VZ} {cc : ByteArray} {nL : Nat} {ret : Option FieldType} {d mc ms : Nat} {B : VB MS} {n k pc : Nat} {L : List (Nat × Value)} {st : List Value} {S : MS} {sp dp u : Int32} (hd : decode cc pc = .ok (.invokestatic 223, 3)) (h1 : ¬ sp < 0) (h2 : ¬ dp < 0) (h3 : ¬ u < 0) (h4 : sp.toNatClampNeg + u.toNatClampNeg ≤ 4) (h5 : dp.toNatClampNeg + u.toNatClampNeg ≤ 20) (hd1 : 1 ≤ d) (hrm : (st.map fun v => v.category).sum + (nativeFrameWords "java/lang/System" "arraycopy" 5 + 11) ≤ 100 * d) (kk : V MW Z cc RX11 nL ret d mc ms B n k (pc + 3) L st (S.1, S.2.1, va_up S.2.2 31 (va_cpy (S.2.2 3) (S.2.2 31) sp.toNatClampNeg dp.toNatClampNeg u.toNatClampNeg))) : V MW Z cc RX11 nL ret d mc ms B n k pc L (.int u :: .int dp :: .ref (Z.2.2.2 31) :: .int sp :: .ref (Z.2.2.2 3) :: st) S := by
  intro p e s m args below meth c S0 po hB hk H locs ls hP hD hS hl
  have hts := hk.2.2.2.2.1
  exact va_copyi hk.1 hk.2.1 (hk.2.2.1.trans hl.1.symm) hk.2.2.2.1 (hts _ tw_1164) (hts _ tw_nat) (hts _ tw_855) (hts _ tw_16) hk.2.2.2.2.2.2.2.1 hP hD hS 3 15 0 0 rfl rfl rfl rfl rfl h1 h2 h3 h4 h5 (fun _ _ => rfl) hd1 hrm hd (fun H locs hP hD hS => kk p e s m args below meth c S0 po hB hk H locs ls hP hD hS hl)
theorem Mcpy_4_31 {Z : VZ} {cc : ByteArray} {nL : Nat} {ret : Option FieldType} {d mc ms : Nat} {B : VB MS} {n k pc : Nat} {L : List (Nat × Value)} {st : List Value} {S : MS} {sp dp u : Int32} (hd : decode cc pc = .ok (.invokestatic 223, 3)) (h1 : ¬ sp < 0) (h2 : ¬ dp < 0) (h3 : ¬ u < 0) (h4 : sp.toNatClampNeg + u.toNatClampNeg ≤ 4) (h5 : dp.toNatClampNeg + u.toNatClampNeg ≤ 20) (hd1 : 1 ≤ d) (hrm : (st.map fun v => v.category).sum + (nativeFrameWords "java/lang/System" "arraycopy" 5 + 11) ≤ 100 * d) (kk : V MW Z cc RX11 nL ret d mc ms B n k (pc + 3) L st (S.1, S.2.1, va_up S.2.2 31 (va_cpy (S.2.2 4) (S.2.2 31) sp.toNatClampNeg dp.toNatClampNeg u.toNatClampNeg))) : V MW Z cc RX11 nL ret d mc ms B n k pc L (.int u :: .int dp :: .ref (Z.2.2.2 31) :: .int sp :: .ref (Z.2.2.2 4) :: st) S := by
  intro p e s m args below meth c S0 po hB hk H locs ls hP hD hS hl
  have hts := hk.2.2.2.2.1
  exact va_copyi hk.1 hk.2.1 (hk.2.2.1.trans hl.1.symm) hk.2.2.2.1 (hts _ tw_1164) (hts _ tw_nat) (hts _ tw_855) (hts _ tw_16) hk.2.2.2.2.2.2.2.1 hP hD hS 4 15 0 0 rfl rfl rfl rfl rfl h1 h2 h3 h4 h5 (fun _ _ => rfl) hd1 hrm hd (fun H locs hP hD hS => kk p e s m args below meth c S0 po hB hk H locs ls hP hD hS hl)
theorem Mcpy_5_31 {Z : VZ} {cc : ByteArray} {nL : Nat} {ret : Option FieldType} {d mc ms : Nat} {B : VB MS} {n k pc : Nat} {L : List (Nat × Value)} {st : List Value} {S : MS} {sp dp u : Int32} (hd : decode cc pc = .ok (.invokestatic 223, 3)) (h1 : ¬ sp < 0) (h2 : ¬ dp < 0) (h3 : ¬ u < 0) (h4 : sp.toNatClampNeg + u.toNatClampNeg ≤ 4) (h5 : dp.toNatClampNeg + u.toNatClampNeg ≤ 20) (hd1 : 1 ≤ d) (hrm : (st.map fun v => v.category).sum + (nativeFrameWords "java/lang/System" "arraycopy" 5 + 11) ≤ 100 * d) (kk : V MW Z cc RX11 nL ret d mc ms B n k (pc + 3) L st (S.1, S.2.1, va_up S.2.2 31 (va_cpy (S.2.2 5) (S.2.2 31) sp.toNatClampNeg dp.toNatClampNeg u.toNatClampNeg))) : V MW Z cc RX11 nL ret d mc ms B n k pc L (.int u :: .int dp :: .ref (Z.2.2.2 31) :: .int sp :: .ref (Z.2.2.2 5) :: st) S := by
  intro p e s m args below meth c S0 po hB hk H locs ls hP hD hS hl
  have hts := hk.2.2.2.2.1
  exact va_copyi hk.1 hk.2.1 (hk.2.2.1.trans hl.1.symm) hk.2.2.2.1 (hts _ tw_1164) (hts _ tw_nat) (hts _ tw_855) (hts _ tw_16) hk.2.2.2.2.2.2.2.1 hP hD hS 5 15 0 0 rfl rfl rfl rfl rfl h1 h2 h3 h4 h5 (fun _ _ => rfl) hd1 hrm hd (fun H locs hP hD hS => kk p e s m args below meth c S0 po hB hk H locs ls hP hD hS hl)
theorem Mcpy_31_1 {Z : VZ} {cc : ByteArray} {nL : Nat} {ret : Option FieldType} {d mc ms : Nat} {B : VB MS} {n k pc : Nat} {L : List (Nat × Value)} {st : List Value} {S : MS} {sp dp u : Int32} (hd : decode cc pc = .ok (.invokestatic 223, 3)) (h1 : ¬ sp < 0) (h2 : ¬ dp < 0) (h3 : ¬ u < 0) (h4 : sp.toNatClampNeg + u.toNatClampNeg ≤ 20) (h5 : dp.toNatClampNeg + u.toNatClampNeg ≤ 4) (hd1 : 1 ≤ d) (hrm : (st.map fun v => v.category).sum + (nativeFrameWords "java/lang/System" "arraycopy" 5 + 11) ≤ 100 * d) (kk : V MW Z cc RX11 nL ret d mc ms B n k (pc + 3) L st (S.1, S.2.1, va_up S.2.2 1 (va_cpy (S.2.2 31) (S.2.2 1) sp.toNatClampNeg dp.toNatClampNeg u.toNatClampNeg))) : V MW Z cc RX11 nL ret d mc ms B n k pc L (.int u :: .int dp :: .ref (Z.2.2.2 1) :: .int sp :: .ref (Z.2.2.2 31) :: st) S := by
  intro p e s m args below meth c S0 po hB hk H locs ls hP hD hS hl
  have hts := hk.2.2.2.2.1
  exact va_copyi hk.1 hk.2.1 (hk.2.2.1.trans hl.1.symm) hk.2.2.2.1 (hts _ tw_1164) (hts _ tw_nat) (hts _ tw_855) (hts _ tw_16) hk.2.2.2.2.2.2.2.1 hP hD hS 15 1 0 0 rfl rfl rfl rfl rfl h1 h2 h3 h4 h5 (fun _ _ => rfl) hd1 hrm hd (fun H locs hP hD hS => kk p e s m args below meth c S0 po hB hk H locs ls hP hD hS hl)
theorem Mcpy_31_2 {Z : VZ} {cc : ByteArray} {nL : Nat} {ret : Option FieldType} {d mc ms : Nat} {B : VB MS} {n k pc : Nat} {L : List (Nat × Value)} {st : List Value} {S : MS} {sp dp u : Int32} (hd : decode cc pc = .ok (.invokestatic 223, 3)) (h1 : ¬ sp < 0) (h2 : ¬ dp < 0) (h3 : ¬ u < 0) (h4 : sp.toNatClampNeg + u.toNatClampNeg ≤ 20) (h5 : dp.toNatClampNeg + u.toNatClampNeg ≤ 4) (hd1 : 1 ≤ d) (hrm : (st.map fun v => v.category).sum + (nativeFrameWords "java/lang/System" "arraycopy" 5 + 11) ≤ 100 * d) (kk : V MW Z cc RX11 nL ret d mc ms B n k (pc + 3) L st (S.1, S.2.1, va_up S.2.2 2 (va_cpy (S.2.2 31) (S.2.2 2) sp.toNatClampNeg dp.toNatClampNeg u.toNatClampNeg))) : V MW Z cc RX11 nL ret d mc ms B n k pc L (.int u :: .int dp :: .ref (Z.2.2.2 2) :: .int sp :: .ref (Z.2.2.2 31) :: st) S := by
  intro p e s m args below meth c S0 po hB hk H locs ls hP hD hS hl
  have hts := hk.2.2.2.2.1
  exact va_copyi hk.1 hk.2.1 (hk.2.2.1.trans hl.1.symm) hk.2.2.2.1 (hts _ tw_1164) (hts _ tw_nat) (hts _ tw_855) (hts _ tw_16) hk.2.2.2.2.2.2.2.1 hP hD hS 15 2 0 0 rfl rfl rfl rfl rfl h1 h2 h3 h4 h5 (fun _ _ => rfl) hd1 hrm hd (fun H locs hP hD hS => kk p e s m args below meth c S0 po hB hk H locs ls hP hD hS hl)
theorem Mcpy_31_3 {Z : VZ} {cc : ByteArray} {nL : Nat} {ret : Option FieldType} {d mc ms : Nat} {B : VB MS} {n k pc : Nat} {L : List (Nat × Value)} {st : List Value} {S : MS} {sp dp u : Int32} (hd : decode cc pc = .ok (.invokestatic 223, 3)) (h1 : ¬ sp < 0) (h2 : ¬ dp < 0) (h3 : ¬ u < 0) (h4 : sp.toNatClampNeg + u.toNatClampNeg ≤ 20) (h5 : dp.toNatClampNeg + u.toNatClampNeg ≤ 4) (hd1 : 1 ≤ d) (hrm : (st.map fun v => v.category).sum + (nativeFrameWords "java/lang/System" "arraycopy" 5 + 11) ≤ 100 * d) (kk : V MW Z cc RX11 nL ret d mc ms B n k (pc + 3) L st (S.1, S.2.1, va_up S.2.2 3 (va_cpy (S.2.2 31) (S.2.2 3) sp.toNatClampNeg dp.toNatClampNeg u.toNatClampNeg))) : V MW Z cc RX11 nL ret d mc ms B n k pc L (.int u :: .int dp :: .ref (Z.2.2.2 3) :: .int sp :: .ref (Z.2.2.2 31) :: st) S := by
  intro p e s m args below meth c S0 po hB hk H locs ls hP hD hS hl
  have hts := hk.2.2.2.2.1
  exact va_copyi hk.1 hk.2.1 (hk.2.2.1.trans hl.1.symm) hk.2.2.2.1 (hts _ tw_1164) (hts _ tw_nat) (hts _ tw_855) (hts _ tw_16) hk.2.2.2.2.2.2.2.1 hP hD hS 15 3 0 0 rfl rfl rfl rfl rfl h1 h2 h3 h4 h5 (fun _ _ => rfl) hd1 hrm hd (fun H locs hP hD hS => kk p e s m args below meth c S0 po hB hk H locs ls hP hD hS hl)
theorem Mcpy_31_4 {Z : VZ} {cc : ByteArray} {nL : Nat} {ret : Option FieldType} {d mc ms : Nat} {B : VB MS} {n k pc : Nat} {L : List (Nat × Value)} {st : List Value} {S : MS} {sp dp u : Int32} (hd : decode cc pc = .ok (.invokestatic 223, 3)) (h1 : ¬ sp < 0) (h2 : ¬ dp < 0) (h3 : ¬ u < 0) (h4 : sp.toNatClampNeg + u.toNatClampNeg ≤ 20) (h5 : dp.toNatClampNeg + u.toNatClampNeg ≤ 4) (hd1 : 1 ≤ d) (hrm : (st.map fun v => v.category).sum + (nativeFrameWords "java/lang/System" "arraycopy" 5 + 11) ≤ 100 * d) (kk : V MW Z cc RX11 nL ret d mc ms B n k (pc + 3) L st (S.1, S.2.1, va_up S.2.2 4 (va_cpy (S.2.2 31) (S.2.2 4) sp.toNatClampNeg dp.toNatClampNeg u.toNatClampNeg))) : V MW Z cc RX11 nL ret d mc ms B n k pc L (.int u :: .int dp :: .ref (Z.2.2.2 4) :: .int sp :: .ref (Z.2.2.2 31) :: st) S := by
  intro p e s m args below meth c S0 po hB hk H locs ls hP hD hS hl
  have hts := hk.2.2.2.2.1
  exact va_copyi hk.1 hk.2.1 (hk.2.2.1.trans hl.1.symm) hk.2.2.2.1 (hts _ tw_1164) (hts _ tw_nat) (hts _ tw_855) (hts _ tw_16) hk.2.2.2.2.2.2.2.1 hP hD hS 15 4 0 0 rfl rfl rfl rfl rfl h1 h2 h3 h4 h5 (fun _ _ => rfl) hd1 hrm hd (fun H locs hP hD hS => kk p e s m args below meth c S0 po hB hk H locs ls hP hD hS hl)
theorem Mcpy_31_5 {Z : VZ} {cc : ByteArray} {nL : Nat} {ret : Option FieldType} {d mc ms : Nat} {B : VB MS} {n k pc : Nat} {L : List (Nat × Value)} {st : List Value} {S : MS} {sp dp u : Int32} (hd : decode cc pc = .ok (.invokestatic 223, 3)) (h1 : ¬ sp < 0) (h2 : ¬ dp < 0) (h3 : ¬ u < 0) (h4 : sp.toNatClampNeg + u.toNatClampNeg ≤ 20) (h5 : dp.toNatClampNeg + u.toNatClampNeg ≤ 4) (hd1 : 1 ≤ d) (hrm : (st.map fun v => v.category).sum + (nativeFrameWords "java/lang/System" "arraycopy" 5 + 11) ≤ 100 * d) (kk : V MW Z cc RX11 nL ret d mc ms B n k (pc + 3) L st (S.1, S.2.1, va_up S.2.2 5 (va_cpy (S.2.2 31) (S.2.2 5) sp.toNatClampNeg dp.toNatClampNeg u.toNatClampNeg))) : V MW Z cc RX11 nL ret d mc ms B n k pc L (.int u :: .int dp :: .ref (Z.2.2.2 5) :: .int sp :: .ref (Z.2.2.2 31) :: st) S := by
  intro p e s m args below meth c S0 po hB hk H locs ls hP hD hS hl
  have hts := hk.2.2.2.2.1
  exact va_copyi hk.1 hk.2.1 (hk.2.2.1.trans hl.1.symm) hk.2.2.2.1 (hts _ tw_1164) (hts _ tw_nat) (hts _ tw_855) (hts _ tw_16) hk.2.2.2.2.2.2.2.1 hP hD hS 15 5 0 0 rfl rfl rfl rfl rfl h1 h2 h3 h4 h5 (fun _ _ => rfl) hd1 hrm hd (fun H locs hP hD hS => kk p e s m args below meth c S0 po hB hk H locs ls hP hD hS hl)
theorem Mcpy_34_34 {Z : VZ} {cc : ByteArray} {nL : Nat} {ret : Option FieldType} {d mc ms : Nat} {B : VB MS} {n k pc : Nat} {L : List (Nat × Value)} {st : List Value} {S : MS} {sp dp u : Int32} (hd : decode cc pc = .ok (.invokestatic 223, 3)) (h1 : ¬ sp < 0) (h2 : ¬ dp < 0) (h3 : ¬ u < 0) (h4 : sp.toNatClampNeg + u.toNatClampNeg ≤ 160) (h5 : dp.toNatClampNeg + u.toNatClampNeg ≤ 160) (hd1 : 1 ≤ d) (hrm : (st.map fun v => v.category).sum + (nativeFrameWords "java/lang/System" "arraycopy" 5 + 11) ≤ 100 * d) (kk : V MW Z cc RX11 nL ret d mc ms B n k (pc + 3) L st (S.1, S.2.1, va_up S.2.2 34 (va_cpy (S.2.2 34) (S.2.2 34) sp.toNatClampNeg dp.toNatClampNeg u.toNatClampNeg))) : V MW Z cc RX11 nL ret d mc ms B n k pc L (.int u :: .int dp :: .ref (Z.2.2.2 34) :: .int sp :: .ref (Z.2.2.2 34) :: st) S := by
  intro p e s m args below meth c S0 po hB hk H locs ls hP hD hS hl
  have hts := hk.2.2.2.2.1
  exact va_copyi hk.1 hk.2.1 (hk.2.2.1.trans hl.1.symm) hk.2.2.2.1 (hts _ tw_1164) (hts _ tw_nat) (hts _ tw_855) (hts _ tw_16) hk.2.2.2.2.2.2.2.1 hP hD hS 18 18 0 0 rfl rfl rfl rfl rfl h1 h2 h3 h4 h5 (fun _ _ => rfl) hd1 hrm hd (fun H locs hP hD hS => kk p e s m args below meth c S0 po hB hk H locs ls hP hD hS hl)
def wdA (f : Nat → Int32) (q v : Nat) : Int32 := it (fun i a => a ||| f (q + i) <<< (nI i &&& 31)) v 0
def rlF (f : Nat → Int32) (v : Int32) (len : Nat) : Nat → Nat → Nat
  | 0, _ => 0
  | g + 1, x => if x < len ∧ f x = v then rlF f v len g (x + 1) + 1 else 0
/-- how long the run is that stands at q -/
def rlA (f : Nat → Int32) (len q : Nat) : Nat := 1 + rlF f (f q) len (len - (q + 1)) (q + 1)
def shZ (S : MS) (a j : Nat) : Nat → Int32 := it (fun i g => upd g (40 * a + i) 0) j (S.2.2 34)
def ctC (S : MS) (j : Nat) : Int32 := it (fun m a => a + S.2.2 2 m) j 0
def ctL (S : MS) (j : Nat) : Int32 := it (fun m a => a ||| (if 1 = (0 : Int32) ∨ S.2.2 1 m = 1 ∨ (S.2.2 1 m = 2 ∧ (1 : Int32) = 1) then 1 <<< (nI m &&& 31) else 0)) j 0
def ctR (S : MS) (j : Nat) : Int32 := it (fun m a => a + (if S.2.2 1 m = 5 then S.2.2 2 m else 0)) j 0
theorem div2_pos {u : Int64} (h : 0 < u.toInt) : (u / 2).toInt.toNat = u.toInt.toNat / 2 := by
  obtain ⟨k, hk, rfl⟩ := pk_lOf (x := u) (fun q => by
    have h1 := Int64.lt_iff_toInt_lt.mp q
    have e0 : (0 : Int64).toInt = 0 := rfl
    omega)
  rw [show (2 : Int64) = lN 2 from rfl, pk_lDiv hk (by decide) (by decide), pk_lT hk, pk_lT (by omega)]
  omega
set_option maxHeartbeats 4000000 in
set_option maxRecDepth 100000 in
theorem cM_wordAt (Z : VZ) (S : MS) (q_ : Nat) (w_ : Int32) (hw : q_ + w_.toNatClampNeg ≤ 40) : CtF MW Z yX11_wordAt cX11_wordAt 5 (some .int) 0 0 0 [.ref (Z.2.2.2 99), .int (nI q_), .int w_] (S) (some (.int (wdA (S.2.2 11) q_ w_.toNatClampNeg))) (S) := by
  refine V_entry (own := RX11) (by decide) rfl (Nat.le_of_ble_eq_true rfl) ?_
  intro B hB
  refine V_sub (L' := [(0, .ref (Z.2.2.2 99)), (1, .int (nI q_)), (2, .int w_)]) [0, 1, 2] rfl ?_
  refine V_iconst (v := 0) (pc := 0) dX11_wordAt_0 (by decide) ?_
  refine V_istore_n (pc := 1) (L2 := [(0, .ref (Z.2.2.2 99)), (1, .int (nI q_)), (2, .int w_)]) dX11_wordAt_1 rfl (by decide) rfl (fun x3_1 ex3_1 => ?_)
  subst ex3_1
  refine V_iconst (v := 0) (pc := 2) dX11_wordAt_2 (by decide) ?_
  refine V_istore (pc := 3) (L2 := [(3, .int 0), (0, .ref (Z.2.2.2 99)), (1, .int (nI q_)), (2, .int w_)]) dX11_wordAt_3 (by decide) rfl (fun x4_3 ex4_3 => ?_)
  subst ex4_3
  refine V_sub (L' := [(4, .int (nI 0)), (3, .int 0), (0, .ref (Z.2.2.2 99)), (1, .int (nI q_)), (2, .int w_)]) [0, 1, 2, 3, 4] rfl ?_
  refine Vloop (σ := Nat × Int32) (fun x => (x.1) ≤ w_.toNatClampNeg ∧ (x.2) = wdA (S.2.2 11) q_ (x.1)) (fun x => w_.toNatClampNeg - (x.1)) (fun x => V MW Z cX11_wordAt RX11 5 (some .int) 0 0 0 B 0 0 5 [(4, .int (nI (x.1))), (3, .int (x.2)), (0, .ref (Z.2.2.2 99)), (1, .int (nI q_)), (2, .int w_)] [] (S)) ?_ (0, 0) (by exact ⟨Nat.zero_le _, rfl⟩)
  rintro ⟨j, u⟩ hI5 ih5
  have hI5 : j ≤ w_.toNatClampNeg ∧ u = wdA (S.2.2 11) q_ j := hI5
  show V MW Z cX11_wordAt RX11 5 (some .int) 0 0 0 B 0 0 5 [(4, .int (nI j)), (3, .int u), (0, .ref (Z.2.2.2 99)), (1, .int (nI q_)), (2, .int w_)] [] (S)
  refine V_iload (pc := 5) dX11_wordAt_5 0 rfl ?_
  refine V_iload_n (pc := 7) dX11_wordAt_7 4 rfl rfl ?_
  refine V_icmp_ge (pc := 8) (tgt := 32) dX11_wordAt_8 (by decide) (fun h8 => ?_) (fun h8 => ?_)
  · skip
    have hj : w_.toNatClampNeg ≤ j := jge h8 (Nat.lt_of_le_of_lt hI5.1 (clampLt _))
    have ej : j = w_.toNatClampNeg := Nat.le_antisymm hI5.1 hj
    refine V_iload_n (pc := 32) dX11_wordAt_32 1 rfl rfl ?_
    exact V_iret (pc := 33) dX11_wordAt_33 (Nat.le_of_ble_eq_true rfl) (Nat.le_of_ble_eq_true rfl) (hB _ _ ⟨congrArg (fun z => some (Value.int z)) (by rw [hI5.2, ej]), by rfl⟩)
  · skip
    have hj : j < w_.toNatClampNeg := jlt h8 (Nat.lt_of_le_of_lt hI5.1 (clampLt _))
    refine V_iload_n (pc := 11) dX11_wordAt_11 1 rfl rfl ?_
    refine V_aload_n (pc := 12) dX11_wordAt_12 2 rfl rfl ?_
    refine Mg_row (pc := 13) dX11_wordAt_13 ?_
    refine V_iload_n (pc := 16) dX11_wordAt_16 3 rfl rfl ?_
    refine V_iload (pc := 17) dX11_wordAt_17 0 rfl ?_
    refine V_iadd (pc := 19) dX11_wordAt_19 ?_
    refine Ml_row (pc := 20) dX11_wordAt_20 (by rw [nI_add]; exact vp_in_nI (by omega) (by decide)) ?_
    refine V_iload (pc := 21) dX11_wordAt_21 0 rfl ?_
    refine V_ishl (pc := 23) dX11_wordAt_23 ?_
    refine V_ior (pc := 24) dX11_wordAt_24 ?_
    refine V_istore_n (pc := 25) (L2 := [(4, .int (nI j)), (0, .ref (Z.2.2.2 99)), (1, .int (nI q_)), (2, .int w_)]) dX11_wordAt_25 rfl (by decide) rfl (fun x3_25 ex3_25 => ?_)
    subst ex3_25
    refine V_iinc (pc := 26) (v := 1) (L2 := [(3, .int (u ||| ((S.2.2 11 (((nI q_) + (nI j))).toNatClampNeg) <<< ((nI j) &&& 31)))), (0, .ref (Z.2.2.2 99)), (1, .int (nI q_)), (2, .int w_)]) dX11_wordAt_26 1 rfl (by decide) (by decide) rfl (fun x4_26 ex4_26 => ?_)
    rw [nI_1] at ex4_26
    subst ex4_26
    refine V_goto (pc := 29) (tgt := 5) dX11_wordAt_29 (by decide) ?_
    refine V_sub (L' := [(4, .int (nI (j + 1))), (3, .int (u ||| ((S.2.2 11 (((nI q_) + (nI j))).toNatClampNeg) <<< ((nI j) &&& 31)))), (0, .ref (Z.2.2.2 99)), (1, .int (nI q_)), (2, .int w_)]) [0, 1, 2, 3, 4] rfl ?_
    refine ih5 (((j + 1)), _) ?_ ?_
    · show ((j + 1)) ≤ w_.toNatClampNeg ∧ ((u ||| ((S.2.2 11 (((nI q_) + (nI j))).toNatClampNeg) <<< ((nI j) &&& 31)))) = wdA (S.2.2 11) q_ ((j + 1))
      refine ⟨hj, ?_⟩
      rw [hI5.2, nI_add, nI_clamp (by omega)]
      rfl
    · show w_.toNatClampNeg - (j + 1) < w_.toNatClampNeg - j
      omega
set_option maxHeartbeats 4000000 in
set_option maxRecDepth 100000 in
theorem cM_runAt (Z : VZ) (S : MS) (q_ : Nat) (hw : q_ < (S.1 12).toNatClampNeg ∧ (S.1 12).toNatClampNeg ≤ 40) : CtF MW Z yX11_runAt cX11_runAt 3 (some .int) 0 0 0 [.ref (Z.2.2.2 99), .int (nI q_)] (S) (some (.int (nI (rlA (S.2.2 11) (S.1 12).toNatClampNeg q_)))) (S) := by
  refine V_entry (own := RX11) (by decide) rfl (Nat.le_of_ble_eq_true rfl) ?_
  intro B hB
  refine V_sub (L' := [(0, .ref (Z.2.2.2 99)), (1, .int (nI q_))]) [0, 1] rfl ?_
  refine V_iconst (v := 1) (pc := 0) dX11_runAt_0 (by decide) ?_
  refine V_istore_n (pc := 1) (L2 := [(0, .ref (Z.2.2.2 99)), (1, .int (nI q_))]) dX11_runAt_1 rfl (by decide) rfl (fun x2_1 ex2_1 => ?_)
  subst ex2_1
  refine V_sub (L' := [(2, .int (nI 1)), (0, .ref (Z.2.2.2 99)), (1, .int (nI q_))]) [0, 1, 2] rfl ?_
  refine Vloop (σ := Nat) (fun x => 1 ≤ x ∧ q_ + x ≤ (S.1 12).toNatClampNeg ∧ x + rlF (S.2.2 11) (S.2.2 11 q_) (S.1 12).toNatClampNeg ((S.1 12).toNatClampNeg - (q_ + x)) (q_ + x) = rlA (S.2.2 11) (S.1 12).toNatClampNeg q_) (fun x => 40 - x) (fun x => V MW Z cX11_runAt RX11 3 (some .int) 0 0 0 B 0 0 2 [(2, .int (nI x)), (0, .ref (Z.2.2.2 99)), (1, .int (nI q_))] [] (S)) ?_ 1 (by exact ⟨Nat.le_refl _, by omega, rfl⟩)
  rintro j hI2 ih2
  have hI2 : 1 ≤ j ∧ q_ + j ≤ (S.1 12).toNatClampNeg ∧ j + rlF (S.2.2 11) (S.2.2 11 q_) (S.1 12).toNatClampNeg ((S.1 12).toNatClampNeg - (q_ + j)) (q_ + j) = rlA (S.2.2 11) (S.1 12).toNatClampNeg q_ := hI2
  show V MW Z cX11_runAt RX11 3 (some .int) 0 0 0 B 0 0 2 [(2, .int (nI j)), (0, .ref (Z.2.2.2 99)), (1, .int (nI q_))] [] (S)
  refine V_iload_n (pc := 2) dX11_runAt_2 2 rfl rfl ?_
  refine V_iload_n (pc := 3) dX11_runAt_3 0 rfl rfl ?_
  refine V_iadd (pc := 4) dX11_runAt_4 ?_
  refine V_aload_n (pc := 5) dX11_runAt_5 1 rfl rfl ?_
  refine Mg_length (pc := 6) (v := (S.1 12)) rfl dX11_runAt_6 ?_
  refine V_icmp_ge (pc := 9) (tgt := 35) dX11_runAt_9 (by decide) (fun h9 => ?_) (fun h9 => ?_)
  · skip
    rw [nI_add] at h9
    have hj : (S.1 12).toNatClampNeg ≤ q_ + j := jge h9 (by omega)
    have ej : j = rlA (S.2.2 11) (S.1 12).toNatClampNeg q_ := by
      rw [← hI2.2.2, show (S.1 12).toNatClampNeg - (q_ + j) = 0 by omega]
      rfl
    refine V_iload_n (pc := 35) dX11_runAt_35 0 rfl rfl ?_
    exact V_iret (pc := 36) dX11_runAt_36 (Nat.le_of_ble_eq_true rfl) (Nat.le_of_ble_eq_true rfl) (hB _ _ ⟨congrArg (fun z => some (Value.int z)) (by rw [ej]), by rfl⟩)
  · skip
    rw [nI_add] at h9
    have hj : q_ + j < (S.1 12).toNatClampNeg := jlt h9 (by omega)
    refine V_aload_n (pc := 12) dX11_runAt_12 1 rfl rfl ?_
    refine Mg_row (pc := 13) dX11_runAt_13 ?_
    refine V_iload_n (pc := 16) dX11_runAt_16 2 rfl rfl ?_
    refine V_iload_n (pc := 17) dX11_runAt_17 0 rfl rfl ?_
    refine V_iadd (pc := 18) dX11_runAt_18 ?_
    refine Ml_row (pc := 19) dX11_runAt_19 (by rw [nI_add]; exact vp_in_nI (by omega) (by decide)) ?_
    refine V_aload_n (pc := 20) dX11_runAt_20 1 rfl rfl ?_
    refine Mg_row (pc := 21) dX11_runAt_21 ?_
    refine V_iload_n (pc := 24) dX11_runAt_24 2 rfl rfl ?_
    refine Ml_row (pc := 25) dX11_runAt_25 (by exact vp_in_nI (by omega) (by decide)) ?_
    refine V_icmp_ne (pc := 26) (tgt := 35) dX11_runAt_26 (by decide) (fun h26 => ?_) (fun h26 => ?_)
    · skip
      rw [nI_add, nI_clamp (by omega), nI_clamp (by omega)] at h26
      have ej : j = rlA (S.2.2 11) (S.1 12).toNatClampNeg q_ := by
        rw [← hI2.2.2, show (S.1 12).toNatClampNeg - (q_ + j) = (S.1 12).toNatClampNeg - (q_ + j) - 1 + 1 by omega]
        simp only [rlF]
        rw [if_neg (fun h => h26 h.2)]
        rfl
      refine V_iload_n (pc := 35) dX11_runAt_35 0 rfl rfl ?_
      exact V_iret (pc := 36) dX11_runAt_36 (Nat.le_of_ble_eq_true rfl) (Nat.le_of_ble_eq_true rfl) (hB _ _ ⟨congrArg (fun z => some (Value.int z)) (by rw [ej]), by rfl⟩)
    · skip
      rw [nI_add, nI_clamp (by omega), nI_clamp (by omega)] at h26
      refine V_iinc (pc := 29) (v := 1) (L2 := [(0, .ref (Z.2.2.2 99)), (1, .int (nI q_))]) dX11_runAt_29 0 rfl (by decide) (by decide) rfl (fun x2_29 ex2_29 => ?_)
      rw [nI_1] at ex2_29
      subst ex2_29
      refine V_goto (pc := 32) (tgt := 2) dX11_runAt_32 (by decide) ?_
      refine V_sub (L' := [(2, .int (nI (j + 1))), (0, .ref (Z.2.2.2 99)), (1, .int (nI q_))]) [0, 1, 2] rfl ?_
      refine ih2 ((j + 1)) ?_ ?_
      · show 1 ≤ ((j + 1)) ∧ q_ + ((j + 1)) ≤ (S.1 12).toNatClampNeg ∧ ((j + 1)) + rlF (S.2.2 11) (S.2.2 11 q_) (S.1 12).toNatClampNeg ((S.1 12).toNatClampNeg - (q_ + ((j + 1)))) (q_ + ((j + 1))) = rlA (S.2.2 11) (S.1 12).toNatClampNeg q_
        refine ⟨by omega, by omega, ?_⟩
        obtain ⟨a1, a2, a3⟩ := hI2
        rw [show (S.1 12).toNatClampNeg - (q_ + j) = (S.1 12).toNatClampNeg - (q_ + (j + 1)) + 1 by omega] at a3
        simp only [rlF] at a3
        rw [if_pos ⟨hj, h26⟩] at a3
        rw [show q_ + (j + 1) = q_ + j + 1 by omega] at a3 ⊢
        omega
      · show 40 - (j + 1) < 40 - j
        omega
set_option maxHeartbeats 4000000 in
set_option maxRecDepth 100000 in
theorem cM_digitsOf (Z : VZ) (S : MS) (v_ : Int64) : CtF MW Z yX11_digitsOf cX11_digitsOf 5 (some .int) 0 0 0 [.long v_] (S) (some (.int (nI (dgl v_.toInt.toNat)))) (S) := by
  refine V_entry (own := RX11) (by decide) rfl (Nat.le_of_ble_eq_true rfl) ?_
  intro B hB
  refine V_sub (L' := [(0, .long v_)]) [0] rfl ?_
  refine V_iconst (v := 0) (pc := 0) dX11_digitsOf_0 (by decide) ?_
  refine V_istore_n (pc := 1) (L2 := [(0, .long v_)]) dX11_digitsOf_1 rfl (by decide) rfl (fun x2_1 ex2_1 => ?_)
  subst ex2_1
  refine V_lload_n (pc := 2) dX11_digitsOf_2 1 rfl rfl ?_
  refine V_lstore_n (pc := 3) (L2 := [(2, .int 0), (0, .long v_)]) dX11_digitsOf_3 rfl (by decide) rfl (fun x3_3 ex3_3 => ?_)
  subst ex3_3
  refine V_sub (L' := [(3, .long v_), (2, .int (nI 0)), (0, .long v_)]) [0, 1, 2] rfl ?_
  refine Vloop (σ := Nat × Int64) (fun x => (x.1) + dgl (x.2).toInt.toNat = dgl v_.toInt.toNat) (fun x => (x.2).toInt.toNat) (fun x => V MW Z cX11_digitsOf RX11 5 (some .int) 0 0 0 B 0 0 4 [(3, .long (x.2)), (2, .int (nI (x.1))), (0, .long v_)] [] (S)) ?_ (0, v_) (by exact Nat.zero_add _)
  rintro ⟨j, u⟩ hI4 ih4
  have hI4 : j + dgl u.toInt.toNat = dgl v_.toInt.toNat := hI4
  show V MW Z cX11_digitsOf RX11 5 (some .int) 0 0 0 B 0 0 4 [(3, .long u), (2, .int (nI j)), (0, .long v_)] [] (S)
  refine V_lload_n (pc := 4) dX11_digitsOf_4 0 rfl rfl ?_
  refine V_lconst (v := 0) (pc := 5) dX11_digitsOf_5 (by decide) ?_
  refine V_lcmp (pc := 6) dX11_digitsOf_6 ?_
  refine V_if_le (pc := 7) (tgt := 22) dX11_digitsOf_7 (by decide) (fun h7 => ?_) (fun h7 => ?_)
  · skip
    rw [lg_cmp_le] at h7
    have e0 : u.toInt.toNat = 0 := by
      have h1 := Int64.le_iff_toInt_le.mp h7
      have e0 : (0 : Int64).toInt = 0 := rfl
      omega
    have ek : j = dgl v_.toInt.toNat := by rw [← hI4, e0, dgl_0]; rfl
    refine V_iload_n (pc := 22) dX11_digitsOf_22 1 rfl rfl ?_
    exact V_iret (pc := 23) dX11_digitsOf_23 (Nat.le_of_ble_eq_true rfl) (Nat.le_of_ble_eq_true rfl) (hB _ _ ⟨congrArg (fun z => some (Value.int z)) (by rw [ek]), by rfl⟩)
  · skip
    rw [lg_cmp_le] at h7
    have h8 : 0 < u.toInt := by
      have h1 := mt Int64.le_iff_toInt_le.mpr h7
      have e0 : (0 : Int64).toInt = 0 := rfl
      omega
    refine V_iinc (pc := 10) (v := 1) (L2 := [(3, .long u), (0, .long v_)]) dX11_digitsOf_10 1 rfl (by decide) (by decide) rfl (fun x2_10 ex2_10 => ?_)
    rw [nI_1] at ex2_10
    subst ex2_10
    refine V_lload_n (pc := 13) dX11_digitsOf_13 1 rfl rfl ?_
    refine V_ldc2 (pc := 14) dX11_digitsOf_14 tw_1115 ?_
    refine V_ldiv (pc := 17) dX11_digitsOf_17 (by first | assumption | decide) ?_
    refine V_lstore_n (pc := 18) (L2 := [(2, .int (nI (j + 1))), (0, .long v_)]) dX11_digitsOf_18 rfl (by decide) rfl (fun x3_18 ex3_18 => ?_)
    subst ex3_18
    refine V_goto (pc := 19) (tgt := 4) dX11_digitsOf_19 (by decide) ?_
    refine V_sub (L' := [(3, .long (u / (2))), (2, .int (nI (j + 1))), (0, .long v_)]) [0, 1, 2] rfl ?_
    refine ih4 (((j + 1)), _) ?_ ?_
    · show ((j + 1)) + dgl ((u / (2))).toInt.toNat = dgl v_.toInt.toNat
      show j + 1 + dgl (u / 2).toInt.toNat = _
      rw [← hI4, div2_pos h8, dgl_pos (n := u.toInt.toNat) (by omega)]
      omega
    · show (u / 2).toInt.toNat < u.toInt.toNat
      rw [div2_pos h8]
      omega
set_option maxHeartbeats 4000000 in
set_option maxRecDepth 100000 in
theorem cM_sheet (Z : VZ) (S : MS) (a_ : Int32) (b_ : Int32) (n_ : Int32) : CtF MW Z yX11_sheet cX11_sheet 5 (some .int) 2 0 0 [.ref (Z.2.2.2 99), .int a_, .int b_, .int n_] (S) (some (.int (if ((0 ≤ a_ ∧ a_ ≤ 3) ∧ (-1 ≤ b_ ∧ b_ ≤ 1) ∧ (b_ < 0 ∨ n_ ≤ 40)) then (if b_ < 0 ∨ 0 ≤ n_ then 1 else -14) else -2))) (if ((0 ≤ a_ ∧ a_ ≤ 3) ∧ (-1 ≤ b_ ∧ b_ ≤ 1) ∧ (b_ < 0 ∨ n_ ≤ 40)) ∧ (b_ < 0 ∨ 0 ≤ n_) then mA (mA (mA S 32 (upd (S.2.2 32) a_.toNatClampNeg b_)) 33 (upd (S.2.2 33) a_.toNatClampNeg (if 0 ≤ b_ then n_ else 0))) 34 (shZ S a_.toNatClampNeg 40) else S) := by
  refine V_entry (own := RX11) (by decide) rfl (Nat.le_of_ble_eq_true rfl) ?_
  intro B hB
  refine V_sub (L' := [(0, .ref (Z.2.2.2 99)), (1, .int a_), (2, .int b_), (3, .int n_)]) [0, 1, 2, 3] rfl ?_
  refine V_iload_n (pc := 0) dX11_sheet_0 1 rfl rfl ?_
  refine McSi (pc := 1) dX11_sheet_1 (cM_isSheet Z _ _) kM_150 rfl (Nat.le_of_ble_eq_true rfl) (by decide) (by decide) ?_
  refine V_bif_eq (pc := 4) (tgt := 26) dX11_sheet_4 (by decide) (fun h4 => ?_) (fun h4 => ?_)
  · skip
    refine V_bipush (v := (-2)) (pc := 26) dX11_sheet_26 (by decide) ?_
    exact V_iret (pc := 28) dX11_sheet_28 (Nat.le_of_ble_eq_true rfl) (Nat.le_of_ble_eq_true rfl) (hB _ _ ⟨congrArg (fun z => some (Value.int z)) (by exact (if_neg (fun h => h4 h.1)).symm), by exact (if_neg (fun h => h4 h.1.1)).symm⟩)
  · skip
    refine V_iload_n (pc := 7) dX11_sheet_7 2 rfl rfl ?_
    refine V_iconst (v := (-1)) (pc := 8) dX11_sheet_8 (by decide) ?_
    refine V_iconst (v := 1) (pc := 9) dX11_sheet_9 (by decide) ?_
    refine McSi (pc := 10) dX11_sheet_10 (cM_in Z _ _ _ _) kM_70 rfl (Nat.le_of_ble_eq_true rfl) (by decide) (by decide) ?_
    refine V_bif_eq (pc := 13) (tgt := 26) dX11_sheet_13 (by decide) (fun h13 => ?_) (fun h13 => ?_)
    · skip
      refine V_bipush (v := (-2)) (pc := 26) dX11_sheet_26 (by decide) ?_
      exact V_iret (pc := 28) dX11_sheet_28 (Nat.le_of_ble_eq_true rfl) (Nat.le_of_ble_eq_true rfl) (hB _ _ ⟨congrArg (fun z => some (Value.int z)) (by exact (if_neg (fun h => h13 h.2.1)).symm), by exact (if_neg (fun h => h13 h.1.2.1)).symm⟩)
    · skip
      refine V_iload_n (pc := 16) dX11_sheet_16 2 rfl rfl ?_
      refine V_if_lt (pc := 17) (tgt := 29) dX11_sheet_17 (by decide) (fun h17 => ?_) (fun h17 => ?_)
      · skip
        refine V_iload_n (pc := 29) dX11_sheet_29 2 rfl rfl ?_
        refine V_if_lt (pc := 30) (tgt := 40) dX11_sheet_30 (by decide) (fun h30 => ?_) (fun h30 => ?_)
        · skip
          refine V_aload_n (pc := 40) dX11_sheet_40 0 rfl rfl ?_
          refine Mg_sorts (pc := 41) dX11_sheet_41 ?_
          refine V_iload_n (pc := 44) dX11_sheet_44 1 rfl rfl ?_
          refine V_iload_n (pc := 45) dX11_sheet_45 2 rfl rfl ?_
          refine Ms_sorts (pc := 46) dX11_sheet_46 (by exact inSh h4) ?_
          refine V_aload_n (pc := 47) dX11_sheet_47 0 rfl rfl ?_
          refine Mg_sizes (pc := 48) dX11_sheet_48 ?_
          refine V_iload_n (pc := 51) dX11_sheet_51 1 rfl rfl ?_
          refine V_iload_n (pc := 52) dX11_sheet_52 2 rfl rfl ?_
          refine V_if_ge (pc := 53) (tgt := 60) dX11_sheet_53 (by decide) (fun h53 => ?_) (fun h53 => ?_)
          · skip
            refine V_iload_n (pc := 60) dX11_sheet_60 3 rfl rfl ?_
            refine Ms_sizes (pc := 61) dX11_sheet_61 (by exact inSh h4) ?_
            refine V_eqS (mA (mA S 32 (upd (S.2.2 32) a_.toNatClampNeg b_)) 33 (upd (S.2.2 33) a_.toNatClampNeg (if 0 ≤ b_ then n_ else 0))) (by first | (rw [if_pos h53]; done) | (rw [if_neg h53]; done) | (rw [if_pos h53]; rfl) | (rw [if_neg h53]; rfl)) ?_
            refine V_eqS _ (mA_self _ 34) ?_
            refine V_iconst (v := 0) (pc := 62) dX11_sheet_62 (by decide) ?_
            refine V_istore (pc := 63) (L2 := [(0, .ref (Z.2.2.2 99)), (1, .int a_), (2, .int b_), (3, .int n_)]) dX11_sheet_63 (by decide) rfl (fun x4_63 ex4_63 => ?_)
            subst ex4_63
            refine V_sub (L' := [(4, .int (nI 0)), (0, .ref (Z.2.2.2 99)), (1, .int a_), (2, .int b_), (3, .int n_)]) [0, 1, 2, 3, 4] rfl ?_
            refine Vloop (σ := Nat) (fun x => x ≤ 40) (fun x => 40 - x) (fun x => V MW Z cX11_sheet RX11 5 (some .int) 2 0 0 B 0 0 65 [(4, .int (nI x)), (0, .ref (Z.2.2.2 99)), (1, .int a_), (2, .int b_), (3, .int n_)] [] (mA (mA (mA S 32 (upd (S.2.2 32) a_.toNatClampNeg b_)) 33 (upd (S.2.2 33) a_.toNatClampNeg (if 0 ≤ b_ then n_ else 0))) 34 (shZ S a_.toNatClampNeg x))) ?_ 0 (by exact Nat.zero_le _)
            rintro j hI65 ih65
            have hI65 : j ≤ 40 := hI65
            show V MW Z cX11_sheet RX11 5 (some .int) 2 0 0 B 0 0 65 [(4, .int (nI j)), (0, .ref (Z.2.2.2 99)), (1, .int a_), (2, .int b_), (3, .int n_)] [] (mA (mA (mA S 32 (upd (S.2.2 32) a_.toNatClampNeg b_)) 33 (upd (S.2.2 33) a_.toNatClampNeg (if 0 ≤ b_ then n_ else 0))) 34 (shZ S a_.toNatClampNeg j))
            refine V_iload (pc := 65) dX11_sheet_65 0 rfl ?_
            refine V_bipush (v := 40) (pc := 67) dX11_sheet_67 (by decide) ?_
            refine V_icmp_ge (pc := 69) (tgt := 91) dX11_sheet_69 (by decide) (fun h69 => ?_) (fun h69 => ?_)
            · skip
              have hj : 40 ≤ j := jge h69 (by omega)
              have ej : j = 40 := by omega
              refine V_iconst (v := 1) (pc := 91) dX11_sheet_91 (by decide) ?_
              exact V_iret (pc := 92) dX11_sheet_92 (Nat.le_of_ble_eq_true rfl) (Nat.le_of_ble_eq_true rfl) (hB _ _ ⟨congrArg (fun z => some (Value.int z)) (by have g1 : b_ < 0 ∨ n_ ≤ 40 := (by first | exact Or.inl h17 | exact Or.inr h23); have g2 : b_ < 0 ∨ 0 ≤ n_ := (by first | exact Or.inl h30 | exact Or.inr h34); rw [if_pos ⟨h4, h13, g1⟩, if_pos g2]), by have g1 : b_ < 0 ∨ n_ ≤ 40 := (by first | exact Or.inl h17 | exact Or.inr h23); have g2 : b_ < 0 ∨ 0 ≤ n_ := (by first | exact Or.inl h30 | exact Or.inr h34); rw [ej]; exact (if_pos ⟨⟨h4, h13, g1⟩, g2⟩).symm⟩)
            · skip
              have hj : j < 40 := jlt h69 (by omega)
              refine V_aload_n (pc := 72) dX11_sheet_72 1 rfl rfl ?_
              refine Mg_items (pc := 73) dX11_sheet_73 ?_
              refine V_bipush (v := 40) (pc := 76) dX11_sheet_76 (by decide) ?_
              refine V_iload_n (pc := 78) dX11_sheet_78 2 rfl rfl ?_
              refine V_imul (pc := 79) dX11_sheet_79 ?_
              refine V_iload (pc := 80) dX11_sheet_80 0 rfl ?_
              refine V_iadd (pc := 82) dX11_sheet_82 ?_
              refine V_iconst (v := 0) (pc := 83) dX11_sheet_83 (by decide) ?_
              refine Ms_items (pc := 84) dX11_sheet_84 (by exact in160 (inSh h4) hj) ?_
              refine V_eqS (mA (mA (mA S 32 (upd (S.2.2 32) a_.toNatClampNeg b_)) 33 (upd (S.2.2 33) a_.toNatClampNeg (if 0 ≤ b_ then n_ else 0))) 34 (shZ S a_.toNatClampNeg (j + 1))) (by
                  refine (mA_mA _ 34 _ _).trans ?_
                  rw [cl40 (inSh h4) hj]
                  rfl) ?_
              refine V_iinc (pc := 85) (v := 1) (L2 := [(0, .ref (Z.2.2.2 99)), (1, .int a_), (2, .int b_), (3, .int n_)]) dX11_sheet_85 0 rfl (by decide) (by decide) rfl (fun x4_85 ex4_85 => ?_)
              rw [nI_1] at ex4_85
              subst ex4_85
              refine V_goto (pc := 88) (tgt := 65) dX11_sheet_88 (by decide) ?_
              refine V_sub (L' := [(4, .int (nI (j + 1))), (0, .ref (Z.2.2.2 99)), (1, .int a_), (2, .int b_), (3, .int n_)]) [0, 1, 2, 3, 4] rfl ?_
              refine ih65 ((j + 1)) ?_ ?_
              · show ((j + 1)) ≤ 40
                exact hj
              · show 40 - (j + 1) < 40 - j
                omega
          · skip
            refine V_iconst (v := 0) (pc := 56) dX11_sheet_56 (by decide) ?_
            refine V_goto (pc := 57) (tgt := 61) dX11_sheet_57 (by decide) ?_
            refine Ms_sizes (pc := 61) dX11_sheet_61 (by exact inSh h4) ?_
            refine V_eqS (mA (mA S 32 (upd (S.2.2 32) a_.toNatClampNeg b_)) 33 (upd (S.2.2 33) a_.toNatClampNeg (if 0 ≤ b_ then n_ else 0))) (by first | (rw [if_pos h53]; done) | (rw [if_neg h53]; done) | (rw [if_pos h53]; rfl) | (rw [if_neg h53]; rfl)) ?_
            refine V_eqS _ (mA_self _ 34) ?_
            refine V_iconst (v := 0) (pc := 62) dX11_sheet_62 (by decide) ?_
            refine V_istore (pc := 63) (L2 := [(0, .ref (Z.2.2.2 99)), (1, .int a_), (2, .int b_), (3, .int n_)]) dX11_sheet_63 (by decide) rfl (fun x4_63 ex4_63 => ?_)
            subst ex4_63
            refine V_sub (L' := [(4, .int (nI 0)), (0, .ref (Z.2.2.2 99)), (1, .int a_), (2, .int b_), (3, .int n_)]) [0, 1, 2, 3, 4] rfl ?_
            refine Vloop (σ := Nat) (fun x => x ≤ 40) (fun x => 40 - x) (fun x => V MW Z cX11_sheet RX11 5 (some .int) 2 0 0 B 0 0 65 [(4, .int (nI x)), (0, .ref (Z.2.2.2 99)), (1, .int a_), (2, .int b_), (3, .int n_)] [] (mA (mA (mA S 32 (upd (S.2.2 32) a_.toNatClampNeg b_)) 33 (upd (S.2.2 33) a_.toNatClampNeg (if 0 ≤ b_ then n_ else 0))) 34 (shZ S a_.toNatClampNeg x))) ?_ 0 (by exact Nat.zero_le _)
            rintro j hI65 ih65
            have hI65 : j ≤ 40 := hI65
            show V MW Z cX11_sheet RX11 5 (some .int) 2 0 0 B 0 0 65 [(4, .int (nI j)), (0, .ref (Z.2.2.2 99)), (1, .int a_), (2, .int b_), (3, .int n_)] [] (mA (mA (mA S 32 (upd (S.2.2 32) a_.toNatClampNeg b_)) 33 (upd (S.2.2 33) a_.toNatClampNeg (if 0 ≤ b_ then n_ else 0))) 34 (shZ S a_.toNatClampNeg j))
            refine V_iload (pc := 65) dX11_sheet_65 0 rfl ?_
            refine V_bipush (v := 40) (pc := 67) dX11_sheet_67 (by decide) ?_
            refine V_icmp_ge (pc := 69) (tgt := 91) dX11_sheet_69 (by decide) (fun h69 => ?_) (fun h69 => ?_)
            · skip
              have hj : 40 ≤ j := jge h69 (by omega)
              have ej : j = 40 := by omega
              refine V_iconst (v := 1) (pc := 91) dX11_sheet_91 (by decide) ?_
              exact V_iret (pc := 92) dX11_sheet_92 (Nat.le_of_ble_eq_true rfl) (Nat.le_of_ble_eq_true rfl) (hB _ _ ⟨congrArg (fun z => some (Value.int z)) (by have g1 : b_ < 0 ∨ n_ ≤ 40 := (by first | exact Or.inl h17 | exact Or.inr h23); have g2 : b_ < 0 ∨ 0 ≤ n_ := (by first | exact Or.inl h30 | exact Or.inr h34); rw [if_pos ⟨h4, h13, g1⟩, if_pos g2]), by have g1 : b_ < 0 ∨ n_ ≤ 40 := (by first | exact Or.inl h17 | exact Or.inr h23); have g2 : b_ < 0 ∨ 0 ≤ n_ := (by first | exact Or.inl h30 | exact Or.inr h34); rw [ej]; exact (if_pos ⟨⟨h4, h13, g1⟩, g2⟩).symm⟩)
            · skip
              have hj : j < 40 := jlt h69 (by omega)
              refine V_aload_n (pc := 72) dX11_sheet_72 1 rfl rfl ?_
              refine Mg_items (pc := 73) dX11_sheet_73 ?_
              refine V_bipush (v := 40) (pc := 76) dX11_sheet_76 (by decide) ?_
              refine V_iload_n (pc := 78) dX11_sheet_78 2 rfl rfl ?_
              refine V_imul (pc := 79) dX11_sheet_79 ?_
              refine V_iload (pc := 80) dX11_sheet_80 0 rfl ?_
              refine V_iadd (pc := 82) dX11_sheet_82 ?_
              refine V_iconst (v := 0) (pc := 83) dX11_sheet_83 (by decide) ?_
              refine Ms_items (pc := 84) dX11_sheet_84 (by exact in160 (inSh h4) hj) ?_
              refine V_eqS (mA (mA (mA S 32 (upd (S.2.2 32) a_.toNatClampNeg b_)) 33 (upd (S.2.2 33) a_.toNatClampNeg (if 0 ≤ b_ then n_ else 0))) 34 (shZ S a_.toNatClampNeg (j + 1))) (by
                  refine (mA_mA _ 34 _ _).trans ?_
                  rw [cl40 (inSh h4) hj]
                  rfl) ?_
              refine V_iinc (pc := 85) (v := 1) (L2 := [(0, .ref (Z.2.2.2 99)), (1, .int a_), (2, .int b_), (3, .int n_)]) dX11_sheet_85 0 rfl (by decide) (by decide) rfl (fun x4_85 ex4_85 => ?_)
              rw [nI_1] at ex4_85
              subst ex4_85
              refine V_goto (pc := 88) (tgt := 65) dX11_sheet_88 (by decide) ?_
              refine V_sub (L' := [(4, .int (nI (j + 1))), (0, .ref (Z.2.2.2 99)), (1, .int a_), (2, .int b_), (3, .int n_)]) [0, 1, 2, 3, 4] rfl ?_
              refine ih65 ((j + 1)) ?_ ?_
              · show ((j + 1)) ≤ 40
                exact hj
              · show 40 - (j + 1) < 40 - j
                omega
        · skip
          refine V_iload_n (pc := 33) dX11_sheet_33 3 rfl rfl ?_
          refine V_if_ge (pc := 34) (tgt := 40) dX11_sheet_34 (by decide) (fun h34 => ?_) (fun h34 => ?_)
          · skip
            refine V_aload_n (pc := 40) dX11_sheet_40 0 rfl rfl ?_
            refine Mg_sorts (pc := 41) dX11_sheet_41 ?_
            refine V_iload_n (pc := 44) dX11_sheet_44 1 rfl rfl ?_
            refine V_iload_n (pc := 45) dX11_sheet_45 2 rfl rfl ?_
            refine Ms_sorts (pc := 46) dX11_sheet_46 (by exact inSh h4) ?_
            refine V_aload_n (pc := 47) dX11_sheet_47 0 rfl rfl ?_
            refine Mg_sizes (pc := 48) dX11_sheet_48 ?_
            refine V_iload_n (pc := 51) dX11_sheet_51 1 rfl rfl ?_
            refine V_iload_n (pc := 52) dX11_sheet_52 2 rfl rfl ?_
            refine V_if_ge (pc := 53) (tgt := 60) dX11_sheet_53 (by decide) (fun h53 => ?_) (fun h53 => ?_)
            · skip
              refine V_iload_n (pc := 60) dX11_sheet_60 3 rfl rfl ?_
              refine Ms_sizes (pc := 61) dX11_sheet_61 (by exact inSh h4) ?_
              refine V_eqS (mA (mA S 32 (upd (S.2.2 32) a_.toNatClampNeg b_)) 33 (upd (S.2.2 33) a_.toNatClampNeg (if 0 ≤ b_ then n_ else 0))) (by first | (rw [if_pos h53]; done) | (rw [if_neg h53]; done) | (rw [if_pos h53]; rfl) | (rw [if_neg h53]; rfl)) ?_
              refine V_eqS _ (mA_self _ 34) ?_
              refine V_iconst (v := 0) (pc := 62) dX11_sheet_62 (by decide) ?_
              refine V_istore (pc := 63) (L2 := [(0, .ref (Z.2.2.2 99)), (1, .int a_), (2, .int b_), (3, .int n_)]) dX11_sheet_63 (by decide) rfl (fun x4_63 ex4_63 => ?_)
              subst ex4_63
              refine V_sub (L' := [(4, .int (nI 0)), (0, .ref (Z.2.2.2 99)), (1, .int a_), (2, .int b_), (3, .int n_)]) [0, 1, 2, 3, 4] rfl ?_
              refine Vloop (σ := Nat) (fun x => x ≤ 40) (fun x => 40 - x) (fun x => V MW Z cX11_sheet RX11 5 (some .int) 2 0 0 B 0 0 65 [(4, .int (nI x)), (0, .ref (Z.2.2.2 99)), (1, .int a_), (2, .int b_), (3, .int n_)] [] (mA (mA (mA S 32 (upd (S.2.2 32) a_.toNatClampNeg b_)) 33 (upd (S.2.2 33) a_.toNatClampNeg (if 0 ≤ b_ then n_ else 0))) 34 (shZ S a_.toNatClampNeg x))) ?_ 0 (by exact Nat.zero_le _)
              rintro j hI65 ih65
              have hI65 : j ≤ 40 := hI65
              show V MW Z cX11_sheet RX11 5 (some .int) 2 0 0 B 0 0 65 [(4, .int (nI j)), (0, .ref (Z.2.2.2 99)), (1, .int a_), (2, .int b_), (3, .int n_)] [] (mA (mA (mA S 32 (upd (S.2.2 32) a_.toNatClampNeg b_)) 33 (upd (S.2.2 33) a_.toNatClampNeg (if 0 ≤ b_ then n_ else 0))) 34 (shZ S a_.toNatClampNeg j))
              refine V_iload (pc := 65) dX11_sheet_65 0 rfl ?_
              refine V_bipush (v := 40) (pc := 67) dX11_sheet_67 (by decide) ?_
              refine V_icmp_ge (pc := 69) (tgt := 91) dX11_sheet_69 (by decide) (fun h69 => ?_) (fun h69 => ?_)
              · skip
                have hj : 40 ≤ j := jge h69 (by omega)
                have ej : j = 40 := by omega
                refine V_iconst (v := 1) (pc := 91) dX11_sheet_91 (by decide) ?_
                exact V_iret (pc := 92) dX11_sheet_92 (Nat.le_of_ble_eq_true rfl) (Nat.le_of_ble_eq_true rfl) (hB _ _ ⟨congrArg (fun z => some (Value.int z)) (by have g1 : b_ < 0 ∨ n_ ≤ 40 := (by first | exact Or.inl h17 | exact Or.inr h23); have g2 : b_ < 0 ∨ 0 ≤ n_ := (by first | exact Or.inl h30 | exact Or.inr h34); rw [if_pos ⟨h4, h13, g1⟩, if_pos g2]), by have g1 : b_ < 0 ∨ n_ ≤ 40 := (by first | exact Or.inl h17 | exact Or.inr h23); have g2 : b_ < 0 ∨ 0 ≤ n_ := (by first | exact Or.inl h30 | exact Or.inr h34); rw [ej]; exact (if_pos ⟨⟨h4, h13, g1⟩, g2⟩).symm⟩)
              · skip
                have hj : j < 40 := jlt h69 (by omega)
                refine V_aload_n (pc := 72) dX11_sheet_72 1 rfl rfl ?_
                refine Mg_items (pc := 73) dX11_sheet_73 ?_
                refine V_bipush (v := 40) (pc := 76) dX11_sheet_76 (by decide) ?_
                refine V_iload_n (pc := 78) dX11_sheet_78 2 rfl rfl ?_
                refine V_imul (pc := 79) dX11_sheet_79 ?_
                refine V_iload (pc := 80) dX11_sheet_80 0 rfl ?_
                refine V_iadd (pc := 82) dX11_sheet_82 ?_
                refine V_iconst (v := 0) (pc := 83) dX11_sheet_83 (by decide) ?_
                refine Ms_items (pc := 84) dX11_sheet_84 (by exact in160 (inSh h4) hj) ?_
                refine V_eqS (mA (mA (mA S 32 (upd (S.2.2 32) a_.toNatClampNeg b_)) 33 (upd (S.2.2 33) a_.toNatClampNeg (if 0 ≤ b_ then n_ else 0))) 34 (shZ S a_.toNatClampNeg (j + 1))) (by
                    refine (mA_mA _ 34 _ _).trans ?_
                    rw [cl40 (inSh h4) hj]
                    rfl) ?_
                refine V_iinc (pc := 85) (v := 1) (L2 := [(0, .ref (Z.2.2.2 99)), (1, .int a_), (2, .int b_), (3, .int n_)]) dX11_sheet_85 0 rfl (by decide) (by decide) rfl (fun x4_85 ex4_85 => ?_)
                rw [nI_1] at ex4_85
                subst ex4_85
                refine V_goto (pc := 88) (tgt := 65) dX11_sheet_88 (by decide) ?_
                refine V_sub (L' := [(4, .int (nI (j + 1))), (0, .ref (Z.2.2.2 99)), (1, .int a_), (2, .int b_), (3, .int n_)]) [0, 1, 2, 3, 4] rfl ?_
                refine ih65 ((j + 1)) ?_ ?_
                · show ((j + 1)) ≤ 40
                  exact hj
                · show 40 - (j + 1) < 40 - j
                  omega
            · skip
              refine V_iconst (v := 0) (pc := 56) dX11_sheet_56 (by decide) ?_
              refine V_goto (pc := 57) (tgt := 61) dX11_sheet_57 (by decide) ?_
              refine Ms_sizes (pc := 61) dX11_sheet_61 (by exact inSh h4) ?_
              refine V_eqS (mA (mA S 32 (upd (S.2.2 32) a_.toNatClampNeg b_)) 33 (upd (S.2.2 33) a_.toNatClampNeg (if 0 ≤ b_ then n_ else 0))) (by first | (rw [if_pos h53]; done) | (rw [if_neg h53]; done) | (rw [if_pos h53]; rfl) | (rw [if_neg h53]; rfl)) ?_
              refine V_eqS _ (mA_self _ 34) ?_
              refine V_iconst (v := 0) (pc := 62) dX11_sheet_62 (by decide) ?_
              refine V_istore (pc := 63) (L2 := [(0, .ref (Z.2.2.2 99)), (1, .int a_), (2, .int b_), (3, .int n_)]) dX11_sheet_63 (by decide) rfl (fun x4_63 ex4_63 => ?_)
              subst ex4_63
              refine V_sub (L' := [(4, .int (nI 0)), (0, .ref (Z.2.2.2 99)), (1, .int a_), (2, .int b_), (3, .int n_)]) [0, 1, 2, 3, 4] rfl ?_
              refine Vloop (σ := Nat) (fun x => x ≤ 40) (fun x => 40 - x) (fun x => V MW Z cX11_sheet RX11 5 (some .int) 2 0 0 B 0 0 65 [(4, .int (nI x)), (0, .ref (Z.2.2.2 99)), (1, .int a_), (2, .int b_), (3, .int n_)] [] (mA (mA (mA S 32 (upd (S.2.2 32) a_.toNatClampNeg b_)) 33 (upd (S.2.2 33) a_.toNatClampNeg (if 0 ≤ b_ then n_ else 0))) 34 (shZ S a_.toNatClampNeg x))) ?_ 0 (by exact Nat.zero_le _)
              rintro j hI65 ih65
              have hI65 : j ≤ 40 := hI65
              show V MW Z cX11_sheet RX11 5 (some .int) 2 0 0 B 0 0 65 [(4, .int (nI j)), (0, .ref (Z.2.2.2 99)), (1, .int a_), (2, .int b_), (3, .int n_)] [] (mA (mA (mA S 32 (upd (S.2.2 32) a_.toNatClampNeg b_)) 33 (upd (S.2.2 33) a_.toNatClampNeg (if 0 ≤ b_ then n_ else 0))) 34 (shZ S a_.toNatClampNeg j))
              refine V_iload (pc := 65) dX11_sheet_65 0 rfl ?_
              refine V_bipush (v := 40) (pc := 67) dX11_sheet_67 (by decide) ?_
              refine V_icmp_ge (pc := 69) (tgt := 91) dX11_sheet_69 (by decide) (fun h69 => ?_) (fun h69 => ?_)
              · skip
                have hj : 40 ≤ j := jge h69 (by omega)
                have ej : j = 40 := by omega
                refine V_iconst (v := 1) (pc := 91) dX11_sheet_91 (by decide) ?_
                exact V_iret (pc := 92) dX11_sheet_92 (Nat.le_of_ble_eq_true rfl) (Nat.le_of_ble_eq_true rfl) (hB _ _ ⟨congrArg (fun z => some (Value.int z)) (by have g1 : b_ < 0 ∨ n_ ≤ 40 := (by first | exact Or.inl h17 | exact Or.inr h23); have g2 : b_ < 0 ∨ 0 ≤ n_ := (by first | exact Or.inl h30 | exact Or.inr h34); rw [if_pos ⟨h4, h13, g1⟩, if_pos g2]), by have g1 : b_ < 0 ∨ n_ ≤ 40 := (by first | exact Or.inl h17 | exact Or.inr h23); have g2 : b_ < 0 ∨ 0 ≤ n_ := (by first | exact Or.inl h30 | exact Or.inr h34); rw [ej]; exact (if_pos ⟨⟨h4, h13, g1⟩, g2⟩).symm⟩)
              · skip
                have hj : j < 40 := jlt h69 (by omega)
                refine V_aload_n (pc := 72) dX11_sheet_72 1 rfl rfl ?_
                refine Mg_items (pc := 73) dX11_sheet_73 ?_
                refine V_bipush (v := 40) (pc := 76) dX11_sheet_76 (by decide) ?_
                refine V_iload_n (pc := 78) dX11_sheet_78 2 rfl rfl ?_
                refine V_imul (pc := 79) dX11_sheet_79 ?_
                refine V_iload (pc := 80) dX11_sheet_80 0 rfl ?_
                refine V_iadd (pc := 82) dX11_sheet_82 ?_
                refine V_iconst (v := 0) (pc := 83) dX11_sheet_83 (by decide) ?_
                refine Ms_items (pc := 84) dX11_sheet_84 (by exact in160 (inSh h4) hj) ?_
                refine V_eqS (mA (mA (mA S 32 (upd (S.2.2 32) a_.toNatClampNeg b_)) 33 (upd (S.2.2 33) a_.toNatClampNeg (if 0 ≤ b_ then n_ else 0))) 34 (shZ S a_.toNatClampNeg (j + 1))) (by
                    refine (mA_mA _ 34 _ _).trans ?_
                    rw [cl40 (inSh h4) hj]
                    rfl) ?_
                refine V_iinc (pc := 85) (v := 1) (L2 := [(0, .ref (Z.2.2.2 99)), (1, .int a_), (2, .int b_), (3, .int n_)]) dX11_sheet_85 0 rfl (by decide) (by decide) rfl (fun x4_85 ex4_85 => ?_)
                rw [nI_1] at ex4_85
                subst ex4_85
                refine V_goto (pc := 88) (tgt := 65) dX11_sheet_88 (by decide) ?_
                refine V_sub (L' := [(4, .int (nI (j + 1))), (0, .ref (Z.2.2.2 99)), (1, .int a_), (2, .int b_), (3, .int n_)]) [0, 1, 2, 3, 4] rfl ?_
                refine ih65 ((j + 1)) ?_ ?_
                · show ((j + 1)) ≤ 40
                  exact hj
                · show 40 - (j + 1) < 40 - j
                  omega
          · skip
            refine V_bipush (v := (-14)) (pc := 37) dX11_sheet_37 (by decide) ?_
            exact V_iret (pc := 39) dX11_sheet_39 (Nat.le_of_ble_eq_true rfl) (Nat.le_of_ble_eq_true rfl) (hB _ _ ⟨congrArg (fun z => some (Value.int z)) (by first | exact absurd h17 h30 | (rw [if_pos ⟨h4, h13, Or.inr h23⟩, if_neg (fun h => h.elim h30 h34)])), by exact (if_neg (fun h => h.2.elim h30 h34)).symm⟩)
      · skip
        refine V_iload_n (pc := 20) dX11_sheet_20 3 rfl rfl ?_
        refine V_bipush (v := 40) (pc := 21) dX11_sheet_21 (by decide) ?_
        refine V_icmp_le (pc := 23) (tgt := 29) dX11_sheet_23 (by decide) (fun h23 => ?_) (fun h23 => ?_)
        · skip
          refine V_iload_n (pc := 29) dX11_sheet_29 2 rfl rfl ?_
          refine V_if_lt (pc := 30) (tgt := 40) dX11_sheet_30 (by decide) (fun h30 => ?_) (fun h30 => ?_)
          · skip
            refine V_aload_n (pc := 40) dX11_sheet_40 0 rfl rfl ?_
            refine Mg_sorts (pc := 41) dX11_sheet_41 ?_
            refine V_iload_n (pc := 44) dX11_sheet_44 1 rfl rfl ?_
            refine V_iload_n (pc := 45) dX11_sheet_45 2 rfl rfl ?_
            refine Ms_sorts (pc := 46) dX11_sheet_46 (by exact inSh h4) ?_
            refine V_aload_n (pc := 47) dX11_sheet_47 0 rfl rfl ?_
            refine Mg_sizes (pc := 48) dX11_sheet_48 ?_
            refine V_iload_n (pc := 51) dX11_sheet_51 1 rfl rfl ?_
            refine V_iload_n (pc := 52) dX11_sheet_52 2 rfl rfl ?_
            refine V_if_ge (pc := 53) (tgt := 60) dX11_sheet_53 (by decide) (fun h53 => ?_) (fun h53 => ?_)
            · skip
              refine V_iload_n (pc := 60) dX11_sheet_60 3 rfl rfl ?_
              refine Ms_sizes (pc := 61) dX11_sheet_61 (by exact inSh h4) ?_
              refine V_eqS (mA (mA S 32 (upd (S.2.2 32) a_.toNatClampNeg b_)) 33 (upd (S.2.2 33) a_.toNatClampNeg (if 0 ≤ b_ then n_ else 0))) (by first | (rw [if_pos h53]; done) | (rw [if_neg h53]; done) | (rw [if_pos h53]; rfl) | (rw [if_neg h53]; rfl)) ?_
              refine V_eqS _ (mA_self _ 34) ?_
              refine V_iconst (v := 0) (pc := 62) dX11_sheet_62 (by decide) ?_
              refine V_istore (pc := 63) (L2 := [(0, .ref (Z.2.2.2 99)), (1, .int a_), (2, .int b_), (3, .int n_)]) dX11_sheet_63 (by decide) rfl (fun x4_63 ex4_63 => ?_)
              subst ex4_63
              refine V_sub (L' := [(4, .int (nI 0)), (0, .ref (Z.2.2.2 99)), (1, .int a_), (2, .int b_), (3, .int n_)]) [0, 1, 2, 3, 4] rfl ?_
              refine Vloop (σ := Nat) (fun x => x ≤ 40) (fun x => 40 - x) (fun x => V MW Z cX11_sheet RX11 5 (some .int) 2 0 0 B 0 0 65 [(4, .int (nI x)), (0, .ref (Z.2.2.2 99)), (1, .int a_), (2, .int b_), (3, .int n_)] [] (mA (mA (mA S 32 (upd (S.2.2 32) a_.toNatClampNeg b_)) 33 (upd (S.2.2 33) a_.toNatClampNeg (if 0 ≤ b_ then n_ else 0))) 34 (shZ S a_.toNatClampNeg x))) ?_ 0 (by exact Nat.zero_le _)
              rintro j hI65 ih65
              have hI65 : j ≤ 40 := hI65
              show V MW Z cX11_sheet RX11 5 (some .int) 2 0 0 B 0 0 65 [(4, .int (nI j)), (0, .ref (Z.2.2.2 99)), (1, .int a_), (2, .int b_), (3, .int n_)] [] (mA (mA (mA S 32 (upd (S.2.2 32) a_.toNatClampNeg b_)) 33 (upd (S.2.2 33) a_.toNatClampNeg (if 0 ≤ b_ then n_ else 0))) 34 (shZ S a_.toNatClampNeg j))
              refine V_iload (pc := 65) dX11_sheet_65 0 rfl ?_
              refine V_bipush (v := 40) (pc := 67) dX11_sheet_67 (by decide) ?_
              refine V_icmp_ge (pc := 69) (tgt := 91) dX11_sheet_69 (by decide) (fun h69 => ?_) (fun h69 => ?_)
              · skip
                have hj : 40 ≤ j := jge h69 (by omega)
                have ej : j = 40 := by omega
                refine V_iconst (v := 1) (pc := 91) dX11_sheet_91 (by decide) ?_
                exact V_iret (pc := 92) dX11_sheet_92 (Nat.le_of_ble_eq_true rfl) (Nat.le_of_ble_eq_true rfl) (hB _ _ ⟨congrArg (fun z => some (Value.int z)) (by have g1 : b_ < 0 ∨ n_ ≤ 40 := (by first | exact Or.inl h17 | exact Or.inr h23); have g2 : b_ < 0 ∨ 0 ≤ n_ := (by first | exact Or.inl h30 | exact Or.inr h34); rw [if_pos ⟨h4, h13, g1⟩, if_pos g2]), by have g1 : b_ < 0 ∨ n_ ≤ 40 := (by first | exact Or.inl h17 | exact Or.inr h23); have g2 : b_ < 0 ∨ 0 ≤ n_ := (by first | exact Or.inl h30 | exact Or.inr h34); rw [ej]; exact (if_pos ⟨⟨h4, h13, g1⟩, g2⟩).symm⟩)
              · skip
                have hj : j < 40 := jlt h69 (by omega)
                refine V_aload_n (pc := 72) dX11_sheet_72 1 rfl rfl ?_
                refine Mg_items (pc := 73) dX11_sheet_73 ?_
                refine V_bipush (v := 40) (pc := 76) dX11_sheet_76 (by decide) ?_
                refine V_iload_n (pc := 78) dX11_sheet_78 2 rfl rfl ?_
                refine V_imul (pc := 79) dX11_sheet_79 ?_
                refine V_iload (pc := 80) dX11_sheet_80 0 rfl ?_
                refine V_iadd (pc := 82) dX11_sheet_82 ?_
                refine V_iconst (v := 0) (pc := 83) dX11_sheet_83 (by decide) ?_
                refine Ms_items (pc := 84) dX11_sheet_84 (by exact in160 (inSh h4) hj) ?_
                refine V_eqS (mA (mA (mA S 32 (upd (S.2.2 32) a_.toNatClampNeg b_)) 33 (upd (S.2.2 33) a_.toNatClampNeg (if 0 ≤ b_ then n_ else 0))) 34 (shZ S a_.toNatClampNeg (j + 1))) (by
                    refine (mA_mA _ 34 _ _).trans ?_
                    rw [cl40 (inSh h4) hj]
                    rfl) ?_
                refine V_iinc (pc := 85) (v := 1) (L2 := [(0, .ref (Z.2.2.2 99)), (1, .int a_), (2, .int b_), (3, .int n_)]) dX11_sheet_85 0 rfl (by decide) (by decide) rfl (fun x4_85 ex4_85 => ?_)
                rw [nI_1] at ex4_85
                subst ex4_85
                refine V_goto (pc := 88) (tgt := 65) dX11_sheet_88 (by decide) ?_
                refine V_sub (L' := [(4, .int (nI (j + 1))), (0, .ref (Z.2.2.2 99)), (1, .int a_), (2, .int b_), (3, .int n_)]) [0, 1, 2, 3, 4] rfl ?_
                refine ih65 ((j + 1)) ?_ ?_
                · show ((j + 1)) ≤ 40
                  exact hj
                · show 40 - (j + 1) < 40 - j
                  omega
            · skip
              refine V_iconst (v := 0) (pc := 56) dX11_sheet_56 (by decide) ?_
              refine V_goto (pc := 57) (tgt := 61) dX11_sheet_57 (by decide) ?_
              refine Ms_sizes (pc := 61) dX11_sheet_61 (by exact inSh h4) ?_
              refine V_eqS (mA (mA S 32 (upd (S.2.2 32) a_.toNatClampNeg b_)) 33 (upd (S.2.2 33) a_.toNatClampNeg (if 0 ≤ b_ then n_ else 0))) (by first | (rw [if_pos h53]; done) | (rw [if_neg h53]; done) | (rw [if_pos h53]; rfl) | (rw [if_neg h53]; rfl)) ?_
              refine V_eqS _ (mA_self _ 34) ?_
              refine V_iconst (v := 0) (pc := 62) dX11_sheet_62 (by decide) ?_
              refine V_istore (pc := 63) (L2 := [(0, .ref (Z.2.2.2 99)), (1, .int a_), (2, .int b_), (3, .int n_)]) dX11_sheet_63 (by decide) rfl (fun x4_63 ex4_63 => ?_)
              subst ex4_63
              refine V_sub (L' := [(4, .int (nI 0)), (0, .ref (Z.2.2.2 99)), (1, .int a_), (2, .int b_), (3, .int n_)]) [0, 1, 2, 3, 4] rfl ?_
              refine Vloop (σ := Nat) (fun x => x ≤ 40) (fun x => 40 - x) (fun x => V MW Z cX11_sheet RX11 5 (some .int) 2 0 0 B 0 0 65 [(4, .int (nI x)), (0, .ref (Z.2.2.2 99)), (1, .int a_), (2, .int b_), (3, .int n_)] [] (mA (mA (mA S 32 (upd (S.2.2 32) a_.toNatClampNeg b_)) 33 (upd (S.2.2 33) a_.toNatClampNeg (if 0 ≤ b_ then n_ else 0))) 34 (shZ S a_.toNatClampNeg x))) ?_ 0 (by exact Nat.zero_le _)
              rintro j hI65 ih65
              have hI65 : j ≤ 40 := hI65
              show V MW Z cX11_sheet RX11 5 (some .int) 2 0 0 B 0 0 65 [(4, .int (nI j)), (0, .ref (Z.2.2.2 99)), (1, .int a_), (2, .int b_), (3, .int n_)] [] (mA (mA (mA S 32 (upd (S.2.2 32) a_.toNatClampNeg b_)) 33 (upd (S.2.2 33) a_.toNatClampNeg (if 0 ≤ b_ then n_ else 0))) 34 (shZ S a_.toNatClampNeg j))
              refine V_iload (pc := 65) dX11_sheet_65 0 rfl ?_
              refine V_bipush (v := 40) (pc := 67) dX11_sheet_67 (by decide) ?_
              refine V_icmp_ge (pc := 69) (tgt := 91) dX11_sheet_69 (by decide) (fun h69 => ?_) (fun h69 => ?_)
              · skip
                have hj : 40 ≤ j := jge h69 (by omega)
                have ej : j = 40 := by omega
                refine V_iconst (v := 1) (pc := 91) dX11_sheet_91 (by decide) ?_
                exact V_iret (pc := 92) dX11_sheet_92 (Nat.le_of_ble_eq_true rfl) (Nat.le_of_ble_eq_true rfl) (hB _ _ ⟨congrArg (fun z => some (Value.int z)) (by have g1 : b_ < 0 ∨ n_ ≤ 40 := (by first | exact Or.inl h17 | exact Or.inr h23); have g2 : b_ < 0 ∨ 0 ≤ n_ := (by first | exact Or.inl h30 | exact Or.inr h34); rw [if_pos ⟨h4, h13, g1⟩, if_pos g2]), by have g1 : b_ < 0 ∨ n_ ≤ 40 := (by first | exact Or.inl h17 | exact Or.inr h23); have g2 : b_ < 0 ∨ 0 ≤ n_ := (by first | exact Or.inl h30 | exact Or.inr h34); rw [ej]; exact (if_pos ⟨⟨h4, h13, g1⟩, g2⟩).symm⟩)
              · skip
                have hj : j < 40 := jlt h69 (by omega)
                refine V_aload_n (pc := 72) dX11_sheet_72 1 rfl rfl ?_
                refine Mg_items (pc := 73) dX11_sheet_73 ?_
                refine V_bipush (v := 40) (pc := 76) dX11_sheet_76 (by decide) ?_
                refine V_iload_n (pc := 78) dX11_sheet_78 2 rfl rfl ?_
                refine V_imul (pc := 79) dX11_sheet_79 ?_
                refine V_iload (pc := 80) dX11_sheet_80 0 rfl ?_
                refine V_iadd (pc := 82) dX11_sheet_82 ?_
                refine V_iconst (v := 0) (pc := 83) dX11_sheet_83 (by decide) ?_
                refine Ms_items (pc := 84) dX11_sheet_84 (by exact in160 (inSh h4) hj) ?_
                refine V_eqS (mA (mA (mA S 32 (upd (S.2.2 32) a_.toNatClampNeg b_)) 33 (upd (S.2.2 33) a_.toNatClampNeg (if 0 ≤ b_ then n_ else 0))) 34 (shZ S a_.toNatClampNeg (j + 1))) (by
                    refine (mA_mA _ 34 _ _).trans ?_
                    rw [cl40 (inSh h4) hj]
                    rfl) ?_
                refine V_iinc (pc := 85) (v := 1) (L2 := [(0, .ref (Z.2.2.2 99)), (1, .int a_), (2, .int b_), (3, .int n_)]) dX11_sheet_85 0 rfl (by decide) (by decide) rfl (fun x4_85 ex4_85 => ?_)
                rw [nI_1] at ex4_85
                subst ex4_85
                refine V_goto (pc := 88) (tgt := 65) dX11_sheet_88 (by decide) ?_
                refine V_sub (L' := [(4, .int (nI (j + 1))), (0, .ref (Z.2.2.2 99)), (1, .int a_), (2, .int b_), (3, .int n_)]) [0, 1, 2, 3, 4] rfl ?_
                refine ih65 ((j + 1)) ?_ ?_
                · show ((j + 1)) ≤ 40
                  exact hj
                · show 40 - (j + 1) < 40 - j
                  omega
          · skip
            refine V_iload_n (pc := 33) dX11_sheet_33 3 rfl rfl ?_
            refine V_if_ge (pc := 34) (tgt := 40) dX11_sheet_34 (by decide) (fun h34 => ?_) (fun h34 => ?_)
            · skip
              refine V_aload_n (pc := 40) dX11_sheet_40 0 rfl rfl ?_
              refine Mg_sorts (pc := 41) dX11_sheet_41 ?_
              refine V_iload_n (pc := 44) dX11_sheet_44 1 rfl rfl ?_
              refine V_iload_n (pc := 45) dX11_sheet_45 2 rfl rfl ?_
              refine Ms_sorts (pc := 46) dX11_sheet_46 (by exact inSh h4) ?_
              refine V_aload_n (pc := 47) dX11_sheet_47 0 rfl rfl ?_
              refine Mg_sizes (pc := 48) dX11_sheet_48 ?_
              refine V_iload_n (pc := 51) dX11_sheet_51 1 rfl rfl ?_
              refine V_iload_n (pc := 52) dX11_sheet_52 2 rfl rfl ?_
              refine V_if_ge (pc := 53) (tgt := 60) dX11_sheet_53 (by decide) (fun h53 => ?_) (fun h53 => ?_)
              · skip
                refine V_iload_n (pc := 60) dX11_sheet_60 3 rfl rfl ?_
                refine Ms_sizes (pc := 61) dX11_sheet_61 (by exact inSh h4) ?_
                refine V_eqS (mA (mA S 32 (upd (S.2.2 32) a_.toNatClampNeg b_)) 33 (upd (S.2.2 33) a_.toNatClampNeg (if 0 ≤ b_ then n_ else 0))) (by first | (rw [if_pos h53]; done) | (rw [if_neg h53]; done) | (rw [if_pos h53]; rfl) | (rw [if_neg h53]; rfl)) ?_
                refine V_eqS _ (mA_self _ 34) ?_
                refine V_iconst (v := 0) (pc := 62) dX11_sheet_62 (by decide) ?_
                refine V_istore (pc := 63) (L2 := [(0, .ref (Z.2.2.2 99)), (1, .int a_), (2, .int b_), (3, .int n_)]) dX11_sheet_63 (by decide) rfl (fun x4_63 ex4_63 => ?_)
                subst ex4_63
                refine V_sub (L' := [(4, .int (nI 0)), (0, .ref (Z.2.2.2 99)), (1, .int a_), (2, .int b_), (3, .int n_)]) [0, 1, 2, 3, 4] rfl ?_
                refine Vloop (σ := Nat) (fun x => x ≤ 40) (fun x => 40 - x) (fun x => V MW Z cX11_sheet RX11 5 (some .int) 2 0 0 B 0 0 65 [(4, .int (nI x)), (0, .ref (Z.2.2.2 99)), (1, .int a_), (2, .int b_), (3, .int n_)] [] (mA (mA (mA S 32 (upd (S.2.2 32) a_.toNatClampNeg b_)) 33 (upd (S.2.2 33) a_.toNatClampNeg (if 0 ≤ b_ then n_ else 0))) 34 (shZ S a_.toNatClampNeg x))) ?_ 0 (by exact Nat.zero_le _)
                rintro j hI65 ih65
                have hI65 : j ≤ 40 := hI65
                show V MW Z cX11_sheet RX11 5 (some .int) 2 0 0 B 0 0 65 [(4, .int (nI j)), (0, .ref (Z.2.2.2 99)), (1, .int a_), (2, .int b_), (3, .int n_)] [] (mA (mA (mA S 32 (upd (S.2.2 32) a_.toNatClampNeg b_)) 33 (upd (S.2.2 33) a_.toNatClampNeg (if 0 ≤ b_ then n_ else 0))) 34 (shZ S a_.toNatClampNeg j))
                refine V_iload (pc := 65) dX11_sheet_65 0 rfl ?_
                refine V_bipush (v := 40) (pc := 67) dX11_sheet_67 (by decide) ?_
                refine V_icmp_ge (pc := 69) (tgt := 91) dX11_sheet_69 (by decide) (fun h69 => ?_) (fun h69 => ?_)
                · skip
                  have hj : 40 ≤ j := jge h69 (by omega)
                  have ej : j = 40 := by omega
                  refine V_iconst (v := 1) (pc := 91) dX11_sheet_91 (by decide) ?_
                  exact V_iret (pc := 92) dX11_sheet_92 (Nat.le_of_ble_eq_true rfl) (Nat.le_of_ble_eq_true rfl) (hB _ _ ⟨congrArg (fun z => some (Value.int z)) (by have g1 : b_ < 0 ∨ n_ ≤ 40 := (by first | exact Or.inl h17 | exact Or.inr h23); have g2 : b_ < 0 ∨ 0 ≤ n_ := (by first | exact Or.inl h30 | exact Or.inr h34); rw [if_pos ⟨h4, h13, g1⟩, if_pos g2]), by have g1 : b_ < 0 ∨ n_ ≤ 40 := (by first | exact Or.inl h17 | exact Or.inr h23); have g2 : b_ < 0 ∨ 0 ≤ n_ := (by first | exact Or.inl h30 | exact Or.inr h34); rw [ej]; exact (if_pos ⟨⟨h4, h13, g1⟩, g2⟩).symm⟩)
                · skip
                  have hj : j < 40 := jlt h69 (by omega)
                  refine V_aload_n (pc := 72) dX11_sheet_72 1 rfl rfl ?_
                  refine Mg_items (pc := 73) dX11_sheet_73 ?_
                  refine V_bipush (v := 40) (pc := 76) dX11_sheet_76 (by decide) ?_
                  refine V_iload_n (pc := 78) dX11_sheet_78 2 rfl rfl ?_
                  refine V_imul (pc := 79) dX11_sheet_79 ?_
                  refine V_iload (pc := 80) dX11_sheet_80 0 rfl ?_
                  refine V_iadd (pc := 82) dX11_sheet_82 ?_
                  refine V_iconst (v := 0) (pc := 83) dX11_sheet_83 (by decide) ?_
                  refine Ms_items (pc := 84) dX11_sheet_84 (by exact in160 (inSh h4) hj) ?_
                  refine V_eqS (mA (mA (mA S 32 (upd (S.2.2 32) a_.toNatClampNeg b_)) 33 (upd (S.2.2 33) a_.toNatClampNeg (if 0 ≤ b_ then n_ else 0))) 34 (shZ S a_.toNatClampNeg (j + 1))) (by
                      refine (mA_mA _ 34 _ _).trans ?_
                      rw [cl40 (inSh h4) hj]
                      rfl) ?_
                  refine V_iinc (pc := 85) (v := 1) (L2 := [(0, .ref (Z.2.2.2 99)), (1, .int a_), (2, .int b_), (3, .int n_)]) dX11_sheet_85 0 rfl (by decide) (by decide) rfl (fun x4_85 ex4_85 => ?_)
                  rw [nI_1] at ex4_85
                  subst ex4_85
                  refine V_goto (pc := 88) (tgt := 65) dX11_sheet_88 (by decide) ?_
                  refine V_sub (L' := [(4, .int (nI (j + 1))), (0, .ref (Z.2.2.2 99)), (1, .int a_), (2, .int b_), (3, .int n_)]) [0, 1, 2, 3, 4] rfl ?_
                  refine ih65 ((j + 1)) ?_ ?_
                  · show ((j + 1)) ≤ 40
                    exact hj
                  · show 40 - (j + 1) < 40 - j
                    omega
              · skip
                refine V_iconst (v := 0) (pc := 56) dX11_sheet_56 (by decide) ?_
                refine V_goto (pc := 57) (tgt := 61) dX11_sheet_57 (by decide) ?_
                refine Ms_sizes (pc := 61) dX11_sheet_61 (by exact inSh h4) ?_
                refine V_eqS (mA (mA S 32 (upd (S.2.2 32) a_.toNatClampNeg b_)) 33 (upd (S.2.2 33) a_.toNatClampNeg (if 0 ≤ b_ then n_ else 0))) (by first | (rw [if_pos h53]; done) | (rw [if_neg h53]; done) | (rw [if_pos h53]; rfl) | (rw [if_neg h53]; rfl)) ?_
                refine V_eqS _ (mA_self _ 34) ?_
                refine V_iconst (v := 0) (pc := 62) dX11_sheet_62 (by decide) ?_
                refine V_istore (pc := 63) (L2 := [(0, .ref (Z.2.2.2 99)), (1, .int a_), (2, .int b_), (3, .int n_)]) dX11_sheet_63 (by decide) rfl (fun x4_63 ex4_63 => ?_)
                subst ex4_63
                refine V_sub (L' := [(4, .int (nI 0)), (0, .ref (Z.2.2.2 99)), (1, .int a_), (2, .int b_), (3, .int n_)]) [0, 1, 2, 3, 4] rfl ?_
                refine Vloop (σ := Nat) (fun x => x ≤ 40) (fun x => 40 - x) (fun x => V MW Z cX11_sheet RX11 5 (some .int) 2 0 0 B 0 0 65 [(4, .int (nI x)), (0, .ref (Z.2.2.2 99)), (1, .int a_), (2, .int b_), (3, .int n_)] [] (mA (mA (mA S 32 (upd (S.2.2 32) a_.toNatClampNeg b_)) 33 (upd (S.2.2 33) a_.toNatClampNeg (if 0 ≤ b_ then n_ else 0))) 34 (shZ S a_.toNatClampNeg x))) ?_ 0 (by exact Nat.zero_le _)
                rintro j hI65 ih65
                have hI65 : j ≤ 40 := hI65
                show V MW Z cX11_sheet RX11 5 (some .int) 2 0 0 B 0 0 65 [(4, .int (nI j)), (0, .ref (Z.2.2.2 99)), (1, .int a_), (2, .int b_), (3, .int n_)] [] (mA (mA (mA S 32 (upd (S.2.2 32) a_.toNatClampNeg b_)) 33 (upd (S.2.2 33) a_.toNatClampNeg (if 0 ≤ b_ then n_ else 0))) 34 (shZ S a_.toNatClampNeg j))
                refine V_iload (pc := 65) dX11_sheet_65 0 rfl ?_
                refine V_bipush (v := 40) (pc := 67) dX11_sheet_67 (by decide) ?_
                refine V_icmp_ge (pc := 69) (tgt := 91) dX11_sheet_69 (by decide) (fun h69 => ?_) (fun h69 => ?_)
                · skip
                  have hj : 40 ≤ j := jge h69 (by omega)
                  have ej : j = 40 := by omega
                  refine V_iconst (v := 1) (pc := 91) dX11_sheet_91 (by decide) ?_
                  exact V_iret (pc := 92) dX11_sheet_92 (Nat.le_of_ble_eq_true rfl) (Nat.le_of_ble_eq_true rfl) (hB _ _ ⟨congrArg (fun z => some (Value.int z)) (by have g1 : b_ < 0 ∨ n_ ≤ 40 := (by first | exact Or.inl h17 | exact Or.inr h23); have g2 : b_ < 0 ∨ 0 ≤ n_ := (by first | exact Or.inl h30 | exact Or.inr h34); rw [if_pos ⟨h4, h13, g1⟩, if_pos g2]), by have g1 : b_ < 0 ∨ n_ ≤ 40 := (by first | exact Or.inl h17 | exact Or.inr h23); have g2 : b_ < 0 ∨ 0 ≤ n_ := (by first | exact Or.inl h30 | exact Or.inr h34); rw [ej]; exact (if_pos ⟨⟨h4, h13, g1⟩, g2⟩).symm⟩)
                · skip
                  have hj : j < 40 := jlt h69 (by omega)
                  refine V_aload_n (pc := 72) dX11_sheet_72 1 rfl rfl ?_
                  refine Mg_items (pc := 73) dX11_sheet_73 ?_
                  refine V_bipush (v := 40) (pc := 76) dX11_sheet_76 (by decide) ?_
                  refine V_iload_n (pc := 78) dX11_sheet_78 2 rfl rfl ?_
                  refine V_imul (pc := 79) dX11_sheet_79 ?_
                  refine V_iload (pc := 80) dX11_sheet_80 0 rfl ?_
                  refine V_iadd (pc := 82) dX11_sheet_82 ?_
                  refine V_iconst (v := 0) (pc := 83) dX11_sheet_83 (by decide) ?_
                  refine Ms_items (pc := 84) dX11_sheet_84 (by exact in160 (inSh h4) hj) ?_
                  refine V_eqS (mA (mA (mA S 32 (upd (S.2.2 32) a_.toNatClampNeg b_)) 33 (upd (S.2.2 33) a_.toNatClampNeg (if 0 ≤ b_ then n_ else 0))) 34 (shZ S a_.toNatClampNeg (j + 1))) (by
                      refine (mA_mA _ 34 _ _).trans ?_
                      rw [cl40 (inSh h4) hj]
                      rfl) ?_
                  refine V_iinc (pc := 85) (v := 1) (L2 := [(0, .ref (Z.2.2.2 99)), (1, .int a_), (2, .int b_), (3, .int n_)]) dX11_sheet_85 0 rfl (by decide) (by decide) rfl (fun x4_85 ex4_85 => ?_)
                  rw [nI_1] at ex4_85
                  subst ex4_85
                  refine V_goto (pc := 88) (tgt := 65) dX11_sheet_88 (by decide) ?_
                  refine V_sub (L' := [(4, .int (nI (j + 1))), (0, .ref (Z.2.2.2 99)), (1, .int a_), (2, .int b_), (3, .int n_)]) [0, 1, 2, 3, 4] rfl ?_
                  refine ih65 ((j + 1)) ?_ ?_
                  · show ((j + 1)) ≤ 40
                    exact hj
                  · show 40 - (j + 1) < 40 - j
                    omega
            · skip
              refine V_bipush (v := (-14)) (pc := 37) dX11_sheet_37 (by decide) ?_
              exact V_iret (pc := 39) dX11_sheet_39 (Nat.le_of_ble_eq_true rfl) (Nat.le_of_ble_eq_true rfl) (hB _ _ ⟨congrArg (fun z => some (Value.int z)) (by first | exact absurd h17 h30 | (rw [if_pos ⟨h4, h13, Or.inr h23⟩, if_neg (fun h => h.elim h30 h34)])), by exact (if_neg (fun h => h.2.elim h30 h34)).symm⟩)
        · skip
          refine V_bipush (v := (-2)) (pc := 26) dX11_sheet_26 (by decide) ?_
          exact V_iret (pc := 28) dX11_sheet_28 (Nat.le_of_ble_eq_true rfl) (Nat.le_of_ble_eq_true rfl) (hB _ _ ⟨congrArg (fun z => some (Value.int z)) (by exact (if_neg (fun h => h.2.2.elim h17 h23)).symm), by exact (if_neg (fun h => h.1.2.2.elim h17 h23)).symm⟩)
set_option maxHeartbeats 4000000 in
set_option maxRecDepth 100000 in
theorem cM_count (Z : VZ) (S : MS) (b_ : Int32) (hm : mOK S) : CtF MW Z yX11_count cX11_count 4 (some .int) 1 0 0 [.ref (Z.2.2.2 99), .int b_] (S) (some (.int (if b_ = 0 then S.1 0 else if b_ = 1 then S.1 21 else if b_ = 2 then ctC S (S.1 0).toNatClampNeg else if b_ = 3 then ctL S (S.1 0).toNatClampNeg else if b_ = 4 then ctR S (S.1 0).toNatClampNeg else -2))) (S) := by
  refine V_entry (own := RX11) (by decide) rfl (Nat.le_of_ble_eq_true rfl) ?_
  intro B hB
  refine V_sub (L' := [(0, .ref (Z.2.2.2 99)), (1, .int b_)]) [0, 1] rfl ?_
  refine V_iconst (v := 0) (pc := 0) dX11_count_0 (by decide) ?_
  refine V_istore_n (pc := 1) (L2 := [(0, .ref (Z.2.2.2 99)), (1, .int b_)]) dX11_count_1 rfl (by decide) rfl (fun x2_1 ex2_1 => ?_)
  subst ex2_1
  refine V_iload_n (pc := 2) dX11_count_2 2 rfl rfl ?_
  by_cases h3_0 : b_ = 0
  · refine V_eqi 0 h3_0 ?_
    refine V_tableIn (pc := 3) (tgt := 36) dX11_count_3 (by decide) (by decide) rfl (by decide) ?_
    refine V_aload_n (pc := 36) dX11_count_36 1 rfl rfl ?_
    refine Mg_many (pc := 37) (v := (S.1 0)) rfl dX11_count_37 ?_
    exact V_iret (pc := 40) dX11_count_40 (Nat.le_of_ble_eq_true rfl) (Nat.le_of_ble_eq_true rfl) (hB _ _ ⟨congrArg (fun z => some (Value.int z)) (by simp [*]), by rfl⟩)
  by_cases h3_1 : b_ = 1
  · refine V_eqi 1 h3_1 ?_
    refine V_tableIn (pc := 3) (tgt := 41) dX11_count_3 (by decide) (by decide) rfl (by decide) ?_
    refine V_aload_n (pc := 41) dX11_count_41 1 rfl rfl ?_
    refine Mg_taped (pc := 42) (v := (S.1 21)) rfl dX11_count_42 ?_
    exact V_iret (pc := 45) dX11_count_45 (Nat.le_of_ble_eq_true rfl) (Nat.le_of_ble_eq_true rfl) (hB _ _ ⟨congrArg (fun z => some (Value.int z)) (by simp [*]), by rfl⟩)
  by_cases h3_2 : b_ = 2
  · refine V_eqi 2 h3_2 ?_
    refine V_tableIn (pc := 3) (tgt := 46) dX11_count_3 (by decide) (by decide) rfl (by decide) ?_
    refine V_iconst (v := 0) (pc := 46) dX11_count_46 (by decide) ?_
    refine V_istore_n (pc := 47) (L2 := [(2, .int 0), (0, .ref (Z.2.2.2 99)), (1, .int b_)]) dX11_count_47 rfl (by decide) rfl (fun x3_47 ex3_47 => ?_)
    subst ex3_47
    refine V_sub (L' := [(3, .int (nI 0)), (2, .int 0), (0, .ref (Z.2.2.2 99)), (1, .int b_)]) [0, 1, 2, 3] rfl ?_
    refine Vloop (σ := Nat × Int32) (fun x => (x.1) ≤ (S.1 0).toNatClampNeg ∧ (x.2) = ctC S (x.1)) (fun x => (S.1 0).toNatClampNeg - (x.1)) (fun x => V MW Z cX11_count RX11 4 (some .int) 1 0 0 B 0 0 48 [(3, .int (nI (x.1))), (2, .int (x.2)), (0, .ref (Z.2.2.2 99)), (1, .int b_)] [] (S)) ?_ (0, 0) (by exact ⟨Nat.zero_le _, rfl⟩)
    rintro ⟨j, u⟩ hI48 ih48
    have hI48 : j ≤ (S.1 0).toNatClampNeg ∧ u = ctC S j := hI48
    show V MW Z cX11_count RX11 4 (some .int) 1 0 0 B 0 0 48 [(3, .int (nI j)), (2, .int u), (0, .ref (Z.2.2.2 99)), (1, .int b_)] [] (S)
    refine V_iload_n (pc := 48) dX11_count_48 0 rfl rfl ?_
    refine V_aload_n (pc := 49) dX11_count_49 2 rfl rfl ?_
    refine Mg_many (pc := 50) (v := (S.1 0)) rfl dX11_count_50 ?_
    refine V_icmp_ge (pc := 53) (tgt := 71) dX11_count_53 (by decide) (fun h53 => ?_) (fun h53 => ?_)
    · skip
      have hj : (S.1 0).toNatClampNeg ≤ j := jge h53 (Nat.lt_of_le_of_lt hI48.1 (clampLt _))
      have ej : j = (S.1 0).toNatClampNeg := Nat.le_antisymm hI48.1 hj
      refine V_iload_n (pc := 71) dX11_count_71 1 rfl rfl ?_
      exact V_iret (pc := 72) dX11_count_72 (Nat.le_of_ble_eq_true rfl) (Nat.le_of_ble_eq_true rfl) (hB _ _ ⟨congrArg (fun z => some (Value.int z)) (by rw [hI48.2, ej]; simp [*]), by rfl⟩)
    · skip
      have hj : j < (S.1 0).toNatClampNeg := jlt h53 (Nat.lt_of_le_of_lt hI48.1 (clampLt _))
      have h4 := mOK_le hm
      refine V_iload_n (pc := 56) dX11_count_56 1 rfl rfl ?_
      refine V_aload_n (pc := 57) dX11_count_57 2 rfl rfl ?_
      refine Mg_cells (pc := 58) dX11_count_58 ?_
      refine V_iload_n (pc := 61) dX11_count_61 0 rfl rfl ?_
      refine Ml_cells (pc := 62) dX11_count_62 (by exact vp_in_nI (by omega) (by decide)) ?_
      refine V_iadd (pc := 63) dX11_count_63 ?_
      refine V_istore_n (pc := 64) (L2 := [(3, .int (nI j)), (0, .ref (Z.2.2.2 99)), (1, .int b_)]) dX11_count_64 rfl (by decide) rfl (fun x2_64 ex2_64 => ?_)
      subst ex2_64
      refine V_iinc (pc := 65) (v := 1) (L2 := [(2, .int (u + (S.2.2 2 ((nI j)).toNatClampNeg))), (0, .ref (Z.2.2.2 99)), (1, .int b_)]) dX11_count_65 1 rfl (by decide) (by decide) rfl (fun x3_65 ex3_65 => ?_)
      rw [nI_1] at ex3_65
      subst ex3_65
      refine V_goto (pc := 68) (tgt := 48) dX11_count_68 (by decide) ?_
      refine V_sub (L' := [(3, .int (nI (j + 1))), (2, .int (u + (S.2.2 2 ((nI j)).toNatClampNeg))), (0, .ref (Z.2.2.2 99)), (1, .int b_)]) [0, 1, 2, 3] rfl ?_
      refine ih48 (((j + 1)), _) ?_ ?_
      · show ((j + 1)) ≤ (S.1 0).toNatClampNeg ∧ ((u + (S.2.2 2 ((nI j)).toNatClampNeg))) = ctC S ((j + 1))
        refine ⟨hj, ?_⟩
        rw [hI48.2, nI_clamp (by omega)]
        rfl
      · show (S.1 0).toNatClampNeg - (j + 1) < (S.1 0).toNatClampNeg - j
        omega
  by_cases h3_3 : b_ = 3
  · refine V_eqi 3 h3_3 ?_
    refine V_tableIn (pc := 3) (tgt := 73) dX11_count_3 (by decide) (by decide) rfl (by decide) ?_
    refine V_iconst (v := 0) (pc := 73) dX11_count_73 (by decide) ?_
    refine V_istore_n (pc := 74) (L2 := [(2, .int 0), (0, .ref (Z.2.2.2 99)), (1, .int b_)]) dX11_count_74 rfl (by decide) rfl (fun x3_74 ex3_74 => ?_)
    subst ex3_74
    refine V_sub (L' := [(3, .int (nI 0)), (2, .int 0), (0, .ref (Z.2.2.2 99)), (1, .int b_)]) [0, 1, 2, 3] rfl ?_
    refine Vloop (σ := Nat × Int32) (fun x => (x.1) ≤ (S.1 0).toNatClampNeg ∧ (x.2) = ctL S (x.1)) (fun x => (S.1 0).toNatClampNeg - (x.1)) (fun x => V MW Z cX11_count RX11 4 (some .int) 1 0 0 B 0 0 75 [(3, .int (nI (x.1))), (2, .int (x.2)), (0, .ref (Z.2.2.2 99)), (1, .int b_)] [] (S)) ?_ (0, 0) (by exact ⟨Nat.zero_le _, rfl⟩)
    rintro ⟨j, u⟩ hI75 ih75
    have hI75 : j ≤ (S.1 0).toNatClampNeg ∧ u = ctL S j := hI75
    show V MW Z cX11_count RX11 4 (some .int) 1 0 0 B 0 0 75 [(3, .int (nI j)), (2, .int u), (0, .ref (Z.2.2.2 99)), (1, .int b_)] [] (S)
    refine V_iload_n (pc := 75) dX11_count_75 0 rfl rfl ?_
    refine V_aload_n (pc := 76) dX11_count_76 2 rfl rfl ?_
    refine Mg_many (pc := 77) (v := (S.1 0)) rfl dX11_count_77 ?_
    refine V_icmp_ge (pc := 80) (tgt := 112) dX11_count_80 (by decide) (fun h80 => ?_) (fun h80 => ?_)
    · skip
      have hj : (S.1 0).toNatClampNeg ≤ j := jge h80 (Nat.lt_of_le_of_lt hI75.1 (clampLt _))
      have ej : j = (S.1 0).toNatClampNeg := Nat.le_antisymm hI75.1 hj
      refine V_iload_n (pc := 112) dX11_count_112 1 rfl rfl ?_
      exact V_iret (pc := 113) dX11_count_113 (Nat.le_of_ble_eq_true rfl) (Nat.le_of_ble_eq_true rfl) (hB _ _ ⟨congrArg (fun z => some (Value.int z)) (by rw [hI75.2, ej]; simp [*]), by rfl⟩)
    · skip
      have hj : j < (S.1 0).toNatClampNeg := jlt h80 (Nat.lt_of_le_of_lt hI75.1 (clampLt _))
      have h4 := mOK_le hm
      refine V_iload_n (pc := 83) dX11_count_83 1 rfl rfl ?_
      refine V_aload_n (pc := 84) dX11_count_84 2 rfl rfl ?_
      refine Mg_kinds (pc := 85) dX11_count_85 ?_
      refine V_iload_n (pc := 88) dX11_count_88 0 rfl rfl ?_
      refine Ml_kinds (pc := 89) dX11_count_89 (by exact vp_in_nI (by omega) (by decide)) ?_
      refine V_iconst (v := 1) (pc := 90) dX11_count_90 (by decide) ?_
      refine McSi (pc := 91) dX11_count_91 (cM_isUnder Z _ _ _) kM_106 rfl (Nat.le_of_ble_eq_true rfl) (by decide) (by decide) ?_
      refine V_bif_eq (pc := 94) (tgt := 103) dX11_count_94 (by decide) (fun h94 => ?_) (fun h94 => ?_)
      · skip
        refine V_iconst (v := 0) (pc := 103) dX11_count_103 (by decide) ?_
        refine V_ior (pc := 104) dX11_count_104 ?_
        refine V_istore_n (pc := 105) (L2 := [(3, .int (nI j)), (0, .ref (Z.2.2.2 99)), (1, .int b_)]) dX11_count_105 rfl (by decide) rfl (fun x2_105 ex2_105 => ?_)
        subst ex2_105
        refine V_iinc (pc := 106) (v := 1) (L2 := [(2, .int (u ||| 0)), (0, .ref (Z.2.2.2 99)), (1, .int b_)]) dX11_count_106 1 rfl (by decide) (by decide) rfl (fun x3_106 ex3_106 => ?_)
        rw [nI_1] at ex3_106
        subst ex3_106
        refine V_goto (pc := 109) (tgt := 75) dX11_count_109 (by decide) ?_
        refine V_sub (L' := [(3, .int (nI (j + 1))), (2, .int (u ||| 0)), (0, .ref (Z.2.2.2 99)), (1, .int b_)]) [0, 1, 2, 3] rfl ?_
        refine ih75 (((j + 1)), _) ?_ ?_
        · show ((j + 1)) ≤ (S.1 0).toNatClampNeg ∧ ((u ||| 0)) = ctL S ((j + 1))
          refine ⟨hj, ?_⟩
          rw [nI_clamp (by omega)] at h94
          rw [hI75.2]
          show _ = ctL S j ||| (if (1 : Int32) = 0 ∨ S.2.2 1 j = 1 ∨ (S.2.2 1 j = 2 ∧ (1 : Int32) = 1) then 1 <<< (nI j &&& 31) else 0)
          first | (rw [if_pos h94]; done) | rw [if_neg h94]
        · show (S.1 0).toNatClampNeg - (j + 1) < (S.1 0).toNatClampNeg - j
          omega
      · skip
        refine V_iconst (v := 1) (pc := 97) dX11_count_97 (by decide) ?_
        refine V_iload_n (pc := 98) dX11_count_98 0 rfl rfl ?_
        refine V_ishl (pc := 99) dX11_count_99 ?_
        refine V_goto (pc := 100) (tgt := 104) dX11_count_100 (by decide) ?_
        refine V_ior (pc := 104) dX11_count_104 ?_
        refine V_istore_n (pc := 105) (L2 := [(3, .int (nI j)), (0, .ref (Z.2.2.2 99)), (1, .int b_)]) dX11_count_105 rfl (by decide) rfl (fun x2_105 ex2_105 => ?_)
        subst ex2_105
        refine V_iinc (pc := 106) (v := 1) (L2 := [(2, .int (u ||| (1 <<< ((nI j) &&& 31)))), (0, .ref (Z.2.2.2 99)), (1, .int b_)]) dX11_count_106 1 rfl (by decide) (by decide) rfl (fun x3_106 ex3_106 => ?_)
        rw [nI_1] at ex3_106
        subst ex3_106
        refine V_goto (pc := 109) (tgt := 75) dX11_count_109 (by decide) ?_
        refine V_sub (L' := [(3, .int (nI (j + 1))), (2, .int (u ||| (1 <<< ((nI j) &&& 31)))), (0, .ref (Z.2.2.2 99)), (1, .int b_)]) [0, 1, 2, 3] rfl ?_
        refine ih75 (((j + 1)), _) ?_ ?_
        · show ((j + 1)) ≤ (S.1 0).toNatClampNeg ∧ ((u ||| (1 <<< ((nI j) &&& 31)))) = ctL S ((j + 1))
          refine ⟨hj, ?_⟩
          rw [nI_clamp (by omega)] at h94
          rw [hI75.2]
          show _ = ctL S j ||| (if (1 : Int32) = 0 ∨ S.2.2 1 j = 1 ∨ (S.2.2 1 j = 2 ∧ (1 : Int32) = 1) then 1 <<< (nI j &&& 31) else 0)
          first | (rw [if_pos h94]; done) | rw [if_neg h94]
        · show (S.1 0).toNatClampNeg - (j + 1) < (S.1 0).toNatClampNeg - j
          omega
  by_cases h3_4 : b_ = 4
  · refine V_eqi 4 h3_4 ?_
    refine V_tableIn (pc := 3) (tgt := 114) dX11_count_3 (by decide) (by decide) rfl (by decide) ?_
    refine V_iconst (v := 0) (pc := 114) dX11_count_114 (by decide) ?_
    refine V_istore_n (pc := 115) (L2 := [(2, .int 0), (0, .ref (Z.2.2.2 99)), (1, .int b_)]) dX11_count_115 rfl (by decide) rfl (fun x3_115 ex3_115 => ?_)
    subst ex3_115
    refine V_sub (L' := [(3, .int (nI 0)), (2, .int 0), (0, .ref (Z.2.2.2 99)), (1, .int b_)]) [0, 1, 2, 3] rfl ?_
    refine Vloop (σ := Nat × Int32) (fun x => (x.1) ≤ (S.1 0).toNatClampNeg ∧ (x.2) = ctR S (x.1)) (fun x => (S.1 0).toNatClampNeg - (x.1)) (fun x => V MW Z cX11_count RX11 4 (some .int) 1 0 0 B 0 0 116 [(3, .int (nI (x.1))), (2, .int (x.2)), (0, .ref (Z.2.2.2 99)), (1, .int b_)] [] (S)) ?_ (0, 0) (by exact ⟨Nat.zero_le _, rfl⟩)
    rintro ⟨j, u⟩ hI116 ih116
    have hI116 : j ≤ (S.1 0).toNatClampNeg ∧ u = ctR S j := hI116
    show V MW Z cX11_count RX11 4 (some .int) 1 0 0 B 0 0 116 [(3, .int (nI j)), (2, .int u), (0, .ref (Z.2.2.2 99)), (1, .int b_)] [] (S)
    refine V_iload_n (pc := 116) dX11_count_116 0 rfl rfl ?_
    refine V_aload_n (pc := 117) dX11_count_117 2 rfl rfl ?_
    refine Mg_many (pc := 118) (v := (S.1 0)) rfl dX11_count_118 ?_
    refine V_icmp_ge (pc := 121) (tgt := 153) dX11_count_121 (by decide) (fun h121 => ?_) (fun h121 => ?_)
    · skip
      have hj : (S.1 0).toNatClampNeg ≤ j := jge h121 (Nat.lt_of_le_of_lt hI116.1 (clampLt _))
      have ej : j = (S.1 0).toNatClampNeg := Nat.le_antisymm hI116.1 hj
      refine V_iload_n (pc := 153) dX11_count_153 1 rfl rfl ?_
      exact V_iret (pc := 154) dX11_count_154 (Nat.le_of_ble_eq_true rfl) (Nat.le_of_ble_eq_true rfl) (hB _ _ ⟨congrArg (fun z => some (Value.int z)) (by rw [hI116.2, ej]; simp [*]), by rfl⟩)
    · skip
      have hj : j < (S.1 0).toNatClampNeg := jlt h121 (Nat.lt_of_le_of_lt hI116.1 (clampLt _))
      have h4 := mOK_le hm
      refine V_iload_n (pc := 124) dX11_count_124 1 rfl rfl ?_
      refine V_aload_n (pc := 125) dX11_count_125 2 rfl rfl ?_
      refine Mg_kinds (pc := 126) dX11_count_126 ?_
      refine V_iload_n (pc := 129) dX11_count_129 0 rfl rfl ?_
      refine Ml_kinds (pc := 130) dX11_count_130 (by exact vp_in_nI (by omega) (by decide)) ?_
      refine V_iconst (v := 5) (pc := 131) dX11_count_131 (by decide) ?_
      refine V_icmp_ne (pc := 132) (tgt := 144) dX11_count_132 (by decide) (fun h132 => ?_) (fun h132 => ?_)
      · skip
        refine V_iconst (v := 0) (pc := 144) dX11_count_144 (by decide) ?_
        refine V_iadd (pc := 145) dX11_count_145 ?_
        refine V_istore_n (pc := 146) (L2 := [(3, .int (nI j)), (0, .ref (Z.2.2.2 99)), (1, .int b_)]) dX11_count_146 rfl (by decide) rfl (fun x2_146 ex2_146 => ?_)
        subst ex2_146
        refine V_iinc (pc := 147) (v := 1) (L2 := [(2, .int (u + 0)), (0, .ref (Z.2.2.2 99)), (1, .int b_)]) dX11_count_147 1 rfl (by decide) (by decide) rfl (fun x3_147 ex3_147 => ?_)
        rw [nI_1] at ex3_147
        subst ex3_147
        refine V_goto (pc := 150) (tgt := 116) dX11_count_150 (by decide) ?_
        refine V_sub (L' := [(3, .int (nI (j + 1))), (2, .int (u + 0)), (0, .ref (Z.2.2.2 99)), (1, .int b_)]) [0, 1, 2, 3] rfl ?_
        refine ih116 (((j + 1)), _) ?_ ?_
        · show ((j + 1)) ≤ (S.1 0).toNatClampNeg ∧ ((u + 0)) = ctR S ((j + 1))
          refine ⟨hj, ?_⟩
          rw [nI_clamp (by omega)] at h132
          rw [hI116.2]
          simp only [ctR, it]
          first | (rw [if_pos h132, nI_clamp (by omega)]; done) | rw [if_neg h132]
        · show (S.1 0).toNatClampNeg - (j + 1) < (S.1 0).toNatClampNeg - j
          omega
      · skip
        refine V_aload_n (pc := 135) dX11_count_135 2 rfl rfl ?_
        refine Mg_cells (pc := 136) dX11_count_136 ?_
        refine V_iload_n (pc := 139) dX11_count_139 0 rfl rfl ?_
        refine Ml_cells (pc := 140) dX11_count_140 (by exact vp_in_nI (by omega) (by decide)) ?_
        refine V_goto (pc := 141) (tgt := 145) dX11_count_141 (by decide) ?_
        refine V_iadd (pc := 145) dX11_count_145 ?_
        refine V_istore_n (pc := 146) (L2 := [(3, .int (nI j)), (0, .ref (Z.2.2.2 99)), (1, .int b_)]) dX11_count_146 rfl (by decide) rfl (fun x2_146 ex2_146 => ?_)
        subst ex2_146
        refine V_iinc (pc := 147) (v := 1) (L2 := [(2, .int (u + (S.2.2 2 ((nI j)).toNatClampNeg))), (0, .ref (Z.2.2.2 99)), (1, .int b_)]) dX11_count_147 1 rfl (by decide) (by decide) rfl (fun x3_147 ex3_147 => ?_)
        rw [nI_1] at ex3_147
        subst ex3_147
        refine V_goto (pc := 150) (tgt := 116) dX11_count_150 (by decide) ?_
        refine V_sub (L' := [(3, .int (nI (j + 1))), (2, .int (u + (S.2.2 2 ((nI j)).toNatClampNeg))), (0, .ref (Z.2.2.2 99)), (1, .int b_)]) [0, 1, 2, 3] rfl ?_
        refine ih116 (((j + 1)), _) ?_ ?_
        · show ((j + 1)) ≤ (S.1 0).toNatClampNeg ∧ ((u + (S.2.2 2 ((nI j)).toNatClampNeg))) = ctR S ((j + 1))
          refine ⟨hj, ?_⟩
          rw [nI_clamp (by omega)] at h132
          rw [hI116.2]
          simp only [ctR, it]
          first | (rw [if_pos h132, nI_clamp (by omega)]; done) | rw [if_neg h132]
        · show (S.1 0).toNatClampNeg - (j + 1) < (S.1 0).toNatClampNeg - j
          omega
  refine V_tableOut (pc := 3) (tgt := 155) dX11_count_3 (by have a0 := lv_neT h3_0 (a := 0) rfl; have a1 := lv_neT h3_1 (a := 1) rfl; have a2 := lv_neT h3_2 (a := 2) rfl; have a3 := lv_neT h3_3 (a := 3) rfl; have a4 := lv_neT h3_4 (a := 4) rfl; omega) (by decide) ?_
  refine V_bipush (v := (-2)) (pc := 155) dX11_count_155 (by decide) ?_
  exact V_iret (pc := 157) dX11_count_157 (Nat.le_of_ble_eq_true rfl) (Nat.le_of_ble_eq_true rfl) (hB _ _ ⟨congrArg (fun z => some (Value.int z)) (by simp [*]), by rfl⟩)
