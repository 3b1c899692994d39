/-! the class: ints, longs, int arrays, tellings, the machines' row, the pool of machines (addresses, class, fields) -/
abbrev XS : Type := (Nat → Int32) × (Nat → Int64) × (Nat → Nat → Int32) × (Nat → Int64) × (Nat → Option Nat) × List Nat × (Nat → Nat) × (Nat → Nat → Int32)
def mE (mk : Nat → Nat) (mf : Nat → Nat → Int32) (a : Nat) : va_E := .inr (mk a, [.int (mf a 0), .int (mf a 1), .int (mf a 2), .int (mf a 3), .int (mf a 4), .int (mf a 5)])
def vName {St : Type} (B : VB St) : String := B.2.2.2.2.2.2.1.name
def XB (Z : VZ) (S : XS) : va_W := [(Z.2.2.2 99, .inr (10, [.ref (Z.2.2.2 0), .int (S.1 1), .ref (Z.2.2.2 2), .int (S.1 3), .ref (Z.2.2.2 4), .ref (Z.2.2.2 5), .ref (Z.2.2.2 6), .ref (Z.2.2.2 7), .ref (Z.2.2.2 8)])), (Z.2.2.2 0, .inl (Z.2.2.1 2, 4, .inr (.inr (.inr (.inr S.2.2.2.2.1))))), (Z.2.2.2 2, .inl (Z.2.2.1 0, 20, .inl (S.2.2.1 2))), (Z.2.2.2 4, .inl (Z.2.2.1 3, 4, .inr (.inr (.inr (.inr (fun i => some (Z.2.2.2 (10 + i)))))))), (Z.2.2.2 8, .inl (Z.2.2.1 1, 4, .inr (.inl S.2.2.2.1))), (Z.2.2.2 10, .inr (8, [.ref (Z.2.2.2 20), .int (S.1 10), .int (S.1 20)])), (Z.2.2.2 11, .inr (8, [.ref (Z.2.2.2 21), .int (S.1 11), .int (S.1 21)])), (Z.2.2.2 12, .inr (8, [.ref (Z.2.2.2 22), .int (S.1 12), .int (S.1 22)])), (Z.2.2.2 13, .inr (8, [.ref (Z.2.2.2 23), .int (S.1 13), .int (S.1 23)])), (Z.2.2.2 20, .inl (Z.2.2.1 0, 40, .inl (S.2.2.1 20))), (Z.2.2.2 21, .inl (Z.2.2.1 0, 40, .inl (S.2.2.1 21))), (Z.2.2.2 22, .inl (Z.2.2.1 0, 40, .inl (S.2.2.1 22))), (Z.2.2.2 23, .inl (Z.2.2.1 0, 40, .inl (S.2.2.1 23))), (Z.2.2.2 5, .inr (7, [.ref (Z.2.2.2 30), .int (S.1 31), .int (S.1 32), .ref (Z.2.2.2 33), .ref (Z.2.2.2 34), .int (S.1 35), .int (S.1 36), .int (S.1 37), .int (S.1 38)])), (Z.2.2.2 30, .inl (Z.2.2.1 0, 60, .inl (S.2.2.1 30))), (Z.2.2.2 33, .inl (Z.2.2.1 0, 16, .inl (S.2.2.1 33))), (Z.2.2.2 34, .inl (Z.2.2.1 0, 64, .inl (S.2.2.1 34))), (Z.2.2.2 6, .inr (4, [.long (S.2.1 0), .long (S.2.1 1), .long (S.2.1 2), .long (S.2.1 3), .long (S.2.1 4), .long (S.2.1 5)])), (Z.2.2.2 7, .inr (3, [.int (S.1 40), .long (S.2.1 6)]))]
def XW (Z : VZ) (S : XS) : va_W := XB Z S ++ va_pl S.2.2.2.2.2.1 (mE S.2.2.2.2.2.2.1 S.2.2.2.2.2.2.2)
theorem iuX0 : ∀ w ∈ u_ws RX0 TX0 6, w ∈ uw := by
  intro w hw
  obtain ⟨k, hk, rfl⟩ := List.mem_map.mp hw
  have hk := List.mem_range.mp hk
  match k, hk with
  | 0, _ => exact tw_259
  | 1, _ => exact tw_260
  | 2, _ => exact tw_261
  | 3, _ => exact tw_262
  | 4, _ => exact tw_263
  | 5, _ => exact tw_264
  | k + 6, hk => exact absurd hk (by omega)
theorem iuX1 : ∀ w ∈ u_ws RX1 TX1 6, w ∈ uw := by
  intro w hw
  obtain ⟨k, hk, rfl⟩ := List.mem_map.mp hw
  have hk := List.mem_range.mp hk
  match k, hk with
  | 0, _ => exact tw_300
  | 1, _ => exact tw_301
  | 2, _ => exact tw_302
  | 3, _ => exact tw_303
  | 4, _ => exact tw_304
  | 5, _ => exact tw_305
  | k + 6, hk => exact absurd hk (by omega)
theorem iuX2 : ∀ w ∈ u_ws RX2 TX2 6, w ∈ uw := by
  intro w hw
  obtain ⟨k, hk, rfl⟩ := List.mem_map.mp hw
  have hk := List.mem_range.mp hk
  match k, hk with
  | 0, _ => exact tw_275
  | 1, _ => exact tw_276
  | 2, _ => exact tw_277
  | 3, _ => exact tw_278
  | 4, _ => exact tw_279
  | 5, _ => exact tw_280
  | k + 6, hk => exact absurd hk (by omega)
theorem iuX3 : ∀ w ∈ u_ws RX3 TX3 2, w ∈ uw := by
  intro w hw
  obtain ⟨k, hk, rfl⟩ := List.mem_map.mp hw
  have hk := List.mem_range.mp hk
  match k, hk with
  | 0, _ => exact tw_108
  | 1, _ => exact tw_110
  | k + 2, hk => exact absurd hk (by omega)
theorem iuX4 : ∀ w ∈ u_ws RX4 TX4 6, w ∈ uw := by
  intro w hw
  obtain ⟨k, hk, rfl⟩ := List.mem_map.mp hw
  have hk := List.mem_range.mp hk
  match k, hk with
  | 0, _ => exact tw_85
  | 1, _ => exact tw_87
  | 2, _ => exact tw_89
  | 3, _ => exact tw_91
  | 4, _ => exact tw_93
  | 5, _ => exact tw_95
  | k + 6, hk => exact absurd hk (by omega)
theorem iuX5 : ∀ w ∈ u_ws RX5 TX5 6, w ∈ uw := by
  intro w hw
  obtain ⟨k, hk, rfl⟩ := List.mem_map.mp hw
  have hk := List.mem_range.mp hk
  match k, hk with
  | 0, _ => exact tw_221
  | 1, _ => exact tw_223
  | 2, _ => exact tw_225
  | 3, _ => exact tw_227
  | 4, _ => exact tw_229
  | 5, _ => exact tw_231
  | k + 6, hk => exact absurd hk (by omega)
theorem iuX6 : ∀ w ∈ u_ws RX6 TX6 6, w ∈ uw := by
  intro w hw
  obtain ⟨k, hk, rfl⟩ := List.mem_map.mp hw
  have hk := List.mem_range.mp hk
  match k, hk with
  | 0, _ => exact tw_291
  | 1, _ => exact tw_292
  | 2, _ => exact tw_293
  | 3, _ => exact tw_294
  | 4, _ => exact tw_295
  | 5, _ => exact tw_296
  | k + 6, hk => exact absurd hk (by omega)
theorem iuX7 : ∀ w ∈ u_ws RX7 TX7 9, w ∈ uw := by
  intro w hw
  obtain ⟨k, hk, rfl⟩ := List.mem_map.mp hw
  have hk := List.mem_range.mp hk
  match k, hk with
  | 0, _ => exact tw_50
  | 1, _ => exact tw_52
  | 2, _ => exact tw_54
  | 3, _ => exact tw_56
  | 4, _ => exact tw_58
  | 5, _ => exact tw_60
  | 6, _ => exact tw_62
  | 7, _ => exact tw_64
  | 8, _ => exact tw_66
  | k + 9, hk => exact absurd hk (by omega)
theorem iuX8 : ∀ w ∈ u_ws RX8 TX8 3, w ∈ uw := by
  intro w hw
  obtain ⟨k, hk, rfl⟩ := List.mem_map.mp hw
  have hk := List.mem_range.mp hk
  match k, hk with
  | 0, _ => exact tw_124
  | 1, _ => exact tw_126
  | 2, _ => exact tw_128
  | k + 3, hk => exact absurd hk (by omega)
theorem iuX9 : ∀ w ∈ u_ws RX9 TX9 6, w ∈ uw := by
  intro w hw
  obtain ⟨k, hk, rfl⟩ := List.mem_map.mp hw
  have hk := List.mem_range.mp hk
  match k, hk with
  | 0, _ => exact tw_243
  | 1, _ => exact tw_244
  | 2, _ => exact tw_245
  | 3, _ => exact tw_246
  | 4, _ => exact tw_247
  | 5, _ => exact tw_248
  | k + 6, hk => exact absurd hk (by omega)
theorem iuX10 : ∀ w ∈ u_ws RX10 TX10 9, w ∈ uw := by
  intro w hw
  obtain ⟨k, hk, rfl⟩ := List.mem_map.mp hw
  have hk := List.mem_range.mp hk
  match k, hk with
  | 0, _ => exact tw_141
  | 1, _ => exact tw_143
  | 2, _ => exact tw_145
  | 3, _ => exact tw_147
  | 4, _ => exact tw_149
  | 5, _ => exact tw_151
  | 6, _ => exact tw_153
  | 7, _ => exact tw_155
  | 8, _ => exact tw_157
  | k + 9, hk => exact absurd hk (by omega)
theorem Xg_X10_13 {Z : VZ} {cc : ByteArray} {nL : Nat} {ret : Option FieldType} {d mc ms : Nat} {B : VB XS} {n k pc : Nat} {L : List (Nat × Value)} {st : List Value} {S : XS}  (hd : decode cc pc = .ok (.getfield 13, 3)) (kk : V XW Z cc RX10 nL ret d mc ms B n k (pc + 3) L (.ref (Z.2.2.2 0) :: st) S) : V XW Z cc RX10 nL ret d mc ms B n k pc L (.ref (Z.2.2.2 99) :: st) S := by
  intro p e s m args below meth c S0 po hB hk H locs ls hP hD hS hl
  exact va_get (D := Z.2.1) (ci := 10) (C := RX10) (T := TX10) (N := 9) hk.1 hk.2.1 hk.2.2.2.2.1 iuX10 hk.2.2.2.1 hk.2.2.2.2.2.2.2.1 hP 0 rfl rfl 0 (by decide) (hk.2.2.2.2.1 _ tw_132) (fun _ h9 => h9) rfl hd (kk p e s m args below meth c S0 po hB hk H locs ls hP hD hS hl)
theorem Xg_X10_17 {Z : VZ} {cc : ByteArray} {nL : Nat} {ret : Option FieldType} {d mc ms : Nat} {B : VB XS} {n k pc : Nat} {L : List (Nat × Value)} {st : List Value} {S : XS} {v : Int32} (hv : S.1 1 = v) (hd : decode cc pc = .ok (.getfield 17, 3)) (kk : V XW Z cc RX10 nL ret d mc ms B n k (pc + 3) L (.int v :: st) S) : V XW Z cc RX10 nL ret d mc ms B n k pc L (.ref (Z.2.2.2 99) :: st) S := by
  subst hv
  intro p e s m args below meth c S0 po hB hk H locs ls hP hD hS hl
  exact va_get (D := Z.2.1) (ci := 10) (C := RX10) (T := TX10) (N := 9) hk.1 hk.2.1 hk.2.2.2.2.1 iuX10 hk.2.2.2.1 hk.2.2.2.2.2.2.2.1 hP 0 rfl rfl 1 (by decide) (hk.2.2.2.2.1 _ tw_133) (fun _ h9 => h9) rfl hd (kk p e s m args below meth c S0 po hB hk H locs ls hP hD hS hl)
theorem Xp_X10_17 {Z : VZ} {cc : ByteArray} {nL : Nat} {ret : Option FieldType} {d mc ms : Nat} {B : VB XS} {n k pc : Nat} {L : List (Nat × Value)} {st : List Value} {S : XS} {x : Int32} (hd : decode cc pc = .ok (.putfield 17, 3)) (kk : V XW Z cc RX10 nL ret d mc ms B n k (pc + 3) L st (va_up S.1 1 x, S.2)) : V XW Z cc RX10 nL ret d mc ms B n k pc L (.int x :: .ref (Z.2.2.2 99) :: st) S := by
  intro p e s m args below meth c S0 po hB hk H locs ls hP hD hS hl
  exact va_put (D := Z.2.1) (ci := 10) (v := .int x) (ty := .int) (C := RX10) (T := TX10) (N := 9) hk.1 hk.2.1 hk.2.2.2.2.1 iuX10 tyX10 tyX10_ok nmX10 hk.2.2.2.1 hk.2.2.2.2.2.2.2.1 hP hD hS 0 rfl rfl 1 (by decide) (hk.2.2.2.2.1 _ tw_133) (fun _ h9 => h9) rfl (by decide +kernel) rfl rfl (Nat.le_of_ble_eq_true rfl) hd (fun H locs hP hD hS => kk p e s m args below meth c S0 po hB hk H locs ls hP hD hS hl)
theorem Xg_X10_21 {Z : VZ} {cc : ByteArray} {nL : Nat} {ret : Option FieldType} {d mc ms : Nat} {B : VB XS} {n k pc : Nat} {L : List (Nat × Value)} {st : List Value} {S : XS}  (hd : decode cc pc = .ok (.getfield 21, 3)) (kk : V XW Z cc RX10 nL ret d mc ms B n k (pc + 3) L (.ref (Z.2.2.2 2) :: st) S) : V XW Z cc RX10 nL ret d mc ms B n k pc L (.ref (Z.2.2.2 99) :: st) S := by
  intro p e s m args below meth c S0 po hB hk H locs ls hP hD hS hl
  exact va_get (D := Z.2.1) (ci := 10) (C := RX10) (T := TX10) (N := 9) hk.1 hk.2.1 hk.2.2.2.2.1 iuX10 hk.2.2.2.1 hk.2.2.2.2.2.2.2.1 hP 0 rfl rfl 2 (by decide) (hk.2.2.2.2.1 _ tw_134) (fun _ h9 => h9) rfl hd (kk p e s m args below meth c S0 po hB hk H locs ls hP hD hS hl)
theorem Xg_X10_25 {Z : VZ} {cc : ByteArray} {nL : Nat} {ret : Option FieldType} {d mc ms : Nat} {B : VB XS} {n k pc : Nat} {L : List (Nat × Value)} {st : List Value} {S : XS} {v : Int32} (hv : S.1 3 = v) (hd : decode cc pc = .ok (.getfield 25, 3)) (kk : V XW Z cc RX10 nL ret d mc ms B n k (pc + 3) L (.int v :: st) S) : V XW Z cc RX10 nL ret d mc ms B n k pc L (.ref (Z.2.2.2 99) :: st) S := by
  subst hv
  intro p e s m args below meth c S0 po hB hk H locs ls hP hD hS hl
  exact va_get (D := Z.2.1) (ci := 10) (C := RX10) (T := TX10) (N := 9) hk.1 hk.2.1 hk.2.2.2.2.1 iuX10 hk.2.2.2.1 hk.2.2.2.2.2.2.2.1 hP 0 rfl rfl 3 (by decide) (hk.2.2.2.2.1 _ tw_135) (fun _ h9 => h9) rfl hd (kk p e s m args below meth c S0 po hB hk H locs ls hP hD hS hl)
theorem Xp_X10_25 {Z : VZ} {cc : ByteArray} {nL : Nat} {ret : Option FieldType} {d mc ms : Nat} {B : VB XS} {n k pc : Nat} {L : List (Nat × Value)} {st : List Value} {S : XS} {x : Int32} (hd : decode cc pc = .ok (.putfield 25, 3)) (kk : V XW Z cc RX10 nL ret d mc ms B n k (pc + 3) L st (va_up S.1 3 x, S.2)) : V XW Z cc RX10 nL ret d mc ms B n k pc L (.int x :: .ref (Z.2.2.2 99) :: st) S := by
  intro p e s m args below meth c S0 po hB hk H locs ls hP hD hS hl
  exact va_put (D := Z.2.1) (ci := 10) (v := .int x) (ty := .int) (C := RX10) (T := TX10) (N := 9) hk.1 hk.2.1 hk.2.2.2.2.1 iuX10 tyX10 tyX10_ok nmX10 hk.2.2.2.1 hk.2.2.2.2.2.2.2.1 hP hD hS 0 rfl rfl 3 (by decide) (hk.2.2.2.2.1 _ tw_135) (fun _ h9 => h9) rfl (by decide +kernel) rfl rfl (Nat.le_of_ble_eq_true rfl) hd (fun H locs hP hD hS => kk p e s m args below meth c S0 po hB hk H locs ls hP hD hS hl)
theorem Xg_X10_30 {Z : VZ} {cc : ByteArray} {nL : Nat} {ret : Option FieldType} {d mc ms : Nat} {B : VB XS} {n k pc : Nat} {L : List (Nat × Value)} {st : List Value} {S : XS}  (hd : decode cc pc = .ok (.getfield 30, 3)) (kk : V XW Z cc RX10 nL ret d mc ms B n k (pc + 3) L (.ref (Z.2.2.2 4) :: st) S) : V XW Z cc RX10 nL ret d mc ms B n k pc L (.ref (Z.2.2.2 99) :: st) S := by
  intro p e s m args below meth c S0 po hB hk H locs ls hP hD hS hl
  exact va_get (D := Z.2.1) (ci := 10) (C := RX10) (T := TX10) (N := 9) hk.1 hk.2.1 hk.2.2.2.2.1 iuX10 hk.2.2.2.1 hk.2.2.2.2.2.2.2.1 hP 0 rfl rfl 4 (by decide) (hk.2.2.2.2.1 _ tw_136) (fun _ h9 => h9) rfl hd (kk p e s m args below meth c S0 po hB hk H locs ls hP hD hS hl)
theorem Xg_X10_37 {Z : VZ} {cc : ByteArray} {nL : Nat} {ret : Option FieldType} {d mc ms : Nat} {B : VB XS} {n k pc : Nat} {L : List (Nat × Value)} {st : List Value} {S : XS}  (hd : decode cc pc = .ok (.getfield 37, 3)) (kk : V XW Z cc RX10 nL ret d mc ms B n k (pc + 3) L (.ref (Z.2.2.2 5) :: st) S) : V XW Z cc RX10 nL ret d mc ms B n k pc L (.ref (Z.2.2.2 99) :: st) S := by
  intro p e s m args below meth c S0 po hB hk H locs ls hP hD hS hl
  exact va_get (D := Z.2.1) (ci := 10) (C := RX10) (T := TX10) (N := 9) hk.1 hk.2.1 hk.2.2.2.2.1 iuX10 hk.2.2.2.1 hk.2.2.2.2.2.2.2.1 hP 0 rfl rfl 5 (by decide) (hk.2.2.2.2.1 _ tw_137) (fun _ h9 => h9) rfl hd (kk p e s m args below meth c S0 po hB hk H locs ls hP hD hS hl)
theorem Xg_X10_44 {Z : VZ} {cc : ByteArray} {nL : Nat} {ret : Option FieldType} {d mc ms : Nat} {B : VB XS} {n k pc : Nat} {L : List (Nat × Value)} {st : List Value} {S : XS}  (hd : decode cc pc = .ok (.getfield 44, 3)) (kk : V XW Z cc RX10 nL ret d mc ms B n k (pc + 3) L (.ref (Z.2.2.2 6) :: st) S) : V XW Z cc RX10 nL ret d mc ms B n k pc L (.ref (Z.2.2.2 99) :: st) S := by
  intro p e s m args below meth c S0 po hB hk H locs ls hP hD hS hl
  exact va_get (D := Z.2.1) (ci := 10) (C := RX10) (T := TX10) (N := 9) hk.1 hk.2.1 hk.2.2.2.2.1 iuX10 hk.2.2.2.1 hk.2.2.2.2.2.2.2.1 hP 0 rfl rfl 6 (by decide) (hk.2.2.2.2.1 _ tw_138) (fun _ h9 => h9) rfl hd (kk p e s m args below meth c S0 po hB hk H locs ls hP hD hS hl)
theorem Xg_X10_51 {Z : VZ} {cc : ByteArray} {nL : Nat} {ret : Option FieldType} {d mc ms : Nat} {B : VB XS} {n k pc : Nat} {L : List (Nat × Value)} {st : List Value} {S : XS}  (hd : decode cc pc = .ok (.getfield 51, 3)) (kk : V XW Z cc RX10 nL ret d mc ms B n k (pc + 3) L (.ref (Z.2.2.2 7) :: st) S) : V XW Z cc RX10 nL ret d mc ms B n k pc L (.ref (Z.2.2.2 99) :: st) S := by
  intro p e s m args below meth c S0 po hB hk H locs ls hP hD hS hl
  exact va_get (D := Z.2.1) (ci := 10) (C := RX10) (T := TX10) (N := 9) hk.1 hk.2.1 hk.2.2.2.2.1 iuX10 hk.2.2.2.1 hk.2.2.2.2.2.2.2.1 hP 0 rfl rfl 7 (by decide) (hk.2.2.2.2.1 _ tw_139) (fun _ h9 => h9) rfl hd (kk p e s m args below meth c S0 po hB hk H locs ls hP hD hS hl)
theorem Xg_X10_55 {Z : VZ} {cc : ByteArray} {nL : Nat} {ret : Option FieldType} {d mc ms : Nat} {B : VB XS} {n k pc : Nat} {L : List (Nat × Value)} {st : List Value} {S : XS}  (hd : decode cc pc = .ok (.getfield 55, 3)) (kk : V XW Z cc RX10 nL ret d mc ms B n k (pc + 3) L (.ref (Z.2.2.2 8) :: st) S) : V XW Z cc RX10 nL ret d mc ms B n k pc L (.ref (Z.2.2.2 99) :: st) S := by
  intro p e s m args below meth c S0 po hB hk H locs ls hP hD hS hl
  exact va_get (D := Z.2.1) (ci := 10) (C := RX10) (T := TX10) (N := 9) hk.1 hk.2.1 hk.2.2.2.2.1 iuX10 hk.2.2.2.1 hk.2.2.2.2.2.2.2.1 hP 0 rfl rfl 8 (by decide) (hk.2.2.2.2.1 _ tw_140) (fun _ h9 => h9) rfl hd (kk p e s m args below meth c S0 po hB hk H locs ls hP hD hS hl)
theorem Xg_X10_161 {Z : VZ} {cc : ByteArray} {nL : Nat} {ret : Option FieldType} {d mc ms : Nat} {B : VB XS} {n k pc : Nat} {L : List (Nat × Value)} {st : List Value} {S : XS} {i : Nat} (hi : i < 4) {v : Int32} (hv : S.1 (20 + i) = v) (hd : decode cc pc = .ok (.getfield 161, 3)) (kk : V XW Z cc RX10 nL ret d mc ms B n k (pc + 3) L (.int v :: st) S) : V XW Z cc RX10 nL ret d mc ms B n k pc L (.ref (Z.2.2.2 (10 + i)) :: st) S := by
  subst hv
  intro p e s m args below meth c S0 po hB hk H locs ls hP hD hS hl
  match i, hi with
  | 0, _ => exact va_get (D := Z.2.1) (ci := 8) (C := RX8) (T := TX8) (N := 3) hk.1 hk.2.1 hk.2.2.2.2.1 iuX8 hk.2.2.2.1 hk.2.2.2.2.2.2.2.1 hP 5 rfl rfl 2 (by decide) (hk.2.2.2.2.1 _ tw_123) (fun _ h9 => h9) rfl hd (kk p e s m args below meth c S0 po hB hk H locs ls hP hD hS hl)
  | 1, _ => exact va_get (D := Z.2.1) (ci := 8) (C := RX8) (T := TX8) (N := 3) hk.1 hk.2.1 hk.2.2.2.2.1 iuX8 hk.2.2.2.1 hk.2.2.2.2.2.2.2.1 hP 6 rfl rfl 2 (by decide) (hk.2.2.2.2.1 _ tw_123) (fun _ h9 => h9) rfl hd (kk p e s m args below meth c S0 po hB hk H locs ls hP hD hS hl)
  | 2, _ => exact va_get (D := Z.2.1) (ci := 8) (C := RX8) (T := TX8) (N := 3) hk.1 hk.2.1 hk.2.2.2.2.1 iuX8 hk.2.2.2.1 hk.2.2.2.2.2.2.2.1 hP 7 rfl rfl 2 (by decide) (hk.2.2.2.2.1 _ tw_123) (fun _ h9 => h9) rfl hd (kk p e s m args below meth c S0 po hB hk H locs ls hP hD hS hl)
  | 3, _ => exact va_get (D := Z.2.1) (ci := 8) (C := RX8) (T := TX8) (N := 3) hk.1 hk.2.1 hk.2.2.2.2.1 iuX8 hk.2.2.2.1 hk.2.2.2.2.2.2.2.1 hP 8 rfl rfl 2 (by decide) (hk.2.2.2.2.1 _ tw_123) (fun _ h9 => h9) rfl hd (kk p e s m args below meth c S0 po hB hk H locs ls hP hD hS hl)
  | i + 4, hi => exact absurd hi (by omega)
theorem Xp_X10_161 {Z : VZ} {cc : ByteArray} {nL : Nat} {ret : Option FieldType} {d mc ms : Nat} {B : VB XS} {n k pc : Nat} {L : List (Nat × Value)} {st : List Value} {S : XS} {i : Nat} {x : Int32} (hi : i < 4) (hd : decode cc pc = .ok (.putfield 161, 3)) (kk : V XW Z cc RX10 nL ret d mc ms B n k (pc + 3) L st (va_up S.1 (20 + i) x, S.2)) : V XW Z cc RX10 nL ret d mc ms B n k pc L (.int x :: .ref (Z.2.2.2 (10 + i)) :: st) S := by
  intro p e s m args below meth c S0 po hB hk H locs ls hP hD hS hl
  match i, hi with
  | 0, _ => exact va_put (D := Z.2.1) (ci := 8) (v := .int x) (ty := .int) (C := RX8) (T := TX8) (N := 3) hk.1 hk.2.1 hk.2.2.2.2.1 iuX8 tyX8 tyX8_ok nmX8 hk.2.2.2.1 hk.2.2.2.2.2.2.2.1 hP hD hS 5 rfl rfl 2 (by decide) (hk.2.2.2.2.1 _ tw_123) (fun _ h9 => h9) rfl (by decide +kernel) rfl rfl (Nat.le_of_ble_eq_true rfl) hd (fun H locs hP hD hS => kk p e s m args below meth c S0 po hB hk H locs ls hP hD hS hl)
  | 1, _ => exact va_put (D := Z.2.1) (ci := 8) (v := .int x) (ty := .int) (C := RX8) (T := TX8) (N := 3) hk.1 hk.2.1 hk.2.2.2.2.1 iuX8 tyX8 tyX8_ok nmX8 hk.2.2.2.1 hk.2.2.2.2.2.2.2.1 hP hD hS 6 rfl rfl 2 (by decide) (hk.2.2.2.2.1 _ tw_123) (fun _ h9 => h9) rfl (by decide +kernel) rfl rfl (Nat.le_of_ble_eq_true rfl) hd (fun H locs hP hD hS => kk p e s m args below meth c S0 po hB hk H locs ls hP hD hS hl)
  | 2, _ => exact va_put (D := Z.2.1) (ci := 8) (v := .int x) (ty := .int) (C := RX8) (T := TX8) (N := 3) hk.1 hk.2.1 hk.2.2.2.2.1 iuX8 tyX8 tyX8_ok nmX8 hk.2.2.2.1 hk.2.2.2.2.2.2.2.1 hP hD hS 7 rfl rfl 2 (by decide) (hk.2.2.2.2.1 _ tw_123) (fun _ h9 => h9) rfl (by decide +kernel) rfl rfl (Nat.le_of_ble_eq_true rfl) hd (fun H locs hP hD hS => kk p e s m args below meth c S0 po hB hk H locs ls hP hD hS hl)
  | 3, _ => exact va_put (D := Z.2.1) (ci := 8) (v := .int x) (ty := .int) (C := RX8) (T := TX8) (N := 3) hk.1 hk.2.1 hk.2.2.2.2.1 iuX8 tyX8 tyX8_ok nmX8 hk.2.2.2.1 hk.2.2.2.2.2.2.2.1 hP hD hS 8 rfl rfl 2 (by decide) (hk.2.2.2.2.1 _ tw_123) (fun _ h9 => h9) rfl (by decide +kernel) rfl rfl (Nat.le_of_ble_eq_true rfl) hd (fun H locs hP hD hS => kk p e s m args below meth c S0 po hB hk H locs ls hP hD hS hl)
  | i + 4, hi => exact absurd hi (by omega)
theorem Xg_X10_167 {Z : VZ} {cc : ByteArray} {nL : Nat} {ret : Option FieldType} {d mc ms : Nat} {B : VB XS} {n k pc : Nat} {L : List (Nat × Value)} {st : List Value} {S : XS} {v : Int64} (hv : S.2.1 0 = v) (hd : decode cc pc = .ok (.getfield 167, 3)) (kk : V XW Z cc RX10 nL ret d mc ms B n k (pc + 3) L (.long v :: st) S) : V XW Z cc RX10 nL ret d mc ms B n k pc L (.ref (Z.2.2.2 6) :: st) S := by
  subst hv
  intro p e s m args below meth c S0 po hB hk H locs ls hP hD hS hl
  exact va_get (D := Z.2.1) (ci := 4) (C := RX4) (T := TX4) (N := 6) hk.1 hk.2.1 hk.2.2.2.2.1 iuX4 hk.2.2.2.1 hk.2.2.2.2.2.2.2.1 hP 17 rfl rfl 0 (by decide) (hk.2.2.2.2.1 _ tw_78) (fun _ h9 => h9) rfl hd (kk p e s m args below meth c S0 po hB hk H locs ls hP hD hS hl)
theorem Xp_X10_167 {Z : VZ} {cc : ByteArray} {nL : Nat} {ret : Option FieldType} {d mc ms : Nat} {B : VB XS} {n k pc : Nat} {L : List (Nat × Value)} {st : List Value} {S : XS} {x : Int64} (hd : decode cc pc = .ok (.putfield 167, 3)) (kk : V XW Z cc RX10 nL ret d mc ms B n k (pc + 3) L st (S.1, va_up S.2.1 0 x, S.2.2)) : V XW Z cc RX10 nL ret d mc ms B n k pc L (.long x :: .ref (Z.2.2.2 6) :: st) S := by
  intro p e s m args below meth c S0 po hB hk H locs ls hP hD hS hl
  exact va_put (D := Z.2.1) (ci := 4) (v := .long x) (ty := .long) (C := RX4) (T := TX4) (N := 6) hk.1 hk.2.1 hk.2.2.2.2.1 iuX4 tyX4 tyX4_ok nmX4 hk.2.2.2.1 hk.2.2.2.2.2.2.2.1 hP hD hS 17 rfl rfl 0 (by decide) (hk.2.2.2.2.1 _ tw_78) (fun _ h9 => h9) rfl (by decide +kernel) rfl rfl (Nat.le_of_ble_eq_true rfl) hd (fun H locs hP hD hS => kk p e s m args below meth c S0 po hB hk H locs ls hP hD hS hl)
theorem Xg_X10_171 {Z : VZ} {cc : ByteArray} {nL : Nat} {ret : Option FieldType} {d mc ms : Nat} {B : VB XS} {n k pc : Nat} {L : List (Nat × Value)} {st : List Value} {S : XS} {v : Int64} (hv : S.2.1 1 = v) (hd : decode cc pc = .ok (.getfield 171, 3)) (kk : V XW Z cc RX10 nL ret d mc ms B n k (pc + 3) L (.long v :: st) S) : V XW Z cc RX10 nL ret d mc ms B n k pc L (.ref (Z.2.2.2 6) :: st) S := by
  subst hv
  intro p e s m args below meth c S0 po hB hk H locs ls hP hD hS hl
  exact va_get (D := Z.2.1) (ci := 4) (C := RX4) (T := TX4) (N := 6) hk.1 hk.2.1 hk.2.2.2.2.1 iuX4 hk.2.2.2.1 hk.2.2.2.2.2.2.2.1 hP 17 rfl rfl 1 (by decide) (hk.2.2.2.2.1 _ tw_80) (fun _ h9 => h9) rfl hd (kk p e s m args below meth c S0 po hB hk H locs ls hP hD hS hl)
theorem Xp_X10_171 {Z : VZ} {cc : ByteArray} {nL : Nat} {ret : Option FieldType} {d mc ms : Nat} {B : VB XS} {n k pc : Nat} {L : List (Nat × Value)} {st : List Value} {S : XS} {x : Int64} (hd : decode cc pc = .ok (.putfield 171, 3)) (kk : V XW Z cc RX10 nL ret d mc ms B n k (pc + 3) L st (S.1, va_up S.2.1 1 x, S.2.2)) : V XW Z cc RX10 nL ret d mc ms B n k pc L (.long x :: .ref (Z.2.2.2 6) :: st) S := by
  intro p e s m args below meth c S0 po hB hk H locs ls hP hD hS hl
  exact va_put (D := Z.2.1) (ci := 4) (v := .long x) (ty := .long) (C := RX4) (T := TX4) (N := 6) hk.1 hk.2.1 hk.2.2.2.2.1 iuX4 tyX4 tyX4_ok nmX4 hk.2.2.2.1 hk.2.2.2.2.2.2.2.1 hP hD hS 17 rfl rfl 1 (by decide) (hk.2.2.2.2.1 _ tw_80) (fun _ h9 => h9) rfl (by decide +kernel) rfl rfl (Nat.le_of_ble_eq_true rfl) hd (fun H locs hP hD hS => kk p e s m args below meth c S0 po hB hk H locs ls hP hD hS hl)
theorem Xg_X10_203 {Z : VZ} {cc : ByteArray} {nL : Nat} {ret : Option FieldType} {d mc ms : Nat} {B : VB XS} {n k pc : Nat} {L : List (Nat × Value)} {st : List Value} {S : XS} {v : Int32} (hv : S.1 40 = v) (hd : decode cc pc = .ok (.getfield 203, 3)) (kk : V XW Z cc RX10 nL ret d mc ms B n k (pc + 3) L (.int v :: st) S) : V XW Z cc RX10 nL ret d mc ms B n k pc L (.ref (Z.2.2.2 7) :: st) S := by
  subst hv
  intro p e s m args below meth c S0 po hB hk H locs ls hP hD hS hl
  exact va_get (D := Z.2.1) (ci := 3) (C := RX3) (T := TX3) (N := 2) hk.1 hk.2.1 hk.2.2.2.2.1 iuX3 hk.2.2.2.1 hk.2.2.2.2.2.2.2.1 hP 18 rfl rfl 0 (by decide) (hk.2.2.2.2.1 _ tw_105) (fun _ h9 => h9) rfl hd (kk p e s m args below meth c S0 po hB hk H locs ls hP hD hS hl)
theorem Xp_X10_203 {Z : VZ} {cc : ByteArray} {nL : Nat} {ret : Option FieldType} {d mc ms : Nat} {B : VB XS} {n k pc : Nat} {L : List (Nat × Value)} {st : List Value} {S : XS} {x : Int32} (hd : decode cc pc = .ok (.putfield 203, 3)) (kk : V XW Z cc RX10 nL ret d mc ms B n k (pc + 3) L st (va_up S.1 40 x, S.2)) : V XW Z cc RX10 nL ret d mc ms B n k pc L (.int x :: .ref (Z.2.2.2 7) :: st) S := by
  intro p e s m args below meth c S0 po hB hk H locs ls hP hD hS hl
  exact va_put (D := Z.2.1) (ci := 3) (v := .int x) (ty := .int) (C := RX3) (T := TX3) (N := 2) hk.1 hk.2.1 hk.2.2.2.2.1 iuX3 tyX3 tyX3_ok nmX3 hk.2.2.2.1 hk.2.2.2.2.2.2.2.1 hP hD hS 18 rfl rfl 0 (by decide) (hk.2.2.2.2.1 _ tw_105) (fun _ h9 => h9) rfl (by decide +kernel) rfl rfl (Nat.le_of_ble_eq_true rfl) hd (fun H locs hP hD hS => kk p e s m args below meth c S0 po hB hk H locs ls hP hD hS hl)
theorem Xg_X10_242 {Z : VZ} {cc : ByteArray} {nL : Nat} {ret : Option FieldType} {d mc ms : Nat} {B : VB XS} {n k pc : Nat} {L : List (Nat × Value)} {st : List Value} {S : XS} {v : Int32} (hv : S.1 31 = v) (hd : decode cc pc = .ok (.getfield 242, 3)) (kk : V XW Z cc RX10 nL ret d mc ms B n k (pc + 3) L (.int v :: st) S) : V XW Z cc RX10 nL ret d mc ms B n k pc L (.ref (Z.2.2.2 5) :: st) S := by
  subst hv
  intro p e s m args below meth c S0 po hB hk H locs ls hP hD hS hl
  exact va_get (D := Z.2.1) (ci := 7) (C := RX7) (T := TX7) (N := 9) hk.1 hk.2.1 hk.2.2.2.2.1 iuX7 hk.2.2.2.1 hk.2.2.2.2.2.2.2.1 hP 13 rfl rfl 1 (by decide) (hk.2.2.2.2.1 _ tw_41) (fun _ h9 => h9) rfl hd (kk p e s m args below meth c S0 po hB hk H locs ls hP hD hS hl)
theorem Xp_X10_242 {Z : VZ} {cc : ByteArray} {nL : Nat} {ret : Option FieldType} {d mc ms : Nat} {B : VB XS} {n k pc : Nat} {L : List (Nat × Value)} {st : List Value} {S : XS} {x : Int32} (hd : decode cc pc = .ok (.putfield 242, 3)) (kk : V XW Z cc RX10 nL ret d mc ms B n k (pc + 3) L st (va_up S.1 31 x, S.2)) : V XW Z cc RX10 nL ret d mc ms B n k pc L (.int x :: .ref (Z.2.2.2 5) :: st) S := by
  intro p e s m args below meth c S0 po hB hk H locs ls hP hD hS hl
  exact va_put (D := Z.2.1) (ci := 7) (v := .int x) (ty := .int) (C := RX7) (T := TX7) (N := 9) hk.1 hk.2.1 hk.2.2.2.2.1 iuX7 tyX7 tyX7_ok nmX7 hk.2.2.2.1 hk.2.2.2.2.2.2.2.1 hP hD hS 13 rfl rfl 1 (by decide) (hk.2.2.2.2.1 _ tw_41) (fun _ h9 => h9) rfl (by decide +kernel) rfl rfl (Nat.le_of_ble_eq_true rfl) hd (fun H locs hP hD hS => kk p e s m args below meth c S0 po hB hk H locs ls hP hD hS hl)
theorem Xg_X10_246 {Z : VZ} {cc : ByteArray} {nL : Nat} {ret : Option FieldType} {d mc ms : Nat} {B : VB XS} {n k pc : Nat} {L : List (Nat × Value)} {st : List Value} {S : XS} {v : Int32} (hv : S.1 32 = v) (hd : decode cc pc = .ok (.getfield 246, 3)) (kk : V XW Z cc RX10 nL ret d mc ms B n k (pc + 3) L (.int v :: st) S) : V XW Z cc RX10 nL ret d mc ms B n k pc L (.ref (Z.2.2.2 5) :: st) S := by
  subst hv
  intro p e s m args below meth c S0 po hB hk H locs ls hP hD hS hl
  exact va_get (D := Z.2.1) (ci := 7) (C := RX7) (T := TX7) (N := 9) hk.1 hk.2.1 hk.2.2.2.2.1 iuX7 hk.2.2.2.1 hk.2.2.2.2.2.2.2.1 hP 13 rfl rfl 2 (by decide) (hk.2.2.2.2.1 _ tw_43) (fun _ h9 => h9) rfl hd (kk p e s m args below meth c S0 po hB hk H locs ls hP hD hS hl)
theorem Xp_X10_246 {Z : VZ} {cc : ByteArray} {nL : Nat} {ret : Option FieldType} {d mc ms : Nat} {B : VB XS} {n k pc : Nat} {L : List (Nat × Value)} {st : List Value} {S : XS} {x : Int32} (hd : decode cc pc = .ok (.putfield 246, 3)) (kk : V XW Z cc RX10 nL ret d mc ms B n k (pc + 3) L st (va_up S.1 32 x, S.2)) : V XW Z cc RX10 nL ret d mc ms B n k pc L (.int x :: .ref (Z.2.2.2 5) :: st) S := by
  intro p e s m args below meth c S0 po hB hk H locs ls hP hD hS hl
  exact va_put (D := Z.2.1) (ci := 7) (v := .int x) (ty := .int) (C := RX7) (T := TX7) (N := 9) hk.1 hk.2.1 hk.2.2.2.2.1 iuX7 tyX7 tyX7_ok nmX7 hk.2.2.2.1 hk.2.2.2.2.2.2.2.1 hP hD hS 13 rfl rfl 2 (by decide) (hk.2.2.2.2.1 _ tw_43) (fun _ h9 => h9) rfl (by decide +kernel) rfl rfl (Nat.le_of_ble_eq_true rfl) hd (fun H locs hP hD hS => kk p e s m args below meth c S0 po hB hk H locs ls hP hD hS hl)
theorem Xg_X10_262 {Z : VZ} {cc : ByteArray} {nL : Nat} {ret : Option FieldType} {d mc ms : Nat} {B : VB XS} {n k pc : Nat} {L : List (Nat × Value)} {st : List Value} {S : XS} {i : Nat} (hi : i < 4) {v : Int32} (hv : S.1 (10 + i) = v) (hd : decode cc pc = .ok (.getfield 262, 3)) (kk : V XW Z cc RX10 nL ret d mc ms B n k (pc + 3) L (.int v :: st) S) : V XW Z cc RX10 nL ret d mc ms B n k pc L (.ref (Z.2.2.2 (10 + i)) :: st) S := by
  subst hv
  intro p e s m args below meth c S0 po hB hk H locs ls hP hD hS hl
  match i, hi with
  | 0, _ => exact va_get (D := Z.2.1) (ci := 8) (C := RX8) (T := TX8) (N := 3) hk.1 hk.2.1 hk.2.2.2.2.1 iuX8 hk.2.2.2.1 hk.2.2.2.2.2.2.2.1 hP 5 rfl rfl 1 (by decide) (hk.2.2.2.2.1 _ tw_121) (fun _ h9 => h9) rfl hd (kk p e s m args below meth c S0 po hB hk H locs ls hP hD hS hl)
  | 1, _ => exact va_get (D := Z.2.1) (ci := 8) (C := RX8) (T := TX8) (N := 3) hk.1 hk.2.1 hk.2.2.2.2.1 iuX8 hk.2.2.2.1 hk.2.2.2.2.2.2.2.1 hP 6 rfl rfl 1 (by decide) (hk.2.2.2.2.1 _ tw_121) (fun _ h9 => h9) rfl hd (kk p e s m args below meth c S0 po hB hk H locs ls hP hD hS hl)
  | 2, _ => exact va_get (D := Z.2.1) (ci := 8) (C := RX8) (T := TX8) (N := 3) hk.1 hk.2.1 hk.2.2.2.2.1 iuX8 hk.2.2.2.1 hk.2.2.2.2.2.2.2.1 hP 7 rfl rfl 1 (by decide) (hk.2.2.2.2.1 _ tw_121) (fun _ h9 => h9) rfl hd (kk p e s m args below meth c S0 po hB hk H locs ls hP hD hS hl)
  | 3, _ => exact va_get (D := Z.2.1) (ci := 8) (C := RX8) (T := TX8) (N := 3) hk.1 hk.2.1 hk.2.2.2.2.1 iuX8 hk.2.2.2.1 hk.2.2.2.2.2.2.2.1 hP 8 rfl rfl 1 (by decide) (hk.2.2.2.2.1 _ tw_121) (fun _ h9 => h9) rfl hd (kk p e s m args below meth c S0 po hB hk H locs ls hP hD hS hl)
  | i + 4, hi => exact absurd hi (by omega)
theorem Xp_X10_262 {Z : VZ} {cc : ByteArray} {nL : Nat} {ret : Option FieldType} {d mc ms : Nat} {B : VB XS} {n k pc : Nat} {L : List (Nat × Value)} {st : List Value} {S : XS} {i : Nat} {x : Int32} (hi : i < 4) (hd : decode cc pc = .ok (.putfield 262, 3)) (kk : V XW Z cc RX10 nL ret d mc ms B n k (pc + 3) L st (va_up S.1 (10 + i) x, S.2)) : V XW Z cc RX10 nL ret d mc ms B n k pc L (.int x :: .ref (Z.2.2.2 (10 + i)) :: st) S := by
  intro p e s m args below meth c S0 po hB hk H locs ls hP hD hS hl
  match i, hi with
  | 0, _ => exact va_put (D := Z.2.1) (ci := 8) (v := .int x) (ty := .int) (C := RX8) (T := TX8) (N := 3) hk.1 hk.2.1 hk.2.2.2.2.1 iuX8 tyX8 tyX8_ok nmX8 hk.2.2.2.1 hk.2.2.2.2.2.2.2.1 hP hD hS 5 rfl rfl 1 (by decide) (hk.2.2.2.2.1 _ tw_121) (fun _ h9 => h9) rfl (by decide +kernel) rfl rfl (Nat.le_of_ble_eq_true rfl) hd (fun H locs hP hD hS => kk p e s m args below meth c S0 po hB hk H locs ls hP hD hS hl)
  | 1, _ => exact va_put (D := Z.2.1) (ci := 8) (v := .int x) (ty := .int) (C := RX8) (T := TX8) (N := 3) hk.1 hk.2.1 hk.2.2.2.2.1 iuX8 tyX8 tyX8_ok nmX8 hk.2.2.2.1 hk.2.2.2.2.2.2.2.1 hP hD hS 6 rfl rfl 1 (by decide) (hk.2.2.2.2.1 _ tw_121) (fun _ h9 => h9) rfl (by decide +kernel) rfl rfl (Nat.le_of_ble_eq_true rfl) hd (fun H locs hP hD hS => kk p e s m args below meth c S0 po hB hk H locs ls hP hD hS hl)
  | 2, _ => exact va_put (D := Z.2.1) (ci := 8) (v := .int x) (ty := .int) (C := RX8) (T := TX8) (N := 3) hk.1 hk.2.1 hk.2.2.2.2.1 iuX8 tyX8 tyX8_ok nmX8 hk.2.2.2.1 hk.2.2.2.2.2.2.2.1 hP hD hS 7 rfl rfl 1 (by decide) (hk.2.2.2.2.1 _ tw_121) (fun _ h9 => h9) rfl (by decide +kernel) rfl rfl (Nat.le_of_ble_eq_true rfl) hd (fun H locs hP hD hS => kk p e s m args below meth c S0 po hB hk H locs ls hP hD hS hl)
  | 3, _ => exact va_put (D := Z.2.1) (ci := 8) (v := .int x) (ty := .int) (C := RX8) (T := TX8) (N := 3) hk.1 hk.2.1 hk.2.2.2.2.1 iuX8 tyX8 tyX8_ok nmX8 hk.2.2.2.1 hk.2.2.2.2.2.2.2.1 hP hD hS 8 rfl rfl 1 (by decide) (hk.2.2.2.2.1 _ tw_121) (fun _ h9 => h9) rfl (by decide +kernel) rfl rfl (Nat.le_of_ble_eq_true rfl) hd (fun H locs hP hD hS => kk p e s m args below meth c S0 po hB hk H locs ls hP hD hS hl)
  | i + 4, hi => exact absurd hi (by omega)
theorem Xg_X10_271 {Z : VZ} {cc : ByteArray} {nL : Nat} {ret : Option FieldType} {d mc ms : Nat} {B : VB XS} {n k pc : Nat} {L : List (Nat × Value)} {st : List Value} {S : XS} {i : Nat} (hi : i < 4)  (hd : decode cc pc = .ok (.getfield 271, 3)) (kk : V XW Z cc RX10 nL ret d mc ms B n k (pc + 3) L (.ref (Z.2.2.2 (20 + i)) :: st) S) : V XW Z cc RX10 nL ret d mc ms B n k pc L (.ref (Z.2.2.2 (10 + i)) :: st) S := by
  intro p e s m args below meth c S0 po hB hk H locs ls hP hD hS hl
  match i, hi with
  | 0, _ => exact va_get (D := Z.2.1) (ci := 8) (C := RX8) (T := TX8) (N := 3) hk.1 hk.2.1 hk.2.2.2.2.1 iuX8 hk.2.2.2.1 hk.2.2.2.2.2.2.2.1 hP 5 rfl rfl 0 (by decide) (hk.2.2.2.2.1 _ tw_119) (fun _ h9 => h9) rfl hd (kk p e s m args below meth c S0 po hB hk H locs ls hP hD hS hl)
  | 1, _ => exact va_get (D := Z.2.1) (ci := 8) (C := RX8) (T := TX8) (N := 3) hk.1 hk.2.1 hk.2.2.2.2.1 iuX8 hk.2.2.2.1 hk.2.2.2.2.2.2.2.1 hP 6 rfl rfl 0 (by decide) (hk.2.2.2.2.1 _ tw_119) (fun _ h9 => h9) rfl hd (kk p e s m args below meth c S0 po hB hk H locs ls hP hD hS hl)
  | 2, _ => exact va_get (D := Z.2.1) (ci := 8) (C := RX8) (T := TX8) (N := 3) hk.1 hk.2.1 hk.2.2.2.2.1 iuX8 hk.2.2.2.1 hk.2.2.2.2.2.2.2.1 hP 7 rfl rfl 0 (by decide) (hk.2.2.2.2.1 _ tw_119) (fun _ h9 => h9) rfl hd (kk p e s m args below meth c S0 po hB hk H locs ls hP hD hS hl)
  | 3, _ => exact va_get (D := Z.2.1) (ci := 8) (C := RX8) (T := TX8) (N := 3) hk.1 hk.2.1 hk.2.2.2.2.1 iuX8 hk.2.2.2.1 hk.2.2.2.2.2.2.2.1 hP 8 rfl rfl 0 (by decide) (hk.2.2.2.2.1 _ tw_119) (fun _ h9 => h9) rfl hd (kk p e s m args below meth c S0 po hB hk H locs ls hP hD hS hl)
  | i + 4, hi => exact absurd hi (by omega)
theorem Xg_X10_345 {Z : VZ} {cc : ByteArray} {nL : Nat} {ret : Option FieldType} {d mc ms : Nat} {B : VB XS} {n k pc : Nat} {L : List (Nat × Value)} {st : List Value} {S : XS} {v : Int64} (hv : S.2.1 6 = v) (hd : decode cc pc = .ok (.getfield 345, 3)) (kk : V XW Z cc RX10 nL ret d mc ms B n k (pc + 3) L (.long v :: st) S) : V XW Z cc RX10 nL ret d mc ms B n k pc L (.ref (Z.2.2.2 7) :: st) S := by
  subst hv
  intro p e s m args below meth c S0 po hB hk H locs ls hP hD hS hl
  exact va_get (D := Z.2.1) (ci := 3) (C := RX3) (T := TX3) (N := 2) hk.1 hk.2.1 hk.2.2.2.2.1 iuX3 hk.2.2.2.1 hk.2.2.2.2.2.2.2.1 hP 18 rfl rfl 1 (by decide) (hk.2.2.2.2.1 _ tw_107) (fun _ h9 => h9) rfl hd (kk p e s m args below meth c S0 po hB hk H locs ls hP hD hS hl)
theorem Xp_X10_345 {Z : VZ} {cc : ByteArray} {nL : Nat} {ret : Option FieldType} {d mc ms : Nat} {B : VB XS} {n k pc : Nat} {L : List (Nat × Value)} {st : List Value} {S : XS} {x : Int64} (hd : decode cc pc = .ok (.putfield 345, 3)) (kk : V XW Z cc RX10 nL ret d mc ms B n k (pc + 3) L st (S.1, va_up S.2.1 6 x, S.2.2)) : V XW Z cc RX10 nL ret d mc ms B n k pc L (.long x :: .ref (Z.2.2.2 7) :: st) S := by
  intro p e s m args below meth c S0 po hB hk H locs ls hP hD hS hl
  exact va_put (D := Z.2.1) (ci := 3) (v := .long x) (ty := .long) (C := RX3) (T := TX3) (N := 2) hk.1 hk.2.1 hk.2.2.2.2.1 iuX3 tyX3 tyX3_ok nmX3 hk.2.2.2.1 hk.2.2.2.2.2.2.2.1 hP hD hS 18 rfl rfl 1 (by decide) (hk.2.2.2.2.1 _ tw_107) (fun _ h9 => h9) rfl (by decide +kernel) rfl rfl (Nat.le_of_ble_eq_true rfl) hd (fun H locs hP hD hS => kk p e s m args below meth c S0 po hB hk H locs ls hP hD hS hl)
theorem Xg_X3_7 {Z : VZ} {cc : ByteArray} {nL : Nat} {ret : Option FieldType} {d mc ms : Nat} {B : VB XS} {n k pc : Nat} {L : List (Nat × Value)} {st : List Value} {S : XS} {v : Int32} (hv : S.1 40 = v) (hd : decode cc pc = .ok (.getfield 7, 3)) (kk : V XW Z cc RX3 nL ret d mc ms B n k (pc + 3) L (.int v :: st) S) : V XW Z cc RX3 nL ret d mc ms B n k pc L (.ref (Z.2.2.2 7) :: st) S := by
  subst hv
  intro p e s m args below meth c S0 po hB hk H locs ls hP hD hS hl
  exact va_get (D := Z.2.1) (ci := 3) (C := RX3) (T := TX3) (N := 2) hk.1 hk.2.1 hk.2.2.2.2.1 iuX3 hk.2.2.2.1 hk.2.2.2.2.2.2.2.1 hP 18 rfl rfl 0 (by decide) (hk.2.2.2.2.1 _ tw_104) (fun _ h9 => h9) rfl hd (kk p e s m args below meth c S0 po hB hk H locs ls hP hD hS hl)
theorem Xp_X3_7 {Z : VZ} {cc : ByteArray} {nL : Nat} {ret : Option FieldType} {d mc ms : Nat} {B : VB XS} {n k pc : Nat} {L : List (Nat × Value)} {st : List Value} {S : XS} {x : Int32} (hd : decode cc pc = .ok (.putfield 7, 3)) (kk : V XW Z cc RX3 nL ret d mc ms B n k (pc + 3) L st (va_up S.1 40 x, S.2)) : V XW Z cc RX3 nL ret d mc ms B n k pc L (.int x :: .ref (Z.2.2.2 7) :: st) S := by
  intro p e s m args below meth c S0 po hB hk H locs ls hP hD hS hl
  exact va_put (D := Z.2.1) (ci := 3) (v := .int x) (ty := .int) (C := RX3) (T := TX3) (N := 2) hk.1 hk.2.1 hk.2.2.2.2.1 iuX3 tyX3 tyX3_ok nmX3 hk.2.2.2.1 hk.2.2.2.2.2.2.2.1 hP hD hS 18 rfl rfl 0 (by decide) (hk.2.2.2.2.1 _ tw_104) (fun _ h9 => h9) rfl (by decide +kernel) rfl rfl (Nat.le_of_ble_eq_true rfl) hd (fun H locs hP hD hS => kk p e s m args below meth c S0 po hB hk H locs ls hP hD hS hl)
theorem Xg_X3_13 {Z : VZ} {cc : ByteArray} {nL : Nat} {ret : Option FieldType} {d mc ms : Nat} {B : VB XS} {n k pc : Nat} {L : List (Nat × Value)} {st : List Value} {S : XS} {v : Int64} (hv : S.2.1 6 = v) (hd : decode cc pc = .ok (.getfield 13, 3)) (kk : V XW Z cc RX3 nL ret d mc ms B n k (pc + 3) L (.long v :: st) S) : V XW Z cc RX3 nL ret d mc ms B n k pc L (.ref (Z.2.2.2 7) :: st) S := by
  subst hv
  intro p e s m args below meth c S0 po hB hk H locs ls hP hD hS hl
  exact va_get (D := Z.2.1) (ci := 3) (C := RX3) (T := TX3) (N := 2) hk.1 hk.2.1 hk.2.2.2.2.1 iuX3 hk.2.2.2.1 hk.2.2.2.2.2.2.2.1 hP 18 rfl rfl 1 (by decide) (hk.2.2.2.2.1 _ tw_106) (fun _ h9 => h9) rfl hd (kk p e s m args below meth c S0 po hB hk H locs ls hP hD hS hl)
theorem Xp_X3_13 {Z : VZ} {cc : ByteArray} {nL : Nat} {ret : Option FieldType} {d mc ms : Nat} {B : VB XS} {n k pc : Nat} {L : List (Nat × Value)} {st : List Value} {S : XS} {x : Int64} (hd : decode cc pc = .ok (.putfield 13, 3)) (kk : V XW Z cc RX3 nL ret d mc ms B n k (pc + 3) L st (S.1, va_up S.2.1 6 x, S.2.2)) : V XW Z cc RX3 nL ret d mc ms B n k pc L (.long x :: .ref (Z.2.2.2 7) :: st) S := by
  intro p e s m args below meth c S0 po hB hk H locs ls hP hD hS hl
  exact va_put (D := Z.2.1) (ci := 3) (v := .long x) (ty := .long) (C := RX3) (T := TX3) (N := 2) hk.1 hk.2.1 hk.2.2.2.2.1 iuX3 tyX3 tyX3_ok nmX3 hk.2.2.2.1 hk.2.2.2.2.2.2.2.1 hP hD hS 18 rfl rfl 1 (by decide) (hk.2.2.2.2.1 _ tw_106) (fun _ h9 => h9) rfl (by decide +kernel) rfl rfl (Nat.le_of_ble_eq_true rfl) hd (fun H locs hP hD hS => kk p e s m args below meth c S0 po hB hk H locs ls hP hD hS hl)
theorem Xg_X4_9 {Z : VZ} {cc : ByteArray} {nL : Nat} {ret : Option FieldType} {d mc ms : Nat} {B : VB XS} {n k pc : Nat} {L : List (Nat × Value)} {st : List Value} {S : XS} {v : Int64} (hv : S.2.1 0 = v) (hd : decode cc pc = .ok (.getfield 9, 3)) (kk : V XW Z cc RX4 nL ret d mc ms B n k (pc + 3) L (.long v :: st) S) : V XW Z cc RX4 nL ret d mc ms B n k pc L (.ref (Z.2.2.2 6) :: st) S := by
  subst hv
  intro p e s m args below meth c S0 po hB hk H locs ls hP hD hS hl
  exact va_get (D := Z.2.1) (ci := 4) (C := RX4) (T := TX4) (N := 6) hk.1 hk.2.1 hk.2.2.2.2.1 iuX4 hk.2.2.2.1 hk.2.2.2.2.2.2.2.1 hP 17 rfl rfl 0 (by decide) (hk.2.2.2.2.1 _ tw_77) (fun _ h9 => h9) rfl hd (kk p e s m args below meth c S0 po hB hk H locs ls hP hD hS hl)
theorem Xp_X4_9 {Z : VZ} {cc : ByteArray} {nL : Nat} {ret : Option FieldType} {d mc ms : Nat} {B : VB XS} {n k pc : Nat} {L : List (Nat × Value)} {st : List Value} {S : XS} {x : Int64} (hd : decode cc pc = .ok (.putfield 9, 3)) (kk : V XW Z cc RX4 nL ret d mc ms B n k (pc + 3) L st (S.1, va_up S.2.1 0 x, S.2.2)) : V XW Z cc RX4 nL ret d mc ms B n k pc L (.long x :: .ref (Z.2.2.2 6) :: st) S := by
  intro p e s m args below meth c S0 po hB hk H locs ls hP hD hS hl
  exact va_put (D := Z.2.1) (ci := 4) (v := .long x) (ty := .long) (C := RX4) (T := TX4) (N := 6) hk.1 hk.2.1 hk.2.2.2.2.1 iuX4 tyX4 tyX4_ok nmX4 hk.2.2.2.1 hk.2.2.2.2.2.2.2.1 hP hD hS 17 rfl rfl 0 (by decide) (hk.2.2.2.2.1 _ tw_77) (fun _ h9 => h9) rfl (by decide +kernel) rfl rfl (Nat.le_of_ble_eq_true rfl) hd (fun H locs hP hD hS => kk p e s m args below meth c S0 po hB hk H locs ls hP hD hS hl)
theorem Xg_X4_15 {Z : VZ} {cc : ByteArray} {nL : Nat} {ret : Option FieldType} {d mc ms : Nat} {B : VB XS} {n k pc : Nat} {L : List (Nat × Value)} {st : List Value} {S : XS} {v : Int64} (hv : S.2.1 1 = v) (hd : decode cc pc = .ok (.getfield 15, 3)) (kk : V XW Z cc RX4 nL ret d mc ms B n k (pc + 3) L (.long v :: st) S) : V XW Z cc RX4 nL ret d mc ms B n k pc L (.ref (Z.2.2.2 6) :: st) S := by
  subst hv
  intro p e s m args below meth c S0 po hB hk H locs ls hP hD hS hl
  exact va_get (D := Z.2.1) (ci := 4) (C := RX4) (T := TX4) (N := 6) hk.1 hk.2.1 hk.2.2.2.2.1 iuX4 hk.2.2.2.1 hk.2.2.2.2.2.2.2.1 hP 17 rfl rfl 1 (by decide) (hk.2.2.2.2.1 _ tw_79) (fun _ h9 => h9) rfl hd (kk p e s m args below meth c S0 po hB hk H locs ls hP hD hS hl)
theorem Xp_X4_15 {Z : VZ} {cc : ByteArray} {nL : Nat} {ret : Option FieldType} {d mc ms : Nat} {B : VB XS} {n k pc : Nat} {L : List (Nat × Value)} {st : List Value} {S : XS} {x : Int64} (hd : decode cc pc = .ok (.putfield 15, 3)) (kk : V XW Z cc RX4 nL ret d mc ms B n k (pc + 3) L st (S.1, va_up S.2.1 1 x, S.2.2)) : V XW Z cc RX4 nL ret d mc ms B n k pc L (.long x :: .ref (Z.2.2.2 6) :: st) S := by
  intro p e s m args below meth c S0 po hB hk H locs ls hP hD hS hl
  exact va_put (D := Z.2.1) (ci := 4) (v := .long x) (ty := .long) (C := RX4) (T := TX4) (N := 6) hk.1 hk.2.1 hk.2.2.2.2.1 iuX4 tyX4 tyX4_ok nmX4 hk.2.2.2.1 hk.2.2.2.2.2.2.2.1 hP hD hS 17 rfl rfl 1 (by decide) (hk.2.2.2.2.1 _ tw_79) (fun _ h9 => h9) rfl (by decide +kernel) rfl rfl (Nat.le_of_ble_eq_true rfl) hd (fun H locs hP hD hS => kk p e s m args below meth c S0 po hB hk H locs ls hP hD hS hl)
theorem Xg_X4_22 {Z : VZ} {cc : ByteArray} {nL : Nat} {ret : Option FieldType} {d mc ms : Nat} {B : VB XS} {n k pc : Nat} {L : List (Nat × Value)} {st : List Value} {S : XS} {v : Int64} (hv : S.2.1 2 = v) (hd : decode cc pc = .ok (.getfield 22, 3)) (kk : V XW Z cc RX4 nL ret d mc ms B n k (pc + 3) L (.long v :: st) S) : V XW Z cc RX4 nL ret d mc ms B n k pc L (.ref (Z.2.2.2 6) :: st) S := by
  subst hv
  intro p e s m args below meth c S0 po hB hk H locs ls hP hD hS hl
  exact va_get (D := Z.2.1) (ci := 4) (C := RX4) (T := TX4) (N := 6) hk.1 hk.2.1 hk.2.2.2.2.1 iuX4 hk.2.2.2.1 hk.2.2.2.2.2.2.2.1 hP 17 rfl rfl 2 (by decide) (hk.2.2.2.2.1 _ tw_81) (fun _ h9 => h9) rfl hd (kk p e s m args below meth c S0 po hB hk H locs ls hP hD hS hl)
theorem Xp_X4_22 {Z : VZ} {cc : ByteArray} {nL : Nat} {ret : Option FieldType} {d mc ms : Nat} {B : VB XS} {n k pc : Nat} {L : List (Nat × Value)} {st : List Value} {S : XS} {x : Int64} (hd : decode cc pc = .ok (.putfield 22, 3)) (kk : V XW Z cc RX4 nL ret d mc ms B n k (pc + 3) L st (S.1, va_up S.2.1 2 x, S.2.2)) : V XW Z cc RX4 nL ret d mc ms B n k pc L (.long x :: .ref (Z.2.2.2 6) :: st) S := by
  intro p e s m args below meth c S0 po hB hk H locs ls hP hD hS hl
  exact va_put (D := Z.2.1) (ci := 4) (v := .long x) (ty := .long) (C := RX4) (T := TX4) (N := 6) hk.1 hk.2.1 hk.2.2.2.2.1 iuX4 tyX4 tyX4_ok nmX4 hk.2.2.2.1 hk.2.2.2.2.2.2.2.1 hP hD hS 17 rfl rfl 2 (by decide) (hk.2.2.2.2.1 _ tw_81) (fun _ h9 => h9) rfl (by decide +kernel) rfl rfl (Nat.le_of_ble_eq_true rfl) hd (fun H locs hP hD hS => kk p e s m args below meth c S0 po hB hk H locs ls hP hD hS hl)
theorem Xg_X4_25 {Z : VZ} {cc : ByteArray} {nL : Nat} {ret : Option FieldType} {d mc ms : Nat} {B : VB XS} {n k pc : Nat} {L : List (Nat × Value)} {st : List Value} {S : XS} {v : Int64} (hv : S.2.1 3 = v) (hd : decode cc pc = .ok (.getfield 25, 3)) (kk : V XW Z cc RX4 nL ret d mc ms B n k (pc + 3) L (.long v :: st) S) : V XW Z cc RX4 nL ret d mc ms B n k pc L (.ref (Z.2.2.2 6) :: st) S := by
  subst hv
  intro p e s m args below meth c S0 po hB hk H locs ls hP hD hS hl
  exact va_get (D := Z.2.1) (ci := 4) (C := RX4) (T := TX4) (N := 6) hk.1 hk.2.1 hk.2.2.2.2.1 iuX4 hk.2.2.2.1 hk.2.2.2.2.2.2.2.1 hP 17 rfl rfl 3 (by decide) (hk.2.2.2.2.1 _ tw_82) (fun _ h9 => h9) rfl hd (kk p e s m args below meth c S0 po hB hk H locs ls hP hD hS hl)
theorem Xp_X4_25 {Z : VZ} {cc : ByteArray} {nL : Nat} {ret : Option FieldType} {d mc ms : Nat} {B : VB XS} {n k pc : Nat} {L : List (Nat × Value)} {st : List Value} {S : XS} {x : Int64} (hd : decode cc pc = .ok (.putfield 25, 3)) (kk : V XW Z cc RX4 nL ret d mc ms B n k (pc + 3) L st (S.1, va_up S.2.1 3 x, S.2.2)) : V XW Z cc RX4 nL ret d mc ms B n k pc L (.long x :: .ref (Z.2.2.2 6) :: st) S := by
  intro p e s m args below meth c S0 po hB hk H locs ls hP hD hS hl
  exact va_put (D := Z.2.1) (ci := 4) (v := .long x) (ty := .long) (C := RX4) (T := TX4) (N := 6) hk.1 hk.2.1 hk.2.2.2.2.1 iuX4 tyX4 tyX4_ok nmX4 hk.2.2.2.1 hk.2.2.2.2.2.2.2.1 hP hD hS 17 rfl rfl 3 (by decide) (hk.2.2.2.2.1 _ tw_82) (fun _ h9 => h9) rfl (by decide +kernel) rfl rfl (Nat.le_of_ble_eq_true rfl) hd (fun H locs hP hD hS => kk p e s m args below meth c S0 po hB hk H locs ls hP hD hS hl)
theorem Xg_X4_35 {Z : VZ} {cc : ByteArray} {nL : Nat} {ret : Option FieldType} {d mc ms : Nat} {B : VB XS} {n k pc : Nat} {L : List (Nat × Value)} {st : List Value} {S : XS} {v : Int64} (hv : S.2.1 4 = v) (hd : decode cc pc = .ok (.getfield 35, 3)) (kk : V XW Z cc RX4 nL ret d mc ms B n k (pc + 3) L (.long v :: st) S) : V XW Z cc RX4 nL ret d mc ms B n k pc L (.ref (Z.2.2.2 6) :: st) S := by
  subst hv
  intro p e s m args below meth c S0 po hB hk H locs ls hP hD hS hl
  exact va_get (D := Z.2.1) (ci := 4) (C := RX4) (T := TX4) (N := 6) hk.1 hk.2.1 hk.2.2.2.2.1 iuX4 hk.2.2.2.1 hk.2.2.2.2.2.2.2.1 hP 17 rfl rfl 4 (by decide) (hk.2.2.2.2.1 _ tw_83) (fun _ h9 => h9) rfl hd (kk p e s m args below meth c S0 po hB hk H locs ls hP hD hS hl)
theorem Xp_X4_35 {Z : VZ} {cc : ByteArray} {nL : Nat} {ret : Option FieldType} {d mc ms : Nat} {B : VB XS} {n k pc : Nat} {L : List (Nat × Value)} {st : List Value} {S : XS} {x : Int64} (hd : decode cc pc = .ok (.putfield 35, 3)) (kk : V XW Z cc RX4 nL ret d mc ms B n k (pc + 3) L st (S.1, va_up S.2.1 4 x, S.2.2)) : V XW Z cc RX4 nL ret d mc ms B n k pc L (.long x :: .ref (Z.2.2.2 6) :: st) S := by
  intro p e s m args below meth c S0 po hB hk H locs ls hP hD hS hl
  exact va_put (D := Z.2.1) (ci := 4) (v := .long x) (ty := .long) (C := RX4) (T := TX4) (N := 6) hk.1 hk.2.1 hk.2.2.2.2.1 iuX4 tyX4 tyX4_ok nmX4 hk.2.2.2.1 hk.2.2.2.2.2.2.2.1 hP hD hS 17 rfl rfl 4 (by decide) (hk.2.2.2.2.1 _ tw_83) (fun _ h9 => h9) rfl (by decide +kernel) rfl rfl (Nat.le_of_ble_eq_true rfl) hd (fun H locs hP hD hS => kk p e s m args below meth c S0 po hB hk H locs ls hP hD hS hl)
theorem Xg_X4_38 {Z : VZ} {cc : ByteArray} {nL : Nat} {ret : Option FieldType} {d mc ms : Nat} {B : VB XS} {n k pc : Nat} {L : List (Nat × Value)} {st : List Value} {S : XS} {v : Int64} (hv : S.2.1 5 = v) (hd : decode cc pc = .ok (.getfield 38, 3)) (kk : V XW Z cc RX4 nL ret d mc ms B n k (pc + 3) L (.long v :: st) S) : V XW Z cc RX4 nL ret d mc ms B n k pc L (.ref (Z.2.2.2 6) :: st) S := by
  subst hv
  intro p e s m args below meth c S0 po hB hk H locs ls hP hD hS hl
  exact va_get (D := Z.2.1) (ci := 4) (C := RX4) (T := TX4) (N := 6) hk.1 hk.2.1 hk.2.2.2.2.1 iuX4 hk.2.2.2.1 hk.2.2.2.2.2.2.2.1 hP 17 rfl rfl 5 (by decide) (hk.2.2.2.2.1 _ tw_84) (fun _ h9 => h9) rfl hd (kk p e s m args below meth c S0 po hB hk H locs ls hP hD hS hl)
theorem Xp_X4_38 {Z : VZ} {cc : ByteArray} {nL : Nat} {ret : Option FieldType} {d mc ms : Nat} {B : VB XS} {n k pc : Nat} {L : List (Nat × Value)} {st : List Value} {S : XS} {x : Int64} (hd : decode cc pc = .ok (.putfield 38, 3)) (kk : V XW Z cc RX4 nL ret d mc ms B n k (pc + 3) L st (S.1, va_up S.2.1 5 x, S.2.2)) : V XW Z cc RX4 nL ret d mc ms B n k pc L (.long x :: .ref (Z.2.2.2 6) :: st) S := by
  intro p e s m args below meth c S0 po hB hk H locs ls hP hD hS hl
  exact va_put (D := Z.2.1) (ci := 4) (v := .long x) (ty := .long) (C := RX4) (T := TX4) (N := 6) hk.1 hk.2.1 hk.2.2.2.2.1 iuX4 tyX4 tyX4_ok nmX4 hk.2.2.2.1 hk.2.2.2.2.2.2.2.1 hP hD hS 17 rfl rfl 5 (by decide) (hk.2.2.2.2.1 _ tw_84) (fun _ h9 => h9) rfl (by decide +kernel) rfl rfl (Nat.le_of_ble_eq_true rfl) hd (fun H locs hP hD hS => kk p e s m args below meth c S0 po hB hk H locs ls hP hD hS hl)
theorem Xg_X7_11 {Z : VZ} {cc : ByteArray} {nL : Nat} {ret : Option FieldType} {d mc ms : Nat} {B : VB XS} {n k pc : Nat} {L : List (Nat × Value)} {st : List Value} {S : XS}  (hd : decode cc pc = .ok (.getfield 11, 3)) (kk : V XW Z cc RX7 nL ret d mc ms B n k (pc + 3) L (.ref (Z.2.2.2 30) :: st) S) : V XW Z cc RX7 nL ret d mc ms B n k pc L (.ref (Z.2.2.2 5) :: st) S := by
  intro p e s m args below meth c S0 po hB hk H locs ls hP hD hS hl
  exact va_get (D := Z.2.1) (ci := 7) (C := RX7) (T := TX7) (N := 9) hk.1 hk.2.1 hk.2.2.2.2.1 iuX7 hk.2.2.2.1 hk.2.2.2.2.2.2.2.1 hP 13 rfl rfl 0 (by decide) (hk.2.2.2.2.1 _ tw_39) (fun _ h9 => h9) rfl hd (kk p e s m args below meth c S0 po hB hk H locs ls hP hD hS hl)
theorem Xg_X7_15 {Z : VZ} {cc : ByteArray} {nL : Nat} {ret : Option FieldType} {d mc ms : Nat} {B : VB XS} {n k pc : Nat} {L : List (Nat × Value)} {st : List Value} {S : XS} {v : Int32} (hv : S.1 31 = v) (hd : decode cc pc = .ok (.getfield 15, 3)) (kk : V XW Z cc RX7 nL ret d mc ms B n k (pc + 3) L (.int v :: st) S) : V XW Z cc RX7 nL ret d mc ms B n k pc L (.ref (Z.2.2.2 5) :: st) S := by
  subst hv
  intro p e s m args below meth c S0 po hB hk H locs ls hP hD hS hl
  exact va_get (D := Z.2.1) (ci := 7) (C := RX7) (T := TX7) (N := 9) hk.1 hk.2.1 hk.2.2.2.2.1 iuX7 hk.2.2.2.1 hk.2.2.2.2.2.2.2.1 hP 13 rfl rfl 1 (by decide) (hk.2.2.2.2.1 _ tw_40) (fun _ h9 => h9) rfl hd (kk p e s m args below meth c S0 po hB hk H locs ls hP hD hS hl)
theorem Xp_X7_15 {Z : VZ} {cc : ByteArray} {nL : Nat} {ret : Option FieldType} {d mc ms : Nat} {B : VB XS} {n k pc : Nat} {L : List (Nat × Value)} {st : List Value} {S : XS} {x : Int32} (hd : decode cc pc = .ok (.putfield 15, 3)) (kk : V XW Z cc RX7 nL ret d mc ms B n k (pc + 3) L st (va_up S.1 31 x, S.2)) : V XW Z cc RX7 nL ret d mc ms B n k pc L (.int x :: .ref (Z.2.2.2 5) :: st) S := by
  intro p e s m args below meth c S0 po hB hk H locs ls hP hD hS hl
  exact va_put (D := Z.2.1) (ci := 7) (v := .int x) (ty := .int) (C := RX7) (T := TX7) (N := 9) hk.1 hk.2.1 hk.2.2.2.2.1 iuX7 tyX7 tyX7_ok nmX7 hk.2.2.2.1 hk.2.2.2.2.2.2.2.1 hP hD hS 13 rfl rfl 1 (by decide) (hk.2.2.2.2.1 _ tw_40) (fun _ h9 => h9) rfl (by decide +kernel) rfl rfl (Nat.le_of_ble_eq_true rfl) hd (fun H locs hP hD hS => kk p e s m args below meth c S0 po hB hk H locs ls hP hD hS hl)
theorem Xg_X7_19 {Z : VZ} {cc : ByteArray} {nL : Nat} {ret : Option FieldType} {d mc ms : Nat} {B : VB XS} {n k pc : Nat} {L : List (Nat × Value)} {st : List Value} {S : XS} {v : Int32} (hv : S.1 32 = v) (hd : decode cc pc = .ok (.getfield 19, 3)) (kk : V XW Z cc RX7 nL ret d mc ms B n k (pc + 3) L (.int v :: st) S) : V XW Z cc RX7 nL ret d mc ms B n k pc L (.ref (Z.2.2.2 5) :: st) S := by
  subst hv
  intro p e s m args below meth c S0 po hB hk H locs ls hP hD hS hl
  exact va_get (D := Z.2.1) (ci := 7) (C := RX7) (T := TX7) (N := 9) hk.1 hk.2.1 hk.2.2.2.2.1 iuX7 hk.2.2.2.1 hk.2.2.2.2.2.2.2.1 hP 13 rfl rfl 2 (by decide) (hk.2.2.2.2.1 _ tw_42) (fun _ h9 => h9) rfl hd (kk p e s m args below meth c S0 po hB hk H locs ls hP hD hS hl)
theorem Xp_X7_19 {Z : VZ} {cc : ByteArray} {nL : Nat} {ret : Option FieldType} {d mc ms : Nat} {B : VB XS} {n k pc : Nat} {L : List (Nat × Value)} {st : List Value} {S : XS} {x : Int32} (hd : decode cc pc = .ok (.putfield 19, 3)) (kk : V XW Z cc RX7 nL ret d mc ms B n k (pc + 3) L st (va_up S.1 32 x, S.2)) : V XW Z cc RX7 nL ret d mc ms B n k pc L (.int x :: .ref (Z.2.2.2 5) :: st) S := by
  intro p e s m args below meth c S0 po hB hk H locs ls hP hD hS hl
  exact va_put (D := Z.2.1) (ci := 7) (v := .int x) (ty := .int) (C := RX7) (T := TX7) (N := 9) hk.1 hk.2.1 hk.2.2.2.2.1 iuX7 tyX7 tyX7_ok nmX7 hk.2.2.2.1 hk.2.2.2.2.2.2.2.1 hP hD hS 13 rfl rfl 2 (by decide) (hk.2.2.2.2.1 _ tw_42) (fun _ h9 => h9) rfl (by decide +kernel) rfl rfl (Nat.le_of_ble_eq_true rfl) hd (fun H locs hP hD hS => kk p e s m args below meth c S0 po hB hk H locs ls hP hD hS hl)
theorem Xg_X7_22 {Z : VZ} {cc : ByteArray} {nL : Nat} {ret : Option FieldType} {d mc ms : Nat} {B : VB XS} {n k pc : Nat} {L : List (Nat × Value)} {st : List Value} {S : XS}  (hd : decode cc pc = .ok (.getfield 22, 3)) (kk : V XW Z cc RX7 nL ret d mc ms B n k (pc + 3) L (.ref (Z.2.2.2 33) :: st) S) : V XW Z cc RX7 nL ret d mc ms B n k pc L (.ref (Z.2.2.2 5) :: st) S := by
  intro p e s m args below meth c S0 po hB hk H locs ls hP hD hS hl
  exact va_get (D := Z.2.1) (ci := 7) (C := RX7) (T := TX7) (N := 9) hk.1 hk.2.1 hk.2.2.2.2.1 iuX7 hk.2.2.2.1 hk.2.2.2.2.2.2.2.1 hP 13 rfl rfl 3 (by decide) (hk.2.2.2.2.1 _ tw_44) (fun _ h9 => h9) rfl hd (kk p e s m args below meth c S0 po hB hk H locs ls hP hD hS hl)
theorem Xg_X7_25 {Z : VZ} {cc : ByteArray} {nL : Nat} {ret : Option FieldType} {d mc ms : Nat} {B : VB XS} {n k pc : Nat} {L : List (Nat × Value)} {st : List Value} {S : XS}  (hd : decode cc pc = .ok (.getfield 25, 3)) (kk : V XW Z cc RX7 nL ret d mc ms B n k (pc + 3) L (.ref (Z.2.2.2 34) :: st) S) : V XW Z cc RX7 nL ret d mc ms B n k pc L (.ref (Z.2.2.2 5) :: st) S := by
  intro p e s m args below meth c S0 po hB hk H locs ls hP hD hS hl
  exact va_get (D := Z.2.1) (ci := 7) (C := RX7) (T := TX7) (N := 9) hk.1 hk.2.1 hk.2.2.2.2.1 iuX7 hk.2.2.2.1 hk.2.2.2.2.2.2.2.1 hP 13 rfl rfl 4 (by decide) (hk.2.2.2.2.1 _ tw_45) (fun _ h9 => h9) rfl hd (kk p e s m args below meth c S0 po hB hk H locs ls hP hD hS hl)
theorem Xg_X7_28 {Z : VZ} {cc : ByteArray} {nL : Nat} {ret : Option FieldType} {d mc ms : Nat} {B : VB XS} {n k pc : Nat} {L : List (Nat × Value)} {st : List Value} {S : XS} {v : Int32} (hv : S.1 35 = v) (hd : decode cc pc = .ok (.getfield 28, 3)) (kk : V XW Z cc RX7 nL ret d mc ms B n k (pc + 3) L (.int v :: st) S) : V XW Z cc RX7 nL ret d mc ms B n k pc L (.ref (Z.2.2.2 5) :: st) S := by
  subst hv
  intro p e s m args below meth c S0 po hB hk H locs ls hP hD hS hl
  exact va_get (D := Z.2.1) (ci := 7) (C := RX7) (T := TX7) (N := 9) hk.1 hk.2.1 hk.2.2.2.2.1 iuX7 hk.2.2.2.1 hk.2.2.2.2.2.2.2.1 hP 13 rfl rfl 5 (by decide) (hk.2.2.2.2.1 _ tw_46) (fun _ h9 => h9) rfl hd (kk p e s m args below meth c S0 po hB hk H locs ls hP hD hS hl)
theorem Xp_X7_28 {Z : VZ} {cc : ByteArray} {nL : Nat} {ret : Option FieldType} {d mc ms : Nat} {B : VB XS} {n k pc : Nat} {L : List (Nat × Value)} {st : List Value} {S : XS} {x : Int32} (hd : decode cc pc = .ok (.putfield 28, 3)) (kk : V XW Z cc RX7 nL ret d mc ms B n k (pc + 3) L st (va_up S.1 35 x, S.2)) : V XW Z cc RX7 nL ret d mc ms B n k pc L (.int x :: .ref (Z.2.2.2 5) :: st) S := by
  intro p e s m args below meth c S0 po hB hk H locs ls hP hD hS hl
  exact va_put (D := Z.2.1) (ci := 7) (v := .int x) (ty := .int) (C := RX7) (T := TX7) (N := 9) hk.1 hk.2.1 hk.2.2.2.2.1 iuX7 tyX7 tyX7_ok nmX7 hk.2.2.2.1 hk.2.2.2.2.2.2.2.1 hP hD hS 13 rfl rfl 5 (by decide) (hk.2.2.2.2.1 _ tw_46) (fun _ h9 => h9) rfl (by decide +kernel) rfl rfl (Nat.le_of_ble_eq_true rfl) hd (fun H locs hP hD hS => kk p e s m args below meth c S0 po hB hk H locs ls hP hD hS hl)
theorem Xg_X7_31 {Z : VZ} {cc : ByteArray} {nL : Nat} {ret : Option FieldType} {d mc ms : Nat} {B : VB XS} {n k pc : Nat} {L : List (Nat × Value)} {st : List Value} {S : XS} {v : Int32} (hv : S.1 36 = v) (hd : decode cc pc = .ok (.getfield 31, 3)) (kk : V XW Z cc RX7 nL ret d mc ms B n k (pc + 3) L (.int v :: st) S) : V XW Z cc RX7 nL ret d mc ms B n k pc L (.ref (Z.2.2.2 5) :: st) S := by
  subst hv
  intro p e s m args below meth c S0 po hB hk H locs ls hP hD hS hl
  exact va_get (D := Z.2.1) (ci := 7) (C := RX7) (T := TX7) (N := 9) hk.1 hk.2.1 hk.2.2.2.2.1 iuX7 hk.2.2.2.1 hk.2.2.2.2.2.2.2.1 hP 13 rfl rfl 6 (by decide) (hk.2.2.2.2.1 _ tw_47) (fun _ h9 => h9) rfl hd (kk p e s m args below meth c S0 po hB hk H locs ls hP hD hS hl)
theorem Xp_X7_31 {Z : VZ} {cc : ByteArray} {nL : Nat} {ret : Option FieldType} {d mc ms : Nat} {B : VB XS} {n k pc : Nat} {L : List (Nat × Value)} {st : List Value} {S : XS} {x : Int32} (hd : decode cc pc = .ok (.putfield 31, 3)) (kk : V XW Z cc RX7 nL ret d mc ms B n k (pc + 3) L st (va_up S.1 36 x, S.2)) : V XW Z cc RX7 nL ret d mc ms B n k pc L (.int x :: .ref (Z.2.2.2 5) :: st) S := by
  intro p e s m args below meth c S0 po hB hk H locs ls hP hD hS hl
  exact va_put (D := Z.2.1) (ci := 7) (v := .int x) (ty := .int) (C := RX7) (T := TX7) (N := 9) hk.1 hk.2.1 hk.2.2.2.2.1 iuX7 tyX7 tyX7_ok nmX7 hk.2.2.2.1 hk.2.2.2.2.2.2.2.1 hP hD hS 13 rfl rfl 6 (by decide) (hk.2.2.2.2.1 _ tw_47) (fun _ h9 => h9) rfl (by decide +kernel) rfl rfl (Nat.le_of_ble_eq_true rfl) hd (fun H locs hP hD hS => kk p e s m args below meth c S0 po hB hk H locs ls hP hD hS hl)
theorem Xg_X7_34 {Z : VZ} {cc : ByteArray} {nL : Nat} {ret : Option FieldType} {d mc ms : Nat} {B : VB XS} {n k pc : Nat} {L : List (Nat × Value)} {st : List Value} {S : XS} {v : Int32} (hv : S.1 37 = v) (hd : decode cc pc = .ok (.getfield 34, 3)) (kk : V XW Z cc RX7 nL ret d mc ms B n k (pc + 3) L (.int v :: st) S) : V XW Z cc RX7 nL ret d mc ms B n k pc L (.ref (Z.2.2.2 5) :: st) S := by
  subst hv
  intro p e s m args below meth c S0 po hB hk H locs ls hP hD hS hl
  exact va_get (D := Z.2.1) (ci := 7) (C := RX7) (T := TX7) (N := 9) hk.1 hk.2.1 hk.2.2.2.2.1 iuX7 hk.2.2.2.1 hk.2.2.2.2.2.2.2.1 hP 13 rfl rfl 7 (by decide) (hk.2.2.2.2.1 _ tw_48) (fun _ h9 => h9) rfl hd (kk p e s m args below meth c S0 po hB hk H locs ls hP hD hS hl)
theorem Xp_X7_34 {Z : VZ} {cc : ByteArray} {nL : Nat} {ret : Option FieldType} {d mc ms : Nat} {B : VB XS} {n k pc : Nat} {L : List (Nat × Value)} {st : List Value} {S : XS} {x : Int32} (hd : decode cc pc = .ok (.putfield 34, 3)) (kk : V XW Z cc RX7 nL ret d mc ms B n k (pc + 3) L st (va_up S.1 37 x, S.2)) : V XW Z cc RX7 nL ret d mc ms B n k pc L (.int x :: .ref (Z.2.2.2 5) :: st) S := by
  intro p e s m args below meth c S0 po hB hk H locs ls hP hD hS hl
  exact va_put (D := Z.2.1) (ci := 7) (v := .int x) (ty := .int) (C := RX7) (T := TX7) (N := 9) hk.1 hk.2.1 hk.2.2.2.2.1 iuX7 tyX7 tyX7_ok nmX7 hk.2.2.2.1 hk.2.2.2.2.2.2.2.1 hP hD hS 13 rfl rfl 7 (by decide) (hk.2.2.2.2.1 _ tw_48) (fun _ h9 => h9) rfl (by decide +kernel) rfl rfl (Nat.le_of_ble_eq_true rfl) hd (fun H locs hP hD hS => kk p e s m args below meth c S0 po hB hk H locs ls hP hD hS hl)
theorem Xg_X7_37 {Z : VZ} {cc : ByteArray} {nL : Nat} {ret : Option FieldType} {d mc ms : Nat} {B : VB XS} {n k pc : Nat} {L : List (Nat × Value)} {st : List Value} {S : XS} {v : Int32} (hv : S.1 38 = v) (hd : decode cc pc = .ok (.getfield 37, 3)) (kk : V XW Z cc RX7 nL ret d mc ms B n k (pc + 3) L (.int v :: st) S) : V XW Z cc RX7 nL ret d mc ms B n k pc L (.ref (Z.2.2.2 5) :: st) S := by
  subst hv
  intro p e s m args below meth c S0 po hB hk H locs ls hP hD hS hl
  exact va_get (D := Z.2.1) (ci := 7) (C := RX7) (T := TX7) (N := 9) hk.1 hk.2.1 hk.2.2.2.2.1 iuX7 hk.2.2.2.1 hk.2.2.2.2.2.2.2.1 hP 13 rfl rfl 8 (by decide) (hk.2.2.2.2.1 _ tw_49) (fun _ h9 => h9) rfl hd (kk p e s m args below meth c S0 po hB hk H locs ls hP hD hS hl)
theorem Xp_X7_37 {Z : VZ} {cc : ByteArray} {nL : Nat} {ret : Option FieldType} {d mc ms : Nat} {B : VB XS} {n k pc : Nat} {L : List (Nat × Value)} {st : List Value} {S : XS} {x : Int32} (hd : decode cc pc = .ok (.putfield 37, 3)) (kk : V XW Z cc RX7 nL ret d mc ms B n k (pc + 3) L st (va_up S.1 38 x, S.2)) : V XW Z cc RX7 nL ret d mc ms B n k pc L (.int x :: .ref (Z.2.2.2 5) :: st) S := by
  intro p e s m args below meth c S0 po hB hk H locs ls hP hD hS hl
  exact va_put (D := Z.2.1) (ci := 7) (v := .int x) (ty := .int) (C := RX7) (T := TX7) (N := 9) hk.1 hk.2.1 hk.2.2.2.2.1 iuX7 tyX7 tyX7_ok nmX7 hk.2.2.2.1 hk.2.2.2.2.2.2.2.1 hP hD hS 13 rfl rfl 8 (by decide) (hk.2.2.2.2.1 _ tw_49) (fun _ h9 => h9) rfl (by decide +kernel) rfl rfl (Nat.le_of_ble_eq_true rfl) hd (fun H locs hP hD hS => kk p e s m args below meth c S0 po hB hk H locs ls hP hD hS hl)
theorem Xg_X8_9 {Z : VZ} {cc : ByteArray} {nL : Nat} {ret : Option FieldType} {d mc ms : Nat} {B : VB XS} {n k pc : Nat} {L : List (Nat × Value)} {st : List Value} {S : XS} {i : Nat} (hi : i < 4)  (hd : decode cc pc = .ok (.getfield 9, 3)) (kk : V XW Z cc RX8 nL ret d mc ms B n k (pc + 3) L (.ref (Z.2.2.2 (20 + i)) :: st) S) : V XW Z cc RX8 nL ret d mc ms B n k pc L (.ref (Z.2.2.2 (10 + i)) :: st) S := by
  intro p e s m args below meth c S0 po hB hk H locs ls hP hD hS hl
  match i, hi with
  | 0, _ => exact va_get (D := Z.2.1) (ci := 8) (C := RX8) (T := TX8) (N := 3) hk.1 hk.2.1 hk.2.2.2.2.1 iuX8 hk.2.2.2.1 hk.2.2.2.2.2.2.2.1 hP 5 rfl rfl 0 (by decide) (hk.2.2.2.2.1 _ tw_118) (fun _ h9 => h9) rfl hd (kk p e s m args below meth c S0 po hB hk H locs ls hP hD hS hl)
  | 1, _ => exact va_get (D := Z.2.1) (ci := 8) (C := RX8) (T := TX8) (N := 3) hk.1 hk.2.1 hk.2.2.2.2.1 iuX8 hk.2.2.2.1 hk.2.2.2.2.2.2.2.1 hP 6 rfl rfl 0 (by decide) (hk.2.2.2.2.1 _ tw_118) (fun _ h9 => h9) rfl hd (kk p e s m args below meth c S0 po hB hk H locs ls hP hD hS hl)
  | 2, _ => exact va_get (D := Z.2.1) (ci := 8) (C := RX8) (T := TX8) (N := 3) hk.1 hk.2.1 hk.2.2.2.2.1 iuX8 hk.2.2.2.1 hk.2.2.2.2.2.2.2.1 hP 7 rfl rfl 0 (by decide) (hk.2.2.2.2.1 _ tw_118) (fun _ h9 => h9) rfl hd (kk p e s m args below meth c S0 po hB hk H locs ls hP hD hS hl)
  | 3, _ => exact va_get (D := Z.2.1) (ci := 8) (C := RX8) (T := TX8) (N := 3) hk.1 hk.2.1 hk.2.2.2.2.1 iuX8 hk.2.2.2.1 hk.2.2.2.2.2.2.2.1 hP 8 rfl rfl 0 (by decide) (hk.2.2.2.2.1 _ tw_118) (fun _ h9 => h9) rfl hd (kk p e s m args below meth c S0 po hB hk H locs ls hP hD hS hl)
  | i + 4, hi => exact absurd hi (by omega)
theorem Xg_X8_15 {Z : VZ} {cc : ByteArray} {nL : Nat} {ret : Option FieldType} {d mc ms : Nat} {B : VB XS} {n k pc : Nat} {L : List (Nat × Value)} {st : List Value} {S : XS} {i : Nat} (hi : i < 4) {v : Int32} (hv : S.1 (10 + i) = v) (hd : decode cc pc = .ok (.getfield 15, 3)) (kk : V XW Z cc RX8 nL ret d mc ms B n k (pc + 3) L (.int v :: st) S) : V XW Z cc RX8 nL ret d mc ms B n k pc L (.ref (Z.2.2.2 (10 + i)) :: st) S := by
  subst hv
  intro p e s m args below meth c S0 po hB hk H locs ls hP hD hS hl
  match i, hi with
  | 0, _ => exact va_get (D := Z.2.1) (ci := 8) (C := RX8) (T := TX8) (N := 3) hk.1 hk.2.1 hk.2.2.2.2.1 iuX8 hk.2.2.2.1 hk.2.2.2.2.2.2.2.1 hP 5 rfl rfl 1 (by decide) (hk.2.2.2.2.1 _ tw_120) (fun _ h9 => h9) rfl hd (kk p e s m args below meth c S0 po hB hk H locs ls hP hD hS hl)
  | 1, _ => exact va_get (D := Z.2.1) (ci := 8) (C := RX8) (T := TX8) (N := 3) hk.1 hk.2.1 hk.2.2.2.2.1 iuX8 hk.2.2.2.1 hk.2.2.2.2.2.2.2.1 hP 6 rfl rfl 1 (by decide) (hk.2.2.2.2.1 _ tw_120) (fun _ h9 => h9) rfl hd (kk p e s m args below meth c S0 po hB hk H locs ls hP hD hS hl)
  | 2, _ => exact va_get (D := Z.2.1) (ci := 8) (C := RX8) (T := TX8) (N := 3) hk.1 hk.2.1 hk.2.2.2.2.1 iuX8 hk.2.2.2.1 hk.2.2.2.2.2.2.2.1 hP 7 rfl rfl 1 (by decide) (hk.2.2.2.2.1 _ tw_120) (fun _ h9 => h9) rfl hd (kk p e s m args below meth c S0 po hB hk H locs ls hP hD hS hl)
  | 3, _ => exact va_get (D := Z.2.1) (ci := 8) (C := RX8) (T := TX8) (N := 3) hk.1 hk.2.1 hk.2.2.2.2.1 iuX8 hk.2.2.2.1 hk.2.2.2.2.2.2.2.1 hP 8 rfl rfl 1 (by decide) (hk.2.2.2.2.1 _ tw_120) (fun _ h9 => h9) rfl hd (kk p e s m args below meth c S0 po hB hk H locs ls hP hD hS hl)
  | i + 4, hi => exact absurd hi (by omega)
theorem Xp_X8_15 {Z : VZ} {cc : ByteArray} {nL : Nat} {ret : Option FieldType} {d mc ms : Nat} {B : VB XS} {n k pc : Nat} {L : List (Nat × Value)} {st : List Value} {S : XS} {i : Nat} {x : Int32} (hi : i < 4) (hd : decode cc pc = .ok (.putfield 15, 3)) (kk : V XW Z cc RX8 nL ret d mc ms B n k (pc + 3) L st (va_up S.1 (10 + i) x, S.2)) : V XW Z cc RX8 nL ret d mc ms B n k pc L (.int x :: .ref (Z.2.2.2 (10 + i)) :: st) S := by
  intro p e s m args below meth c S0 po hB hk H locs ls hP hD hS hl
  match i, hi with
  | 0, _ => exact va_put (D := Z.2.1) (ci := 8) (v := .int x) (ty := .int) (C := RX8) (T := TX8) (N := 3) hk.1 hk.2.1 hk.2.2.2.2.1 iuX8 tyX8 tyX8_ok nmX8 hk.2.2.2.1 hk.2.2.2.2.2.2.2.1 hP hD hS 5 rfl rfl 1 (by decide) (hk.2.2.2.2.1 _ tw_120) (fun _ h9 => h9) rfl (by decide +kernel) rfl rfl (Nat.le_of_ble_eq_true rfl) hd (fun H locs hP hD hS => kk p e s m args below meth c S0 po hB hk H locs ls hP hD hS hl)
  | 1, _ => exact va_put (D := Z.2.1) (ci := 8) (v := .int x) (ty := .int) (C := RX8) (T := TX8) (N := 3) hk.1 hk.2.1 hk.2.2.2.2.1 iuX8 tyX8 tyX8_ok nmX8 hk.2.2.2.1 hk.2.2.2.2.2.2.2.1 hP hD hS 6 rfl rfl 1 (by decide) (hk.2.2.2.2.1 _ tw_120) (fun _ h9 => h9) rfl (by decide +kernel) rfl rfl (Nat.le_of_ble_eq_true rfl) hd (fun H locs hP hD hS => kk p e s m args below meth c S0 po hB hk H locs ls hP hD hS hl)
  | 2, _ => exact va_put (D := Z.2.1) (ci := 8) (v := .int x) (ty := .int) (C := RX8) (T := TX8) (N := 3) hk.1 hk.2.1 hk.2.2.2.2.1 iuX8 tyX8 tyX8_ok nmX8 hk.2.2.2.1 hk.2.2.2.2.2.2.2.1 hP hD hS 7 rfl rfl 1 (by decide) (hk.2.2.2.2.1 _ tw_120) (fun _ h9 => h9) rfl (by decide +kernel) rfl rfl (Nat.le_of_ble_eq_true rfl) hd (fun H locs hP hD hS => kk p e s m args below meth c S0 po hB hk H locs ls hP hD hS hl)
  | 3, _ => exact va_put (D := Z.2.1) (ci := 8) (v := .int x) (ty := .int) (C := RX8) (T := TX8) (N := 3) hk.1 hk.2.1 hk.2.2.2.2.1 iuX8 tyX8 tyX8_ok nmX8 hk.2.2.2.1 hk.2.2.2.2.2.2.2.1 hP hD hS 8 rfl rfl 1 (by decide) (hk.2.2.2.2.1 _ tw_120) (fun _ h9 => h9) rfl (by decide +kernel) rfl rfl (Nat.le_of_ble_eq_true rfl) hd (fun H locs hP hD hS => kk p e s m args below meth c S0 po hB hk H locs ls hP hD hS hl)
  | i + 4, hi => exact absurd hi (by omega)
theorem Xg_X8_19 {Z : VZ} {cc : ByteArray} {nL : Nat} {ret : Option FieldType} {d mc ms : Nat} {B : VB XS} {n k pc : Nat} {L : List (Nat × Value)} {st : List Value} {S : XS} {i : Nat} (hi : i < 4) {v : Int32} (hv : S.1 (20 + i) = v) (hd : decode cc pc = .ok (.getfield 19, 3)) (kk : V XW Z cc RX8 nL ret d mc ms B n k (pc + 3) L (.int v :: st) S) : V XW Z cc RX8 nL ret d mc ms B n k pc L (.ref (Z.2.2.2 (10 + i)) :: st) S := by
  subst hv
  intro p e s m args below meth c S0 po hB hk H locs ls hP hD hS hl
  match i, hi with
  | 0, _ => exact va_get (D := Z.2.1) (ci := 8) (C := RX8) (T := TX8) (N := 3) hk.1 hk.2.1 hk.2.2.2.2.1 iuX8 hk.2.2.2.1 hk.2.2.2.2.2.2.2.1 hP 5 rfl rfl 2 (by decide) (hk.2.2.2.2.1 _ tw_122) (fun _ h9 => h9) rfl hd (kk p e s m args below meth c S0 po hB hk H locs ls hP hD hS hl)
  | 1, _ => exact va_get (D := Z.2.1) (ci := 8) (C := RX8) (T := TX8) (N := 3) hk.1 hk.2.1 hk.2.2.2.2.1 iuX8 hk.2.2.2.1 hk.2.2.2.2.2.2.2.1 hP 6 rfl rfl 2 (by decide) (hk.2.2.2.2.1 _ tw_122) (fun _ h9 => h9) rfl hd (kk p e s m args below meth c S0 po hB hk H locs ls hP hD hS hl)
  | 2, _ => exact va_get (D := Z.2.1) (ci := 8) (C := RX8) (T := TX8) (N := 3) hk.1 hk.2.1 hk.2.2.2.2.1 iuX8 hk.2.2.2.1 hk.2.2.2.2.2.2.2.1 hP 7 rfl rfl 2 (by decide) (hk.2.2.2.2.1 _ tw_122) (fun _ h9 => h9) rfl hd (kk p e s m args below meth c S0 po hB hk H locs ls hP hD hS hl)
  | 3, _ => exact va_get (D := Z.2.1) (ci := 8) (C := RX8) (T := TX8) (N := 3) hk.1 hk.2.1 hk.2.2.2.2.1 iuX8 hk.2.2.2.1 hk.2.2.2.2.2.2.2.1 hP 8 rfl rfl 2 (by decide) (hk.2.2.2.2.1 _ tw_122) (fun _ h9 => h9) rfl hd (kk p e s m args below meth c S0 po hB hk H locs ls hP hD hS hl)
  | i + 4, hi => exact absurd hi (by omega)
theorem Xp_X8_19 {Z : VZ} {cc : ByteArray} {nL : Nat} {ret : Option FieldType} {d mc ms : Nat} {B : VB XS} {n k pc : Nat} {L : List (Nat × Value)} {st : List Value} {S : XS} {i : Nat} {x : Int32} (hi : i < 4) (hd : decode cc pc = .ok (.putfield 19, 3)) (kk : V XW Z cc RX8 nL ret d mc ms B n k (pc + 3) L st (va_up S.1 (20 + i) x, S.2)) : V XW Z cc RX8 nL ret d mc ms B n k pc L (.int x :: .ref (Z.2.2.2 (10 + i)) :: st) S := by
  intro p e s m args below meth c S0 po hB hk H locs ls hP hD hS hl
  match i, hi with
  | 0, _ => exact va_put (D := Z.2.1) (ci := 8) (v := .int x) (ty := .int) (C := RX8) (T := TX8) (N := 3) hk.1 hk.2.1 hk.2.2.2.2.1 iuX8 tyX8 tyX8_ok nmX8 hk.2.2.2.1 hk.2.2.2.2.2.2.2.1 hP hD hS 5 rfl rfl 2 (by decide) (hk.2.2.2.2.1 _ tw_122) (fun _ h9 => h9) rfl (by decide +kernel) rfl rfl (Nat.le_of_ble_eq_true rfl) hd (fun H locs hP hD hS => kk p e s m args below meth c S0 po hB hk H locs ls hP hD hS hl)
  | 1, _ => exact va_put (D := Z.2.1) (ci := 8) (v := .int x) (ty := .int) (C := RX8) (T := TX8) (N := 3) hk.1 hk.2.1 hk.2.2.2.2.1 iuX8 tyX8 tyX8_ok nmX8 hk.2.2.2.1 hk.2.2.2.2.2.2.2.1 hP hD hS 6 rfl rfl 2 (by decide) (hk.2.2.2.2.1 _ tw_122) (fun _ h9 => h9) rfl (by decide +kernel) rfl rfl (Nat.le_of_ble_eq_true rfl) hd (fun H locs hP hD hS => kk p e s m args below meth c S0 po hB hk H locs ls hP hD hS hl)
  | 2, _ => exact va_put (D := Z.2.1) (ci := 8) (v := .int x) (ty := .int) (C := RX8) (T := TX8) (N := 3) hk.1 hk.2.1 hk.2.2.2.2.1 iuX8 tyX8 tyX8_ok nmX8 hk.2.2.2.1 hk.2.2.2.2.2.2.2.1 hP hD hS 7 rfl rfl 2 (by decide) (hk.2.2.2.2.1 _ tw_122) (fun _ h9 => h9) rfl (by decide +kernel) rfl rfl (Nat.le_of_ble_eq_true rfl) hd (fun H locs hP hD hS => kk p e s m args below meth c S0 po hB hk H locs ls hP hD hS hl)
  | 3, _ => exact va_put (D := Z.2.1) (ci := 8) (v := .int x) (ty := .int) (C := RX8) (T := TX8) (N := 3) hk.1 hk.2.1 hk.2.2.2.2.1 iuX8 tyX8 tyX8_ok nmX8 hk.2.2.2.1 hk.2.2.2.2.2.2.2.1 hP hD hS 8 rfl rfl 2 (by decide) (hk.2.2.2.2.1 _ tw_122) (fun _ h9 => h9) rfl (by decide +kernel) rfl rfl (Nat.le_of_ble_eq_true rfl) hd (fun H locs hP hD hS => kk p e s m args below meth c S0 po hB hk H locs ls hP hD hS hl)
  | i + 4, hi => exact absurd hi (by omega)
theorem Xl_2 {own : String} {Z : VZ} {cc : ByteArray} {nL : Nat} {ret : Option FieldType} {d mc ms : Nat} {B : VB XS} {n k pc : Nat} {L : List (Nat × Value)} {st : List Value} {S : XS} {i : Int32} (hd : decode cc pc = .ok (.iaload, 1)) (hin : vp_in i 20) (kk : V XW Z cc own nL ret d mc ms B n k (pc + 1) L (.int (S.2.2.1 2 i.toNatClampNeg) :: st) S) : V XW Z cc own nL ret d mc ms B n k pc L (.int i :: .ref (Z.2.2.2 2) :: st) S := by
  intro p e s m args below meth c S0 po hB hk H locs ls hP hD hS hl
  exact va_iald hk.1 hk.2.1 hk.2.2.2.2.2.2.2.1 hP 2 0 rfl rfl hin hd (kk p e s m args below meth c S0 po hB hk H locs ls hP hD hS hl)
theorem Xs_2 {own : String} {Z : VZ} {cc : ByteArray} {nL : Nat} {ret : Option FieldType} {d mc ms : Nat} {B : VB XS} {n k pc : Nat} {L : List (Nat × Value)} {st : List Value} {S : XS} {i x : Int32} (hd : decode cc pc = .ok (.iastore, 1)) (hin : vp_in i 20) (kk : V XW Z cc own nL ret d mc ms B n k (pc + 1) L st (S.1, S.2.1, va_up S.2.2.1 2 (upd (S.2.2.1 2) i.toNatClampNeg x), S.2.2.2)) : V XW Z cc own nL ret d mc ms B n k pc L (.int x :: .int i :: .ref (Z.2.2.2 2) :: st) S := by
  intro p e s m args below meth c S0 po hB hk H locs ls hP hD hS hl
  exact va_iast hk.1 hk.2.1 hk.2.2.2.2.2.2.2.1 hP hD hS 2 0 rfl rfl hin hd (fun H locs hP hD hS => kk p e s m args below meth c S0 po hB hk H locs ls hP hD hS hl)
theorem Xl_30 {own : String} {Z : VZ} {cc : ByteArray} {nL : Nat} {ret : Option FieldType} {d mc ms : Nat} {B : VB XS} {n k pc : Nat} {L : List (Nat × Value)} {st : List Value} {S : XS} {i : Int32} (hd : decode cc pc = .ok (.iaload, 1)) (hin : vp_in i 60) (kk : V XW Z cc own nL ret d mc ms B n k (pc + 1) L (.int (S.2.2.1 30 i.toNatClampNeg) :: st) S) : V XW Z cc own nL ret d mc ms B n k pc L (.int i :: .ref (Z.2.2.2 30) :: st) S := by
  intro p e s m args below meth c S0 po hB hk H locs ls hP hD hS hl
  exact va_iald hk.1 hk.2.1 hk.2.2.2.2.2.2.2.1 hP 14 0 rfl rfl hin hd (kk p e s m args below meth c S0 po hB hk H locs ls hP hD hS hl)
theorem Xs_30 {own : String} {Z : VZ} {cc : ByteArray} {nL : Nat} {ret : Option FieldType} {d mc ms : Nat} {B : VB XS} {n k pc : Nat} {L : List (Nat × Value)} {st : List Value} {S : XS} {i x : Int32} (hd : decode cc pc = .ok (.iastore, 1)) (hin : vp_in i 60) (kk : V XW Z cc own nL ret d mc ms B n k (pc + 1) L st (S.1, S.2.1, va_up S.2.2.1 30 (upd (S.2.2.1 30) i.toNatClampNeg x), S.2.2.2)) : V XW Z cc own nL ret d mc ms B n k pc L (.int x :: .int i :: .ref (Z.2.2.2 30) :: st) S := by
  intro p e s m args below meth c S0 po hB hk H locs ls hP hD hS hl
  exact va_iast hk.1 hk.2.1 hk.2.2.2.2.2.2.2.1 hP hD hS 14 0 rfl rfl hin hd (fun H locs hP hD hS => kk p e s m args below meth c S0 po hB hk H locs ls hP hD hS hl)
theorem Xl_33 {own : String} {Z : VZ} {cc : ByteArray} {nL : Nat} {ret : Option FieldType} {d mc ms : Nat} {B : VB XS} {n k pc : Nat} {L : List (Nat × Value)} {st : List Value} {S : XS} {i : Int32} (hd : decode cc pc = .ok (.iaload, 1)) (hin : vp_in i 16) (kk : V XW Z cc own nL ret d mc ms B n k (pc + 1) L (.int (S.2.2.1 33 i.toNatClampNeg) :: st) S) : V XW Z cc own nL ret d mc ms B n k pc L (.int i :: .ref (Z.2.2.2 33) :: st) S := by
  intro p e s m args below meth c S0 po hB hk H locs ls hP hD hS hl
  exact va_iald hk.1 hk.2.1 hk.2.2.2.2.2.2.2.1 hP 15 0 rfl rfl hin hd (kk p e s m args below meth c S0 po hB hk H locs ls hP hD hS hl)
theorem Xs_33 {own : String} {Z : VZ} {cc : ByteArray} {nL : Nat} {ret : Option FieldType} {d mc ms : Nat} {B : VB XS} {n k pc : Nat} {L : List (Nat × Value)} {st : List Value} {S : XS} {i x : Int32} (hd : decode cc pc = .ok (.iastore, 1)) (hin : vp_in i 16) (kk : V XW Z cc own nL ret d mc ms B n k (pc + 1) L st (S.1, S.2.1, va_up S.2.2.1 33 (upd (S.2.2.1 33) i.toNatClampNeg x), S.2.2.2)) : V XW Z cc own nL ret d mc ms B n k pc L (.int x :: .int i :: .ref (Z.2.2.2 33) :: st) S := by
  intro p e s m args below meth c S0 po hB hk H locs ls hP hD hS hl
  exact va_iast hk.1 hk.2.1 hk.2.2.2.2.2.2.2.1 hP hD hS 15 0 rfl rfl hin hd (fun H locs hP hD hS => kk p e s m args below meth c S0 po hB hk H locs ls hP hD hS hl)
theorem Xl_34 {own : String} {Z : VZ} {cc : ByteArray} {nL : Nat} {ret : Option FieldType} {d mc ms : Nat} {B : VB XS} {n k pc : Nat} {L : List (Nat × Value)} {st : List Value} {S : XS} {i : Int32} (hd : decode cc pc = .ok (.iaload, 1)) (hin : vp_in i 64) (kk : V XW Z cc own nL ret d mc ms B n k (pc + 1) L (.int (S.2.2.1 34 i.toNatClampNeg) :: st) S) : V XW Z cc own nL ret d mc ms B n k pc L (.int i :: .ref (Z.2.2.2 34) :: st) S := by
  intro p e s m args below meth c S0 po hB hk H locs ls hP hD hS hl
  exact va_iald hk.1 hk.2.1 hk.2.2.2.2.2.2.2.1 hP 16 0 rfl rfl hin hd (kk p e s m args below meth c S0 po hB hk H locs ls hP hD hS hl)
theorem Xs_34 {own : String} {Z : VZ} {cc : ByteArray} {nL : Nat} {ret : Option FieldType} {d mc ms : Nat} {B : VB XS} {n k pc : Nat} {L : List (Nat × Value)} {st : List Value} {S : XS} {i x : Int32} (hd : decode cc pc = .ok (.iastore, 1)) (hin : vp_in i 64) (kk : V XW Z cc own nL ret d mc ms B n k (pc + 1) L st (S.1, S.2.1, va_up S.2.2.1 34 (upd (S.2.2.1 34) i.toNatClampNeg x), S.2.2.2)) : V XW Z cc own nL ret d mc ms B n k pc L (.int x :: .int i :: .ref (Z.2.2.2 34) :: st) S := by
  intro p e s m args below meth c S0 po hB hk H locs ls hP hD hS hl
  exact va_iast hk.1 hk.2.1 hk.2.2.2.2.2.2.2.1 hP hD hS 16 0 rfl rfl hin hd (fun H locs hP hD hS => kk p e s m args below meth c S0 po hB hk H locs ls hP hD hS hl)
theorem Xl_it {own : String} {Z : VZ} {cc : ByteArray} {nL : Nat} {ret : Option FieldType} {d mc ms : Nat} {B : VB XS} {n k pc : Nat} {L : List (Nat × Value)} {st : List Value} {S : XS} {i : Nat} {j : Int32} (hi : i < 4) (hd : decode cc pc = .ok (.iaload, 1)) (hin : vp_in j 40) (kk : V XW Z cc own nL ret d mc ms B n k (pc + 1) L (.int (S.2.2.1 (20 + i) j.toNatClampNeg) :: st) S) : V XW Z cc own nL ret d mc ms B n k pc L (.int j :: .ref (Z.2.2.2 (20 + i)) :: st) S := by
  intro p e s m args below meth c S0 po hB hk H locs ls hP hD hS hl
  match i, hi with
  | 0, _ => exact va_iald hk.1 hk.2.1 hk.2.2.2.2.2.2.2.1 hP 9 0 rfl rfl hin hd (kk p e s m args below meth c S0 po hB hk H locs ls hP hD hS hl)
  | 1, _ => exact va_iald hk.1 hk.2.1 hk.2.2.2.2.2.2.2.1 hP 10 0 rfl rfl hin hd (kk p e s m args below meth c S0 po hB hk H locs ls hP hD hS hl)
  | 2, _ => exact va_iald hk.1 hk.2.1 hk.2.2.2.2.2.2.2.1 hP 11 0 rfl rfl hin hd (kk p e s m args below meth c S0 po hB hk H locs ls hP hD hS hl)
  | 3, _ => exact va_iald hk.1 hk.2.1 hk.2.2.2.2.2.2.2.1 hP 12 0 rfl rfl hin hd (kk p e s m args below meth c S0 po hB hk H locs ls hP hD hS hl)
  | i + 4, hi => exact absurd hi (by omega)
theorem Xs_it {own : String} {Z : VZ} {cc : ByteArray} {nL : Nat} {ret : Option FieldType} {d mc ms : Nat} {B : VB XS} {n k pc : Nat} {L : List (Nat × Value)} {st : List Value} {S : XS} {i : Nat} {j x : Int32} (hi : i < 4) (hd : decode cc pc = .ok (.iastore, 1)) (hin : vp_in j 40) (kk : V XW Z cc own nL ret d mc ms B n k (pc + 1) L st (S.1, S.2.1, va_up S.2.2.1 (20 + i) (upd (S.2.2.1 (20 + i)) j.toNatClampNeg x), S.2.2.2)) : V XW Z cc own nL ret d mc ms B n k pc L (.int x :: .int j :: .ref (Z.2.2.2 (20 + i)) :: st) S := by
  intro p e s m args below meth c S0 po hB hk H locs ls hP hD hS hl
  match i, hi with
  | 0, _ => exact va_iast hk.1 hk.2.1 hk.2.2.2.2.2.2.2.1 hP hD hS 9 0 rfl rfl hin hd (fun H locs hP hD hS => kk p e s m args below meth c S0 po hB hk H locs ls hP hD hS hl)
  | 1, _ => exact va_iast hk.1 hk.2.1 hk.2.2.2.2.2.2.2.1 hP hD hS 10 0 rfl rfl hin hd (fun H locs hP hD hS => kk p e s m args below meth c S0 po hB hk H locs ls hP hD hS hl)
  | 2, _ => exact va_iast hk.1 hk.2.1 hk.2.2.2.2.2.2.2.1 hP hD hS 11 0 rfl rfl hin hd (fun H locs hP hD hS => kk p e s m args below meth c S0 po hB hk H locs ls hP hD hS hl)
  | 3, _ => exact va_iast hk.1 hk.2.1 hk.2.2.2.2.2.2.2.1 hP hD hS 12 0 rfl rfl hin hd (fun H locs hP hD hS => kk p e s m args below meth c S0 po hB hk H locs ls hP hD hS hl)
  | i + 4, hi => exact absurd hi (by omega)
theorem Xl_t {own : String} {Z : VZ} {cc : ByteArray} {nL : Nat} {ret : Option FieldType} {d mc ms : Nat} {B : VB XS} {n k pc : Nat} {L : List (Nat × Value)} {st : List Value} {S : XS} {i : Int32} (hd : decode cc pc = .ok (.laload, 1)) (hin : vp_in i 4) (kk : V XW Z cc own nL ret d mc ms B n k (pc + 1) L (.long (S.2.2.2.1 i.toNatClampNeg) :: st) S) : V XW Z cc own nL ret d mc ms B n k pc L (.int i :: .ref (Z.2.2.2 8) :: st) S := by
  intro p e s m args below meth c S0 po hB hk H locs ls hP hD hS hl
  exact va_lald hk.1 hk.2.1 hk.2.2.2.2.2.2.2.1 hP 4 1 rfl rfl hin hd (kk p e s m args below meth c S0 po hB hk H locs ls hP hD hS hl)
theorem Xs_t {own : String} {Z : VZ} {cc : ByteArray} {nL : Nat} {ret : Option FieldType} {d mc ms : Nat} {B : VB XS} {n k pc : Nat} {L : List (Nat × Value)} {st : List Value} {S : XS} {i : Int32} {x : Int64} (hd : decode cc pc = .ok (.lastore, 1)) (hin : vp_in i 4) (kk : V XW Z cc own nL ret d mc ms B n k (pc + 1) L st (S.1, S.2.1, S.2.2.1, vp_updL S.2.2.2.1 i.toNatClampNeg x, S.2.2.2.2)) : V XW Z cc own nL ret d mc ms B n k pc L (.long x :: .int i :: .ref (Z.2.2.2 8) :: st) S := by
  intro p e s m args below meth c S0 po hB hk H locs ls hP hD hS hl
  exact va_last hk.1 hk.2.1 hk.2.2.2.2.2.2.2.1 hP hD hS 4 1 rfl rfl hin hd (fun H locs hP hD hS => kk p e s m args below meth c S0 po hB hk H locs ls hP hD hS hl)
theorem Xl_m {own : String} {Z : VZ} {cc : ByteArray} {nL : Nat} {ret : Option FieldType} {d mc ms : Nat} {B : VB XS} {n k pc : Nat} {L : List (Nat × Value)} {st : List Value} {S : XS} {i : Int32} {a : Nat} (hd : decode cc pc = .ok (.aaload, 1)) (hin : vp_in i 4) (ha : S.2.2.2.2.1 i.toNatClampNeg = some a) (kk : V XW Z cc own nL ret d mc ms B n k (pc + 1) L (.ref a :: st) S) : V XW Z cc own nL ret d mc ms B n k pc L (.int i :: .ref (Z.2.2.2 0) :: st) S := by
  intro p e s m args below meth c S0 po hB hk H locs ls hP hD hS hl
  refine va_aldq hk.1 hk.2.1 hk.2.2.2.2.2.2.2.1 hP 1 2 rfl rfl hin hd ?_
  rw [ha]
  exact kk p e s m args below meth c S0 po hB hk H locs ls hP hD hS hl
theorem Xl_s {own : String} {Z : VZ} {cc : ByteArray} {nL : Nat} {ret : Option FieldType} {d mc ms : Nat} {B : VB XS} {n k pc : Nat} {L : List (Nat × Value)} {st : List Value} {S : XS} {i : Int32} (hd : decode cc pc = .ok (.aaload, 1)) (hin : vp_in i 4) (kk : V XW Z cc own nL ret d mc ms B n k (pc + 1) L (.ref (Z.2.2.2 (10 + i.toNatClampNeg)) :: st) S) : V XW Z cc own nL ret d mc ms B n k pc L (.int i :: .ref (Z.2.2.2 4) :: st) S := by
  intro p e s m args below meth c S0 po hB hk H locs ls hP hD hS hl
  exact va_aldq hk.1 hk.2.1 hk.2.2.2.2.2.2.2.1 hP 3 3 rfl rfl hin hd (kk p e s m args below meth c S0 po hB hk H locs ls hP hD hS hl)
def mcl (c : Nat) : Prop := c = 0 ∨ c = 1 ∨ c = 2 ∨ c = 5 ∨ c = 6 ∨ c = 9
theorem x_at {Z : VZ} {S : XS} {a c : Nat} (ha : a ∈ S.2.2.2.2.2.1) (hm : S.2.2.2.2.2.2.1 a = c) : ∃ q : Nat, (XW Z S)[q]? = some (a, mE S.2.2.2.2.2.2.1 S.2.2.2.2.2.2.2 a) ∧ (XW Z S)[q]? = some (a, .inr (c, [.int (S.2.2.2.2.2.2.2 a 0), .int (S.2.2.2.2.2.2.2 a 1), .int (S.2.2.2.2.2.2.2 a 2), .int (S.2.2.2.2.2.2.2 a 3), .int (S.2.2.2.2.2.2.2 a 4), .int (S.2.2.2.2.2.2.2 a 5)])) := by
  obtain ⟨q, hq⟩ := va_pl_get (X := XB Z S) (f := mE S.2.2.2.2.2.2.1 S.2.2.2.2.2.2.2) ha
  exact ⟨q, hq, hq.trans (by rw [mE, hm])⟩
theorem Xmg_kind {own ref : String} {idx a : Nat} {Z : VZ} {cc : ByteArray} {nL : Nat} {ret : Option FieldType} {d mc ms : Nat} {B : VB XS} {n k pc : Nat} {L : List (Nat × Value)} {st : List Value} {S : XS} {v : Int32} (ha : a ∈ S.2.2.2.2.2.1) (hm : mcl (S.2.2.2.2.2.2.1 a)) (hv : S.2.2.2.2.2.2.2 a 0 = v) (hd : decode cc pc = .ok (.getfield idx, 3)) (hlk : Cond.fieldLink own idx ref "kind" "I" ∈ uw) (hsf : ref = "CarryShifts$Carrying" ∨ Cond.sameField ref "CarryShifts$Carrying" "kind" "I" ∈ uw) (kk : V XW Z cc own nL ret d mc ms B n k (pc + 3) L (.int v :: st) S) : V XW Z cc own nL ret d mc ms B n k pc L (.ref a :: st) S := by
  subst hv
  intro p e s m args below meth c S0 po hB hk H locs ls hP hD hS hl
  have hsm : ∀ x, s.fieldFound? "CarryShifts$Carrying" "kind" "I" = some x → s.fieldFound? ref "kind" "I" = some x := by
    rcases hsf with rfl | hsf
    · exact fun _ h => h
    · exact fun x9 h9 => u_same (hk.2.2.2.2.1 _ hsf) x9 h9
  rcases hm with hm | hm | hm | hm | hm | hm
  · obtain ⟨q, hq0, hq⟩ := x_at (Z := Z) ha hm
    exact va_get (D := Z.2.1) (ci := 0) (C := RX0) (T := TX0) (N := 6) hk.1 hk.2.1 hk.2.2.2.2.1 iuX0 hk.2.2.2.1 hk.2.2.2.2.2.2.2.1 hP q hq rfl 0 (by decide) (hk.2.2.2.2.1 _ hlk) hsm rfl hd (kk p e s m args below meth c S0 po hB hk H locs ls hP hD hS hl)
  · obtain ⟨q, hq0, hq⟩ := x_at (Z := Z) ha hm
    exact va_get (D := Z.2.1) (ci := 1) (C := RX1) (T := TX1) (N := 6) hk.1 hk.2.1 hk.2.2.2.2.1 iuX1 hk.2.2.2.1 hk.2.2.2.2.2.2.2.1 hP q hq rfl 0 (by decide) (hk.2.2.2.2.1 _ hlk) hsm rfl hd (kk p e s m args below meth c S0 po hB hk H locs ls hP hD hS hl)
  · obtain ⟨q, hq0, hq⟩ := x_at (Z := Z) ha hm
    exact va_get (D := Z.2.1) (ci := 2) (C := RX2) (T := TX2) (N := 6) hk.1 hk.2.1 hk.2.2.2.2.1 iuX2 hk.2.2.2.1 hk.2.2.2.2.2.2.2.1 hP q hq rfl 0 (by decide) (hk.2.2.2.2.1 _ hlk) hsm rfl hd (kk p e s m args below meth c S0 po hB hk H locs ls hP hD hS hl)
  · obtain ⟨q, hq0, hq⟩ := x_at (Z := Z) ha hm
    exact va_get (D := Z.2.1) (ci := 5) (C := RX5) (T := TX5) (N := 6) hk.1 hk.2.1 hk.2.2.2.2.1 iuX5 hk.2.2.2.1 hk.2.2.2.2.2.2.2.1 hP q hq rfl 0 (by decide) (hk.2.2.2.2.1 _ hlk) hsm rfl hd (kk p e s m args below meth c S0 po hB hk H locs ls hP hD hS hl)
  · obtain ⟨q, hq0, hq⟩ := x_at (Z := Z) ha hm
    exact va_get (D := Z.2.1) (ci := 6) (C := RX6) (T := TX6) (N := 6) hk.1 hk.2.1 hk.2.2.2.2.1 iuX6 hk.2.2.2.1 hk.2.2.2.2.2.2.2.1 hP q hq rfl 0 (by decide) (hk.2.2.2.2.1 _ hlk) hsm rfl hd (kk p e s m args below meth c S0 po hB hk H locs ls hP hD hS hl)
  · obtain ⟨q, hq0, hq⟩ := x_at (Z := Z) ha hm
    exact va_get (D := Z.2.1) (ci := 9) (C := RX9) (T := TX9) (N := 6) hk.1 hk.2.1 hk.2.2.2.2.1 iuX9 hk.2.2.2.1 hk.2.2.2.2.2.2.2.1 hP q hq rfl 0 (by decide) (hk.2.2.2.2.1 _ hlk) hsm rfl hd (kk p e s m args below meth c S0 po hB hk H locs ls hP hD hS hl)
theorem Xmp_kind {own ref : String} {idx a : Nat} {Z : VZ} {cc : ByteArray} {nL : Nat} {ret : Option FieldType} {d mc ms : Nat} {B : VB XS} {n k pc : Nat} {L : List (Nat × Value)} {st : List Value} {S : XS} {x : Int32} (ha : a ∈ S.2.2.2.2.2.1) (hm : mcl (S.2.2.2.2.2.2.1 a)) (hd : decode cc pc = .ok (.putfield idx, 3)) (hlk : Cond.fieldLink own idx ref "kind" "I" ∈ uw) (hsf : ref = "CarryShifts$Carrying" ∨ Cond.sameField ref "CarryShifts$Carrying" "kind" "I" ∈ uw) (hnm : vName B = "<init>") (hown : "CarryShifts$Carrying" = own) (kk : V XW Z cc own nL ret d mc ms B n k (pc + 3) L st (S.1, S.2.1, S.2.2.1, S.2.2.2.1, S.2.2.2.2.1, S.2.2.2.2.2.1, S.2.2.2.2.2.2.1, va_up S.2.2.2.2.2.2.2 a (upd (S.2.2.2.2.2.2.2 a) 0 x))) : V XW Z cc own nL ret d mc ms B n k pc L (.int x :: .ref a :: st) S := by
  intro p e s m args below meth c S0 po hB hk H locs ls hP hD hS hl
  have hsm : ∀ x, s.fieldFound? "CarryShifts$Carrying" "kind" "I" = some x → s.fieldFound? ref "kind" "I" = some x := by
    rcases hsf with rfl | hsf
    · exact fun _ h => h
    · exact fun x9 h9 => u_same (hk.2.2.2.2.1 _ hsf) x9 h9
  rcases hm with hm | hm | hm | hm | hm | hm
  · obtain ⟨q, hq0, hq⟩ := x_at (Z := Z) ha hm
    have es : (XW Z S).set q (a, .inr (0, [.int x, .int (S.2.2.2.2.2.2.2 a 1), .int (S.2.2.2.2.2.2.2 a 2), .int (S.2.2.2.2.2.2.2 a 3), .int (S.2.2.2.2.2.2.2 a 4), .int (S.2.2.2.2.2.2.2 a 5)])) = XW Z (S.1, S.2.1, S.2.2.1, S.2.2.2.1, S.2.2.2.2.1, S.2.2.2.2.2.1, S.2.2.2.2.2.2.1, va_up S.2.2.2.2.2.2.2 a (upd (S.2.2.2.2.2.2.2 a) 0 x)) := by
      refine (va_pl_set hD ha hq0).trans (congrArg (fun l => XB Z S ++ l) (va_pl_congr fun b => ?_))
      by_cases hb : b = a
      · subst hb; simp [va_up, mE, upd, hm]
      · simp [va_up, mE, hb]
    exact va_putF (D := Z.2.1) (ci := 0) (v := .int x) (ty := .int) (C := RX0) (T := TX0) (N := 6) hk.1 hk.2.1 hk.2.2.2.2.1 iuX0 tyX0 tyX0_ok nmX0 hk.2.2.2.1 hk.2.2.2.2.2.2.2.1 hP hD hS q hq rfl 0 (by decide) (hk.2.2.2.2.1 _ hlk) hsm rfl (by subst hB; exact hnm) hown (by decide +kernel) rfl rfl (Nat.le_of_ble_eq_true rfl) hd (fun H locs hP hD hS => by
      have hP : va_P Z.2.1 vwCl ((XW Z S).set q (a, .inr (0, [.int x, .int (S.2.2.2.2.2.2.2 a 1), .int (S.2.2.2.2.2.2.2 a 2), .int (S.2.2.2.2.2.2.2 a 3), .int (S.2.2.2.2.2.2.2 a 4), .int (S.2.2.2.2.2.2.2 a 5)]))) H := hP
      have hD : va_D (va_A (XW Z S0) s.heap.size) ((XW Z S).set q (a, .inr (0, [.int x, .int (S.2.2.2.2.2.2.2 a 1), .int (S.2.2.2.2.2.2.2 a 2), .int (S.2.2.2.2.2.2.2 a 3), .int (S.2.2.2.2.2.2.2 a 4), .int (S.2.2.2.2.2.2.2 a 5)]))) := hD
      rw [es] at hP hD
      exact kk p e s m args below meth c S0 po hB hk H locs ls hP hD hS hl)
  · obtain ⟨q, hq0, hq⟩ := x_at (Z := Z) ha hm
    have es : (XW Z S).set q (a, .inr (1, [.int x, .int (S.2.2.2.2.2.2.2 a 1), .int (S.2.2.2.2.2.2.2 a 2), .int (S.2.2.2.2.2.2.2 a 3), .int (S.2.2.2.2.2.2.2 a 4), .int (S.2.2.2.2.2.2.2 a 5)])) = XW Z (S.1, S.2.1, S.2.2.1, S.2.2.2.1, S.2.2.2.2.1, S.2.2.2.2.2.1, S.2.2.2.2.2.2.1, va_up S.2.2.2.2.2.2.2 a (upd (S.2.2.2.2.2.2.2 a) 0 x)) := by
      refine (va_pl_set hD ha hq0).trans (congrArg (fun l => XB Z S ++ l) (va_pl_congr fun b => ?_))
      by_cases hb : b = a
      · subst hb; simp [va_up, mE, upd, hm]
      · simp [va_up, mE, hb]
    exact va_putF (D := Z.2.1) (ci := 1) (v := .int x) (ty := .int) (C := RX1) (T := TX1) (N := 6) hk.1 hk.2.1 hk.2.2.2.2.1 iuX1 tyX1 tyX1_ok nmX1 hk.2.2.2.1 hk.2.2.2.2.2.2.2.1 hP hD hS q hq rfl 0 (by decide) (hk.2.2.2.2.1 _ hlk) hsm rfl (by subst hB; exact hnm) hown (by decide +kernel) rfl rfl (Nat.le_of_ble_eq_true rfl) hd (fun H locs hP hD hS => by
      have hP : va_P Z.2.1 vwCl ((XW Z S).set q (a, .inr (1, [.int x, .int (S.2.2.2.2.2.2.2 a 1), .int (S.2.2.2.2.2.2.2 a 2), .int (S.2.2.2.2.2.2.2 a 3), .int (S.2.2.2.2.2.2.2 a 4), .int (S.2.2.2.2.2.2.2 a 5)]))) H := hP
      have hD : va_D (va_A (XW Z S0) s.heap.size) ((XW Z S).set q (a, .inr (1, [.int x, .int (S.2.2.2.2.2.2.2 a 1), .int (S.2.2.2.2.2.2.2 a 2), .int (S.2.2.2.2.2.2.2 a 3), .int (S.2.2.2.2.2.2.2 a 4), .int (S.2.2.2.2.2.2.2 a 5)]))) := hD
      rw [es] at hP hD
      exact kk p e s m args below meth c S0 po hB hk H locs ls hP hD hS hl)
  · obtain ⟨q, hq0, hq⟩ := x_at (Z := Z) ha hm
    have es : (XW Z S).set q (a, .inr (2, [.int x, .int (S.2.2.2.2.2.2.2 a 1), .int (S.2.2.2.2.2.2.2 a 2), .int (S.2.2.2.2.2.2.2 a 3), .int (S.2.2.2.2.2.2.2 a 4), .int (S.2.2.2.2.2.2.2 a 5)])) = XW Z (S.1, S.2.1, S.2.2.1, S.2.2.2.1, S.2.2.2.2.1, S.2.2.2.2.2.1, S.2.2.2.2.2.2.1, va_up S.2.2.2.2.2.2.2 a (upd (S.2.2.2.2.2.2.2 a) 0 x)) := by
      refine (va_pl_set hD ha hq0).trans (congrArg (fun l => XB Z S ++ l) (va_pl_congr fun b => ?_))
      by_cases hb : b = a
      · subst hb; simp [va_up, mE, upd, hm]
      · simp [va_up, mE, hb]
    exact va_putF (D := Z.2.1) (ci := 2) (v := .int x) (ty := .int) (C := RX2) (T := TX2) (N := 6) hk.1 hk.2.1 hk.2.2.2.2.1 iuX2 tyX2 tyX2_ok nmX2 hk.2.2.2.1 hk.2.2.2.2.2.2.2.1 hP hD hS q hq rfl 0 (by decide) (hk.2.2.2.2.1 _ hlk) hsm rfl (by subst hB; exact hnm) hown (by decide +kernel) rfl rfl (Nat.le_of_ble_eq_true rfl) hd (fun H locs hP hD hS => by
      have hP : va_P Z.2.1 vwCl ((XW Z S).set q (a, .inr (2, [.int x, .int (S.2.2.2.2.2.2.2 a 1), .int (S.2.2.2.2.2.2.2 a 2), .int (S.2.2.2.2.2.2.2 a 3), .int (S.2.2.2.2.2.2.2 a 4), .int (S.2.2.2.2.2.2.2 a 5)]))) H := hP
      have hD : va_D (va_A (XW Z S0) s.heap.size) ((XW Z S).set q (a, .inr (2, [.int x, .int (S.2.2.2.2.2.2.2 a 1), .int (S.2.2.2.2.2.2.2 a 2), .int (S.2.2.2.2.2.2.2 a 3), .int (S.2.2.2.2.2.2.2 a 4), .int (S.2.2.2.2.2.2.2 a 5)]))) := hD
      rw [es] at hP hD
      exact kk p e s m args below meth c S0 po hB hk H locs ls hP hD hS hl)
  · obtain ⟨q, hq0, hq⟩ := x_at (Z := Z) ha hm
    have es : (XW Z S).set q (a, .inr (5, [.int x, .int (S.2.2.2.2.2.2.2 a 1), .int (S.2.2.2.2.2.2.2 a 2), .int (S.2.2.2.2.2.2.2 a 3), .int (S.2.2.2.2.2.2.2 a 4), .int (S.2.2.2.2.2.2.2 a 5)])) = XW Z (S.1, S.2.1, S.2.2.1, S.2.2.2.1, S.2.2.2.2.1, S.2.2.2.2.2.1, S.2.2.2.2.2.2.1, va_up S.2.2.2.2.2.2.2 a (upd (S.2.2.2.2.2.2.2 a) 0 x)) := by
      refine (va_pl_set hD ha hq0).trans (congrArg (fun l => XB Z S ++ l) (va_pl_congr fun b => ?_))
      by_cases hb : b = a
      · subst hb; simp [va_up, mE, upd, hm]
      · simp [va_up, mE, hb]
    exact va_putF (D := Z.2.1) (ci := 5) (v := .int x) (ty := .int) (C := RX5) (T := TX5) (N := 6) hk.1 hk.2.1 hk.2.2.2.2.1 iuX5 tyX5 tyX5_ok nmX5 hk.2.2.2.1 hk.2.2.2.2.2.2.2.1 hP hD hS q hq rfl 0 (by decide) (hk.2.2.2.2.1 _ hlk) hsm rfl (by subst hB; exact hnm) hown (by decide +kernel) rfl rfl (Nat.le_of_ble_eq_true rfl) hd (fun H locs hP hD hS => by
      have hP : va_P Z.2.1 vwCl ((XW Z S).set q (a, .inr (5, [.int x, .int (S.2.2.2.2.2.2.2 a 1), .int (S.2.2.2.2.2.2.2 a 2), .int (S.2.2.2.2.2.2.2 a 3), .int (S.2.2.2.2.2.2.2 a 4), .int (S.2.2.2.2.2.2.2 a 5)]))) H := hP
      have hD : va_D (va_A (XW Z S0) s.heap.size) ((XW Z S).set q (a, .inr (5, [.int x, .int (S.2.2.2.2.2.2.2 a 1), .int (S.2.2.2.2.2.2.2 a 2), .int (S.2.2.2.2.2.2.2 a 3), .int (S.2.2.2.2.2.2.2 a 4), .int (S.2.2.2.2.2.2.2 a 5)]))) := hD
      rw [es] at hP hD
      exact kk p e s m args below meth c S0 po hB hk H locs ls hP hD hS hl)
  · obtain ⟨q, hq0, hq⟩ := x_at (Z := Z) ha hm
    have es : (XW Z S).set q (a, .inr (6, [.int x, .int (S.2.2.2.2.2.2.2 a 1), .int (S.2.2.2.2.2.2.2 a 2), .int (S.2.2.2.2.2.2.2 a 3), .int (S.2.2.2.2.2.2.2 a 4), .int (S.2.2.2.2.2.2.2 a 5)])) = XW Z (S.1, S.2.1, S.2.2.1, S.2.2.2.1, S.2.2.2.2.1, S.2.2.2.2.2.1, S.2.2.2.2.2.2.1, va_up S.2.2.2.2.2.2.2 a (upd (S.2.2.2.2.2.2.2 a) 0 x)) := by
      refine (va_pl_set hD ha hq0).trans (congrArg (fun l => XB Z S ++ l) (va_pl_congr fun b => ?_))
      by_cases hb : b = a
      · subst hb; simp [va_up, mE, upd, hm]
      · simp [va_up, mE, hb]
    exact va_putF (D := Z.2.1) (ci := 6) (v := .int x) (ty := .int) (C := RX6) (T := TX6) (N := 6) hk.1 hk.2.1 hk.2.2.2.2.1 iuX6 tyX6 tyX6_ok nmX6 hk.2.2.2.1 hk.2.2.2.2.2.2.2.1 hP hD hS q hq rfl 0 (by decide) (hk.2.2.2.2.1 _ hlk) hsm rfl (by subst hB; exact hnm) hown (by decide +kernel) rfl rfl (Nat.le_of_ble_eq_true rfl) hd (fun H locs hP hD hS => by
      have hP : va_P Z.2.1 vwCl ((XW Z S).set q (a, .inr (6, [.int x, .int (S.2.2.2.2.2.2.2 a 1), .int (S.2.2.2.2.2.2.2 a 2), .int (S.2.2.2.2.2.2.2 a 3), .int (S.2.2.2.2.2.2.2 a 4), .int (S.2.2.2.2.2.2.2 a 5)]))) H := hP
      have hD : va_D (va_A (XW Z S0) s.heap.size) ((XW Z S).set q (a, .inr (6, [.int x, .int (S.2.2.2.2.2.2.2 a 1), .int (S.2.2.2.2.2.2.2 a 2), .int (S.2.2.2.2.2.2.2 a 3), .int (S.2.2.2.2.2.2.2 a 4), .int (S.2.2.2.2.2.2.2 a 5)]))) := hD
      rw [es] at hP hD
      exact kk p e s m args below meth c S0 po hB hk H locs ls hP hD hS hl)
  · obtain ⟨q, hq0, hq⟩ := x_at (Z := Z) ha hm
    have es : (XW Z S).set q (a, .inr (9, [.int x, .int (S.2.2.2.2.2.2.2 a 1), .int (S.2.2.2.2.2.2.2 a 2), .int (S.2.2.2.2.2.2.2 a 3), .int (S.2.2.2.2.2.2.2 a 4), .int (S.2.2.2.2.2.2.2 a 5)])) = XW Z (S.1, S.2.1, S.2.2.1, S.2.2.2.1, S.2.2.2.2.1, S.2.2.2.2.2.1, S.2.2.2.2.2.2.1, va_up S.2.2.2.2.2.2.2 a (upd (S.2.2.2.2.2.2.2 a) 0 x)) := by
      refine (va_pl_set hD ha hq0).trans (congrArg (fun l => XB Z S ++ l) (va_pl_congr fun b => ?_))
      by_cases hb : b = a
      · subst hb; simp [va_up, mE, upd, hm]
      · simp [va_up, mE, hb]
    exact va_putF (D := Z.2.1) (ci := 9) (v := .int x) (ty := .int) (C := RX9) (T := TX9) (N := 6) hk.1 hk.2.1 hk.2.2.2.2.1 iuX9 tyX9 tyX9_ok nmX9 hk.2.2.2.1 hk.2.2.2.2.2.2.2.1 hP hD hS q hq rfl 0 (by decide) (hk.2.2.2.2.1 _ hlk) hsm rfl (by subst hB; exact hnm) hown (by decide +kernel) rfl rfl (Nat.le_of_ble_eq_true rfl) hd (fun H locs hP hD hS => by
      have hP : va_P Z.2.1 vwCl ((XW Z S).set q (a, .inr (9, [.int x, .int (S.2.2.2.2.2.2.2 a 1), .int (S.2.2.2.2.2.2.2 a 2), .int (S.2.2.2.2.2.2.2 a 3), .int (S.2.2.2.2.2.2.2 a 4), .int (S.2.2.2.2.2.2.2 a 5)]))) H := hP
      have hD : va_D (va_A (XW Z S0) s.heap.size) ((XW Z S).set q (a, .inr (9, [.int x, .int (S.2.2.2.2.2.2.2 a 1), .int (S.2.2.2.2.2.2.2 a 2), .int (S.2.2.2.2.2.2.2 a 3), .int (S.2.2.2.2.2.2.2 a 4), .int (S.2.2.2.2.2.2.2 a 5)]))) := hD
      rw [es] at hP hD
      exact kk p e s m args below meth c S0 po hB hk H locs ls hP hD hS hl)
theorem Xmg_cells {own ref : String} {idx a : Nat} {Z : VZ} {cc : ByteArray} {nL : Nat} {ret : Option FieldType} {d mc ms : Nat} {B : VB XS} {n k pc : Nat} {L : List (Nat × Value)} {st : List Value} {S : XS} {v : Int32} (ha : a ∈ S.2.2.2.2.2.1) (hm : mcl (S.2.2.2.2.2.2.1 a)) (hv : S.2.2.2.2.2.2.2 a 1 = v) (hd : decode cc pc = .ok (.getfield idx, 3)) (hlk : Cond.fieldLink own idx ref "cells" "I" ∈ uw) (hsf : ref = "CarryShifts$Carrying" ∨ Cond.sameField ref "CarryShifts$Carrying" "cells" "I" ∈ uw) (kk : V XW Z cc own nL ret d mc ms B n k (pc + 3) L (.int v :: st) S) : V XW Z cc own nL ret d mc ms B n k pc L (.ref a :: st) S := by
  subst hv
  intro p e s m args below meth c S0 po hB hk H locs ls hP hD hS hl
  have hsm : ∀ x, s.fieldFound? "CarryShifts$Carrying" "cells" "I" = some x → s.fieldFound? ref "cells" "I" = some x := by
    rcases hsf with rfl | hsf
    · exact fun _ h => h
    · exact fun x9 h9 => u_same (hk.2.2.2.2.1 _ hsf) x9 h9
  rcases hm with hm | hm | hm | hm | hm | hm
  · obtain ⟨q, hq0, hq⟩ := x_at (Z := Z) ha hm
    exact va_get (D := Z.2.1) (ci := 0) (C := RX0) (T := TX0) (N := 6) hk.1 hk.2.1 hk.2.2.2.2.1 iuX0 hk.2.2.2.1 hk.2.2.2.2.2.2.2.1 hP q hq rfl 1 (by decide) (hk.2.2.2.2.1 _ hlk) hsm rfl hd (kk p e s m args below meth c S0 po hB hk H locs ls hP hD hS hl)
  · obtain ⟨q, hq0, hq⟩ := x_at (Z := Z) ha hm
    exact va_get (D := Z.2.1) (ci := 1) (C := RX1) (T := TX1) (N := 6) hk.1 hk.2.1 hk.2.2.2.2.1 iuX1 hk.2.2.2.1 hk.2.2.2.2.2.2.2.1 hP q hq rfl 1 (by decide) (hk.2.2.2.2.1 _ hlk) hsm rfl hd (kk p e s m args below meth c S0 po hB hk H locs ls hP hD hS hl)
  · obtain ⟨q, hq0, hq⟩ := x_at (Z := Z) ha hm
    exact va_get (D := Z.2.1) (ci := 2) (C := RX2) (T := TX2) (N := 6) hk.1 hk.2.1 hk.2.2.2.2.1 iuX2 hk.2.2.2.1 hk.2.2.2.2.2.2.2.1 hP q hq rfl 1 (by decide) (hk.2.2.2.2.1 _ hlk) hsm rfl hd (kk p e s m args below meth c S0 po hB hk H locs ls hP hD hS hl)
  · obtain ⟨q, hq0, hq⟩ := x_at (Z := Z) ha hm
    exact va_get (D := Z.2.1) (ci := 5) (C := RX5) (T := TX5) (N := 6) hk.1 hk.2.1 hk.2.2.2.2.1 iuX5 hk.2.2.2.1 hk.2.2.2.2.2.2.2.1 hP q hq rfl 1 (by decide) (hk.2.2.2.2.1 _ hlk) hsm rfl hd (kk p e s m args below meth c S0 po hB hk H locs ls hP hD hS hl)
  · obtain ⟨q, hq0, hq⟩ := x_at (Z := Z) ha hm
    exact va_get (D := Z.2.1) (ci := 6) (C := RX6) (T := TX6) (N := 6) hk.1 hk.2.1 hk.2.2.2.2.1 iuX6 hk.2.2.2.1 hk.2.2.2.2.2.2.2.1 hP q hq rfl 1 (by decide) (hk.2.2.2.2.1 _ hlk) hsm rfl hd (kk p e s m args below meth c S0 po hB hk H locs ls hP hD hS hl)
  · obtain ⟨q, hq0, hq⟩ := x_at (Z := Z) ha hm
    exact va_get (D := Z.2.1) (ci := 9) (C := RX9) (T := TX9) (N := 6) hk.1 hk.2.1 hk.2.2.2.2.1 iuX9 hk.2.2.2.1 hk.2.2.2.2.2.2.2.1 hP q hq rfl 1 (by decide) (hk.2.2.2.2.1 _ hlk) hsm rfl hd (kk p e s m args below meth c S0 po hB hk H locs ls hP hD hS hl)
theorem Xmp_cells {own ref : String} {idx a : Nat} {Z : VZ} {cc : ByteArray} {nL : Nat} {ret : Option FieldType} {d mc ms : Nat} {B : VB XS} {n k pc : Nat} {L : List (Nat × Value)} {st : List Value} {S : XS} {x : Int32} (ha : a ∈ S.2.2.2.2.2.1) (hm : mcl (S.2.2.2.2.2.2.1 a)) (hd : decode cc pc = .ok (.putfield idx, 3)) (hlk : Cond.fieldLink own idx ref "cells" "I" ∈ uw) (hsf : ref = "CarryShifts$Carrying" ∨ Cond.sameField ref "CarryShifts$Carrying" "cells" "I" ∈ uw) (hnm : vName B = "<init>") (hown : "CarryShifts$Carrying" = own) (kk : V XW Z cc own nL ret d mc ms B n k (pc + 3) L st (S.1, S.2.1, S.2.2.1, S.2.2.2.1, S.2.2.2.2.1, S.2.2.2.2.2.1, S.2.2.2.2.2.2.1, va_up S.2.2.2.2.2.2.2 a (upd (S.2.2.2.2.2.2.2 a) 1 x))) : V XW Z cc own nL ret d mc ms B n k pc L (.int x :: .ref a :: st) S := by
  intro p e s m args below meth c S0 po hB hk H locs ls hP hD hS hl
  have hsm : ∀ x, s.fieldFound? "CarryShifts$Carrying" "cells" "I" = some x → s.fieldFound? ref "cells" "I" = some x := by
    rcases hsf with rfl | hsf
    · exact fun _ h => h
    · exact fun x9 h9 => u_same (hk.2.2.2.2.1 _ hsf) x9 h9
  rcases hm with hm | hm | hm | hm | hm | hm
  · obtain ⟨q, hq0, hq⟩ := x_at (Z := Z) ha hm
    have es : (XW Z S).set q (a, .inr (0, [.int (S.2.2.2.2.2.2.2 a 0), .int x, .int (S.2.2.2.2.2.2.2 a 2), .int (S.2.2.2.2.2.2.2 a 3), .int (S.2.2.2.2.2.2.2 a 4), .int (S.2.2.2.2.2.2.2 a 5)])) = XW Z (S.1, S.2.1, S.2.2.1, S.2.2.2.1, S.2.2.2.2.1, S.2.2.2.2.2.1, S.2.2.2.2.2.2.1, va_up S.2.2.2.2.2.2.2 a (upd (S.2.2.2.2.2.2.2 a) 1 x)) := by
      refine (va_pl_set hD ha hq0).trans (congrArg (fun l => XB Z S ++ l) (va_pl_congr fun b => ?_))
      by_cases hb : b = a
      · subst hb; simp [va_up, mE, upd, hm]
      · simp [va_up, mE, hb]
    exact va_putF (D := Z.2.1) (ci := 0) (v := .int x) (ty := .int) (C := RX0) (T := TX0) (N := 6) hk.1 hk.2.1 hk.2.2.2.2.1 iuX0 tyX0 tyX0_ok nmX0 hk.2.2.2.1 hk.2.2.2.2.2.2.2.1 hP hD hS q hq rfl 1 (by decide) (hk.2.2.2.2.1 _ hlk) hsm rfl (by subst hB; exact hnm) hown (by decide +kernel) rfl rfl (Nat.le_of_ble_eq_true rfl) hd (fun H locs hP hD hS => by
      have hP : va_P Z.2.1 vwCl ((XW Z S).set q (a, .inr (0, [.int (S.2.2.2.2.2.2.2 a 0), .int x, .int (S.2.2.2.2.2.2.2 a 2), .int (S.2.2.2.2.2.2.2 a 3), .int (S.2.2.2.2.2.2.2 a 4), .int (S.2.2.2.2.2.2.2 a 5)]))) H := hP
      have hD : va_D (va_A (XW Z S0) s.heap.size) ((XW Z S).set q (a, .inr (0, [.int (S.2.2.2.2.2.2.2 a 0), .int x, .int (S.2.2.2.2.2.2.2 a 2), .int (S.2.2.2.2.2.2.2 a 3), .int (S.2.2.2.2.2.2.2 a 4), .int (S.2.2.2.2.2.2.2 a 5)]))) := hD
      rw [es] at hP hD
      exact kk p e s m args below meth c S0 po hB hk H locs ls hP hD hS hl)
  · obtain ⟨q, hq0, hq⟩ := x_at (Z := Z) ha hm
    have es : (XW Z S).set q (a, .inr (1, [.int (S.2.2.2.2.2.2.2 a 0), .int x, .int (S.2.2.2.2.2.2.2 a 2), .int (S.2.2.2.2.2.2.2 a 3), .int (S.2.2.2.2.2.2.2 a 4), .int (S.2.2.2.2.2.2.2 a 5)])) = XW Z (S.1, S.2.1, S.2.2.1, S.2.2.2.1, S.2.2.2.2.1, S.2.2.2.2.2.1, S.2.2.2.2.2.2.1, va_up S.2.2.2.2.2.2.2 a (upd (S.2.2.2.2.2.2.2 a) 1 x)) := by
      refine (va_pl_set hD ha hq0).trans (congrArg (fun l => XB Z S ++ l) (va_pl_congr fun b => ?_))
      by_cases hb : b = a
      · subst hb; simp [va_up, mE, upd, hm]
      · simp [va_up, mE, hb]
    exact va_putF (D := Z.2.1) (ci := 1) (v := .int x) (ty := .int) (C := RX1) (T := TX1) (N := 6) hk.1 hk.2.1 hk.2.2.2.2.1 iuX1 tyX1 tyX1_ok nmX1 hk.2.2.2.1 hk.2.2.2.2.2.2.2.1 hP hD hS q hq rfl 1 (by decide) (hk.2.2.2.2.1 _ hlk) hsm rfl (by subst hB; exact hnm) hown (by decide +kernel) rfl rfl (Nat.le_of_ble_eq_true rfl) hd (fun H locs hP hD hS => by
      have hP : va_P Z.2.1 vwCl ((XW Z S).set q (a, .inr (1, [.int (S.2.2.2.2.2.2.2 a 0), .int x, .int (S.2.2.2.2.2.2.2 a 2), .int (S.2.2.2.2.2.2.2 a 3), .int (S.2.2.2.2.2.2.2 a 4), .int (S.2.2.2.2.2.2.2 a 5)]))) H := hP
      have hD : va_D (va_A (XW Z S0) s.heap.size) ((XW Z S).set q (a, .inr (1, [.int (S.2.2.2.2.2.2.2 a 0), .int x, .int (S.2.2.2.2.2.2.2 a 2), .int (S.2.2.2.2.2.2.2 a 3), .int (S.2.2.2.2.2.2.2 a 4), .int (S.2.2.2.2.2.2.2 a 5)]))) := hD
      rw [es] at hP hD
      exact kk p e s m args below meth c S0 po hB hk H locs ls hP hD hS hl)
  · obtain ⟨q, hq0, hq⟩ := x_at (Z := Z) ha hm
    have es : (XW Z S).set q (a, .inr (2, [.int (S.2.2.2.2.2.2.2 a 0), .int x, .int (S.2.2.2.2.2.2.2 a 2), .int (S.2.2.2.2.2.2.2 a 3), .int (S.2.2.2.2.2.2.2 a 4), .int (S.2.2.2.2.2.2.2 a 5)])) = XW Z (S.1, S.2.1, S.2.2.1, S.2.2.2.1, S.2.2.2.2.1, S.2.2.2.2.2.1, S.2.2.2.2.2.2.1, va_up S.2.2.2.2.2.2.2 a (upd (S.2.2.2.2.2.2.2 a) 1 x)) := by
      refine (va_pl_set hD ha hq0).trans (congrArg (fun l => XB Z S ++ l) (va_pl_congr fun b => ?_))
      by_cases hb : b = a
      · subst hb; simp [va_up, mE, upd, hm]
      · simp [va_up, mE, hb]
    exact va_putF (D := Z.2.1) (ci := 2) (v := .int x) (ty := .int) (C := RX2) (T := TX2) (N := 6) hk.1 hk.2.1 hk.2.2.2.2.1 iuX2 tyX2 tyX2_ok nmX2 hk.2.2.2.1 hk.2.2.2.2.2.2.2.1 hP hD hS q hq rfl 1 (by decide) (hk.2.2.2.2.1 _ hlk) hsm rfl (by subst hB; exact hnm) hown (by decide +kernel) rfl rfl (Nat.le_of_ble_eq_true rfl) hd (fun H locs hP hD hS => by
      have hP : va_P Z.2.1 vwCl ((XW Z S).set q (a, .inr (2, [.int (S.2.2.2.2.2.2.2 a 0), .int x, .int (S.2.2.2.2.2.2.2 a 2), .int (S.2.2.2.2.2.2.2 a 3), .int (S.2.2.2.2.2.2.2 a 4), .int (S.2.2.2.2.2.2.2 a 5)]))) H := hP
      have hD : va_D (va_A (XW Z S0) s.heap.size) ((XW Z S).set q (a, .inr (2, [.int (S.2.2.2.2.2.2.2 a 0), .int x, .int (S.2.2.2.2.2.2.2 a 2), .int (S.2.2.2.2.2.2.2 a 3), .int (S.2.2.2.2.2.2.2 a 4), .int (S.2.2.2.2.2.2.2 a 5)]))) := hD
      rw [es] at hP hD
      exact kk p e s m args below meth c S0 po hB hk H locs ls hP hD hS hl)
  · obtain ⟨q, hq0, hq⟩ := x_at (Z := Z) ha hm
    have es : (XW Z S).set q (a, .inr (5, [.int (S.2.2.2.2.2.2.2 a 0), .int x, .int (S.2.2.2.2.2.2.2 a 2), .int (S.2.2.2.2.2.2.2 a 3), .int (S.2.2.2.2.2.2.2 a 4), .int (S.2.2.2.2.2.2.2 a 5)])) = XW Z (S.1, S.2.1, S.2.2.1, S.2.2.2.1, S.2.2.2.2.1, S.2.2.2.2.2.1, S.2.2.2.2.2.2.1, va_up S.2.2.2.2.2.2.2 a (upd (S.2.2.2.2.2.2.2 a) 1 x)) := by
      refine (va_pl_set hD ha hq0).trans (congrArg (fun l => XB Z S ++ l) (va_pl_congr fun b => ?_))
      by_cases hb : b = a
      · subst hb; simp [va_up, mE, upd, hm]
      · simp [va_up, mE, hb]
    exact va_putF (D := Z.2.1) (ci := 5) (v := .int x) (ty := .int) (C := RX5) (T := TX5) (N := 6) hk.1 hk.2.1 hk.2.2.2.2.1 iuX5 tyX5 tyX5_ok nmX5 hk.2.2.2.1 hk.2.2.2.2.2.2.2.1 hP hD hS q hq rfl 1 (by decide) (hk.2.2.2.2.1 _ hlk) hsm rfl (by subst hB; exact hnm) hown (by decide +kernel) rfl rfl (Nat.le_of_ble_eq_true rfl) hd (fun H locs hP hD hS => by
      have hP : va_P Z.2.1 vwCl ((XW Z S).set q (a, .inr (5, [.int (S.2.2.2.2.2.2.2 a 0), .int x, .int (S.2.2.2.2.2.2.2 a 2), .int (S.2.2.2.2.2.2.2 a 3), .int (S.2.2.2.2.2.2.2 a 4), .int (S.2.2.2.2.2.2.2 a 5)]))) H := hP
      have hD : va_D (va_A (XW Z S0) s.heap.size) ((XW Z S).set q (a, .inr (5, [.int (S.2.2.2.2.2.2.2 a 0), .int x, .int (S.2.2.2.2.2.2.2 a 2), .int (S.2.2.2.2.2.2.2 a 3), .int (S.2.2.2.2.2.2.2 a 4), .int (S.2.2.2.2.2.2.2 a 5)]))) := hD
      rw [es] at hP hD
      exact kk p e s m args below meth c S0 po hB hk H locs ls hP hD hS hl)
  · obtain ⟨q, hq0, hq⟩ := x_at (Z := Z) ha hm
    have es : (XW Z S).set q (a, .inr (6, [.int (S.2.2.2.2.2.2.2 a 0), .int x, .int (S.2.2.2.2.2.2.2 a 2), .int (S.2.2.2.2.2.2.2 a 3), .int (S.2.2.2.2.2.2.2 a 4), .int (S.2.2.2.2.2.2.2 a 5)])) = XW Z (S.1, S.2.1, S.2.2.1, S.2.2.2.1, S.2.2.2.2.1, S.2.2.2.2.2.1, S.2.2.2.2.2.2.1, va_up S.2.2.2.2.2.2.2 a (upd (S.2.2.2.2.2.2.2 a) 1 x)) := by
      refine (va_pl_set hD ha hq0).trans (congrArg (fun l => XB Z S ++ l) (va_pl_congr fun b => ?_))
      by_cases hb : b = a
      · subst hb; simp [va_up, mE, upd, hm]
      · simp [va_up, mE, hb]
    exact va_putF (D := Z.2.1) (ci := 6) (v := .int x) (ty := .int) (C := RX6) (T := TX6) (N := 6) hk.1 hk.2.1 hk.2.2.2.2.1 iuX6 tyX6 tyX6_ok nmX6 hk.2.2.2.1 hk.2.2.2.2.2.2.2.1 hP hD hS q hq rfl 1 (by decide) (hk.2.2.2.2.1 _ hlk) hsm rfl (by subst hB; exact hnm) hown (by decide +kernel) rfl rfl (Nat.le_of_ble_eq_true rfl) hd (fun H locs hP hD hS => by
      have hP : va_P Z.2.1 vwCl ((XW Z S).set q (a, .inr (6, [.int (S.2.2.2.2.2.2.2 a 0), .int x, .int (S.2.2.2.2.2.2.2 a 2), .int (S.2.2.2.2.2.2.2 a 3), .int (S.2.2.2.2.2.2.2 a 4), .int (S.2.2.2.2.2.2.2 a 5)]))) H := hP
      have hD : va_D (va_A (XW Z S0) s.heap.size) ((XW Z S).set q (a, .inr (6, [.int (S.2.2.2.2.2.2.2 a 0), .int x, .int (S.2.2.2.2.2.2.2 a 2), .int (S.2.2.2.2.2.2.2 a 3), .int (S.2.2.2.2.2.2.2 a 4), .int (S.2.2.2.2.2.2.2 a 5)]))) := hD
      rw [es] at hP hD
      exact kk p e s m args below meth c S0 po hB hk H locs ls hP hD hS hl)
  · obtain ⟨q, hq0, hq⟩ := x_at (Z := Z) ha hm
    have es : (XW Z S).set q (a, .inr (9, [.int (S.2.2.2.2.2.2.2 a 0), .int x, .int (S.2.2.2.2.2.2.2 a 2), .int (S.2.2.2.2.2.2.2 a 3), .int (S.2.2.2.2.2.2.2 a 4), .int (S.2.2.2.2.2.2.2 a 5)])) = XW Z (S.1, S.2.1, S.2.2.1, S.2.2.2.1, S.2.2.2.2.1, S.2.2.2.2.2.1, S.2.2.2.2.2.2.1, va_up S.2.2.2.2.2.2.2 a (upd (S.2.2.2.2.2.2.2 a) 1 x)) := by
      refine (va_pl_set hD ha hq0).trans (congrArg (fun l => XB Z S ++ l) (va_pl_congr fun b => ?_))
      by_cases hb : b = a
      · subst hb; simp [va_up, mE, upd, hm]
      · simp [va_up, mE, hb]
    exact va_putF (D := Z.2.1) (ci := 9) (v := .int x) (ty := .int) (C := RX9) (T := TX9) (N := 6) hk.1 hk.2.1 hk.2.2.2.2.1 iuX9 tyX9 tyX9_ok nmX9 hk.2.2.2.1 hk.2.2.2.2.2.2.2.1 hP hD hS q hq rfl 1 (by decide) (hk.2.2.2.2.1 _ hlk) hsm rfl (by subst hB; exact hnm) hown (by decide +kernel) rfl rfl (Nat.le_of_ble_eq_true rfl) hd (fun H locs hP hD hS => by
      have hP : va_P Z.2.1 vwCl ((XW Z S).set q (a, .inr (9, [.int (S.2.2.2.2.2.2.2 a 0), .int x, .int (S.2.2.2.2.2.2.2 a 2), .int (S.2.2.2.2.2.2.2 a 3), .int (S.2.2.2.2.2.2.2 a 4), .int (S.2.2.2.2.2.2.2 a 5)]))) H := hP
      have hD : va_D (va_A (XW Z S0) s.heap.size) ((XW Z S).set q (a, .inr (9, [.int (S.2.2.2.2.2.2.2 a 0), .int x, .int (S.2.2.2.2.2.2.2 a 2), .int (S.2.2.2.2.2.2.2 a 3), .int (S.2.2.2.2.2.2.2 a 4), .int (S.2.2.2.2.2.2.2 a 5)]))) := hD
      rw [es] at hP hD
      exact kk p e s m args below meth c S0 po hB hk H locs ls hP hD hS hl)
theorem Xmg_taps {own ref : String} {idx a : Nat} {Z : VZ} {cc : ByteArray} {nL : Nat} {ret : Option FieldType} {d mc ms : Nat} {B : VB XS} {n k pc : Nat} {L : List (Nat × Value)} {st : List Value} {S : XS} {v : Int32} (ha : a ∈ S.2.2.2.2.2.1) (hm : mcl (S.2.2.2.2.2.2.1 a)) (hv : S.2.2.2.2.2.2.2 a 2 = v) (hd : decode cc pc = .ok (.getfield idx, 3)) (hlk : Cond.fieldLink own idx ref "taps" "I" ∈ uw) (hsf : ref = "CarryShifts$Carrying" ∨ Cond.sameField ref "CarryShifts$Carrying" "taps" "I" ∈ uw) (kk : V XW Z cc own nL ret d mc ms B n k (pc + 3) L (.int v :: st) S) : V XW Z cc own nL ret d mc ms B n k pc L (.ref a :: st) S := by
  subst hv
  intro p e s m args below meth c S0 po hB hk H locs ls hP hD hS hl
  have hsm : ∀ x, s.fieldFound? "CarryShifts$Carrying" "taps" "I" = some x → s.fieldFound? ref "taps" "I" = some x := by
    rcases hsf with rfl | hsf
    · exact fun _ h => h
    · exact fun x9 h9 => u_same (hk.2.2.2.2.1 _ hsf) x9 h9
  rcases hm with hm | hm | hm | hm | hm | hm
  · obtain ⟨q, hq0, hq⟩ := x_at (Z := Z) ha hm
    exact va_get (D := Z.2.1) (ci := 0) (C := RX0) (T := TX0) (N := 6) hk.1 hk.2.1 hk.2.2.2.2.1 iuX0 hk.2.2.2.1 hk.2.2.2.2.2.2.2.1 hP q hq rfl 2 (by decide) (hk.2.2.2.2.1 _ hlk) hsm rfl hd (kk p e s m args below meth c S0 po hB hk H locs ls hP hD hS hl)
  · obtain ⟨q, hq0, hq⟩ := x_at (Z := Z) ha hm
    exact va_get (D := Z.2.1) (ci := 1) (C := RX1) (T := TX1) (N := 6) hk.1 hk.2.1 hk.2.2.2.2.1 iuX1 hk.2.2.2.1 hk.2.2.2.2.2.2.2.1 hP q hq rfl 2 (by decide) (hk.2.2.2.2.1 _ hlk) hsm rfl hd (kk p e s m args below meth c S0 po hB hk H locs ls hP hD hS hl)
  · obtain ⟨q, hq0, hq⟩ := x_at (Z := Z) ha hm
    exact va_get (D := Z.2.1) (ci := 2) (C := RX2) (T := TX2) (N := 6) hk.1 hk.2.1 hk.2.2.2.2.1 iuX2 hk.2.2.2.1 hk.2.2.2.2.2.2.2.1 hP q hq rfl 2 (by decide) (hk.2.2.2.2.1 _ hlk) hsm rfl hd (kk p e s m args below meth c S0 po hB hk H locs ls hP hD hS hl)
  · obtain ⟨q, hq0, hq⟩ := x_at (Z := Z) ha hm
    exact va_get (D := Z.2.1) (ci := 5) (C := RX5) (T := TX5) (N := 6) hk.1 hk.2.1 hk.2.2.2.2.1 iuX5 hk.2.2.2.1 hk.2.2.2.2.2.2.2.1 hP q hq rfl 2 (by decide) (hk.2.2.2.2.1 _ hlk) hsm rfl hd (kk p e s m args below meth c S0 po hB hk H locs ls hP hD hS hl)
  · obtain ⟨q, hq0, hq⟩ := x_at (Z := Z) ha hm
    exact va_get (D := Z.2.1) (ci := 6) (C := RX6) (T := TX6) (N := 6) hk.1 hk.2.1 hk.2.2.2.2.1 iuX6 hk.2.2.2.1 hk.2.2.2.2.2.2.2.1 hP q hq rfl 2 (by decide) (hk.2.2.2.2.1 _ hlk) hsm rfl hd (kk p e s m args below meth c S0 po hB hk H locs ls hP hD hS hl)
  · obtain ⟨q, hq0, hq⟩ := x_at (Z := Z) ha hm
    exact va_get (D := Z.2.1) (ci := 9) (C := RX9) (T := TX9) (N := 6) hk.1 hk.2.1 hk.2.2.2.2.1 iuX9 hk.2.2.2.1 hk.2.2.2.2.2.2.2.1 hP q hq rfl 2 (by decide) (hk.2.2.2.2.1 _ hlk) hsm rfl hd (kk p e s m args below meth c S0 po hB hk H locs ls hP hD hS hl)
theorem Xmp_taps {own ref : String} {idx a : Nat} {Z : VZ} {cc : ByteArray} {nL : Nat} {ret : Option FieldType} {d mc ms : Nat} {B : VB XS} {n k pc : Nat} {L : List (Nat × Value)} {st : List Value} {S : XS} {x : Int32} (ha : a ∈ S.2.2.2.2.2.1) (hm : mcl (S.2.2.2.2.2.2.1 a)) (hd : decode cc pc = .ok (.putfield idx, 3)) (hlk : Cond.fieldLink own idx ref "taps" "I" ∈ uw) (hsf : ref = "CarryShifts$Carrying" ∨ Cond.sameField ref "CarryShifts$Carrying" "taps" "I" ∈ uw) (kk : V XW Z cc own nL ret d mc ms B n k (pc + 3) L st (S.1, S.2.1, S.2.2.1, S.2.2.2.1, S.2.2.2.2.1, S.2.2.2.2.2.1, S.2.2.2.2.2.2.1, va_up S.2.2.2.2.2.2.2 a (upd (S.2.2.2.2.2.2.2 a) 2 x))) : V XW Z cc own nL ret d mc ms B n k pc L (.int x :: .ref a :: st) S := by
  intro p e s m args below meth c S0 po hB hk H locs ls hP hD hS hl
  have hsm : ∀ x, s.fieldFound? "CarryShifts$Carrying" "taps" "I" = some x → s.fieldFound? ref "taps" "I" = some x := by
    rcases hsf with rfl | hsf
    · exact fun _ h => h
    · exact fun x9 h9 => u_same (hk.2.2.2.2.1 _ hsf) x9 h9
  rcases hm with hm | hm | hm | hm | hm | hm
  · obtain ⟨q, hq0, hq⟩ := x_at (Z := Z) ha hm
    have es : (XW Z S).set q (a, .inr (0, [.int (S.2.2.2.2.2.2.2 a 0), .int (S.2.2.2.2.2.2.2 a 1), .int x, .int (S.2.2.2.2.2.2.2 a 3), .int (S.2.2.2.2.2.2.2 a 4), .int (S.2.2.2.2.2.2.2 a 5)])) = XW Z (S.1, S.2.1, S.2.2.1, S.2.2.2.1, S.2.2.2.2.1, S.2.2.2.2.2.1, S.2.2.2.2.2.2.1, va_up S.2.2.2.2.2.2.2 a (upd (S.2.2.2.2.2.2.2 a) 2 x)) := by
      refine (va_pl_set hD ha hq0).trans (congrArg (fun l => XB Z S ++ l) (va_pl_congr fun b => ?_))
      by_cases hb : b = a
      · subst hb; simp [va_up, mE, upd, hm]
      · simp [va_up, mE, hb]
    exact va_put (D := Z.2.1) (ci := 0) (v := .int x) (ty := .int) (C := RX0) (T := TX0) (N := 6) hk.1 hk.2.1 hk.2.2.2.2.1 iuX0 tyX0 tyX0_ok nmX0 hk.2.2.2.1 hk.2.2.2.2.2.2.2.1 hP hD hS q hq rfl 2 (by decide) (hk.2.2.2.2.1 _ hlk) hsm rfl (by decide +kernel) rfl rfl (Nat.le_of_ble_eq_true rfl) hd (fun H locs hP hD hS => by
      have hP : va_P Z.2.1 vwCl ((XW Z S).set q (a, .inr (0, [.int (S.2.2.2.2.2.2.2 a 0), .int (S.2.2.2.2.2.2.2 a 1), .int x, .int (S.2.2.2.2.2.2.2 a 3), .int (S.2.2.2.2.2.2.2 a 4), .int (S.2.2.2.2.2.2.2 a 5)]))) H := hP
      have hD : va_D (va_A (XW Z S0) s.heap.size) ((XW Z S).set q (a, .inr (0, [.int (S.2.2.2.2.2.2.2 a 0), .int (S.2.2.2.2.2.2.2 a 1), .int x, .int (S.2.2.2.2.2.2.2 a 3), .int (S.2.2.2.2.2.2.2 a 4), .int (S.2.2.2.2.2.2.2 a 5)]))) := hD
      rw [es] at hP hD
      exact kk p e s m args below meth c S0 po hB hk H locs ls hP hD hS hl)
  · obtain ⟨q, hq0, hq⟩ := x_at (Z := Z) ha hm
    have es : (XW Z S).set q (a, .inr (1, [.int (S.2.2.2.2.2.2.2 a 0), .int (S.2.2.2.2.2.2.2 a 1), .int x, .int (S.2.2.2.2.2.2.2 a 3), .int (S.2.2.2.2.2.2.2 a 4), .int (S.2.2.2.2.2.2.2 a 5)])) = XW Z (S.1, S.2.1, S.2.2.1, S.2.2.2.1, S.2.2.2.2.1, S.2.2.2.2.2.1, S.2.2.2.2.2.2.1, va_up S.2.2.2.2.2.2.2 a (upd (S.2.2.2.2.2.2.2 a) 2 x)) := by
      refine (va_pl_set hD ha hq0).trans (congrArg (fun l => XB Z S ++ l) (va_pl_congr fun b => ?_))
      by_cases hb : b = a
      · subst hb; simp [va_up, mE, upd, hm]
      · simp [va_up, mE, hb]
    exact va_put (D := Z.2.1) (ci := 1) (v := .int x) (ty := .int) (C := RX1) (T := TX1) (N := 6) hk.1 hk.2.1 hk.2.2.2.2.1 iuX1 tyX1 tyX1_ok nmX1 hk.2.2.2.1 hk.2.2.2.2.2.2.2.1 hP hD hS q hq rfl 2 (by decide) (hk.2.2.2.2.1 _ hlk) hsm rfl (by decide +kernel) rfl rfl (Nat.le_of_ble_eq_true rfl) hd (fun H locs hP hD hS => by
      have hP : va_P Z.2.1 vwCl ((XW Z S).set q (a, .inr (1, [.int (S.2.2.2.2.2.2.2 a 0), .int (S.2.2.2.2.2.2.2 a 1), .int x, .int (S.2.2.2.2.2.2.2 a 3), .int (S.2.2.2.2.2.2.2 a 4), .int (S.2.2.2.2.2.2.2 a 5)]))) H := hP
      have hD : va_D (va_A (XW Z S0) s.heap.size) ((XW Z S).set q (a, .inr (1, [.int (S.2.2.2.2.2.2.2 a 0), .int (S.2.2.2.2.2.2.2 a 1), .int x, .int (S.2.2.2.2.2.2.2 a 3), .int (S.2.2.2.2.2.2.2 a 4), .int (S.2.2.2.2.2.2.2 a 5)]))) := hD
      rw [es] at hP hD
      exact kk p e s m args below meth c S0 po hB hk H locs ls hP hD hS hl)
  · obtain ⟨q, hq0, hq⟩ := x_at (Z := Z) ha hm
    have es : (XW Z S).set q (a, .inr (2, [.int (S.2.2.2.2.2.2.2 a 0), .int (S.2.2.2.2.2.2.2 a 1), .int x, .int (S.2.2.2.2.2.2.2 a 3), .int (S.2.2.2.2.2.2.2 a 4), .int (S.2.2.2.2.2.2.2 a 5)])) = XW Z (S.1, S.2.1, S.2.2.1, S.2.2.2.1, S.2.2.2.2.1, S.2.2.2.2.2.1, S.2.2.2.2.2.2.1, va_up S.2.2.2.2.2.2.2 a (upd (S.2.2.2.2.2.2.2 a) 2 x)) := by
      refine (va_pl_set hD ha hq0).trans (congrArg (fun l => XB Z S ++ l) (va_pl_congr fun b => ?_))
      by_cases hb : b = a
      · subst hb; simp [va_up, mE, upd, hm]
      · simp [va_up, mE, hb]
    exact va_put (D := Z.2.1) (ci := 2) (v := .int x) (ty := .int) (C := RX2) (T := TX2) (N := 6) hk.1 hk.2.1 hk.2.2.2.2.1 iuX2 tyX2 tyX2_ok nmX2 hk.2.2.2.1 hk.2.2.2.2.2.2.2.1 hP hD hS q hq rfl 2 (by decide) (hk.2.2.2.2.1 _ hlk) hsm rfl (by decide +kernel) rfl rfl (Nat.le_of_ble_eq_true rfl) hd (fun H locs hP hD hS => by
      have hP : va_P Z.2.1 vwCl ((XW Z S).set q (a, .inr (2, [.int (S.2.2.2.2.2.2.2 a 0), .int (S.2.2.2.2.2.2.2 a 1), .int x, .int (S.2.2.2.2.2.2.2 a 3), .int (S.2.2.2.2.2.2.2 a 4), .int (S.2.2.2.2.2.2.2 a 5)]))) H := hP
      have hD : va_D (va_A (XW Z S0) s.heap.size) ((XW Z S).set q (a, .inr (2, [.int (S.2.2.2.2.2.2.2 a 0), .int (S.2.2.2.2.2.2.2 a 1), .int x, .int (S.2.2.2.2.2.2.2 a 3), .int (S.2.2.2.2.2.2.2 a 4), .int (S.2.2.2.2.2.2.2 a 5)]))) := hD
      rw [es] at hP hD
      exact kk p e s m args below meth c S0 po hB hk H locs ls hP hD hS hl)
  · obtain ⟨q, hq0, hq⟩ := x_at (Z := Z) ha hm
    have es : (XW Z S).set q (a, .inr (5, [.int (S.2.2.2.2.2.2.2 a 0), .int (S.2.2.2.2.2.2.2 a 1), .int x, .int (S.2.2.2.2.2.2.2 a 3), .int (S.2.2.2.2.2.2.2 a 4), .int (S.2.2.2.2.2.2.2 a 5)])) = XW Z (S.1, S.2.1, S.2.2.1, S.2.2.2.1, S.2.2.2.2.1, S.2.2.2.2.2.1, S.2.2.2.2.2.2.1, va_up S.2.2.2.2.2.2.2 a (upd (S.2.2.2.2.2.2.2 a) 2 x)) := by
      refine (va_pl_set hD ha hq0).trans (congrArg (fun l => XB Z S ++ l) (va_pl_congr fun b => ?_))
      by_cases hb : b = a
      · subst hb; simp [va_up, mE, upd, hm]
      · simp [va_up, mE, hb]
    exact va_put (D := Z.2.1) (ci := 5) (v := .int x) (ty := .int) (C := RX5) (T := TX5) (N := 6) hk.1 hk.2.1 hk.2.2.2.2.1 iuX5 tyX5 tyX5_ok nmX5 hk.2.2.2.1 hk.2.2.2.2.2.2.2.1 hP hD hS q hq rfl 2 (by decide) (hk.2.2.2.2.1 _ hlk) hsm rfl (by decide +kernel) rfl rfl (Nat.le_of_ble_eq_true rfl) hd (fun H locs hP hD hS => by
      have hP : va_P Z.2.1 vwCl ((XW Z S).set q (a, .inr (5, [.int (S.2.2.2.2.2.2.2 a 0), .int (S.2.2.2.2.2.2.2 a 1), .int x, .int (S.2.2.2.2.2.2.2 a 3), .int (S.2.2.2.2.2.2.2 a 4), .int (S.2.2.2.2.2.2.2 a 5)]))) H := hP
      have hD : va_D (va_A (XW Z S0) s.heap.size) ((XW Z S).set q (a, .inr (5, [.int (S.2.2.2.2.2.2.2 a 0), .int (S.2.2.2.2.2.2.2 a 1), .int x, .int (S.2.2.2.2.2.2.2 a 3), .int (S.2.2.2.2.2.2.2 a 4), .int (S.2.2.2.2.2.2.2 a 5)]))) := hD
      rw [es] at hP hD
      exact kk p e s m args below meth c S0 po hB hk H locs ls hP hD hS hl)
  · obtain ⟨q, hq0, hq⟩ := x_at (Z := Z) ha hm
    have es : (XW Z S).set q (a, .inr (6, [.int (S.2.2.2.2.2.2.2 a 0), .int (S.2.2.2.2.2.2.2 a 1), .int x, .int (S.2.2.2.2.2.2.2 a 3), .int (S.2.2.2.2.2.2.2 a 4), .int (S.2.2.2.2.2.2.2 a 5)])) = XW Z (S.1, S.2.1, S.2.2.1, S.2.2.2.1, S.2.2.2.2.1, S.2.2.2.2.2.1, S.2.2.2.2.2.2.1, va_up S.2.2.2.2.2.2.2 a (upd (S.2.2.2.2.2.2.2 a) 2 x)) := by
      refine (va_pl_set hD ha hq0).trans (congrArg (fun l => XB Z S ++ l) (va_pl_congr fun b => ?_))
      by_cases hb : b = a
      · subst hb; simp [va_up, mE, upd, hm]
      · simp [va_up, mE, hb]
    exact va_put (D := Z.2.1) (ci := 6) (v := .int x) (ty := .int) (C := RX6) (T := TX6) (N := 6) hk.1 hk.2.1 hk.2.2.2.2.1 iuX6 tyX6 tyX6_ok nmX6 hk.2.2.2.1 hk.2.2.2.2.2.2.2.1 hP hD hS q hq rfl 2 (by decide) (hk.2.2.2.2.1 _ hlk) hsm rfl (by decide +kernel) rfl rfl (Nat.le_of_ble_eq_true rfl) hd (fun H locs hP hD hS => by
      have hP : va_P Z.2.1 vwCl ((XW Z S).set q (a, .inr (6, [.int (S.2.2.2.2.2.2.2 a 0), .int (S.2.2.2.2.2.2.2 a 1), .int x, .int (S.2.2.2.2.2.2.2 a 3), .int (S.2.2.2.2.2.2.2 a 4), .int (S.2.2.2.2.2.2.2 a 5)]))) H := hP
      have hD : va_D (va_A (XW Z S0) s.heap.size) ((XW Z S).set q (a, .inr (6, [.int (S.2.2.2.2.2.2.2 a 0), .int (S.2.2.2.2.2.2.2 a 1), .int x, .int (S.2.2.2.2.2.2.2 a 3), .int (S.2.2.2.2.2.2.2 a 4), .int (S.2.2.2.2.2.2.2 a 5)]))) := hD
      rw [es] at hP hD
      exact kk p e s m args below meth c S0 po hB hk H locs ls hP hD hS hl)
  · obtain ⟨q, hq0, hq⟩ := x_at (Z := Z) ha hm
    have es : (XW Z S).set q (a, .inr (9, [.int (S.2.2.2.2.2.2.2 a 0), .int (S.2.2.2.2.2.2.2 a 1), .int x, .int (S.2.2.2.2.2.2.2 a 3), .int (S.2.2.2.2.2.2.2 a 4), .int (S.2.2.2.2.2.2.2 a 5)])) = XW Z (S.1, S.2.1, S.2.2.1, S.2.2.2.1, S.2.2.2.2.1, S.2.2.2.2.2.1, S.2.2.2.2.2.2.1, va_up S.2.2.2.2.2.2.2 a (upd (S.2.2.2.2.2.2.2 a) 2 x)) := by
      refine (va_pl_set hD ha hq0).trans (congrArg (fun l => XB Z S ++ l) (va_pl_congr fun b => ?_))
      by_cases hb : b = a
      · subst hb; simp [va_up, mE, upd, hm]
      · simp [va_up, mE, hb]
    exact va_put (D := Z.2.1) (ci := 9) (v := .int x) (ty := .int) (C := RX9) (T := TX9) (N := 6) hk.1 hk.2.1 hk.2.2.2.2.1 iuX9 tyX9 tyX9_ok nmX9 hk.2.2.2.1 hk.2.2.2.2.2.2.2.1 hP hD hS q hq rfl 2 (by decide) (hk.2.2.2.2.1 _ hlk) hsm rfl (by decide +kernel) rfl rfl (Nat.le_of_ble_eq_true rfl) hd (fun H locs hP hD hS => by
      have hP : va_P Z.2.1 vwCl ((XW Z S).set q (a, .inr (9, [.int (S.2.2.2.2.2.2.2 a 0), .int (S.2.2.2.2.2.2.2 a 1), .int x, .int (S.2.2.2.2.2.2.2 a 3), .int (S.2.2.2.2.2.2.2 a 4), .int (S.2.2.2.2.2.2.2 a 5)]))) H := hP
      have hD : va_D (va_A (XW Z S0) s.heap.size) ((XW Z S).set q (a, .inr (9, [.int (S.2.2.2.2.2.2.2 a 0), .int (S.2.2.2.2.2.2.2 a 1), .int x, .int (S.2.2.2.2.2.2.2 a 3), .int (S.2.2.2.2.2.2.2 a 4), .int (S.2.2.2.2.2.2.2 a 5)]))) := hD
      rw [es] at hP hD
      exact kk p e s m args below meth c S0 po hB hk H locs ls hP hD hS hl)
theorem Xmg_state {own ref : String} {idx a : Nat} {Z : VZ} {cc : ByteArray} {nL : Nat} {ret : Option FieldType} {d mc ms : Nat} {B : VB XS} {n k pc : Nat} {L : List (Nat × Value)} {st : List Value} {S : XS} {v : Int32} (ha : a ∈ S.2.2.2.2.2.1) (hm : mcl (S.2.2.2.2.2.2.1 a)) (hv : S.2.2.2.2.2.2.2 a 3 = v) (hd : decode cc pc = .ok (.getfield idx, 3)) (hlk : Cond.fieldLink own idx ref "state" "I" ∈ uw) (hsf : ref = "CarryShifts$Carrying" ∨ Cond.sameField ref "CarryShifts$Carrying" "state" "I" ∈ uw) (kk : V XW Z cc own nL ret d mc ms B n k (pc + 3) L (.int v :: st) S) : V XW Z cc own nL ret d mc ms B n k pc L (.ref a :: st) S := by
  subst hv
  intro p e s m args below meth c S0 po hB hk H locs ls hP hD hS hl
  have hsm : ∀ x, s.fieldFound? "CarryShifts$Carrying" "state" "I" = some x → s.fieldFound? ref "state" "I" = some x := by
    rcases hsf with rfl | hsf
    · exact fun _ h => h
    · exact fun x9 h9 => u_same (hk.2.2.2.2.1 _ hsf) x9 h9
  rcases hm with hm | hm | hm | hm | hm | hm
  · obtain ⟨q, hq0, hq⟩ := x_at (Z := Z) ha hm
    exact va_get (D := Z.2.1) (ci := 0) (C := RX0) (T := TX0) (N := 6) hk.1 hk.2.1 hk.2.2.2.2.1 iuX0 hk.2.2.2.1 hk.2.2.2.2.2.2.2.1 hP q hq rfl 3 (by decide) (hk.2.2.2.2.1 _ hlk) hsm rfl hd (kk p e s m args below meth c S0 po hB hk H locs ls hP hD hS hl)
  · obtain ⟨q, hq0, hq⟩ := x_at (Z := Z) ha hm
    exact va_get (D := Z.2.1) (ci := 1) (C := RX1) (T := TX1) (N := 6) hk.1 hk.2.1 hk.2.2.2.2.1 iuX1 hk.2.2.2.1 hk.2.2.2.2.2.2.2.1 hP q hq rfl 3 (by decide) (hk.2.2.2.2.1 _ hlk) hsm rfl hd (kk p e s m args below meth c S0 po hB hk H locs ls hP hD hS hl)
  · obtain ⟨q, hq0, hq⟩ := x_at (Z := Z) ha hm
    exact va_get (D := Z.2.1) (ci := 2) (C := RX2) (T := TX2) (N := 6) hk.1 hk.2.1 hk.2.2.2.2.1 iuX2 hk.2.2.2.1 hk.2.2.2.2.2.2.2.1 hP q hq rfl 3 (by decide) (hk.2.2.2.2.1 _ hlk) hsm rfl hd (kk p e s m args below meth c S0 po hB hk H locs ls hP hD hS hl)
  · obtain ⟨q, hq0, hq⟩ := x_at (Z := Z) ha hm
    exact va_get (D := Z.2.1) (ci := 5) (C := RX5) (T := TX5) (N := 6) hk.1 hk.2.1 hk.2.2.2.2.1 iuX5 hk.2.2.2.1 hk.2.2.2.2.2.2.2.1 hP q hq rfl 3 (by decide) (hk.2.2.2.2.1 _ hlk) hsm rfl hd (kk p e s m args below meth c S0 po hB hk H locs ls hP hD hS hl)
  · obtain ⟨q, hq0, hq⟩ := x_at (Z := Z) ha hm
    exact va_get (D := Z.2.1) (ci := 6) (C := RX6) (T := TX6) (N := 6) hk.1 hk.2.1 hk.2.2.2.2.1 iuX6 hk.2.2.2.1 hk.2.2.2.2.2.2.2.1 hP q hq rfl 3 (by decide) (hk.2.2.2.2.1 _ hlk) hsm rfl hd (kk p e s m args below meth c S0 po hB hk H locs ls hP hD hS hl)
  · obtain ⟨q, hq0, hq⟩ := x_at (Z := Z) ha hm
    exact va_get (D := Z.2.1) (ci := 9) (C := RX9) (T := TX9) (N := 6) hk.1 hk.2.1 hk.2.2.2.2.1 iuX9 hk.2.2.2.1 hk.2.2.2.2.2.2.2.1 hP q hq rfl 3 (by decide) (hk.2.2.2.2.1 _ hlk) hsm rfl hd (kk p e s m args below meth c S0 po hB hk H locs ls hP hD hS hl)
theorem Xmp_state {own ref : String} {idx a : Nat} {Z : VZ} {cc : ByteArray} {nL : Nat} {ret : Option FieldType} {d mc ms : Nat} {B : VB XS} {n k pc : Nat} {L : List (Nat × Value)} {st : List Value} {S : XS} {x : Int32} (ha : a ∈ S.2.2.2.2.2.1) (hm : mcl (S.2.2.2.2.2.2.1 a)) (hd : decode cc pc = .ok (.putfield idx, 3)) (hlk : Cond.fieldLink own idx ref "state" "I" ∈ uw) (hsf : ref = "CarryShifts$Carrying" ∨ Cond.sameField ref "CarryShifts$Carrying" "state" "I" ∈ uw) (kk : V XW Z cc own nL ret d mc ms B n k (pc + 3) L st (S.1, S.2.1, S.2.2.1, S.2.2.2.1, S.2.2.2.2.1, S.2.2.2.2.2.1, S.2.2.2.2.2.2.1, va_up S.2.2.2.2.2.2.2 a (upd (S.2.2.2.2.2.2.2 a) 3 x))) : V XW Z cc own nL ret d mc ms B n k pc L (.int x :: .ref a :: st) S := by
  intro p e s m args below meth c S0 po hB hk H locs ls hP hD hS hl
  have hsm : ∀ x, s.fieldFound? "CarryShifts$Carrying" "state" "I" = some x → s.fieldFound? ref "state" "I" = some x := by
    rcases hsf with rfl | hsf
    · exact fun _ h => h
    · exact fun x9 h9 => u_same (hk.2.2.2.2.1 _ hsf) x9 h9
  rcases hm with hm | hm | hm | hm | hm | hm
  · obtain ⟨q, hq0, hq⟩ := x_at (Z := Z) ha hm
    have es : (XW Z S).set q (a, .inr (0, [.int (S.2.2.2.2.2.2.2 a 0), .int (S.2.2.2.2.2.2.2 a 1), .int (S.2.2.2.2.2.2.2 a 2), .int x, .int (S.2.2.2.2.2.2.2 a 4), .int (S.2.2.2.2.2.2.2 a 5)])) = XW Z (S.1, S.2.1, S.2.2.1, S.2.2.2.1, S.2.2.2.2.1, S.2.2.2.2.2.1, S.2.2.2.2.2.2.1, va_up S.2.2.2.2.2.2.2 a (upd (S.2.2.2.2.2.2.2 a) 3 x)) := by
      refine (va_pl_set hD ha hq0).trans (congrArg (fun l => XB Z S ++ l) (va_pl_congr fun b => ?_))
      by_cases hb : b = a
      · subst hb; simp [va_up, mE, upd, hm]
      · simp [va_up, mE, hb]
    exact va_put (D := Z.2.1) (ci := 0) (v := .int x) (ty := .int) (C := RX0) (T := TX0) (N := 6) hk.1 hk.2.1 hk.2.2.2.2.1 iuX0 tyX0 tyX0_ok nmX0 hk.2.2.2.1 hk.2.2.2.2.2.2.2.1 hP hD hS q hq rfl 3 (by decide) (hk.2.2.2.2.1 _ hlk) hsm rfl (by decide +kernel) rfl rfl (Nat.le_of_ble_eq_true rfl) hd (fun H locs hP hD hS => by
      have hP : va_P Z.2.1 vwCl ((XW Z S).set q (a, .inr (0, [.int (S.2.2.2.2.2.2.2 a 0), .int (S.2.2.2.2.2.2.2 a 1), .int (S.2.2.2.2.2.2.2 a 2), .int x, .int (S.2.2.2.2.2.2.2 a 4), .int (S.2.2.2.2.2.2.2 a 5)]))) H := hP
      have hD : va_D (va_A (XW Z S0) s.heap.size) ((XW Z S).set q (a, .inr (0, [.int (S.2.2.2.2.2.2.2 a 0), .int (S.2.2.2.2.2.2.2 a 1), .int (S.2.2.2.2.2.2.2 a 2), .int x, .int (S.2.2.2.2.2.2.2 a 4), .int (S.2.2.2.2.2.2.2 a 5)]))) := hD
      rw [es] at hP hD
      exact kk p e s m args below meth c S0 po hB hk H locs ls hP hD hS hl)
  · obtain ⟨q, hq0, hq⟩ := x_at (Z := Z) ha hm
    have es : (XW Z S).set q (a, .inr (1, [.int (S.2.2.2.2.2.2.2 a 0), .int (S.2.2.2.2.2.2.2 a 1), .int (S.2.2.2.2.2.2.2 a 2), .int x, .int (S.2.2.2.2.2.2.2 a 4), .int (S.2.2.2.2.2.2.2 a 5)])) = XW Z (S.1, S.2.1, S.2.2.1, S.2.2.2.1, S.2.2.2.2.1, S.2.2.2.2.2.1, S.2.2.2.2.2.2.1, va_up S.2.2.2.2.2.2.2 a (upd (S.2.2.2.2.2.2.2 a) 3 x)) := by
      refine (va_pl_set hD ha hq0).trans (congrArg (fun l => XB Z S ++ l) (va_pl_congr fun b => ?_))
      by_cases hb : b = a
      · subst hb; simp [va_up, mE, upd, hm]
      · simp [va_up, mE, hb]
    exact va_put (D := Z.2.1) (ci := 1) (v := .int x) (ty := .int) (C := RX1) (T := TX1) (N := 6) hk.1 hk.2.1 hk.2.2.2.2.1 iuX1 tyX1 tyX1_ok nmX1 hk.2.2.2.1 hk.2.2.2.2.2.2.2.1 hP hD hS q hq rfl 3 (by decide) (hk.2.2.2.2.1 _ hlk) hsm rfl (by decide +kernel) rfl rfl (Nat.le_of_ble_eq_true rfl) hd (fun H locs hP hD hS => by
      have hP : va_P Z.2.1 vwCl ((XW Z S).set q (a, .inr (1, [.int (S.2.2.2.2.2.2.2 a 0), .int (S.2.2.2.2.2.2.2 a 1), .int (S.2.2.2.2.2.2.2 a 2), .int x, .int (S.2.2.2.2.2.2.2 a 4), .int (S.2.2.2.2.2.2.2 a 5)]))) H := hP
      have hD : va_D (va_A (XW Z S0) s.heap.size) ((XW Z S).set q (a, .inr (1, [.int (S.2.2.2.2.2.2.2 a 0), .int (S.2.2.2.2.2.2.2 a 1), .int (S.2.2.2.2.2.2.2 a 2), .int x, .int (S.2.2.2.2.2.2.2 a 4), .int (S.2.2.2.2.2.2.2 a 5)]))) := hD
      rw [es] at hP hD
      exact kk p e s m args below meth c S0 po hB hk H locs ls hP hD hS hl)
  · obtain ⟨q, hq0, hq⟩ := x_at (Z := Z) ha hm
    have es : (XW Z S).set q (a, .inr (2, [.int (S.2.2.2.2.2.2.2 a 0), .int (S.2.2.2.2.2.2.2 a 1), .int (S.2.2.2.2.2.2.2 a 2), .int x, .int (S.2.2.2.2.2.2.2 a 4), .int (S.2.2.2.2.2.2.2 a 5)])) = XW Z (S.1, S.2.1, S.2.2.1, S.2.2.2.1, S.2.2.2.2.1, S.2.2.2.2.2.1, S.2.2.2.2.2.2.1, va_up S.2.2.2.2.2.2.2 a (upd (S.2.2.2.2.2.2.2 a) 3 x)) := by
      refine (va_pl_set hD ha hq0).trans (congrArg (fun l => XB Z S ++ l) (va_pl_congr fun b => ?_))
      by_cases hb : b = a
      · subst hb; simp [va_up, mE, upd, hm]
      · simp [va_up, mE, hb]
    exact va_put (D := Z.2.1) (ci := 2) (v := .int x) (ty := .int) (C := RX2) (T := TX2) (N := 6) hk.1 hk.2.1 hk.2.2.2.2.1 iuX2 tyX2 tyX2_ok nmX2 hk.2.2.2.1 hk.2.2.2.2.2.2.2.1 hP hD hS q hq rfl 3 (by decide) (hk.2.2.2.2.1 _ hlk) hsm rfl (by decide +kernel) rfl rfl (Nat.le_of_ble_eq_true rfl) hd (fun H locs hP hD hS => by
      have hP : va_P Z.2.1 vwCl ((XW Z S).set q (a, .inr (2, [.int (S.2.2.2.2.2.2.2 a 0), .int (S.2.2.2.2.2.2.2 a 1), .int (S.2.2.2.2.2.2.2 a 2), .int x, .int (S.2.2.2.2.2.2.2 a 4), .int (S.2.2.2.2.2.2.2 a 5)]))) H := hP
      have hD : va_D (va_A (XW Z S0) s.heap.size) ((XW Z S).set q (a, .inr (2, [.int (S.2.2.2.2.2.2.2 a 0), .int (S.2.2.2.2.2.2.2 a 1), .int (S.2.2.2.2.2.2.2 a 2), .int x, .int (S.2.2.2.2.2.2.2 a 4), .int (S.2.2.2.2.2.2.2 a 5)]))) := hD
      rw [es] at hP hD
      exact kk p e s m args below meth c S0 po hB hk H locs ls hP hD hS hl)
  · obtain ⟨q, hq0, hq⟩ := x_at (Z := Z) ha hm
    have es : (XW Z S).set q (a, .inr (5, [.int (S.2.2.2.2.2.2.2 a 0), .int (S.2.2.2.2.2.2.2 a 1), .int (S.2.2.2.2.2.2.2 a 2), .int x, .int (S.2.2.2.2.2.2.2 a 4), .int (S.2.2.2.2.2.2.2 a 5)])) = XW Z (S.1, S.2.1, S.2.2.1, S.2.2.2.1, S.2.2.2.2.1, S.2.2.2.2.2.1, S.2.2.2.2.2.2.1, va_up S.2.2.2.2.2.2.2 a (upd (S.2.2.2.2.2.2.2 a) 3 x)) := by
      refine (va_pl_set hD ha hq0).trans (congrArg (fun l => XB Z S ++ l) (va_pl_congr fun b => ?_))
      by_cases hb : b = a
      · subst hb; simp [va_up, mE, upd, hm]
      · simp [va_up, mE, hb]
    exact va_put (D := Z.2.1) (ci := 5) (v := .int x) (ty := .int) (C := RX5) (T := TX5) (N := 6) hk.1 hk.2.1 hk.2.2.2.2.1 iuX5 tyX5 tyX5_ok nmX5 hk.2.2.2.1 hk.2.2.2.2.2.2.2.1 hP hD hS q hq rfl 3 (by decide) (hk.2.2.2.2.1 _ hlk) hsm rfl (by decide +kernel) rfl rfl (Nat.le_of_ble_eq_true rfl) hd (fun H locs hP hD hS => by
      have hP : va_P Z.2.1 vwCl ((XW Z S).set q (a, .inr (5, [.int (S.2.2.2.2.2.2.2 a 0), .int (S.2.2.2.2.2.2.2 a 1), .int (S.2.2.2.2.2.2.2 a 2), .int x, .int (S.2.2.2.2.2.2.2 a 4), .int (S.2.2.2.2.2.2.2 a 5)]))) H := hP
      have hD : va_D (va_A (XW Z S0) s.heap.size) ((XW Z S).set q (a, .inr (5, [.int (S.2.2.2.2.2.2.2 a 0), .int (S.2.2.2.2.2.2.2 a 1), .int (S.2.2.2.2.2.2.2 a 2), .int x, .int (S.2.2.2.2.2.2.2 a 4), .int (S.2.2.2.2.2.2.2 a 5)]))) := hD
      rw [es] at hP hD
      exact kk p e s m args below meth c S0 po hB hk H locs ls hP hD hS hl)
  · obtain ⟨q, hq0, hq⟩ := x_at (Z := Z) ha hm
    have es : (XW Z S).set q (a, .inr (6, [.int (S.2.2.2.2.2.2.2 a 0), .int (S.2.2.2.2.2.2.2 a 1), .int (S.2.2.2.2.2.2.2 a 2), .int x, .int (S.2.2.2.2.2.2.2 a 4), .int (S.2.2.2.2.2.2.2 a 5)])) = XW Z (S.1, S.2.1, S.2.2.1, S.2.2.2.1, S.2.2.2.2.1, S.2.2.2.2.2.1, S.2.2.2.2.2.2.1, va_up S.2.2.2.2.2.2.2 a (upd (S.2.2.2.2.2.2.2 a) 3 x)) := by
      refine (va_pl_set hD ha hq0).trans (congrArg (fun l => XB Z S ++ l) (va_pl_congr fun b => ?_))
      by_cases hb : b = a
      · subst hb; simp [va_up, mE, upd, hm]
      · simp [va_up, mE, hb]
    exact va_put (D := Z.2.1) (ci := 6) (v := .int x) (ty := .int) (C := RX6) (T := TX6) (N := 6) hk.1 hk.2.1 hk.2.2.2.2.1 iuX6 tyX6 tyX6_ok nmX6 hk.2.2.2.1 hk.2.2.2.2.2.2.2.1 hP hD hS q hq rfl 3 (by decide) (hk.2.2.2.2.1 _ hlk) hsm rfl (by decide +kernel) rfl rfl (Nat.le_of_ble_eq_true rfl) hd (fun H locs hP hD hS => by
      have hP : va_P Z.2.1 vwCl ((XW Z S).set q (a, .inr (6, [.int (S.2.2.2.2.2.2.2 a 0), .int (S.2.2.2.2.2.2.2 a 1), .int (S.2.2.2.2.2.2.2 a 2), .int x, .int (S.2.2.2.2.2.2.2 a 4), .int (S.2.2.2.2.2.2.2 a 5)]))) H := hP
      have hD : va_D (va_A (XW Z S0) s.heap.size) ((XW Z S).set q (a, .inr (6, [.int (S.2.2.2.2.2.2.2 a 0), .int (S.2.2.2.2.2.2.2 a 1), .int (S.2.2.2.2.2.2.2 a 2), .int x, .int (S.2.2.2.2.2.2.2 a 4), .int (S.2.2.2.2.2.2.2 a 5)]))) := hD
      rw [es] at hP hD
      exact kk p e s m args below meth c S0 po hB hk H locs ls hP hD hS hl)
  · obtain ⟨q, hq0, hq⟩ := x_at (Z := Z) ha hm
    have es : (XW Z S).set q (a, .inr (9, [.int (S.2.2.2.2.2.2.2 a 0), .int (S.2.2.2.2.2.2.2 a 1), .int (S.2.2.2.2.2.2.2 a 2), .int x, .int (S.2.2.2.2.2.2.2 a 4), .int (S.2.2.2.2.2.2.2 a 5)])) = XW Z (S.1, S.2.1, S.2.2.1, S.2.2.2.1, S.2.2.2.2.1, S.2.2.2.2.2.1, S.2.2.2.2.2.2.1, va_up S.2.2.2.2.2.2.2 a (upd (S.2.2.2.2.2.2.2 a) 3 x)) := by
      refine (va_pl_set hD ha hq0).trans (congrArg (fun l => XB Z S ++ l) (va_pl_congr fun b => ?_))
      by_cases hb : b = a
      · subst hb; simp [va_up, mE, upd, hm]
      · simp [va_up, mE, hb]
    exact va_put (D := Z.2.1) (ci := 9) (v := .int x) (ty := .int) (C := RX9) (T := TX9) (N := 6) hk.1 hk.2.1 hk.2.2.2.2.1 iuX9 tyX9 tyX9_ok nmX9 hk.2.2.2.1 hk.2.2.2.2.2.2.2.1 hP hD hS q hq rfl 3 (by decide) (hk.2.2.2.2.1 _ hlk) hsm rfl (by decide +kernel) rfl rfl (Nat.le_of_ble_eq_true rfl) hd (fun H locs hP hD hS => by
      have hP : va_P Z.2.1 vwCl ((XW Z S).set q (a, .inr (9, [.int (S.2.2.2.2.2.2.2 a 0), .int (S.2.2.2.2.2.2.2 a 1), .int (S.2.2.2.2.2.2.2 a 2), .int x, .int (S.2.2.2.2.2.2.2 a 4), .int (S.2.2.2.2.2.2.2 a 5)]))) H := hP
      have hD : va_D (va_A (XW Z S0) s.heap.size) ((XW Z S).set q (a, .inr (9, [.int (S.2.2.2.2.2.2.2 a 0), .int (S.2.2.2.2.2.2.2 a 1), .int (S.2.2.2.2.2.2.2 a 2), .int x, .int (S.2.2.2.2.2.2.2 a 4), .int (S.2.2.2.2.2.2.2 a 5)]))) := hD
      rw [es] at hP hD
      exact kk p e s m args below meth c S0 po hB hk H locs ls hP hD hS hl)
theorem Xmg_carry {own ref : String} {idx a : Nat} {Z : VZ} {cc : ByteArray} {nL : Nat} {ret : Option FieldType} {d mc ms : Nat} {B : VB XS} {n k pc : Nat} {L : List (Nat × Value)} {st : List Value} {S : XS} {v : Int32} (ha : a ∈ S.2.2.2.2.2.1) (hm : mcl (S.2.2.2.2.2.2.1 a)) (hv : S.2.2.2.2.2.2.2 a 4 = v) (hd : decode cc pc = .ok (.getfield idx, 3)) (hlk : Cond.fieldLink own idx ref "carry" "I" ∈ uw) (hsf : ref = "CarryShifts$Carrying" ∨ Cond.sameField ref "CarryShifts$Carrying" "carry" "I" ∈ uw) (kk : V XW Z cc own nL ret d mc ms B n k (pc + 3) L (.int v :: st) S) : V XW Z cc own nL ret d mc ms B n k pc L (.ref a :: st) S := by
  subst hv
  intro p e s m args below meth c S0 po hB hk H locs ls hP hD hS hl
  have hsm : ∀ x, s.fieldFound? "CarryShifts$Carrying" "carry" "I" = some x → s.fieldFound? ref "carry" "I" = some x := by
    rcases hsf with rfl | hsf
    · exact fun _ h => h
    · exact fun x9 h9 => u_same (hk.2.2.2.2.1 _ hsf) x9 h9
  rcases hm with hm | hm | hm | hm | hm | hm
  · obtain ⟨q, hq0, hq⟩ := x_at (Z := Z) ha hm
    exact va_get (D := Z.2.1) (ci := 0) (C := RX0) (T := TX0) (N := 6) hk.1 hk.2.1 hk.2.2.2.2.1 iuX0 hk.2.2.2.1 hk.2.2.2.2.2.2.2.1 hP q hq rfl 4 (by decide) (hk.2.2.2.2.1 _ hlk) hsm rfl hd (kk p e s m args below meth c S0 po hB hk H locs ls hP hD hS hl)
  · obtain ⟨q, hq0, hq⟩ := x_at (Z := Z) ha hm
    exact va_get (D := Z.2.1) (ci := 1) (C := RX1) (T := TX1) (N := 6) hk.1 hk.2.1 hk.2.2.2.2.1 iuX1 hk.2.2.2.1 hk.2.2.2.2.2.2.2.1 hP q hq rfl 4 (by decide) (hk.2.2.2.2.1 _ hlk) hsm rfl hd (kk p e s m args below meth c S0 po hB hk H locs ls hP hD hS hl)
  · obtain ⟨q, hq0, hq⟩ := x_at (Z := Z) ha hm
    exact va_get (D := Z.2.1) (ci := 2) (C := RX2) (T := TX2) (N := 6) hk.1 hk.2.1 hk.2.2.2.2.1 iuX2 hk.2.2.2.1 hk.2.2.2.2.2.2.2.1 hP q hq rfl 4 (by decide) (hk.2.2.2.2.1 _ hlk) hsm rfl hd (kk p e s m args below meth c S0 po hB hk H locs ls hP hD hS hl)
  · obtain ⟨q, hq0, hq⟩ := x_at (Z := Z) ha hm
    exact va_get (D := Z.2.1) (ci := 5) (C := RX5) (T := TX5) (N := 6) hk.1 hk.2.1 hk.2.2.2.2.1 iuX5 hk.2.2.2.1 hk.2.2.2.2.2.2.2.1 hP q hq rfl 4 (by decide) (hk.2.2.2.2.1 _ hlk) hsm rfl hd (kk p e s m args below meth c S0 po hB hk H locs ls hP hD hS hl)
  · obtain ⟨q, hq0, hq⟩ := x_at (Z := Z) ha hm
    exact va_get (D := Z.2.1) (ci := 6) (C := RX6) (T := TX6) (N := 6) hk.1 hk.2.1 hk.2.2.2.2.1 iuX6 hk.2.2.2.1 hk.2.2.2.2.2.2.2.1 hP q hq rfl 4 (by decide) (hk.2.2.2.2.1 _ hlk) hsm rfl hd (kk p e s m args below meth c S0 po hB hk H locs ls hP hD hS hl)
  · obtain ⟨q, hq0, hq⟩ := x_at (Z := Z) ha hm
    exact va_get (D := Z.2.1) (ci := 9) (C := RX9) (T := TX9) (N := 6) hk.1 hk.2.1 hk.2.2.2.2.1 iuX9 hk.2.2.2.1 hk.2.2.2.2.2.2.2.1 hP q hq rfl 4 (by decide) (hk.2.2.2.2.1 _ hlk) hsm rfl hd (kk p e s m args below meth c S0 po hB hk H locs ls hP hD hS hl)
theorem Xmp_carry {own ref : String} {idx a : Nat} {Z : VZ} {cc : ByteArray} {nL : Nat} {ret : Option FieldType} {d mc ms : Nat} {B : VB XS} {n k pc : Nat} {L : List (Nat × Value)} {st : List Value} {S : XS} {x : Int32} (ha : a ∈ S.2.2.2.2.2.1) (hm : mcl (S.2.2.2.2.2.2.1 a)) (hd : decode cc pc = .ok (.putfield idx, 3)) (hlk : Cond.fieldLink own idx ref "carry" "I" ∈ uw) (hsf : ref = "CarryShifts$Carrying" ∨ Cond.sameField ref "CarryShifts$Carrying" "carry" "I" ∈ uw) (kk : V XW Z cc own nL ret d mc ms B n k (pc + 3) L st (S.1, S.2.1, S.2.2.1, S.2.2.2.1, S.2.2.2.2.1, S.2.2.2.2.2.1, S.2.2.2.2.2.2.1, va_up S.2.2.2.2.2.2.2 a (upd (S.2.2.2.2.2.2.2 a) 4 x))) : V XW Z cc own nL ret d mc ms B n k pc L (.int x :: .ref a :: st) S := by
  intro p e s m args below meth c S0 po hB hk H locs ls hP hD hS hl
  have hsm : ∀ x, s.fieldFound? "CarryShifts$Carrying" "carry" "I" = some x → s.fieldFound? ref "carry" "I" = some x := by
    rcases hsf with rfl | hsf
    · exact fun _ h => h
    · exact fun x9 h9 => u_same (hk.2.2.2.2.1 _ hsf) x9 h9
  rcases hm with hm | hm | hm | hm | hm | hm
  · obtain ⟨q, hq0, hq⟩ := x_at (Z := Z) ha hm
    have es : (XW Z S).set q (a, .inr (0, [.int (S.2.2.2.2.2.2.2 a 0), .int (S.2.2.2.2.2.2.2 a 1), .int (S.2.2.2.2.2.2.2 a 2), .int (S.2.2.2.2.2.2.2 a 3), .int x, .int (S.2.2.2.2.2.2.2 a 5)])) = XW Z (S.1, S.2.1, S.2.2.1, S.2.2.2.1, S.2.2.2.2.1, S.2.2.2.2.2.1, S.2.2.2.2.2.2.1, va_up S.2.2.2.2.2.2.2 a (upd (S.2.2.2.2.2.2.2 a) 4 x)) := by
      refine (va_pl_set hD ha hq0).trans (congrArg (fun l => XB Z S ++ l) (va_pl_congr fun b => ?_))
      by_cases hb : b = a
      · subst hb; simp [va_up, mE, upd, hm]
      · simp [va_up, mE, hb]
    exact va_put (D := Z.2.1) (ci := 0) (v := .int x) (ty := .int) (C := RX0) (T := TX0) (N := 6) hk.1 hk.2.1 hk.2.2.2.2.1 iuX0 tyX0 tyX0_ok nmX0 hk.2.2.2.1 hk.2.2.2.2.2.2.2.1 hP hD hS q hq rfl 4 (by decide) (hk.2.2.2.2.1 _ hlk) hsm rfl (by decide +kernel) rfl rfl (Nat.le_of_ble_eq_true rfl) hd (fun H locs hP hD hS => by
      have hP : va_P Z.2.1 vwCl ((XW Z S).set q (a, .inr (0, [.int (S.2.2.2.2.2.2.2 a 0), .int (S.2.2.2.2.2.2.2 a 1), .int (S.2.2.2.2.2.2.2 a 2), .int (S.2.2.2.2.2.2.2 a 3), .int x, .int (S.2.2.2.2.2.2.2 a 5)]))) H := hP
      have hD : va_D (va_A (XW Z S0) s.heap.size) ((XW Z S).set q (a, .inr (0, [.int (S.2.2.2.2.2.2.2 a 0), .int (S.2.2.2.2.2.2.2 a 1), .int (S.2.2.2.2.2.2.2 a 2), .int (S.2.2.2.2.2.2.2 a 3), .int x, .int (S.2.2.2.2.2.2.2 a 5)]))) := hD
      rw [es] at hP hD
      exact kk p e s m args below meth c S0 po hB hk H locs ls hP hD hS hl)
  · obtain ⟨q, hq0, hq⟩ := x_at (Z := Z) ha hm
    have es : (XW Z S).set q (a, .inr (1, [.int (S.2.2.2.2.2.2.2 a 0), .int (S.2.2.2.2.2.2.2 a 1), .int (S.2.2.2.2.2.2.2 a 2), .int (S.2.2.2.2.2.2.2 a 3), .int x, .int (S.2.2.2.2.2.2.2 a 5)])) = XW Z (S.1, S.2.1, S.2.2.1, S.2.2.2.1, S.2.2.2.2.1, S.2.2.2.2.2.1, S.2.2.2.2.2.2.1, va_up S.2.2.2.2.2.2.2 a (upd (S.2.2.2.2.2.2.2 a) 4 x)) := by
      refine (va_pl_set hD ha hq0).trans (congrArg (fun l => XB Z S ++ l) (va_pl_congr fun b => ?_))
      by_cases hb : b = a
      · subst hb; simp [va_up, mE, upd, hm]
      · simp [va_up, mE, hb]
    exact va_put (D := Z.2.1) (ci := 1) (v := .int x) (ty := .int) (C := RX1) (T := TX1) (N := 6) hk.1 hk.2.1 hk.2.2.2.2.1 iuX1 tyX1 tyX1_ok nmX1 hk.2.2.2.1 hk.2.2.2.2.2.2.2.1 hP hD hS q hq rfl 4 (by decide) (hk.2.2.2.2.1 _ hlk) hsm rfl (by decide +kernel) rfl rfl (Nat.le_of_ble_eq_true rfl) hd (fun H locs hP hD hS => by
      have hP : va_P Z.2.1 vwCl ((XW Z S).set q (a, .inr (1, [.int (S.2.2.2.2.2.2.2 a 0), .int (S.2.2.2.2.2.2.2 a 1), .int (S.2.2.2.2.2.2.2 a 2), .int (S.2.2.2.2.2.2.2 a 3), .int x, .int (S.2.2.2.2.2.2.2 a 5)]))) H := hP
      have hD : va_D (va_A (XW Z S0) s.heap.size) ((XW Z S).set q (a, .inr (1, [.int (S.2.2.2.2.2.2.2 a 0), .int (S.2.2.2.2.2.2.2 a 1), .int (S.2.2.2.2.2.2.2 a 2), .int (S.2.2.2.2.2.2.2 a 3), .int x, .int (S.2.2.2.2.2.2.2 a 5)]))) := hD
      rw [es] at hP hD
      exact kk p e s m args below meth c S0 po hB hk H locs ls hP hD hS hl)
  · obtain ⟨q, hq0, hq⟩ := x_at (Z := Z) ha hm
    have es : (XW Z S).set q (a, .inr (2, [.int (S.2.2.2.2.2.2.2 a 0), .int (S.2.2.2.2.2.2.2 a 1), .int (S.2.2.2.2.2.2.2 a 2), .int (S.2.2.2.2.2.2.2 a 3), .int x, .int (S.2.2.2.2.2.2.2 a 5)])) = XW Z (S.1, S.2.1, S.2.2.1, S.2.2.2.1, S.2.2.2.2.1, S.2.2.2.2.2.1, S.2.2.2.2.2.2.1, va_up S.2.2.2.2.2.2.2 a (upd (S.2.2.2.2.2.2.2 a) 4 x)) := by
      refine (va_pl_set hD ha hq0).trans (congrArg (fun l => XB Z S ++ l) (va_pl_congr fun b => ?_))
      by_cases hb : b = a
      · subst hb; simp [va_up, mE, upd, hm]
      · simp [va_up, mE, hb]
    exact va_put (D := Z.2.1) (ci := 2) (v := .int x) (ty := .int) (C := RX2) (T := TX2) (N := 6) hk.1 hk.2.1 hk.2.2.2.2.1 iuX2 tyX2 tyX2_ok nmX2 hk.2.2.2.1 hk.2.2.2.2.2.2.2.1 hP hD hS q hq rfl 4 (by decide) (hk.2.2.2.2.1 _ hlk) hsm rfl (by decide +kernel) rfl rfl (Nat.le_of_ble_eq_true rfl) hd (fun H locs hP hD hS => by
      have hP : va_P Z.2.1 vwCl ((XW Z S).set q (a, .inr (2, [.int (S.2.2.2.2.2.2.2 a 0), .int (S.2.2.2.2.2.2.2 a 1), .int (S.2.2.2.2.2.2.2 a 2), .int (S.2.2.2.2.2.2.2 a 3), .int x, .int (S.2.2.2.2.2.2.2 a 5)]))) H := hP
      have hD : va_D (va_A (XW Z S0) s.heap.size) ((XW Z S).set q (a, .inr (2, [.int (S.2.2.2.2.2.2.2 a 0), .int (S.2.2.2.2.2.2.2 a 1), .int (S.2.2.2.2.2.2.2 a 2), .int (S.2.2.2.2.2.2.2 a 3), .int x, .int (S.2.2.2.2.2.2.2 a 5)]))) := hD
      rw [es] at hP hD
      exact kk p e s m args below meth c S0 po hB hk H locs ls hP hD hS hl)
  · obtain ⟨q, hq0, hq⟩ := x_at (Z := Z) ha hm
    have es : (XW Z S).set q (a, .inr (5, [.int (S.2.2.2.2.2.2.2 a 0), .int (S.2.2.2.2.2.2.2 a 1), .int (S.2.2.2.2.2.2.2 a 2), .int (S.2.2.2.2.2.2.2 a 3), .int x, .int (S.2.2.2.2.2.2.2 a 5)])) = XW Z (S.1, S.2.1, S.2.2.1, S.2.2.2.1, S.2.2.2.2.1, S.2.2.2.2.2.1, S.2.2.2.2.2.2.1, va_up S.2.2.2.2.2.2.2 a (upd (S.2.2.2.2.2.2.2 a) 4 x)) := by
      refine (va_pl_set hD ha hq0).trans (congrArg (fun l => XB Z S ++ l) (va_pl_congr fun b => ?_))
      by_cases hb : b = a
      · subst hb; simp [va_up, mE, upd, hm]
      · simp [va_up, mE, hb]
    exact va_put (D := Z.2.1) (ci := 5) (v := .int x) (ty := .int) (C := RX5) (T := TX5) (N := 6) hk.1 hk.2.1 hk.2.2.2.2.1 iuX5 tyX5 tyX5_ok nmX5 hk.2.2.2.1 hk.2.2.2.2.2.2.2.1 hP hD hS q hq rfl 4 (by decide) (hk.2.2.2.2.1 _ hlk) hsm rfl (by decide +kernel) rfl rfl (Nat.le_of_ble_eq_true rfl) hd (fun H locs hP hD hS => by
      have hP : va_P Z.2.1 vwCl ((XW Z S).set q (a, .inr (5, [.int (S.2.2.2.2.2.2.2 a 0), .int (S.2.2.2.2.2.2.2 a 1), .int (S.2.2.2.2.2.2.2 a 2), .int (S.2.2.2.2.2.2.2 a 3), .int x, .int (S.2.2.2.2.2.2.2 a 5)]))) H := hP
      have hD : va_D (va_A (XW Z S0) s.heap.size) ((XW Z S).set q (a, .inr (5, [.int (S.2.2.2.2.2.2.2 a 0), .int (S.2.2.2.2.2.2.2 a 1), .int (S.2.2.2.2.2.2.2 a 2), .int (S.2.2.2.2.2.2.2 a 3), .int x, .int (S.2.2.2.2.2.2.2 a 5)]))) := hD
      rw [es] at hP hD
      exact kk p e s m args below meth c S0 po hB hk H locs ls hP hD hS hl)
  · obtain ⟨q, hq0, hq⟩ := x_at (Z := Z) ha hm
    have es : (XW Z S).set q (a, .inr (6, [.int (S.2.2.2.2.2.2.2 a 0), .int (S.2.2.2.2.2.2.2 a 1), .int (S.2.2.2.2.2.2.2 a 2), .int (S.2.2.2.2.2.2.2 a 3), .int x, .int (S.2.2.2.2.2.2.2 a 5)])) = XW Z (S.1, S.2.1, S.2.2.1, S.2.2.2.1, S.2.2.2.2.1, S.2.2.2.2.2.1, S.2.2.2.2.2.2.1, va_up S.2.2.2.2.2.2.2 a (upd (S.2.2.2.2.2.2.2 a) 4 x)) := by
      refine (va_pl_set hD ha hq0).trans (congrArg (fun l => XB Z S ++ l) (va_pl_congr fun b => ?_))
      by_cases hb : b = a
      · subst hb; simp [va_up, mE, upd, hm]
      · simp [va_up, mE, hb]
    exact va_put (D := Z.2.1) (ci := 6) (v := .int x) (ty := .int) (C := RX6) (T := TX6) (N := 6) hk.1 hk.2.1 hk.2.2.2.2.1 iuX6 tyX6 tyX6_ok nmX6 hk.2.2.2.1 hk.2.2.2.2.2.2.2.1 hP hD hS q hq rfl 4 (by decide) (hk.2.2.2.2.1 _ hlk) hsm rfl (by decide +kernel) rfl rfl (Nat.le_of_ble_eq_true rfl) hd (fun H locs hP hD hS => by
      have hP : va_P Z.2.1 vwCl ((XW Z S).set q (a, .inr (6, [.int (S.2.2.2.2.2.2.2 a 0), .int (S.2.2.2.2.2.2.2 a 1), .int (S.2.2.2.2.2.2.2 a 2), .int (S.2.2.2.2.2.2.2 a 3), .int x, .int (S.2.2.2.2.2.2.2 a 5)]))) H := hP
      have hD : va_D (va_A (XW Z S0) s.heap.size) ((XW Z S).set q (a, .inr (6, [.int (S.2.2.2.2.2.2.2 a 0), .int (S.2.2.2.2.2.2.2 a 1), .int (S.2.2.2.2.2.2.2 a 2), .int (S.2.2.2.2.2.2.2 a 3), .int x, .int (S.2.2.2.2.2.2.2 a 5)]))) := hD
      rw [es] at hP hD
      exact kk p e s m args below meth c S0 po hB hk H locs ls hP hD hS hl)
  · obtain ⟨q, hq0, hq⟩ := x_at (Z := Z) ha hm
    have es : (XW Z S).set q (a, .inr (9, [.int (S.2.2.2.2.2.2.2 a 0), .int (S.2.2.2.2.2.2.2 a 1), .int (S.2.2.2.2.2.2.2 a 2), .int (S.2.2.2.2.2.2.2 a 3), .int x, .int (S.2.2.2.2.2.2.2 a 5)])) = XW Z (S.1, S.2.1, S.2.2.1, S.2.2.2.1, S.2.2.2.2.1, S.2.2.2.2.2.1, S.2.2.2.2.2.2.1, va_up S.2.2.2.2.2.2.2 a (upd (S.2.2.2.2.2.2.2 a) 4 x)) := by
      refine (va_pl_set hD ha hq0).trans (congrArg (fun l => XB Z S ++ l) (va_pl_congr fun b => ?_))
      by_cases hb : b = a
      · subst hb; simp [va_up, mE, upd, hm]
      · simp [va_up, mE, hb]
    exact va_put (D := Z.2.1) (ci := 9) (v := .int x) (ty := .int) (C := RX9) (T := TX9) (N := 6) hk.1 hk.2.1 hk.2.2.2.2.1 iuX9 tyX9 tyX9_ok nmX9 hk.2.2.2.1 hk.2.2.2.2.2.2.2.1 hP hD hS q hq rfl 4 (by decide) (hk.2.2.2.2.1 _ hlk) hsm rfl (by decide +kernel) rfl rfl (Nat.le_of_ble_eq_true rfl) hd (fun H locs hP hD hS => by
      have hP : va_P Z.2.1 vwCl ((XW Z S).set q (a, .inr (9, [.int (S.2.2.2.2.2.2.2 a 0), .int (S.2.2.2.2.2.2.2 a 1), .int (S.2.2.2.2.2.2.2 a 2), .int (S.2.2.2.2.2.2.2 a 3), .int x, .int (S.2.2.2.2.2.2.2 a 5)]))) H := hP
      have hD : va_D (va_A (XW Z S0) s.heap.size) ((XW Z S).set q (a, .inr (9, [.int (S.2.2.2.2.2.2.2 a 0), .int (S.2.2.2.2.2.2.2 a 1), .int (S.2.2.2.2.2.2.2 a 2), .int (S.2.2.2.2.2.2.2 a 3), .int x, .int (S.2.2.2.2.2.2.2 a 5)]))) := hD
      rw [es] at hP hD
      exact kk p e s m args below meth c S0 po hB hk H locs ls hP hD hS hl)
theorem Xmg_digits {own ref : String} {idx a : Nat} {Z : VZ} {cc : ByteArray} {nL : Nat} {ret : Option FieldType} {d mc ms : Nat} {B : VB XS} {n k pc : Nat} {L : List (Nat × Value)} {st : List Value} {S : XS} {v : Int32} (ha : a ∈ S.2.2.2.2.2.1) (hm : mcl (S.2.2.2.2.2.2.1 a)) (hv : S.2.2.2.2.2.2.2 a 5 = v) (hd : decode cc pc = .ok (.getfield idx, 3)) (hlk : Cond.fieldLink own idx ref "digits" "I" ∈ uw) (hsf : ref = "CarryShifts$Carrying" ∨ Cond.sameField ref "CarryShifts$Carrying" "digits" "I" ∈ uw) (kk : V XW Z cc own nL ret d mc ms B n k (pc + 3) L (.int v :: st) S) : V XW Z cc own nL ret d mc ms B n k pc L (.ref a :: st) S := by
  subst hv
  intro p e s m args below meth c S0 po hB hk H locs ls hP hD hS hl
  have hsm : ∀ x, s.fieldFound? "CarryShifts$Carrying" "digits" "I" = some x → s.fieldFound? ref "digits" "I" = some x := by
    rcases hsf with rfl | hsf
    · exact fun _ h => h
    · exact fun x9 h9 => u_same (hk.2.2.2.2.1 _ hsf) x9 h9
  rcases hm with hm | hm | hm | hm | hm | hm
  · obtain ⟨q, hq0, hq⟩ := x_at (Z := Z) ha hm
    exact va_get (D := Z.2.1) (ci := 0) (C := RX0) (T := TX0) (N := 6) hk.1 hk.2.1 hk.2.2.2.2.1 iuX0 hk.2.2.2.1 hk.2.2.2.2.2.2.2.1 hP q hq rfl 5 (by decide) (hk.2.2.2.2.1 _ hlk) hsm rfl hd (kk p e s m args below meth c S0 po hB hk H locs ls hP hD hS hl)
  · obtain ⟨q, hq0, hq⟩ := x_at (Z := Z) ha hm
    exact va_get (D := Z.2.1) (ci := 1) (C := RX1) (T := TX1) (N := 6) hk.1 hk.2.1 hk.2.2.2.2.1 iuX1 hk.2.2.2.1 hk.2.2.2.2.2.2.2.1 hP q hq rfl 5 (by decide) (hk.2.2.2.2.1 _ hlk) hsm rfl hd (kk p e s m args below meth c S0 po hB hk H locs ls hP hD hS hl)
  · obtain ⟨q, hq0, hq⟩ := x_at (Z := Z) ha hm
    exact va_get (D := Z.2.1) (ci := 2) (C := RX2) (T := TX2) (N := 6) hk.1 hk.2.1 hk.2.2.2.2.1 iuX2 hk.2.2.2.1 hk.2.2.2.2.2.2.2.1 hP q hq rfl 5 (by decide) (hk.2.2.2.2.1 _ hlk) hsm rfl hd (kk p e s m args below meth c S0 po hB hk H locs ls hP hD hS hl)
  · obtain ⟨q, hq0, hq⟩ := x_at (Z := Z) ha hm
    exact va_get (D := Z.2.1) (ci := 5) (C := RX5) (T := TX5) (N := 6) hk.1 hk.2.1 hk.2.2.2.2.1 iuX5 hk.2.2.2.1 hk.2.2.2.2.2.2.2.1 hP q hq rfl 5 (by decide) (hk.2.2.2.2.1 _ hlk) hsm rfl hd (kk p e s m args below meth c S0 po hB hk H locs ls hP hD hS hl)
  · obtain ⟨q, hq0, hq⟩ := x_at (Z := Z) ha hm
    exact va_get (D := Z.2.1) (ci := 6) (C := RX6) (T := TX6) (N := 6) hk.1 hk.2.1 hk.2.2.2.2.1 iuX6 hk.2.2.2.1 hk.2.2.2.2.2.2.2.1 hP q hq rfl 5 (by decide) (hk.2.2.2.2.1 _ hlk) hsm rfl hd (kk p e s m args below meth c S0 po hB hk H locs ls hP hD hS hl)
  · obtain ⟨q, hq0, hq⟩ := x_at (Z := Z) ha hm
    exact va_get (D := Z.2.1) (ci := 9) (C := RX9) (T := TX9) (N := 6) hk.1 hk.2.1 hk.2.2.2.2.1 iuX9 hk.2.2.2.1 hk.2.2.2.2.2.2.2.1 hP q hq rfl 5 (by decide) (hk.2.2.2.2.1 _ hlk) hsm rfl hd (kk p e s m args below meth c S0 po hB hk H locs ls hP hD hS hl)
theorem Xmp_digits {own ref : String} {idx a : Nat} {Z : VZ} {cc : ByteArray} {nL : Nat} {ret : Option FieldType} {d mc ms : Nat} {B : VB XS} {n k pc : Nat} {L : List (Nat × Value)} {st : List Value} {S : XS} {x : Int32} (ha : a ∈ S.2.2.2.2.2.1) (hm : mcl (S.2.2.2.2.2.2.1 a)) (hd : decode cc pc = .ok (.putfield idx, 3)) (hlk : Cond.fieldLink own idx ref "digits" "I" ∈ uw) (hsf : ref = "CarryShifts$Carrying" ∨ Cond.sameField ref "CarryShifts$Carrying" "digits" "I" ∈ uw) (kk : V XW Z cc own nL ret d mc ms B n k (pc + 3) L st (S.1, S.2.1, S.2.2.1, S.2.2.2.1, S.2.2.2.2.1, S.2.2.2.2.2.1, S.2.2.2.2.2.2.1, va_up S.2.2.2.2.2.2.2 a (upd (S.2.2.2.2.2.2.2 a) 5 x))) : V XW Z cc own nL ret d mc ms B n k pc L (.int x :: .ref a :: st) S := by
  intro p e s m args below meth c S0 po hB hk H locs ls hP hD hS hl
  have hsm : ∀ x, s.fieldFound? "CarryShifts$Carrying" "digits" "I" = some x → s.fieldFound? ref "digits" "I" = some x := by
    rcases hsf with rfl | hsf
    · exact fun _ h => h
    · exact fun x9 h9 => u_same (hk.2.2.2.2.1 _ hsf) x9 h9
  rcases hm with hm | hm | hm | hm | hm | hm
  · obtain ⟨q, hq0, hq⟩ := x_at (Z := Z) ha hm
    have es : (XW Z S).set q (a, .inr (0, [.int (S.2.2.2.2.2.2.2 a 0), .int (S.2.2.2.2.2.2.2 a 1), .int (S.2.2.2.2.2.2.2 a 2), .int (S.2.2.2.2.2.2.2 a 3), .int (S.2.2.2.2.2.2.2 a 4), .int x])) = XW Z (S.1, S.2.1, S.2.2.1, S.2.2.2.1, S.2.2.2.2.1, S.2.2.2.2.2.1, S.2.2.2.2.2.2.1, va_up S.2.2.2.2.2.2.2 a (upd (S.2.2.2.2.2.2.2 a) 5 x)) := by
      refine (va_pl_set hD ha hq0).trans (congrArg (fun l => XB Z S ++ l) (va_pl_congr fun b => ?_))
      by_cases hb : b = a
      · subst hb; simp [va_up, mE, upd, hm]
      · simp [va_up, mE, hb]
    exact va_put (D := Z.2.1) (ci := 0) (v := .int x) (ty := .int) (C := RX0) (T := TX0) (N := 6) hk.1 hk.2.1 hk.2.2.2.2.1 iuX0 tyX0 tyX0_ok nmX0 hk.2.2.2.1 hk.2.2.2.2.2.2.2.1 hP hD hS q hq rfl 5 (by decide) (hk.2.2.2.2.1 _ hlk) hsm rfl (by decide +kernel) rfl rfl (Nat.le_of_ble_eq_true rfl) hd (fun H locs hP hD hS => by
      have hP : va_P Z.2.1 vwCl ((XW Z S).set q (a, .inr (0, [.int (S.2.2.2.2.2.2.2 a 0), .int (S.2.2.2.2.2.2.2 a 1), .int (S.2.2.2.2.2.2.2 a 2), .int (S.2.2.2.2.2.2.2 a 3), .int (S.2.2.2.2.2.2.2 a 4), .int x]))) H := hP
      have hD : va_D (va_A (XW Z S0) s.heap.size) ((XW Z S).set q (a, .inr (0, [.int (S.2.2.2.2.2.2.2 a 0), .int (S.2.2.2.2.2.2.2 a 1), .int (S.2.2.2.2.2.2.2 a 2), .int (S.2.2.2.2.2.2.2 a 3), .int (S.2.2.2.2.2.2.2 a 4), .int x]))) := hD
      rw [es] at hP hD
      exact kk p e s m args below meth c S0 po hB hk H locs ls hP hD hS hl)
  · obtain ⟨q, hq0, hq⟩ := x_at (Z := Z) ha hm
    have es : (XW Z S).set q (a, .inr (1, [.int (S.2.2.2.2.2.2.2 a 0), .int (S.2.2.2.2.2.2.2 a 1), .int (S.2.2.2.2.2.2.2 a 2), .int (S.2.2.2.2.2.2.2 a 3), .int (S.2.2.2.2.2.2.2 a 4), .int x])) = XW Z (S.1, S.2.1, S.2.2.1, S.2.2.2.1, S.2.2.2.2.1, S.2.2.2.2.2.1, S.2.2.2.2.2.2.1, va_up S.2.2.2.2.2.2.2 a (upd (S.2.2.2.2.2.2.2 a) 5 x)) := by
      refine (va_pl_set hD ha hq0).trans (congrArg (fun l => XB Z S ++ l) (va_pl_congr fun b => ?_))
      by_cases hb : b = a
      · subst hb; simp [va_up, mE, upd, hm]
      · simp [va_up, mE, hb]
    exact va_put (D := Z.2.1) (ci := 1) (v := .int x) (ty := .int) (C := RX1) (T := TX1) (N := 6) hk.1 hk.2.1 hk.2.2.2.2.1 iuX1 tyX1 tyX1_ok nmX1 hk.2.2.2.1 hk.2.2.2.2.2.2.2.1 hP hD hS q hq rfl 5 (by decide) (hk.2.2.2.2.1 _ hlk) hsm rfl (by decide +kernel) rfl rfl (Nat.le_of_ble_eq_true rfl) hd (fun H locs hP hD hS => by
      have hP : va_P Z.2.1 vwCl ((XW Z S).set q (a, .inr (1, [.int (S.2.2.2.2.2.2.2 a 0), .int (S.2.2.2.2.2.2.2 a 1), .int (S.2.2.2.2.2.2.2 a 2), .int (S.2.2.2.2.2.2.2 a 3), .int (S.2.2.2.2.2.2.2 a 4), .int x]))) H := hP
      have hD : va_D (va_A (XW Z S0) s.heap.size) ((XW Z S).set q (a, .inr (1, [.int (S.2.2.2.2.2.2.2 a 0), .int (S.2.2.2.2.2.2.2 a 1), .int (S.2.2.2.2.2.2.2 a 2), .int (S.2.2.2.2.2.2.2 a 3), .int (S.2.2.2.2.2.2.2 a 4), .int x]))) := hD
      rw [es] at hP hD
      exact kk p e s m args below meth c S0 po hB hk H locs ls hP hD hS hl)
  · obtain ⟨q, hq0, hq⟩ := x_at (Z := Z) ha hm
    have es : (XW Z S).set q (a, .inr (2, [.int (S.2.2.2.2.2.2.2 a 0), .int (S.2.2.2.2.2.2.2 a 1), .int (S.2.2.2.2.2.2.2 a 2), .int (S.2.2.2.2.2.2.2 a 3), .int (S.2.2.2.2.2.2.2 a 4), .int x])) = XW Z (S.1, S.2.1, S.2.2.1, S.2.2.2.1, S.2.2.2.2.1, S.2.2.2.2.2.1, S.2.2.2.2.2.2.1, va_up S.2.2.2.2.2.2.2 a (upd (S.2.2.2.2.2.2.2 a) 5 x)) := by
      refine (va_pl_set hD ha hq0).trans (congrArg (fun l => XB Z S ++ l) (va_pl_congr fun b => ?_))
      by_cases hb : b = a
      · subst hb; simp [va_up, mE, upd, hm]
      · simp [va_up, mE, hb]
    exact va_put (D := Z.2.1) (ci := 2) (v := .int x) (ty := .int) (C := RX2) (T := TX2) (N := 6) hk.1 hk.2.1 hk.2.2.2.2.1 iuX2 tyX2 tyX2_ok nmX2 hk.2.2.2.1 hk.2.2.2.2.2.2.2.1 hP hD hS q hq rfl 5 (by decide) (hk.2.2.2.2.1 _ hlk) hsm rfl (by decide +kernel) rfl rfl (Nat.le_of_ble_eq_true rfl) hd (fun H locs hP hD hS => by
      have hP : va_P Z.2.1 vwCl ((XW Z S).set q (a, .inr (2, [.int (S.2.2.2.2.2.2.2 a 0), .int (S.2.2.2.2.2.2.2 a 1), .int (S.2.2.2.2.2.2.2 a 2), .int (S.2.2.2.2.2.2.2 a 3), .int (S.2.2.2.2.2.2.2 a 4), .int x]))) H := hP
      have hD : va_D (va_A (XW Z S0) s.heap.size) ((XW Z S).set q (a, .inr (2, [.int (S.2.2.2.2.2.2.2 a 0), .int (S.2.2.2.2.2.2.2 a 1), .int (S.2.2.2.2.2.2.2 a 2), .int (S.2.2.2.2.2.2.2 a 3), .int (S.2.2.2.2.2.2.2 a 4), .int x]))) := hD
      rw [es] at hP hD
      exact kk p e s m args below meth c S0 po hB hk H locs ls hP hD hS hl)
  · obtain ⟨q, hq0, hq⟩ := x_at (Z := Z) ha hm
    have es : (XW Z S).set q (a, .inr (5, [.int (S.2.2.2.2.2.2.2 a 0), .int (S.2.2.2.2.2.2.2 a 1), .int (S.2.2.2.2.2.2.2 a 2), .int (S.2.2.2.2.2.2.2 a 3), .int (S.2.2.2.2.2.2.2 a 4), .int x])) = XW Z (S.1, S.2.1, S.2.2.1, S.2.2.2.1, S.2.2.2.2.1, S.2.2.2.2.2.1, S.2.2.2.2.2.2.1, va_up S.2.2.2.2.2.2.2 a (upd (S.2.2.2.2.2.2.2 a) 5 x)) := by
      refine (va_pl_set hD ha hq0).trans (congrArg (fun l => XB Z S ++ l) (va_pl_congr fun b => ?_))
      by_cases hb : b = a
      · subst hb; simp [va_up, mE, upd, hm]
      · simp [va_up, mE, hb]
    exact va_put (D := Z.2.1) (ci := 5) (v := .int x) (ty := .int) (C := RX5) (T := TX5) (N := 6) hk.1 hk.2.1 hk.2.2.2.2.1 iuX5 tyX5 tyX5_ok nmX5 hk.2.2.2.1 hk.2.2.2.2.2.2.2.1 hP hD hS q hq rfl 5 (by decide) (hk.2.2.2.2.1 _ hlk) hsm rfl (by decide +kernel) rfl rfl (Nat.le_of_ble_eq_true rfl) hd (fun H locs hP hD hS => by
      have hP : va_P Z.2.1 vwCl ((XW Z S).set q (a, .inr (5, [.int (S.2.2.2.2.2.2.2 a 0), .int (S.2.2.2.2.2.2.2 a 1), .int (S.2.2.2.2.2.2.2 a 2), .int (S.2.2.2.2.2.2.2 a 3), .int (S.2.2.2.2.2.2.2 a 4), .int x]))) H := hP
      have hD : va_D (va_A (XW Z S0) s.heap.size) ((XW Z S).set q (a, .inr (5, [.int (S.2.2.2.2.2.2.2 a 0), .int (S.2.2.2.2.2.2.2 a 1), .int (S.2.2.2.2.2.2.2 a 2), .int (S.2.2.2.2.2.2.2 a 3), .int (S.2.2.2.2.2.2.2 a 4), .int x]))) := hD
      rw [es] at hP hD
      exact kk p e s m args below meth c S0 po hB hk H locs ls hP hD hS hl)
  · obtain ⟨q, hq0, hq⟩ := x_at (Z := Z) ha hm
    have es : (XW Z S).set q (a, .inr (6, [.int (S.2.2.2.2.2.2.2 a 0), .int (S.2.2.2.2.2.2.2 a 1), .int (S.2.2.2.2.2.2.2 a 2), .int (S.2.2.2.2.2.2.2 a 3), .int (S.2.2.2.2.2.2.2 a 4), .int x])) = XW Z (S.1, S.2.1, S.2.2.1, S.2.2.2.1, S.2.2.2.2.1, S.2.2.2.2.2.1, S.2.2.2.2.2.2.1, va_up S.2.2.2.2.2.2.2 a (upd (S.2.2.2.2.2.2.2 a) 5 x)) := by
      refine (va_pl_set hD ha hq0).trans (congrArg (fun l => XB Z S ++ l) (va_pl_congr fun b => ?_))
      by_cases hb : b = a
      · subst hb; simp [va_up, mE, upd, hm]
      · simp [va_up, mE, hb]
    exact va_put (D := Z.2.1) (ci := 6) (v := .int x) (ty := .int) (C := RX6) (T := TX6) (N := 6) hk.1 hk.2.1 hk.2.2.2.2.1 iuX6 tyX6 tyX6_ok nmX6 hk.2.2.2.1 hk.2.2.2.2.2.2.2.1 hP hD hS q hq rfl 5 (by decide) (hk.2.2.2.2.1 _ hlk) hsm rfl (by decide +kernel) rfl rfl (Nat.le_of_ble_eq_true rfl) hd (fun H locs hP hD hS => by
      have hP : va_P Z.2.1 vwCl ((XW Z S).set q (a, .inr (6, [.int (S.2.2.2.2.2.2.2 a 0), .int (S.2.2.2.2.2.2.2 a 1), .int (S.2.2.2.2.2.2.2 a 2), .int (S.2.2.2.2.2.2.2 a 3), .int (S.2.2.2.2.2.2.2 a 4), .int x]))) H := hP
      have hD : va_D (va_A (XW Z S0) s.heap.size) ((XW Z S).set q (a, .inr (6, [.int (S.2.2.2.2.2.2.2 a 0), .int (S.2.2.2.2.2.2.2 a 1), .int (S.2.2.2.2.2.2.2 a 2), .int (S.2.2.2.2.2.2.2 a 3), .int (S.2.2.2.2.2.2.2 a 4), .int x]))) := hD
      rw [es] at hP hD
      exact kk p e s m args below meth c S0 po hB hk H locs ls hP hD hS hl)
  · obtain ⟨q, hq0, hq⟩ := x_at (Z := Z) ha hm
    have es : (XW Z S).set q (a, .inr (9, [.int (S.2.2.2.2.2.2.2 a 0), .int (S.2.2.2.2.2.2.2 a 1), .int (S.2.2.2.2.2.2.2 a 2), .int (S.2.2.2.2.2.2.2 a 3), .int (S.2.2.2.2.2.2.2 a 4), .int x])) = XW Z (S.1, S.2.1, S.2.2.1, S.2.2.2.1, S.2.2.2.2.1, S.2.2.2.2.2.1, S.2.2.2.2.2.2.1, va_up S.2.2.2.2.2.2.2 a (upd (S.2.2.2.2.2.2.2 a) 5 x)) := by
      refine (va_pl_set hD ha hq0).trans (congrArg (fun l => XB Z S ++ l) (va_pl_congr fun b => ?_))
      by_cases hb : b = a
      · subst hb; simp [va_up, mE, upd, hm]
      · simp [va_up, mE, hb]
    exact va_put (D := Z.2.1) (ci := 9) (v := .int x) (ty := .int) (C := RX9) (T := TX9) (N := 6) hk.1 hk.2.1 hk.2.2.2.2.1 iuX9 tyX9 tyX9_ok nmX9 hk.2.2.2.1 hk.2.2.2.2.2.2.2.1 hP hD hS q hq rfl 5 (by decide) (hk.2.2.2.2.1 _ hlk) hsm rfl (by decide +kernel) rfl rfl (Nat.le_of_ble_eq_true rfl) hd (fun H locs hP hD hS => by
      have hP : va_P Z.2.1 vwCl ((XW Z S).set q (a, .inr (9, [.int (S.2.2.2.2.2.2.2 a 0), .int (S.2.2.2.2.2.2.2 a 1), .int (S.2.2.2.2.2.2.2 a 2), .int (S.2.2.2.2.2.2.2 a 3), .int (S.2.2.2.2.2.2.2 a 4), .int x]))) H := hP
      have hD : va_D (va_A (XW Z S0) s.heap.size) ((XW Z S).set q (a, .inr (9, [.int (S.2.2.2.2.2.2.2 a 0), .int (S.2.2.2.2.2.2.2 a 1), .int (S.2.2.2.2.2.2.2 a 2), .int (S.2.2.2.2.2.2.2 a 3), .int (S.2.2.2.2.2.2.2 a 4), .int x]))) := hD
      rw [es] at hP hD
      exact kk p e s m args below meth c S0 po hB hk H locs ls hP hD hS hl)
