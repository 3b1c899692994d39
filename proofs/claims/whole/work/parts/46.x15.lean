theorem ofWF {l : Launch} {y : MethodName} {ws ws' : List Cond} {rm : Room} {Pc : Array Value → State → Prop} {Qc : Array Value → State → Outcome → State → Prop} {mc ms : Nat} {free : Addr → Prop} {cc : ByteArray} {maxL : Nat} {ret : Option FieldType} (hy : plainFor y = true) (hw : ws = Cond.code y cc maxL ret :: ws')
    (body : ∀ p e s m args below meth c s₁, BodyLoose p l y (headSpec ws rm) cc maxL ret e s m args below meth c s₁ → c.maxLocals = maxL → Pc args s → W p l e (headSpec ws rm).room s m args below meth c s.heap [] 0 0 (MQ below Qc args s mc ms free) (entryFrame m args maxL)) : Met l y ws rm Pc Qc mc ms free := by
  refine MetFree.of_bodySF (code := cc) (maxLocals := maxL) (ret := ret) hy ?_ ?_
  · intro args s m h hn
    obtain ⟨meth, c, h1, h2, h3, h4, h5, h6, -, -⟩ := Cond.code_spec hn (atoms_spec (ws := ws) h _ (by rw [hw]; exact List.mem_cons_self))
    exact ⟨meth, c, h1, h2, h3, h4, h5, h6⟩
  · intro p e s m args below meth c s₁ B hml hP _
    have hh0 : s₁.heap = s.heap := by rw [B.state]; rfl
    obtain ⟨t, a1, o, b1, b2, b3⟩ := body p e s m args below meth c s₁ B hml hP s₁ hh0 (Stand.of_body B)
    exact ⟨t, o, a1, b1, b2, ⟨b3.1, b3.2⟩⟩
theorem V_entryF {St : Type} {Wd : VZ → St → va_W} {Z : VZ} {y : MethodName} {cc : ByteArray} {own : String} {nL : Nat} {ret : Option FieldType} {d mc ms : Nat} {av : List Value} {S0 : St} {po : Option Value → St → Prop} (hpn : plainFor y = true) (ho : y.cls = own) (hlen : (lg_sl av).length ≤ nL)
    (body : ∀ B : VB St, (∀ (v : Option Value) (S : St), po v S → vpo B v S) → V Wd Z cc own nL ret d mc ms B 0 0 0 (lv_args 0 av) [] S0) : Ct Wd Z y cc nL ret d mc ms av S0 po := by
  intro sz
  refine ofWF (cc := cc) (maxL := nL) (ret := ret) hpn rfl ?_
  intro p e s m args below meth c s₁ Bd hml hv
  obtain ⟨rfl, hsz, hP, hK, hD0⟩ := hv
  subst hsz
  subst ho
  have hts := atoms_spec (ws := .code y cc nL ret :: uw) Bd.pre
  have X := body (p, e, s, m, av.toArray, below, meth, c, S0, po) (fun v S h => h) p e s m _ below meth c S0 po rfl ⟨Bd.exec, Bd.bytes, hml, findClass_of_methodNamed Bd.named, fun w hw => hts w (List.mem_cons_of_mem _ hw), Bd.returns, Bd.notSynchronized, hK⟩ s.heap [] _ hP hD0.self va_S.rf (lv_entry av hlen)
  rw [lg_entry_eq]
  exact X
abbrev us32 (x s : Int32) : Int32 := (Int32.toUInt32 x >>> (Int32.toUInt32 s &&& Int32.toUInt32 31)).toInt32
abbrev us64 (x : Int64) (s : Int32) : Int64 := (Int64.toUInt64 x >>> ((Int32.toInt64 s).toUInt64 &&& Int64.toUInt64 63)).toInt64
abbrev lbt (b : Int64) (i : Int32) : Int64 := us64 b i &&& 1
def tz5 (n y : Int32) : Int32 := n + us32 y 1
def tz4 (n y : Int32) : Int32 := if y ≤ 4 then tz5 n y else tz5 (n + 2) (us32 y 2)
def tz3 (n y : Int32) : Int32 := if y ≤ 16 then tz4 n y else tz4 (n + 4) (us32 y 4)
def tz2 (n y : Int32) : Int32 := if y ≤ 256 then tz3 n y else tz3 (n + 8) (us32 y 8)
def tz1 (n y : Int32) : Int32 := if y ≤ 65536 then tz2 n y else tz2 (n + 16) (us32 y 16)
def tz0 (y : Int32) : Int32 := if 0 < y then tz1 1 y else y &&& 32
def ntzI (x : Int32) : Int32 := tz0 ((x ^^^ (-1)) &&& (x - 1))
def ntzL (x : Int64) : Int32 := if x.toInt32 = 0 then 32 + ntzI (us64 x 32).toInt32 else ntzI x.toInt32
def lz5 (n y : Int32) : Int32 := n - us32 y 1
def lz4 (n y : Int32) : Int32 := if y < 4 then lz5 n y else lz5 (n + (-2)) (us32 y 2)
def lz3 (n y : Int32) : Int32 := if y < 16 then lz4 n y else lz4 (n + (-4)) (us32 y 4)
def lz2 (n y : Int32) : Int32 := if y < 256 then lz3 n y else lz3 (n + (-8)) (us32 y 8)
def lz1 (n y : Int32) : Int32 := if y < 65536 then lz2 n y else lz2 (n + (-16)) (us32 y 16)
def nlzI (x : Int32) : Int32 := if 0 < x then lz1 31 x else if x = 0 then 32 else 0
def nlzL (x : Int64) : Int32 := if (us64 x 32).toInt32 = 0 then 32 + nlzI x.toInt32 else nlzI (us64 x 32).toInt32
def lcA (x : Int64) : Int64 := x - (us64 x 1 &&& 6148914691236517205)
def lcB (x : Int64) : Int64 := (x &&& 3689348814741910323) + (us64 x 2 &&& 3689348814741910323)
def lcC (x : Int64) : Int64 := (x + us64 x 4) &&& 1085102592571150095
def lcD (x : Int64) (k : Int32) : Int64 := x + us64 x k
def lbc (x : Int64) : Int32 := (lcD (lcD (lcD (lcC (lcB (lcA x))) 8) 16) 32).toInt32 &&& 127
def flD (a b : Int64) : Int64 := if 0 ≤ lg_cmp (a ^^^ b) 0 then a / b else if lg_cmp (a / b * b) a = 0 then a / b else a / b - 1
set_option maxHeartbeats 4000000 in
set_option maxRecDepth 100000 in
theorem c_J6_numberOfTrailingZeros_0f7a4 (Z : VZ) (S : XS) (x_ : Int32) : CtF XW Z yJ6_numberOfTrailingZeros_0f7a4 cJ6_numberOfTrailingZeros_0f7a4 2 (some .int) 0 0 0 [.int x_] (S) (some (.int (ntzI x_))) (S) := by
  refine V_entry (own := RJ6) (by decide) rfl (Nat.le_of_ble_eq_true rfl) ?_
  intro B hB
  refine V_sub (L' := [(0, .int x_)]) [0] rfl ?_
  refine V_iload_n (pc := 0) dJ6_numberOfTrailingZeros_0f7a4_0 0 rfl rfl ?_
  refine V_iconst (v := (-1)) (pc := 1) dJ6_numberOfTrailingZeros_0f7a4_1 (by decide) ?_
  refine V_ixor (pc := 2) dJ6_numberOfTrailingZeros_0f7a4_2 ?_
  refine V_iload_n (pc := 3) dJ6_numberOfTrailingZeros_0f7a4_3 0 rfl rfl ?_
  refine V_iconst (v := 1) (pc := 4) dJ6_numberOfTrailingZeros_0f7a4_4 (by decide) ?_
  refine V_isub (pc := 5) dJ6_numberOfTrailingZeros_0f7a4_5 ?_
  refine V_iand (pc := 6) dJ6_numberOfTrailingZeros_0f7a4_6 ?_
  refine V_istore_n (pc := 7) (L2 := []) dJ6_numberOfTrailingZeros_0f7a4_7 rfl (by decide) rfl (fun y0_ ey0_ => ?_)
  refine V_iload_n (pc := 8) dJ6_numberOfTrailingZeros_0f7a4_8 0 rfl rfl ?_
  refine V_if_gt (pc := 9) (tgt := 17) dJ6_numberOfTrailingZeros_0f7a4_9 (by decide) (fun h9 => ?_) (fun h9 => ?_)
  · skip
    refine V_iconst (v := 1) (pc := 17) dJ6_numberOfTrailingZeros_0f7a4_17 (by decide) ?_
    refine V_istore_n (pc := 18) (L2 := [(0, .int y0_)]) dJ6_numberOfTrailingZeros_0f7a4_18 rfl (by decide) rfl (fun x1_18 ex1_18 => ?_)
    subst ex1_18
    refine V_iload_n (pc := 19) dJ6_numberOfTrailingZeros_0f7a4_19 1 rfl rfl ?_
    refine V_ldcw (pc := 20) dJ6_numberOfTrailingZeros_0f7a4_20 tw_530 ?_
    refine V_icmp_le (pc := 23) (tgt := 34) dJ6_numberOfTrailingZeros_0f7a4_23 (by decide) (fun h23 => ?_) (fun h23 => ?_)
    · skip
      refine V_iload_n (pc := 34) dJ6_numberOfTrailingZeros_0f7a4_34 1 rfl rfl ?_
      refine V_sipush (v := 256) (pc := 35) dJ6_numberOfTrailingZeros_0f7a4_35 (by decide) ?_
      refine V_icmp_le (pc := 38) (tgt := 49) dJ6_numberOfTrailingZeros_0f7a4_38 (by decide) (fun h38 => ?_) (fun h38 => ?_)
      · skip
        refine V_iload_n (pc := 49) dJ6_numberOfTrailingZeros_0f7a4_49 1 rfl rfl ?_
        refine V_bipush (v := 16) (pc := 50) dJ6_numberOfTrailingZeros_0f7a4_50 (by decide) ?_
        refine V_icmp_le (pc := 52) (tgt := 62) dJ6_numberOfTrailingZeros_0f7a4_52 (by decide) (fun h52 => ?_) (fun h52 => ?_)
        · skip
          refine V_iload_n (pc := 62) dJ6_numberOfTrailingZeros_0f7a4_62 1 rfl rfl ?_
          refine V_iconst (v := 4) (pc := 63) dJ6_numberOfTrailingZeros_0f7a4_63 (by decide) ?_
          refine V_icmp_le (pc := 64) (tgt := 74) dJ6_numberOfTrailingZeros_0f7a4_64 (by decide) (fun h64 => ?_) (fun h64 => ?_)
          · skip
            refine V_iload_n (pc := 74) dJ6_numberOfTrailingZeros_0f7a4_74 0 rfl rfl ?_
            refine V_iload_n (pc := 75) dJ6_numberOfTrailingZeros_0f7a4_75 1 rfl rfl ?_
            refine V_iconst (v := 1) (pc := 76) dJ6_numberOfTrailingZeros_0f7a4_76 (by decide) ?_
            refine V_iushr (pc := 77) dJ6_numberOfTrailingZeros_0f7a4_77 rfl ?_
            refine V_iadd (pc := 78) dJ6_numberOfTrailingZeros_0f7a4_78 ?_
            exact V_iret (pc := 79) dJ6_numberOfTrailingZeros_0f7a4_79 (Nat.le_of_ble_eq_true rfl) (Nat.le_of_ble_eq_true rfl) (hB _ _ ⟨congrArg (fun z => some (Value.int z)) (by subst_vars; simp only [ntzI, tz0, tz1, tz2, tz3, tz4, tz5, *, ↓reduceIte]), by rfl⟩)
          · skip
            refine V_iinc (pc := 67) (v := 2) (L2 := [(0, .int y0_)]) dJ6_numberOfTrailingZeros_0f7a4_67 0 rfl (by decide) (by decide) rfl (fun x1_67 ex1_67 => ?_)
            subst ex1_67
            refine V_iload_n (pc := 70) dJ6_numberOfTrailingZeros_0f7a4_70 1 rfl rfl ?_
            refine V_iconst (v := 2) (pc := 71) dJ6_numberOfTrailingZeros_0f7a4_71 (by decide) ?_
            refine V_iushr (pc := 72) dJ6_numberOfTrailingZeros_0f7a4_72 rfl ?_
            refine V_istore_n (pc := 73) (L2 := [(1, .int (1 + 2))]) dJ6_numberOfTrailingZeros_0f7a4_73 rfl (by decide) rfl (fun y4_ ey4_ => ?_)
            refine V_iload_n (pc := 74) dJ6_numberOfTrailingZeros_0f7a4_74 1 rfl rfl ?_
            refine V_iload_n (pc := 75) dJ6_numberOfTrailingZeros_0f7a4_75 0 rfl rfl ?_
            refine V_iconst (v := 1) (pc := 76) dJ6_numberOfTrailingZeros_0f7a4_76 (by decide) ?_
            refine V_iushr (pc := 77) dJ6_numberOfTrailingZeros_0f7a4_77 rfl ?_
            refine V_iadd (pc := 78) dJ6_numberOfTrailingZeros_0f7a4_78 ?_
            exact V_iret (pc := 79) dJ6_numberOfTrailingZeros_0f7a4_79 (Nat.le_of_ble_eq_true rfl) (Nat.le_of_ble_eq_true rfl) (hB _ _ ⟨congrArg (fun z => some (Value.int z)) (by subst_vars; simp only [ntzI, tz0, tz1, tz2, tz3, tz4, tz5, *, ↓reduceIte]), by rfl⟩)
        · skip
          refine V_iinc (pc := 55) (v := 4) (L2 := [(0, .int y0_)]) dJ6_numberOfTrailingZeros_0f7a4_55 0 rfl (by decide) (by decide) rfl (fun x1_55 ex1_55 => ?_)
          subst ex1_55
          refine V_iload_n (pc := 58) dJ6_numberOfTrailingZeros_0f7a4_58 1 rfl rfl ?_
          refine V_iconst (v := 4) (pc := 59) dJ6_numberOfTrailingZeros_0f7a4_59 (by decide) ?_
          refine V_iushr (pc := 60) dJ6_numberOfTrailingZeros_0f7a4_60 rfl ?_
          refine V_istore_n (pc := 61) (L2 := [(1, .int (1 + 4))]) dJ6_numberOfTrailingZeros_0f7a4_61 rfl (by decide) rfl (fun y3_ ey3_ => ?_)
          refine V_iload_n (pc := 62) dJ6_numberOfTrailingZeros_0f7a4_62 0 rfl rfl ?_
          refine V_iconst (v := 4) (pc := 63) dJ6_numberOfTrailingZeros_0f7a4_63 (by decide) ?_
          refine V_icmp_le (pc := 64) (tgt := 74) dJ6_numberOfTrailingZeros_0f7a4_64 (by decide) (fun h64 => ?_) (fun h64 => ?_)
          · skip
            refine V_iload_n (pc := 74) dJ6_numberOfTrailingZeros_0f7a4_74 1 rfl rfl ?_
            refine V_iload_n (pc := 75) dJ6_numberOfTrailingZeros_0f7a4_75 0 rfl rfl ?_
            refine V_iconst (v := 1) (pc := 76) dJ6_numberOfTrailingZeros_0f7a4_76 (by decide) ?_
            refine V_iushr (pc := 77) dJ6_numberOfTrailingZeros_0f7a4_77 rfl ?_
            refine V_iadd (pc := 78) dJ6_numberOfTrailingZeros_0f7a4_78 ?_
            exact V_iret (pc := 79) dJ6_numberOfTrailingZeros_0f7a4_79 (Nat.le_of_ble_eq_true rfl) (Nat.le_of_ble_eq_true rfl) (hB _ _ ⟨congrArg (fun z => some (Value.int z)) (by subst_vars; simp only [ntzI, tz0, tz1, tz2, tz3, tz4, tz5, *, ↓reduceIte]), by rfl⟩)
          · skip
            refine V_iinc (pc := 67) (v := 2) (L2 := [(0, .int y3_)]) dJ6_numberOfTrailingZeros_0f7a4_67 1 rfl (by decide) (by decide) rfl (fun x1_67 ex1_67 => ?_)
            subst ex1_67
            refine V_iload_n (pc := 70) dJ6_numberOfTrailingZeros_0f7a4_70 1 rfl rfl ?_
            refine V_iconst (v := 2) (pc := 71) dJ6_numberOfTrailingZeros_0f7a4_71 (by decide) ?_
            refine V_iushr (pc := 72) dJ6_numberOfTrailingZeros_0f7a4_72 rfl ?_
            refine V_istore_n (pc := 73) (L2 := [(1, .int ((1 + 4) + 2))]) dJ6_numberOfTrailingZeros_0f7a4_73 rfl (by decide) rfl (fun y4_ ey4_ => ?_)
            refine V_iload_n (pc := 74) dJ6_numberOfTrailingZeros_0f7a4_74 1 rfl rfl ?_
            refine V_iload_n (pc := 75) dJ6_numberOfTrailingZeros_0f7a4_75 0 rfl rfl ?_
            refine V_iconst (v := 1) (pc := 76) dJ6_numberOfTrailingZeros_0f7a4_76 (by decide) ?_
            refine V_iushr (pc := 77) dJ6_numberOfTrailingZeros_0f7a4_77 rfl ?_
            refine V_iadd (pc := 78) dJ6_numberOfTrailingZeros_0f7a4_78 ?_
            exact V_iret (pc := 79) dJ6_numberOfTrailingZeros_0f7a4_79 (Nat.le_of_ble_eq_true rfl) (Nat.le_of_ble_eq_true rfl) (hB _ _ ⟨congrArg (fun z => some (Value.int z)) (by subst_vars; simp only [ntzI, tz0, tz1, tz2, tz3, tz4, tz5, *, ↓reduceIte]), by rfl⟩)
      · skip
        refine V_iinc (pc := 41) (v := 8) (L2 := [(0, .int y0_)]) dJ6_numberOfTrailingZeros_0f7a4_41 0 rfl (by decide) (by decide) rfl (fun x1_41 ex1_41 => ?_)
        subst ex1_41
        refine V_iload_n (pc := 44) dJ6_numberOfTrailingZeros_0f7a4_44 1 rfl rfl ?_
        refine V_bipush (v := 8) (pc := 45) dJ6_numberOfTrailingZeros_0f7a4_45 (by decide) ?_
        refine V_iushr (pc := 47) dJ6_numberOfTrailingZeros_0f7a4_47 rfl ?_
        refine V_istore_n (pc := 48) (L2 := [(1, .int (1 + 8))]) dJ6_numberOfTrailingZeros_0f7a4_48 rfl (by decide) rfl (fun y2_ ey2_ => ?_)
        refine V_iload_n (pc := 49) dJ6_numberOfTrailingZeros_0f7a4_49 0 rfl rfl ?_
        refine V_bipush (v := 16) (pc := 50) dJ6_numberOfTrailingZeros_0f7a4_50 (by decide) ?_
        refine V_icmp_le (pc := 52) (tgt := 62) dJ6_numberOfTrailingZeros_0f7a4_52 (by decide) (fun h52 => ?_) (fun h52 => ?_)
        · skip
          refine V_iload_n (pc := 62) dJ6_numberOfTrailingZeros_0f7a4_62 0 rfl rfl ?_
          refine V_iconst (v := 4) (pc := 63) dJ6_numberOfTrailingZeros_0f7a4_63 (by decide) ?_
          refine V_icmp_le (pc := 64) (tgt := 74) dJ6_numberOfTrailingZeros_0f7a4_64 (by decide) (fun h64 => ?_) (fun h64 => ?_)
          · skip
            refine V_iload_n (pc := 74) dJ6_numberOfTrailingZeros_0f7a4_74 1 rfl rfl ?_
            refine V_iload_n (pc := 75) dJ6_numberOfTrailingZeros_0f7a4_75 0 rfl rfl ?_
            refine V_iconst (v := 1) (pc := 76) dJ6_numberOfTrailingZeros_0f7a4_76 (by decide) ?_
            refine V_iushr (pc := 77) dJ6_numberOfTrailingZeros_0f7a4_77 rfl ?_
            refine V_iadd (pc := 78) dJ6_numberOfTrailingZeros_0f7a4_78 ?_
            exact V_iret (pc := 79) dJ6_numberOfTrailingZeros_0f7a4_79 (Nat.le_of_ble_eq_true rfl) (Nat.le_of_ble_eq_true rfl) (hB _ _ ⟨congrArg (fun z => some (Value.int z)) (by subst_vars; simp only [ntzI, tz0, tz1, tz2, tz3, tz4, tz5, *, ↓reduceIte]), by rfl⟩)
          · skip
            refine V_iinc (pc := 67) (v := 2) (L2 := [(0, .int y2_)]) dJ6_numberOfTrailingZeros_0f7a4_67 1 rfl (by decide) (by decide) rfl (fun x1_67 ex1_67 => ?_)
            subst ex1_67
            refine V_iload_n (pc := 70) dJ6_numberOfTrailingZeros_0f7a4_70 1 rfl rfl ?_
            refine V_iconst (v := 2) (pc := 71) dJ6_numberOfTrailingZeros_0f7a4_71 (by decide) ?_
            refine V_iushr (pc := 72) dJ6_numberOfTrailingZeros_0f7a4_72 rfl ?_
            refine V_istore_n (pc := 73) (L2 := [(1, .int ((1 + 8) + 2))]) dJ6_numberOfTrailingZeros_0f7a4_73 rfl (by decide) rfl (fun y4_ ey4_ => ?_)
            refine V_iload_n (pc := 74) dJ6_numberOfTrailingZeros_0f7a4_74 1 rfl rfl ?_
            refine V_iload_n (pc := 75) dJ6_numberOfTrailingZeros_0f7a4_75 0 rfl rfl ?_
            refine V_iconst (v := 1) (pc := 76) dJ6_numberOfTrailingZeros_0f7a4_76 (by decide) ?_
            refine V_iushr (pc := 77) dJ6_numberOfTrailingZeros_0f7a4_77 rfl ?_
            refine V_iadd (pc := 78) dJ6_numberOfTrailingZeros_0f7a4_78 ?_
            exact V_iret (pc := 79) dJ6_numberOfTrailingZeros_0f7a4_79 (Nat.le_of_ble_eq_true rfl) (Nat.le_of_ble_eq_true rfl) (hB _ _ ⟨congrArg (fun z => some (Value.int z)) (by subst_vars; simp only [ntzI, tz0, tz1, tz2, tz3, tz4, tz5, *, ↓reduceIte]), by rfl⟩)
        · skip
          refine V_iinc (pc := 55) (v := 4) (L2 := [(0, .int y2_)]) dJ6_numberOfTrailingZeros_0f7a4_55 1 rfl (by decide) (by decide) rfl (fun x1_55 ex1_55 => ?_)
          subst ex1_55
          refine V_iload_n (pc := 58) dJ6_numberOfTrailingZeros_0f7a4_58 1 rfl rfl ?_
          refine V_iconst (v := 4) (pc := 59) dJ6_numberOfTrailingZeros_0f7a4_59 (by decide) ?_
          refine V_iushr (pc := 60) dJ6_numberOfTrailingZeros_0f7a4_60 rfl ?_
          refine V_istore_n (pc := 61) (L2 := [(1, .int ((1 + 8) + 4))]) dJ6_numberOfTrailingZeros_0f7a4_61 rfl (by decide) rfl (fun y3_ ey3_ => ?_)
          refine V_iload_n (pc := 62) dJ6_numberOfTrailingZeros_0f7a4_62 0 rfl rfl ?_
          refine V_iconst (v := 4) (pc := 63) dJ6_numberOfTrailingZeros_0f7a4_63 (by decide) ?_
          refine V_icmp_le (pc := 64) (tgt := 74) dJ6_numberOfTrailingZeros_0f7a4_64 (by decide) (fun h64 => ?_) (fun h64 => ?_)
          · skip
            refine V_iload_n (pc := 74) dJ6_numberOfTrailingZeros_0f7a4_74 1 rfl rfl ?_
            refine V_iload_n (pc := 75) dJ6_numberOfTrailingZeros_0f7a4_75 0 rfl rfl ?_
            refine V_iconst (v := 1) (pc := 76) dJ6_numberOfTrailingZeros_0f7a4_76 (by decide) ?_
            refine V_iushr (pc := 77) dJ6_numberOfTrailingZeros_0f7a4_77 rfl ?_
            refine V_iadd (pc := 78) dJ6_numberOfTrailingZeros_0f7a4_78 ?_
            exact V_iret (pc := 79) dJ6_numberOfTrailingZeros_0f7a4_79 (Nat.le_of_ble_eq_true rfl) (Nat.le_of_ble_eq_true rfl) (hB _ _ ⟨congrArg (fun z => some (Value.int z)) (by subst_vars; simp only [ntzI, tz0, tz1, tz2, tz3, tz4, tz5, *, ↓reduceIte]), by rfl⟩)
          · skip
            refine V_iinc (pc := 67) (v := 2) (L2 := [(0, .int y3_)]) dJ6_numberOfTrailingZeros_0f7a4_67 1 rfl (by decide) (by decide) rfl (fun x1_67 ex1_67 => ?_)
            subst ex1_67
            refine V_iload_n (pc := 70) dJ6_numberOfTrailingZeros_0f7a4_70 1 rfl rfl ?_
            refine V_iconst (v := 2) (pc := 71) dJ6_numberOfTrailingZeros_0f7a4_71 (by decide) ?_
            refine V_iushr (pc := 72) dJ6_numberOfTrailingZeros_0f7a4_72 rfl ?_
            refine V_istore_n (pc := 73) (L2 := [(1, .int (((1 + 8) + 4) + 2))]) dJ6_numberOfTrailingZeros_0f7a4_73 rfl (by decide) rfl (fun y4_ ey4_ => ?_)
            refine V_iload_n (pc := 74) dJ6_numberOfTrailingZeros_0f7a4_74 1 rfl rfl ?_
            refine V_iload_n (pc := 75) dJ6_numberOfTrailingZeros_0f7a4_75 0 rfl rfl ?_
            refine V_iconst (v := 1) (pc := 76) dJ6_numberOfTrailingZeros_0f7a4_76 (by decide) ?_
            refine V_iushr (pc := 77) dJ6_numberOfTrailingZeros_0f7a4_77 rfl ?_
            refine V_iadd (pc := 78) dJ6_numberOfTrailingZeros_0f7a4_78 ?_
            exact V_iret (pc := 79) dJ6_numberOfTrailingZeros_0f7a4_79 (Nat.le_of_ble_eq_true rfl) (Nat.le_of_ble_eq_true rfl) (hB _ _ ⟨congrArg (fun z => some (Value.int z)) (by subst_vars; simp only [ntzI, tz0, tz1, tz2, tz3, tz4, tz5, *, ↓reduceIte]), by rfl⟩)
    · skip
      refine V_iinc (pc := 26) (v := 16) (L2 := [(0, .int y0_)]) dJ6_numberOfTrailingZeros_0f7a4_26 0 rfl (by decide) (by decide) rfl (fun x1_26 ex1_26 => ?_)
      subst ex1_26
      refine V_iload_n (pc := 29) dJ6_numberOfTrailingZeros_0f7a4_29 1 rfl rfl ?_
      refine V_bipush (v := 16) (pc := 30) dJ6_numberOfTrailingZeros_0f7a4_30 (by decide) ?_
      refine V_iushr (pc := 32) dJ6_numberOfTrailingZeros_0f7a4_32 rfl ?_
      refine V_istore_n (pc := 33) (L2 := [(1, .int (1 + 16))]) dJ6_numberOfTrailingZeros_0f7a4_33 rfl (by decide) rfl (fun y1_ ey1_ => ?_)
      refine V_iload_n (pc := 34) dJ6_numberOfTrailingZeros_0f7a4_34 0 rfl rfl ?_
      refine V_sipush (v := 256) (pc := 35) dJ6_numberOfTrailingZeros_0f7a4_35 (by decide) ?_
      refine V_icmp_le (pc := 38) (tgt := 49) dJ6_numberOfTrailingZeros_0f7a4_38 (by decide) (fun h38 => ?_) (fun h38 => ?_)
      · skip
        refine V_iload_n (pc := 49) dJ6_numberOfTrailingZeros_0f7a4_49 0 rfl rfl ?_
        refine V_bipush (v := 16) (pc := 50) dJ6_numberOfTrailingZeros_0f7a4_50 (by decide) ?_
        refine V_icmp_le (pc := 52) (tgt := 62) dJ6_numberOfTrailingZeros_0f7a4_52 (by decide) (fun h52 => ?_) (fun h52 => ?_)
        · skip
          refine V_iload_n (pc := 62) dJ6_numberOfTrailingZeros_0f7a4_62 0 rfl rfl ?_
          refine V_iconst (v := 4) (pc := 63) dJ6_numberOfTrailingZeros_0f7a4_63 (by decide) ?_
          refine V_icmp_le (pc := 64) (tgt := 74) dJ6_numberOfTrailingZeros_0f7a4_64 (by decide) (fun h64 => ?_) (fun h64 => ?_)
          · skip
            refine V_iload_n (pc := 74) dJ6_numberOfTrailingZeros_0f7a4_74 1 rfl rfl ?_
            refine V_iload_n (pc := 75) dJ6_numberOfTrailingZeros_0f7a4_75 0 rfl rfl ?_
            refine V_iconst (v := 1) (pc := 76) dJ6_numberOfTrailingZeros_0f7a4_76 (by decide) ?_
            refine V_iushr (pc := 77) dJ6_numberOfTrailingZeros_0f7a4_77 rfl ?_
            refine V_iadd (pc := 78) dJ6_numberOfTrailingZeros_0f7a4_78 ?_
            exact V_iret (pc := 79) dJ6_numberOfTrailingZeros_0f7a4_79 (Nat.le_of_ble_eq_true rfl) (Nat.le_of_ble_eq_true rfl) (hB _ _ ⟨congrArg (fun z => some (Value.int z)) (by subst_vars; simp only [ntzI, tz0, tz1, tz2, tz3, tz4, tz5, *, ↓reduceIte]), by rfl⟩)
          · skip
            refine V_iinc (pc := 67) (v := 2) (L2 := [(0, .int y1_)]) dJ6_numberOfTrailingZeros_0f7a4_67 1 rfl (by decide) (by decide) rfl (fun x1_67 ex1_67 => ?_)
            subst ex1_67
            refine V_iload_n (pc := 70) dJ6_numberOfTrailingZeros_0f7a4_70 1 rfl rfl ?_
            refine V_iconst (v := 2) (pc := 71) dJ6_numberOfTrailingZeros_0f7a4_71 (by decide) ?_
            refine V_iushr (pc := 72) dJ6_numberOfTrailingZeros_0f7a4_72 rfl ?_
            refine V_istore_n (pc := 73) (L2 := [(1, .int ((1 + 16) + 2))]) dJ6_numberOfTrailingZeros_0f7a4_73 rfl (by decide) rfl (fun y4_ ey4_ => ?_)
            refine V_iload_n (pc := 74) dJ6_numberOfTrailingZeros_0f7a4_74 1 rfl rfl ?_
            refine V_iload_n (pc := 75) dJ6_numberOfTrailingZeros_0f7a4_75 0 rfl rfl ?_
            refine V_iconst (v := 1) (pc := 76) dJ6_numberOfTrailingZeros_0f7a4_76 (by decide) ?_
            refine V_iushr (pc := 77) dJ6_numberOfTrailingZeros_0f7a4_77 rfl ?_
            refine V_iadd (pc := 78) dJ6_numberOfTrailingZeros_0f7a4_78 ?_
            exact V_iret (pc := 79) dJ6_numberOfTrailingZeros_0f7a4_79 (Nat.le_of_ble_eq_true rfl) (Nat.le_of_ble_eq_true rfl) (hB _ _ ⟨congrArg (fun z => some (Value.int z)) (by subst_vars; simp only [ntzI, tz0, tz1, tz2, tz3, tz4, tz5, *, ↓reduceIte]), by rfl⟩)
        · skip
          refine V_iinc (pc := 55) (v := 4) (L2 := [(0, .int y1_)]) dJ6_numberOfTrailingZeros_0f7a4_55 1 rfl (by decide) (by decide) rfl (fun x1_55 ex1_55 => ?_)
          subst ex1_55
          refine V_iload_n (pc := 58) dJ6_numberOfTrailingZeros_0f7a4_58 1 rfl rfl ?_
          refine V_iconst (v := 4) (pc := 59) dJ6_numberOfTrailingZeros_0f7a4_59 (by decide) ?_
          refine V_iushr (pc := 60) dJ6_numberOfTrailingZeros_0f7a4_60 rfl ?_
          refine V_istore_n (pc := 61) (L2 := [(1, .int ((1 + 16) + 4))]) dJ6_numberOfTrailingZeros_0f7a4_61 rfl (by decide) rfl (fun y3_ ey3_ => ?_)
          refine V_iload_n (pc := 62) dJ6_numberOfTrailingZeros_0f7a4_62 0 rfl rfl ?_
          refine V_iconst (v := 4) (pc := 63) dJ6_numberOfTrailingZeros_0f7a4_63 (by decide) ?_
          refine V_icmp_le (pc := 64) (tgt := 74) dJ6_numberOfTrailingZeros_0f7a4_64 (by decide) (fun h64 => ?_) (fun h64 => ?_)
          · skip
            refine V_iload_n (pc := 74) dJ6_numberOfTrailingZeros_0f7a4_74 1 rfl rfl ?_
            refine V_iload_n (pc := 75) dJ6_numberOfTrailingZeros_0f7a4_75 0 rfl rfl ?_
            refine V_iconst (v := 1) (pc := 76) dJ6_numberOfTrailingZeros_0f7a4_76 (by decide) ?_
            refine V_iushr (pc := 77) dJ6_numberOfTrailingZeros_0f7a4_77 rfl ?_
            refine V_iadd (pc := 78) dJ6_numberOfTrailingZeros_0f7a4_78 ?_
            exact V_iret (pc := 79) dJ6_numberOfTrailingZeros_0f7a4_79 (Nat.le_of_ble_eq_true rfl) (Nat.le_of_ble_eq_true rfl) (hB _ _ ⟨congrArg (fun z => some (Value.int z)) (by subst_vars; simp only [ntzI, tz0, tz1, tz2, tz3, tz4, tz5, *, ↓reduceIte]), by rfl⟩)
          · skip
            refine V_iinc (pc := 67) (v := 2) (L2 := [(0, .int y3_)]) dJ6_numberOfTrailingZeros_0f7a4_67 1 rfl (by decide) (by decide) rfl (fun x1_67 ex1_67 => ?_)
            subst ex1_67
            refine V_iload_n (pc := 70) dJ6_numberOfTrailingZeros_0f7a4_70 1 rfl rfl ?_
            refine V_iconst (v := 2) (pc := 71) dJ6_numberOfTrailingZeros_0f7a4_71 (by decide) ?_
            refine V_iushr (pc := 72) dJ6_numberOfTrailingZeros_0f7a4_72 rfl ?_
            refine V_istore_n (pc := 73) (L2 := [(1, .int (((1 + 16) + 4) + 2))]) dJ6_numberOfTrailingZeros_0f7a4_73 rfl (by decide) rfl (fun y4_ ey4_ => ?_)
            refine V_iload_n (pc := 74) dJ6_numberOfTrailingZeros_0f7a4_74 1 rfl rfl ?_
            refine V_iload_n (pc := 75) dJ6_numberOfTrailingZeros_0f7a4_75 0 rfl rfl ?_
            refine V_iconst (v := 1) (pc := 76) dJ6_numberOfTrailingZeros_0f7a4_76 (by decide) ?_
            refine V_iushr (pc := 77) dJ6_numberOfTrailingZeros_0f7a4_77 rfl ?_
            refine V_iadd (pc := 78) dJ6_numberOfTrailingZeros_0f7a4_78 ?_
            exact V_iret (pc := 79) dJ6_numberOfTrailingZeros_0f7a4_79 (Nat.le_of_ble_eq_true rfl) (Nat.le_of_ble_eq_true rfl) (hB _ _ ⟨congrArg (fun z => some (Value.int z)) (by subst_vars; simp only [ntzI, tz0, tz1, tz2, tz3, tz4, tz5, *, ↓reduceIte]), by rfl⟩)
      · skip
        refine V_iinc (pc := 41) (v := 8) (L2 := [(0, .int y1_)]) dJ6_numberOfTrailingZeros_0f7a4_41 1 rfl (by decide) (by decide) rfl (fun x1_41 ex1_41 => ?_)
        subst ex1_41
        refine V_iload_n (pc := 44) dJ6_numberOfTrailingZeros_0f7a4_44 1 rfl rfl ?_
        refine V_bipush (v := 8) (pc := 45) dJ6_numberOfTrailingZeros_0f7a4_45 (by decide) ?_
        refine V_iushr (pc := 47) dJ6_numberOfTrailingZeros_0f7a4_47 rfl ?_
        refine V_istore_n (pc := 48) (L2 := [(1, .int ((1 + 16) + 8))]) dJ6_numberOfTrailingZeros_0f7a4_48 rfl (by decide) rfl (fun y2_ ey2_ => ?_)
        refine V_iload_n (pc := 49) dJ6_numberOfTrailingZeros_0f7a4_49 0 rfl rfl ?_
        refine V_bipush (v := 16) (pc := 50) dJ6_numberOfTrailingZeros_0f7a4_50 (by decide) ?_
        refine V_icmp_le (pc := 52) (tgt := 62) dJ6_numberOfTrailingZeros_0f7a4_52 (by decide) (fun h52 => ?_) (fun h52 => ?_)
        · skip
          refine V_iload_n (pc := 62) dJ6_numberOfTrailingZeros_0f7a4_62 0 rfl rfl ?_
          refine V_iconst (v := 4) (pc := 63) dJ6_numberOfTrailingZeros_0f7a4_63 (by decide) ?_
          refine V_icmp_le (pc := 64) (tgt := 74) dJ6_numberOfTrailingZeros_0f7a4_64 (by decide) (fun h64 => ?_) (fun h64 => ?_)
          · skip
            refine V_iload_n (pc := 74) dJ6_numberOfTrailingZeros_0f7a4_74 1 rfl rfl ?_
            refine V_iload_n (pc := 75) dJ6_numberOfTrailingZeros_0f7a4_75 0 rfl rfl ?_
            refine V_iconst (v := 1) (pc := 76) dJ6_numberOfTrailingZeros_0f7a4_76 (by decide) ?_
            refine V_iushr (pc := 77) dJ6_numberOfTrailingZeros_0f7a4_77 rfl ?_
            refine V_iadd (pc := 78) dJ6_numberOfTrailingZeros_0f7a4_78 ?_
            exact V_iret (pc := 79) dJ6_numberOfTrailingZeros_0f7a4_79 (Nat.le_of_ble_eq_true rfl) (Nat.le_of_ble_eq_true rfl) (hB _ _ ⟨congrArg (fun z => some (Value.int z)) (by subst_vars; simp only [ntzI, tz0, tz1, tz2, tz3, tz4, tz5, *, ↓reduceIte]), by rfl⟩)
          · skip
            refine V_iinc (pc := 67) (v := 2) (L2 := [(0, .int y2_)]) dJ6_numberOfTrailingZeros_0f7a4_67 1 rfl (by decide) (by decide) rfl (fun x1_67 ex1_67 => ?_)
            subst ex1_67
            refine V_iload_n (pc := 70) dJ6_numberOfTrailingZeros_0f7a4_70 1 rfl rfl ?_
            refine V_iconst (v := 2) (pc := 71) dJ6_numberOfTrailingZeros_0f7a4_71 (by decide) ?_
            refine V_iushr (pc := 72) dJ6_numberOfTrailingZeros_0f7a4_72 rfl ?_
            refine V_istore_n (pc := 73) (L2 := [(1, .int (((1 + 16) + 8) + 2))]) dJ6_numberOfTrailingZeros_0f7a4_73 rfl (by decide) rfl (fun y4_ ey4_ => ?_)
            refine V_iload_n (pc := 74) dJ6_numberOfTrailingZeros_0f7a4_74 1 rfl rfl ?_
            refine V_iload_n (pc := 75) dJ6_numberOfTrailingZeros_0f7a4_75 0 rfl rfl ?_
            refine V_iconst (v := 1) (pc := 76) dJ6_numberOfTrailingZeros_0f7a4_76 (by decide) ?_
            refine V_iushr (pc := 77) dJ6_numberOfTrailingZeros_0f7a4_77 rfl ?_
            refine V_iadd (pc := 78) dJ6_numberOfTrailingZeros_0f7a4_78 ?_
            exact V_iret (pc := 79) dJ6_numberOfTrailingZeros_0f7a4_79 (Nat.le_of_ble_eq_true rfl) (Nat.le_of_ble_eq_true rfl) (hB _ _ ⟨congrArg (fun z => some (Value.int z)) (by subst_vars; simp only [ntzI, tz0, tz1, tz2, tz3, tz4, tz5, *, ↓reduceIte]), by rfl⟩)
        · skip
          refine V_iinc (pc := 55) (v := 4) (L2 := [(0, .int y2_)]) dJ6_numberOfTrailingZeros_0f7a4_55 1 rfl (by decide) (by decide) rfl (fun x1_55 ex1_55 => ?_)
          subst ex1_55
          refine V_iload_n (pc := 58) dJ6_numberOfTrailingZeros_0f7a4_58 1 rfl rfl ?_
          refine V_iconst (v := 4) (pc := 59) dJ6_numberOfTrailingZeros_0f7a4_59 (by decide) ?_
          refine V_iushr (pc := 60) dJ6_numberOfTrailingZeros_0f7a4_60 rfl ?_
          refine V_istore_n (pc := 61) (L2 := [(1, .int (((1 + 16) + 8) + 4))]) dJ6_numberOfTrailingZeros_0f7a4_61 rfl (by decide) rfl (fun y3_ ey3_ => ?_)
          refine V_iload_n (pc := 62) dJ6_numberOfTrailingZeros_0f7a4_62 0 rfl rfl ?_
          refine V_iconst (v := 4) (pc := 63) dJ6_numberOfTrailingZeros_0f7a4_63 (by decide) ?_
          refine V_icmp_le (pc := 64) (tgt := 74) dJ6_numberOfTrailingZeros_0f7a4_64 (by decide) (fun h64 => ?_) (fun h64 => ?_)
          · skip
            refine V_iload_n (pc := 74) dJ6_numberOfTrailingZeros_0f7a4_74 1 rfl rfl ?_
            refine V_iload_n (pc := 75) dJ6_numberOfTrailingZeros_0f7a4_75 0 rfl rfl ?_
            refine V_iconst (v := 1) (pc := 76) dJ6_numberOfTrailingZeros_0f7a4_76 (by decide) ?_
            refine V_iushr (pc := 77) dJ6_numberOfTrailingZeros_0f7a4_77 rfl ?_
            refine V_iadd (pc := 78) dJ6_numberOfTrailingZeros_0f7a4_78 ?_
            exact V_iret (pc := 79) dJ6_numberOfTrailingZeros_0f7a4_79 (Nat.le_of_ble_eq_true rfl) (Nat.le_of_ble_eq_true rfl) (hB _ _ ⟨congrArg (fun z => some (Value.int z)) (by subst_vars; simp only [ntzI, tz0, tz1, tz2, tz3, tz4, tz5, *, ↓reduceIte]), by rfl⟩)
          · skip
            refine V_iinc (pc := 67) (v := 2) (L2 := [(0, .int y3_)]) dJ6_numberOfTrailingZeros_0f7a4_67 1 rfl (by decide) (by decide) rfl (fun x1_67 ex1_67 => ?_)
            subst ex1_67
            refine V_iload_n (pc := 70) dJ6_numberOfTrailingZeros_0f7a4_70 1 rfl rfl ?_
            refine V_iconst (v := 2) (pc := 71) dJ6_numberOfTrailingZeros_0f7a4_71 (by decide) ?_
            refine V_iushr (pc := 72) dJ6_numberOfTrailingZeros_0f7a4_72 rfl ?_
            refine V_istore_n (pc := 73) (L2 := [(1, .int ((((1 + 16) + 8) + 4) + 2))]) dJ6_numberOfTrailingZeros_0f7a4_73 rfl (by decide) rfl (fun y4_ ey4_ => ?_)
            refine V_iload_n (pc := 74) dJ6_numberOfTrailingZeros_0f7a4_74 1 rfl rfl ?_
            refine V_iload_n (pc := 75) dJ6_numberOfTrailingZeros_0f7a4_75 0 rfl rfl ?_
            refine V_iconst (v := 1) (pc := 76) dJ6_numberOfTrailingZeros_0f7a4_76 (by decide) ?_
            refine V_iushr (pc := 77) dJ6_numberOfTrailingZeros_0f7a4_77 rfl ?_
            refine V_iadd (pc := 78) dJ6_numberOfTrailingZeros_0f7a4_78 ?_
            exact V_iret (pc := 79) dJ6_numberOfTrailingZeros_0f7a4_79 (Nat.le_of_ble_eq_true rfl) (Nat.le_of_ble_eq_true rfl) (hB _ _ ⟨congrArg (fun z => some (Value.int z)) (by subst_vars; simp only [ntzI, tz0, tz1, tz2, tz3, tz4, tz5, *, ↓reduceIte]), by rfl⟩)
  · skip
    refine V_iload_n (pc := 12) dJ6_numberOfTrailingZeros_0f7a4_12 0 rfl rfl ?_
    refine V_bipush (v := 32) (pc := 13) dJ6_numberOfTrailingZeros_0f7a4_13 (by decide) ?_
    refine V_iand (pc := 15) dJ6_numberOfTrailingZeros_0f7a4_15 ?_
    exact V_iret (pc := 16) dJ6_numberOfTrailingZeros_0f7a4_16 (Nat.le_of_ble_eq_true rfl) (Nat.le_of_ble_eq_true rfl) (hB _ _ ⟨congrArg (fun z => some (Value.int z)) (by subst_vars; simp only [ntzI, tz0, tz1, tz2, tz3, tz4, tz5, *, ↓reduceIte]), by rfl⟩)
set_option maxHeartbeats 4000000 in
set_option maxRecDepth 100000 in
theorem c_J6_numberOfLeadingZeros_0f7a4 (Z : VZ) (S : XS) (x_ : Int32) : CtF XW Z yJ6_numberOfLeadingZeros_0f7a4 cJ6_numberOfLeadingZeros_0f7a4 2 (some .int) 0 0 0 [.int x_] (S) (some (.int (nlzI x_))) (S) := by
  refine V_entry (own := RJ6) (by decide) rfl (Nat.le_of_ble_eq_true rfl) ?_
  intro B hB
  refine V_sub (L' := [(0, .int x_)]) [0] rfl ?_
  refine V_iload_n (pc := 0) dJ6_numberOfLeadingZeros_0f7a4_0 0 rfl rfl ?_
  refine V_if_gt (pc := 1) (tgt := 15) dJ6_numberOfLeadingZeros_0f7a4_1 (by decide) (fun h1 => ?_) (fun h1 => ?_)
  · skip
    refine V_bipush (v := 31) (pc := 15) dJ6_numberOfLeadingZeros_0f7a4_15 (by decide) ?_
    refine V_istore_n (pc := 17) (L2 := [(0, .int x_)]) dJ6_numberOfLeadingZeros_0f7a4_17 rfl (by decide) rfl (fun x1_17 ex1_17 => ?_)
    subst ex1_17
    refine V_iload_n (pc := 18) dJ6_numberOfLeadingZeros_0f7a4_18 1 rfl rfl ?_
    refine V_ldcw (pc := 19) dJ6_numberOfLeadingZeros_0f7a4_19 tw_530 ?_
    refine V_icmp_lt (pc := 22) (tgt := 33) dJ6_numberOfLeadingZeros_0f7a4_22 (by decide) (fun h22 => ?_) (fun h22 => ?_)
    · skip
      refine V_iload_n (pc := 33) dJ6_numberOfLeadingZeros_0f7a4_33 1 rfl rfl ?_
      refine V_sipush (v := 256) (pc := 34) dJ6_numberOfLeadingZeros_0f7a4_34 (by decide) ?_
      refine V_icmp_lt (pc := 37) (tgt := 48) dJ6_numberOfLeadingZeros_0f7a4_37 (by decide) (fun h37 => ?_) (fun h37 => ?_)
      · skip
        refine V_iload_n (pc := 48) dJ6_numberOfLeadingZeros_0f7a4_48 1 rfl rfl ?_
        refine V_bipush (v := 16) (pc := 49) dJ6_numberOfLeadingZeros_0f7a4_49 (by decide) ?_
        refine V_icmp_lt (pc := 51) (tgt := 61) dJ6_numberOfLeadingZeros_0f7a4_51 (by decide) (fun h51 => ?_) (fun h51 => ?_)
        · skip
          refine V_iload_n (pc := 61) dJ6_numberOfLeadingZeros_0f7a4_61 1 rfl rfl ?_
          refine V_iconst (v := 4) (pc := 62) dJ6_numberOfLeadingZeros_0f7a4_62 (by decide) ?_
          refine V_icmp_lt (pc := 63) (tgt := 73) dJ6_numberOfLeadingZeros_0f7a4_63 (by decide) (fun h63 => ?_) (fun h63 => ?_)
          · skip
            refine V_iload_n (pc := 73) dJ6_numberOfLeadingZeros_0f7a4_73 0 rfl rfl ?_
            refine V_iload_n (pc := 74) dJ6_numberOfLeadingZeros_0f7a4_74 1 rfl rfl ?_
            refine V_iconst (v := 1) (pc := 75) dJ6_numberOfLeadingZeros_0f7a4_75 (by decide) ?_
            refine V_iushr (pc := 76) dJ6_numberOfLeadingZeros_0f7a4_76 rfl ?_
            refine V_isub (pc := 77) dJ6_numberOfLeadingZeros_0f7a4_77 ?_
            exact V_iret (pc := 78) dJ6_numberOfLeadingZeros_0f7a4_78 (Nat.le_of_ble_eq_true rfl) (Nat.le_of_ble_eq_true rfl) (hB _ _ ⟨congrArg (fun z => some (Value.int z)) (by subst_vars; simp only [nlzI, lz1, lz2, lz3, lz4, lz5, *, ↓reduceIte]), by rfl⟩)
          · skip
            refine V_iinc (pc := 66) (v := (-2)) (L2 := [(0, .int x_)]) dJ6_numberOfLeadingZeros_0f7a4_66 0 rfl (by decide) (by decide) rfl (fun x1_66 ex1_66 => ?_)
            subst ex1_66
            refine V_iload_n (pc := 69) dJ6_numberOfLeadingZeros_0f7a4_69 1 rfl rfl ?_
            refine V_iconst (v := 2) (pc := 70) dJ6_numberOfLeadingZeros_0f7a4_70 (by decide) ?_
            refine V_iushr (pc := 71) dJ6_numberOfLeadingZeros_0f7a4_71 rfl ?_
            refine V_istore_n (pc := 72) (L2 := [(1, .int (31 + (-2)))]) dJ6_numberOfLeadingZeros_0f7a4_72 rfl (by decide) rfl (fun y4_ ey4_ => ?_)
            refine V_iload_n (pc := 73) dJ6_numberOfLeadingZeros_0f7a4_73 1 rfl rfl ?_
            refine V_iload_n (pc := 74) dJ6_numberOfLeadingZeros_0f7a4_74 0 rfl rfl ?_
            refine V_iconst (v := 1) (pc := 75) dJ6_numberOfLeadingZeros_0f7a4_75 (by decide) ?_
            refine V_iushr (pc := 76) dJ6_numberOfLeadingZeros_0f7a4_76 rfl ?_
            refine V_isub (pc := 77) dJ6_numberOfLeadingZeros_0f7a4_77 ?_
            exact V_iret (pc := 78) dJ6_numberOfLeadingZeros_0f7a4_78 (Nat.le_of_ble_eq_true rfl) (Nat.le_of_ble_eq_true rfl) (hB _ _ ⟨congrArg (fun z => some (Value.int z)) (by subst_vars; simp only [nlzI, lz1, lz2, lz3, lz4, lz5, *, ↓reduceIte]), by rfl⟩)
        · skip
          refine V_iinc (pc := 54) (v := (-4)) (L2 := [(0, .int x_)]) dJ6_numberOfLeadingZeros_0f7a4_54 0 rfl (by decide) (by decide) rfl (fun x1_54 ex1_54 => ?_)
          subst ex1_54
          refine V_iload_n (pc := 57) dJ6_numberOfLeadingZeros_0f7a4_57 1 rfl rfl ?_
          refine V_iconst (v := 4) (pc := 58) dJ6_numberOfLeadingZeros_0f7a4_58 (by decide) ?_
          refine V_iushr (pc := 59) dJ6_numberOfLeadingZeros_0f7a4_59 rfl ?_
          refine V_istore_n (pc := 60) (L2 := [(1, .int (31 + (-4)))]) dJ6_numberOfLeadingZeros_0f7a4_60 rfl (by decide) rfl (fun y3_ ey3_ => ?_)
          refine V_iload_n (pc := 61) dJ6_numberOfLeadingZeros_0f7a4_61 0 rfl rfl ?_
          refine V_iconst (v := 4) (pc := 62) dJ6_numberOfLeadingZeros_0f7a4_62 (by decide) ?_
          refine V_icmp_lt (pc := 63) (tgt := 73) dJ6_numberOfLeadingZeros_0f7a4_63 (by decide) (fun h63 => ?_) (fun h63 => ?_)
          · skip
            refine V_iload_n (pc := 73) dJ6_numberOfLeadingZeros_0f7a4_73 1 rfl rfl ?_
            refine V_iload_n (pc := 74) dJ6_numberOfLeadingZeros_0f7a4_74 0 rfl rfl ?_
            refine V_iconst (v := 1) (pc := 75) dJ6_numberOfLeadingZeros_0f7a4_75 (by decide) ?_
            refine V_iushr (pc := 76) dJ6_numberOfLeadingZeros_0f7a4_76 rfl ?_
            refine V_isub (pc := 77) dJ6_numberOfLeadingZeros_0f7a4_77 ?_
            exact V_iret (pc := 78) dJ6_numberOfLeadingZeros_0f7a4_78 (Nat.le_of_ble_eq_true rfl) (Nat.le_of_ble_eq_true rfl) (hB _ _ ⟨congrArg (fun z => some (Value.int z)) (by subst_vars; simp only [nlzI, lz1, lz2, lz3, lz4, lz5, *, ↓reduceIte]), by rfl⟩)
          · skip
            refine V_iinc (pc := 66) (v := (-2)) (L2 := [(0, .int y3_)]) dJ6_numberOfLeadingZeros_0f7a4_66 1 rfl (by decide) (by decide) rfl (fun x1_66 ex1_66 => ?_)
            subst ex1_66
            refine V_iload_n (pc := 69) dJ6_numberOfLeadingZeros_0f7a4_69 1 rfl rfl ?_
            refine V_iconst (v := 2) (pc := 70) dJ6_numberOfLeadingZeros_0f7a4_70 (by decide) ?_
            refine V_iushr (pc := 71) dJ6_numberOfLeadingZeros_0f7a4_71 rfl ?_
            refine V_istore_n (pc := 72) (L2 := [(1, .int ((31 + (-4)) + (-2)))]) dJ6_numberOfLeadingZeros_0f7a4_72 rfl (by decide) rfl (fun y4_ ey4_ => ?_)
            refine V_iload_n (pc := 73) dJ6_numberOfLeadingZeros_0f7a4_73 1 rfl rfl ?_
            refine V_iload_n (pc := 74) dJ6_numberOfLeadingZeros_0f7a4_74 0 rfl rfl ?_
            refine V_iconst (v := 1) (pc := 75) dJ6_numberOfLeadingZeros_0f7a4_75 (by decide) ?_
            refine V_iushr (pc := 76) dJ6_numberOfLeadingZeros_0f7a4_76 rfl ?_
            refine V_isub (pc := 77) dJ6_numberOfLeadingZeros_0f7a4_77 ?_
            exact V_iret (pc := 78) dJ6_numberOfLeadingZeros_0f7a4_78 (Nat.le_of_ble_eq_true rfl) (Nat.le_of_ble_eq_true rfl) (hB _ _ ⟨congrArg (fun z => some (Value.int z)) (by subst_vars; simp only [nlzI, lz1, lz2, lz3, lz4, lz5, *, ↓reduceIte]), by rfl⟩)
      · skip
        refine V_iinc (pc := 40) (v := (-8)) (L2 := [(0, .int x_)]) dJ6_numberOfLeadingZeros_0f7a4_40 0 rfl (by decide) (by decide) rfl (fun x1_40 ex1_40 => ?_)
        subst ex1_40
        refine V_iload_n (pc := 43) dJ6_numberOfLeadingZeros_0f7a4_43 1 rfl rfl ?_
        refine V_bipush (v := 8) (pc := 44) dJ6_numberOfLeadingZeros_0f7a4_44 (by decide) ?_
        refine V_iushr (pc := 46) dJ6_numberOfLeadingZeros_0f7a4_46 rfl ?_
        refine V_istore_n (pc := 47) (L2 := [(1, .int (31 + (-8)))]) dJ6_numberOfLeadingZeros_0f7a4_47 rfl (by decide) rfl (fun y2_ ey2_ => ?_)
        refine V_iload_n (pc := 48) dJ6_numberOfLeadingZeros_0f7a4_48 0 rfl rfl ?_
        refine V_bipush (v := 16) (pc := 49) dJ6_numberOfLeadingZeros_0f7a4_49 (by decide) ?_
        refine V_icmp_lt (pc := 51) (tgt := 61) dJ6_numberOfLeadingZeros_0f7a4_51 (by decide) (fun h51 => ?_) (fun h51 => ?_)
        · skip
          refine V_iload_n (pc := 61) dJ6_numberOfLeadingZeros_0f7a4_61 0 rfl rfl ?_
          refine V_iconst (v := 4) (pc := 62) dJ6_numberOfLeadingZeros_0f7a4_62 (by decide) ?_
          refine V_icmp_lt (pc := 63) (tgt := 73) dJ6_numberOfLeadingZeros_0f7a4_63 (by decide) (fun h63 => ?_) (fun h63 => ?_)
          · skip
            refine V_iload_n (pc := 73) dJ6_numberOfLeadingZeros_0f7a4_73 1 rfl rfl ?_
            refine V_iload_n (pc := 74) dJ6_numberOfLeadingZeros_0f7a4_74 0 rfl rfl ?_
            refine V_iconst (v := 1) (pc := 75) dJ6_numberOfLeadingZeros_0f7a4_75 (by decide) ?_
            refine V_iushr (pc := 76) dJ6_numberOfLeadingZeros_0f7a4_76 rfl ?_
            refine V_isub (pc := 77) dJ6_numberOfLeadingZeros_0f7a4_77 ?_
            exact V_iret (pc := 78) dJ6_numberOfLeadingZeros_0f7a4_78 (Nat.le_of_ble_eq_true rfl) (Nat.le_of_ble_eq_true rfl) (hB _ _ ⟨congrArg (fun z => some (Value.int z)) (by subst_vars; simp only [nlzI, lz1, lz2, lz3, lz4, lz5, *, ↓reduceIte]), by rfl⟩)
          · skip
            refine V_iinc (pc := 66) (v := (-2)) (L2 := [(0, .int y2_)]) dJ6_numberOfLeadingZeros_0f7a4_66 1 rfl (by decide) (by decide) rfl (fun x1_66 ex1_66 => ?_)
            subst ex1_66
            refine V_iload_n (pc := 69) dJ6_numberOfLeadingZeros_0f7a4_69 1 rfl rfl ?_
            refine V_iconst (v := 2) (pc := 70) dJ6_numberOfLeadingZeros_0f7a4_70 (by decide) ?_
            refine V_iushr (pc := 71) dJ6_numberOfLeadingZeros_0f7a4_71 rfl ?_
            refine V_istore_n (pc := 72) (L2 := [(1, .int ((31 + (-8)) + (-2)))]) dJ6_numberOfLeadingZeros_0f7a4_72 rfl (by decide) rfl (fun y4_ ey4_ => ?_)
            refine V_iload_n (pc := 73) dJ6_numberOfLeadingZeros_0f7a4_73 1 rfl rfl ?_
            refine V_iload_n (pc := 74) dJ6_numberOfLeadingZeros_0f7a4_74 0 rfl rfl ?_
            refine V_iconst (v := 1) (pc := 75) dJ6_numberOfLeadingZeros_0f7a4_75 (by decide) ?_
            refine V_iushr (pc := 76) dJ6_numberOfLeadingZeros_0f7a4_76 rfl ?_
            refine V_isub (pc := 77) dJ6_numberOfLeadingZeros_0f7a4_77 ?_
            exact V_iret (pc := 78) dJ6_numberOfLeadingZeros_0f7a4_78 (Nat.le_of_ble_eq_true rfl) (Nat.le_of_ble_eq_true rfl) (hB _ _ ⟨congrArg (fun z => some (Value.int z)) (by subst_vars; simp only [nlzI, lz1, lz2, lz3, lz4, lz5, *, ↓reduceIte]), by rfl⟩)
        · skip
          refine V_iinc (pc := 54) (v := (-4)) (L2 := [(0, .int y2_)]) dJ6_numberOfLeadingZeros_0f7a4_54 1 rfl (by decide) (by decide) rfl (fun x1_54 ex1_54 => ?_)
          subst ex1_54
          refine V_iload_n (pc := 57) dJ6_numberOfLeadingZeros_0f7a4_57 1 rfl rfl ?_
          refine V_iconst (v := 4) (pc := 58) dJ6_numberOfLeadingZeros_0f7a4_58 (by decide) ?_
          refine V_iushr (pc := 59) dJ6_numberOfLeadingZeros_0f7a4_59 rfl ?_
          refine V_istore_n (pc := 60) (L2 := [(1, .int ((31 + (-8)) + (-4)))]) dJ6_numberOfLeadingZeros_0f7a4_60 rfl (by decide) rfl (fun y3_ ey3_ => ?_)
          refine V_iload_n (pc := 61) dJ6_numberOfLeadingZeros_0f7a4_61 0 rfl rfl ?_
          refine V_iconst (v := 4) (pc := 62) dJ6_numberOfLeadingZeros_0f7a4_62 (by decide) ?_
          refine V_icmp_lt (pc := 63) (tgt := 73) dJ6_numberOfLeadingZeros_0f7a4_63 (by decide) (fun h63 => ?_) (fun h63 => ?_)
          · skip
            refine V_iload_n (pc := 73) dJ6_numberOfLeadingZeros_0f7a4_73 1 rfl rfl ?_
            refine V_iload_n (pc := 74) dJ6_numberOfLeadingZeros_0f7a4_74 0 rfl rfl ?_
            refine V_iconst (v := 1) (pc := 75) dJ6_numberOfLeadingZeros_0f7a4_75 (by decide) ?_
            refine V_iushr (pc := 76) dJ6_numberOfLeadingZeros_0f7a4_76 rfl ?_
            refine V_isub (pc := 77) dJ6_numberOfLeadingZeros_0f7a4_77 ?_
            exact V_iret (pc := 78) dJ6_numberOfLeadingZeros_0f7a4_78 (Nat.le_of_ble_eq_true rfl) (Nat.le_of_ble_eq_true rfl) (hB _ _ ⟨congrArg (fun z => some (Value.int z)) (by subst_vars; simp only [nlzI, lz1, lz2, lz3, lz4, lz5, *, ↓reduceIte]), by rfl⟩)
          · skip
            refine V_iinc (pc := 66) (v := (-2)) (L2 := [(0, .int y3_)]) dJ6_numberOfLeadingZeros_0f7a4_66 1 rfl (by decide) (by decide) rfl (fun x1_66 ex1_66 => ?_)
            subst ex1_66
            refine V_iload_n (pc := 69) dJ6_numberOfLeadingZeros_0f7a4_69 1 rfl rfl ?_
            refine V_iconst (v := 2) (pc := 70) dJ6_numberOfLeadingZeros_0f7a4_70 (by decide) ?_
            refine V_iushr (pc := 71) dJ6_numberOfLeadingZeros_0f7a4_71 rfl ?_
            refine V_istore_n (pc := 72) (L2 := [(1, .int (((31 + (-8)) + (-4)) + (-2)))]) dJ6_numberOfLeadingZeros_0f7a4_72 rfl (by decide) rfl (fun y4_ ey4_ => ?_)
            refine V_iload_n (pc := 73) dJ6_numberOfLeadingZeros_0f7a4_73 1 rfl rfl ?_
            refine V_iload_n (pc := 74) dJ6_numberOfLeadingZeros_0f7a4_74 0 rfl rfl ?_
            refine V_iconst (v := 1) (pc := 75) dJ6_numberOfLeadingZeros_0f7a4_75 (by decide) ?_
            refine V_iushr (pc := 76) dJ6_numberOfLeadingZeros_0f7a4_76 rfl ?_
            refine V_isub (pc := 77) dJ6_numberOfLeadingZeros_0f7a4_77 ?_
            exact V_iret (pc := 78) dJ6_numberOfLeadingZeros_0f7a4_78 (Nat.le_of_ble_eq_true rfl) (Nat.le_of_ble_eq_true rfl) (hB _ _ ⟨congrArg (fun z => some (Value.int z)) (by subst_vars; simp only [nlzI, lz1, lz2, lz3, lz4, lz5, *, ↓reduceIte]), by rfl⟩)
    · skip
      refine V_iinc (pc := 25) (v := (-16)) (L2 := [(0, .int x_)]) dJ6_numberOfLeadingZeros_0f7a4_25 0 rfl (by decide) (by decide) rfl (fun x1_25 ex1_25 => ?_)
      subst ex1_25
      refine V_iload_n (pc := 28) dJ6_numberOfLeadingZeros_0f7a4_28 1 rfl rfl ?_
      refine V_bipush (v := 16) (pc := 29) dJ6_numberOfLeadingZeros_0f7a4_29 (by decide) ?_
      refine V_iushr (pc := 31) dJ6_numberOfLeadingZeros_0f7a4_31 rfl ?_
      refine V_istore_n (pc := 32) (L2 := [(1, .int (31 + (-16)))]) dJ6_numberOfLeadingZeros_0f7a4_32 rfl (by decide) rfl (fun y1_ ey1_ => ?_)
      refine V_iload_n (pc := 33) dJ6_numberOfLeadingZeros_0f7a4_33 0 rfl rfl ?_
      refine V_sipush (v := 256) (pc := 34) dJ6_numberOfLeadingZeros_0f7a4_34 (by decide) ?_
      refine V_icmp_lt (pc := 37) (tgt := 48) dJ6_numberOfLeadingZeros_0f7a4_37 (by decide) (fun h37 => ?_) (fun h37 => ?_)
      · skip
        refine V_iload_n (pc := 48) dJ6_numberOfLeadingZeros_0f7a4_48 0 rfl rfl ?_
        refine V_bipush (v := 16) (pc := 49) dJ6_numberOfLeadingZeros_0f7a4_49 (by decide) ?_
        refine V_icmp_lt (pc := 51) (tgt := 61) dJ6_numberOfLeadingZeros_0f7a4_51 (by decide) (fun h51 => ?_) (fun h51 => ?_)
        · skip
          refine V_iload_n (pc := 61) dJ6_numberOfLeadingZeros_0f7a4_61 0 rfl rfl ?_
          refine V_iconst (v := 4) (pc := 62) dJ6_numberOfLeadingZeros_0f7a4_62 (by decide) ?_
          refine V_icmp_lt (pc := 63) (tgt := 73) dJ6_numberOfLeadingZeros_0f7a4_63 (by decide) (fun h63 => ?_) (fun h63 => ?_)
          · skip
            refine V_iload_n (pc := 73) dJ6_numberOfLeadingZeros_0f7a4_73 1 rfl rfl ?_
            refine V_iload_n (pc := 74) dJ6_numberOfLeadingZeros_0f7a4_74 0 rfl rfl ?_
            refine V_iconst (v := 1) (pc := 75) dJ6_numberOfLeadingZeros_0f7a4_75 (by decide) ?_
            refine V_iushr (pc := 76) dJ6_numberOfLeadingZeros_0f7a4_76 rfl ?_
            refine V_isub (pc := 77) dJ6_numberOfLeadingZeros_0f7a4_77 ?_
            exact V_iret (pc := 78) dJ6_numberOfLeadingZeros_0f7a4_78 (Nat.le_of_ble_eq_true rfl) (Nat.le_of_ble_eq_true rfl) (hB _ _ ⟨congrArg (fun z => some (Value.int z)) (by subst_vars; simp only [nlzI, lz1, lz2, lz3, lz4, lz5, *, ↓reduceIte]), by rfl⟩)
          · skip
            refine V_iinc (pc := 66) (v := (-2)) (L2 := [(0, .int y1_)]) dJ6_numberOfLeadingZeros_0f7a4_66 1 rfl (by decide) (by decide) rfl (fun x1_66 ex1_66 => ?_)
            subst ex1_66
            refine V_iload_n (pc := 69) dJ6_numberOfLeadingZeros_0f7a4_69 1 rfl rfl ?_
            refine V_iconst (v := 2) (pc := 70) dJ6_numberOfLeadingZeros_0f7a4_70 (by decide) ?_
            refine V_iushr (pc := 71) dJ6_numberOfLeadingZeros_0f7a4_71 rfl ?_
            refine V_istore_n (pc := 72) (L2 := [(1, .int ((31 + (-16)) + (-2)))]) dJ6_numberOfLeadingZeros_0f7a4_72 rfl (by decide) rfl (fun y4_ ey4_ => ?_)
            refine V_iload_n (pc := 73) dJ6_numberOfLeadingZeros_0f7a4_73 1 rfl rfl ?_
            refine V_iload_n (pc := 74) dJ6_numberOfLeadingZeros_0f7a4_74 0 rfl rfl ?_
            refine V_iconst (v := 1) (pc := 75) dJ6_numberOfLeadingZeros_0f7a4_75 (by decide) ?_
            refine V_iushr (pc := 76) dJ6_numberOfLeadingZeros_0f7a4_76 rfl ?_
            refine V_isub (pc := 77) dJ6_numberOfLeadingZeros_0f7a4_77 ?_
            exact V_iret (pc := 78) dJ6_numberOfLeadingZeros_0f7a4_78 (Nat.le_of_ble_eq_true rfl) (Nat.le_of_ble_eq_true rfl) (hB _ _ ⟨congrArg (fun z => some (Value.int z)) (by subst_vars; simp only [nlzI, lz1, lz2, lz3, lz4, lz5, *, ↓reduceIte]), by rfl⟩)
        · skip
          refine V_iinc (pc := 54) (v := (-4)) (L2 := [(0, .int y1_)]) dJ6_numberOfLeadingZeros_0f7a4_54 1 rfl (by decide) (by decide) rfl (fun x1_54 ex1_54 => ?_)
          subst ex1_54
          refine V_iload_n (pc := 57) dJ6_numberOfLeadingZeros_0f7a4_57 1 rfl rfl ?_
          refine V_iconst (v := 4) (pc := 58) dJ6_numberOfLeadingZeros_0f7a4_58 (by decide) ?_
          refine V_iushr (pc := 59) dJ6_numberOfLeadingZeros_0f7a4_59 rfl ?_
          refine V_istore_n (pc := 60) (L2 := [(1, .int ((31 + (-16)) + (-4)))]) dJ6_numberOfLeadingZeros_0f7a4_60 rfl (by decide) rfl (fun y3_ ey3_ => ?_)
          refine V_iload_n (pc := 61) dJ6_numberOfLeadingZeros_0f7a4_61 0 rfl rfl ?_
          refine V_iconst (v := 4) (pc := 62) dJ6_numberOfLeadingZeros_0f7a4_62 (by decide) ?_
          refine V_icmp_lt (pc := 63) (tgt := 73) dJ6_numberOfLeadingZeros_0f7a4_63 (by decide) (fun h63 => ?_) (fun h63 => ?_)
          · skip
            refine V_iload_n (pc := 73) dJ6_numberOfLeadingZeros_0f7a4_73 1 rfl rfl ?_
            refine V_iload_n (pc := 74) dJ6_numberOfLeadingZeros_0f7a4_74 0 rfl rfl ?_
            refine V_iconst (v := 1) (pc := 75) dJ6_numberOfLeadingZeros_0f7a4_75 (by decide) ?_
            refine V_iushr (pc := 76) dJ6_numberOfLeadingZeros_0f7a4_76 rfl ?_
            refine V_isub (pc := 77) dJ6_numberOfLeadingZeros_0f7a4_77 ?_
            exact V_iret (pc := 78) dJ6_numberOfLeadingZeros_0f7a4_78 (Nat.le_of_ble_eq_true rfl) (Nat.le_of_ble_eq_true rfl) (hB _ _ ⟨congrArg (fun z => some (Value.int z)) (by subst_vars; simp only [nlzI, lz1, lz2, lz3, lz4, lz5, *, ↓reduceIte]), by rfl⟩)
          · skip
            refine V_iinc (pc := 66) (v := (-2)) (L2 := [(0, .int y3_)]) dJ6_numberOfLeadingZeros_0f7a4_66 1 rfl (by decide) (by decide) rfl (fun x1_66 ex1_66 => ?_)
            subst ex1_66
            refine V_iload_n (pc := 69) dJ6_numberOfLeadingZeros_0f7a4_69 1 rfl rfl ?_
            refine V_iconst (v := 2) (pc := 70) dJ6_numberOfLeadingZeros_0f7a4_70 (by decide) ?_
            refine V_iushr (pc := 71) dJ6_numberOfLeadingZeros_0f7a4_71 rfl ?_
            refine V_istore_n (pc := 72) (L2 := [(1, .int (((31 + (-16)) + (-4)) + (-2)))]) dJ6_numberOfLeadingZeros_0f7a4_72 rfl (by decide) rfl (fun y4_ ey4_ => ?_)
            refine V_iload_n (pc := 73) dJ6_numberOfLeadingZeros_0f7a4_73 1 rfl rfl ?_
            refine V_iload_n (pc := 74) dJ6_numberOfLeadingZeros_0f7a4_74 0 rfl rfl ?_
            refine V_iconst (v := 1) (pc := 75) dJ6_numberOfLeadingZeros_0f7a4_75 (by decide) ?_
            refine V_iushr (pc := 76) dJ6_numberOfLeadingZeros_0f7a4_76 rfl ?_
            refine V_isub (pc := 77) dJ6_numberOfLeadingZeros_0f7a4_77 ?_
            exact V_iret (pc := 78) dJ6_numberOfLeadingZeros_0f7a4_78 (Nat.le_of_ble_eq_true rfl) (Nat.le_of_ble_eq_true rfl) (hB _ _ ⟨congrArg (fun z => some (Value.int z)) (by subst_vars; simp only [nlzI, lz1, lz2, lz3, lz4, lz5, *, ↓reduceIte]), by rfl⟩)
      · skip
        refine V_iinc (pc := 40) (v := (-8)) (L2 := [(0, .int y1_)]) dJ6_numberOfLeadingZeros_0f7a4_40 1 rfl (by decide) (by decide) rfl (fun x1_40 ex1_40 => ?_)
        subst ex1_40
        refine V_iload_n (pc := 43) dJ6_numberOfLeadingZeros_0f7a4_43 1 rfl rfl ?_
        refine V_bipush (v := 8) (pc := 44) dJ6_numberOfLeadingZeros_0f7a4_44 (by decide) ?_
        refine V_iushr (pc := 46) dJ6_numberOfLeadingZeros_0f7a4_46 rfl ?_
        refine V_istore_n (pc := 47) (L2 := [(1, .int ((31 + (-16)) + (-8)))]) dJ6_numberOfLeadingZeros_0f7a4_47 rfl (by decide) rfl (fun y2_ ey2_ => ?_)
        refine V_iload_n (pc := 48) dJ6_numberOfLeadingZeros_0f7a4_48 0 rfl rfl ?_
        refine V_bipush (v := 16) (pc := 49) dJ6_numberOfLeadingZeros_0f7a4_49 (by decide) ?_
        refine V_icmp_lt (pc := 51) (tgt := 61) dJ6_numberOfLeadingZeros_0f7a4_51 (by decide) (fun h51 => ?_) (fun h51 => ?_)
        · skip
          refine V_iload_n (pc := 61) dJ6_numberOfLeadingZeros_0f7a4_61 0 rfl rfl ?_
          refine V_iconst (v := 4) (pc := 62) dJ6_numberOfLeadingZeros_0f7a4_62 (by decide) ?_
          refine V_icmp_lt (pc := 63) (tgt := 73) dJ6_numberOfLeadingZeros_0f7a4_63 (by decide) (fun h63 => ?_) (fun h63 => ?_)
          · skip
            refine V_iload_n (pc := 73) dJ6_numberOfLeadingZeros_0f7a4_73 1 rfl rfl ?_
            refine V_iload_n (pc := 74) dJ6_numberOfLeadingZeros_0f7a4_74 0 rfl rfl ?_
            refine V_iconst (v := 1) (pc := 75) dJ6_numberOfLeadingZeros_0f7a4_75 (by decide) ?_
            refine V_iushr (pc := 76) dJ6_numberOfLeadingZeros_0f7a4_76 rfl ?_
            refine V_isub (pc := 77) dJ6_numberOfLeadingZeros_0f7a4_77 ?_
            exact V_iret (pc := 78) dJ6_numberOfLeadingZeros_0f7a4_78 (Nat.le_of_ble_eq_true rfl) (Nat.le_of_ble_eq_true rfl) (hB _ _ ⟨congrArg (fun z => some (Value.int z)) (by subst_vars; simp only [nlzI, lz1, lz2, lz3, lz4, lz5, *, ↓reduceIte]), by rfl⟩)
          · skip
            refine V_iinc (pc := 66) (v := (-2)) (L2 := [(0, .int y2_)]) dJ6_numberOfLeadingZeros_0f7a4_66 1 rfl (by decide) (by decide) rfl (fun x1_66 ex1_66 => ?_)
            subst ex1_66
            refine V_iload_n (pc := 69) dJ6_numberOfLeadingZeros_0f7a4_69 1 rfl rfl ?_
            refine V_iconst (v := 2) (pc := 70) dJ6_numberOfLeadingZeros_0f7a4_70 (by decide) ?_
            refine V_iushr (pc := 71) dJ6_numberOfLeadingZeros_0f7a4_71 rfl ?_
            refine V_istore_n (pc := 72) (L2 := [(1, .int (((31 + (-16)) + (-8)) + (-2)))]) dJ6_numberOfLeadingZeros_0f7a4_72 rfl (by decide) rfl (fun y4_ ey4_ => ?_)
            refine V_iload_n (pc := 73) dJ6_numberOfLeadingZeros_0f7a4_73 1 rfl rfl ?_
            refine V_iload_n (pc := 74) dJ6_numberOfLeadingZeros_0f7a4_74 0 rfl rfl ?_
            refine V_iconst (v := 1) (pc := 75) dJ6_numberOfLeadingZeros_0f7a4_75 (by decide) ?_
            refine V_iushr (pc := 76) dJ6_numberOfLeadingZeros_0f7a4_76 rfl ?_
            refine V_isub (pc := 77) dJ6_numberOfLeadingZeros_0f7a4_77 ?_
            exact V_iret (pc := 78) dJ6_numberOfLeadingZeros_0f7a4_78 (Nat.le_of_ble_eq_true rfl) (Nat.le_of_ble_eq_true rfl) (hB _ _ ⟨congrArg (fun z => some (Value.int z)) (by subst_vars; simp only [nlzI, lz1, lz2, lz3, lz4, lz5, *, ↓reduceIte]), by rfl⟩)
        · skip
          refine V_iinc (pc := 54) (v := (-4)) (L2 := [(0, .int y2_)]) dJ6_numberOfLeadingZeros_0f7a4_54 1 rfl (by decide) (by decide) rfl (fun x1_54 ex1_54 => ?_)
          subst ex1_54
          refine V_iload_n (pc := 57) dJ6_numberOfLeadingZeros_0f7a4_57 1 rfl rfl ?_
          refine V_iconst (v := 4) (pc := 58) dJ6_numberOfLeadingZeros_0f7a4_58 (by decide) ?_
          refine V_iushr (pc := 59) dJ6_numberOfLeadingZeros_0f7a4_59 rfl ?_
          refine V_istore_n (pc := 60) (L2 := [(1, .int (((31 + (-16)) + (-8)) + (-4)))]) dJ6_numberOfLeadingZeros_0f7a4_60 rfl (by decide) rfl (fun y3_ ey3_ => ?_)
          refine V_iload_n (pc := 61) dJ6_numberOfLeadingZeros_0f7a4_61 0 rfl rfl ?_
          refine V_iconst (v := 4) (pc := 62) dJ6_numberOfLeadingZeros_0f7a4_62 (by decide) ?_
          refine V_icmp_lt (pc := 63) (tgt := 73) dJ6_numberOfLeadingZeros_0f7a4_63 (by decide) (fun h63 => ?_) (fun h63 => ?_)
          · skip
            refine V_iload_n (pc := 73) dJ6_numberOfLeadingZeros_0f7a4_73 1 rfl rfl ?_
            refine V_iload_n (pc := 74) dJ6_numberOfLeadingZeros_0f7a4_74 0 rfl rfl ?_
            refine V_iconst (v := 1) (pc := 75) dJ6_numberOfLeadingZeros_0f7a4_75 (by decide) ?_
            refine V_iushr (pc := 76) dJ6_numberOfLeadingZeros_0f7a4_76 rfl ?_
            refine V_isub (pc := 77) dJ6_numberOfLeadingZeros_0f7a4_77 ?_
            exact V_iret (pc := 78) dJ6_numberOfLeadingZeros_0f7a4_78 (Nat.le_of_ble_eq_true rfl) (Nat.le_of_ble_eq_true rfl) (hB _ _ ⟨congrArg (fun z => some (Value.int z)) (by subst_vars; simp only [nlzI, lz1, lz2, lz3, lz4, lz5, *, ↓reduceIte]), by rfl⟩)
          · skip
            refine V_iinc (pc := 66) (v := (-2)) (L2 := [(0, .int y3_)]) dJ6_numberOfLeadingZeros_0f7a4_66 1 rfl (by decide) (by decide) rfl (fun x1_66 ex1_66 => ?_)
            subst ex1_66
            refine V_iload_n (pc := 69) dJ6_numberOfLeadingZeros_0f7a4_69 1 rfl rfl ?_
            refine V_iconst (v := 2) (pc := 70) dJ6_numberOfLeadingZeros_0f7a4_70 (by decide) ?_
            refine V_iushr (pc := 71) dJ6_numberOfLeadingZeros_0f7a4_71 rfl ?_
            refine V_istore_n (pc := 72) (L2 := [(1, .int ((((31 + (-16)) + (-8)) + (-4)) + (-2)))]) dJ6_numberOfLeadingZeros_0f7a4_72 rfl (by decide) rfl (fun y4_ ey4_ => ?_)
            refine V_iload_n (pc := 73) dJ6_numberOfLeadingZeros_0f7a4_73 1 rfl rfl ?_
            refine V_iload_n (pc := 74) dJ6_numberOfLeadingZeros_0f7a4_74 0 rfl rfl ?_
            refine V_iconst (v := 1) (pc := 75) dJ6_numberOfLeadingZeros_0f7a4_75 (by decide) ?_
            refine V_iushr (pc := 76) dJ6_numberOfLeadingZeros_0f7a4_76 rfl ?_
            refine V_isub (pc := 77) dJ6_numberOfLeadingZeros_0f7a4_77 ?_
            exact V_iret (pc := 78) dJ6_numberOfLeadingZeros_0f7a4_78 (Nat.le_of_ble_eq_true rfl) (Nat.le_of_ble_eq_true rfl) (hB _ _ ⟨congrArg (fun z => some (Value.int z)) (by subst_vars; simp only [nlzI, lz1, lz2, lz3, lz4, lz5, *, ↓reduceIte]), by rfl⟩)
  · skip
    refine V_iload_n (pc := 4) dJ6_numberOfLeadingZeros_0f7a4_4 0 rfl rfl ?_
    refine V_if_ne (pc := 5) (tgt := 13) dJ6_numberOfLeadingZeros_0f7a4_5 (by decide) (fun h5 => ?_) (fun h5 => ?_)
    · skip
      refine V_iconst (v := 0) (pc := 13) dJ6_numberOfLeadingZeros_0f7a4_13 (by decide) ?_
      exact V_iret (pc := 14) dJ6_numberOfLeadingZeros_0f7a4_14 (Nat.le_of_ble_eq_true rfl) (Nat.le_of_ble_eq_true rfl) (hB _ _ ⟨congrArg (fun z => some (Value.int z)) (by unfold nlzI; rw [if_neg h1]; first | exact (if_pos h5).symm | exact (if_neg h5).symm), by rfl⟩)
    · skip
      refine V_bipush (v := 32) (pc := 8) dJ6_numberOfLeadingZeros_0f7a4_8 (by decide) ?_
      refine V_goto (pc := 10) (tgt := 14) dJ6_numberOfLeadingZeros_0f7a4_10 (by decide) ?_
      exact V_iret (pc := 14) dJ6_numberOfLeadingZeros_0f7a4_14 (Nat.le_of_ble_eq_true rfl) (Nat.le_of_ble_eq_true rfl) (hB _ _ ⟨congrArg (fun z => some (Value.int z)) (by unfold nlzI; rw [if_neg h1]; first | exact (if_pos h5).symm | exact (if_neg h5).symm), by rfl⟩)
set_option maxHeartbeats 4000000 in
set_option maxRecDepth 100000 in
theorem c_J13_numberOfTrailingZeros_95d88 (Z : VZ) (S : XS) (x_ : Int64) : CtF XW Z yJ13_numberOfTrailingZeros_95d88 cJ13_numberOfTrailingZeros_95d88 3 (some .int) 1 0 0 [.long x_] (S) (some (.int (ntzL x_))) (S) := by
  refine V_entry (own := RJ13) (by decide) rfl (Nat.le_of_ble_eq_true rfl) ?_
  intro B hB
  refine V_sub (L' := [(0, .long x_)]) [0] rfl ?_
  refine V_lload_n (pc := 0) dJ13_numberOfTrailingZeros_95d88_0 0 rfl rfl ?_
  refine V_l2i (pc := 1) dJ13_numberOfTrailingZeros_95d88_1 rfl ?_
  refine V_istore_n (pc := 2) (L2 := [(0, .long x_)]) dJ13_numberOfTrailingZeros_95d88_2 rfl (by decide) rfl (fun x2_2 ex2_2 => ?_)
  subst ex2_2
  refine V_iload_n (pc := 3) dJ13_numberOfTrailingZeros_95d88_3 0 rfl rfl ?_
  refine V_if_ne (pc := 4) (tgt := 21) dJ13_numberOfTrailingZeros_95d88_4 (by decide) (fun h4 => ?_) (fun h4 => ?_)
  · skip
    refine V_iload_n (pc := 21) dJ13_numberOfTrailingZeros_95d88_21 0 rfl rfl ?_
    refine V_callSi (pc := 22) dJ13_numberOfTrailingZeros_95d88_22 (c_J6_numberOfTrailingZeros_0f7a4 Z _ _) kJ13_311 rfl (Nat.le_of_ble_eq_true rfl) (by decide) (by decide) (Nat.le_of_ble_eq_true rfl) (Nat.le_of_ble_eq_true rfl) ?_
    exact V_iret (pc := 25) dJ13_numberOfTrailingZeros_95d88_25 (Nat.le_of_ble_eq_true rfl) (Nat.le_of_ble_eq_true rfl) (hB _ _ ⟨congrArg (fun z => some (Value.int z)) (by simp only [ntzL, *, ↓reduceIte]), by rfl⟩)
  · skip
    refine V_bipush (v := 32) (pc := 7) dJ13_numberOfTrailingZeros_95d88_7 (by decide) ?_
    refine V_lload_n (pc := 9) dJ13_numberOfTrailingZeros_95d88_9 1 rfl rfl ?_
    refine V_bipush (v := 32) (pc := 10) dJ13_numberOfTrailingZeros_95d88_10 (by decide) ?_
    refine V_lushr (pc := 12) dJ13_numberOfTrailingZeros_95d88_12 rfl ?_
    refine V_l2i (pc := 13) dJ13_numberOfTrailingZeros_95d88_13 rfl ?_
    refine V_callSi (pc := 14) dJ13_numberOfTrailingZeros_95d88_14 (c_J6_numberOfTrailingZeros_0f7a4 Z _ _) kJ13_311 rfl (Nat.le_of_ble_eq_true rfl) (by decide) (by decide) (Nat.le_of_ble_eq_true rfl) (Nat.le_of_ble_eq_true rfl) ?_
    refine V_iadd (pc := 17) dJ13_numberOfTrailingZeros_95d88_17 ?_
    refine V_goto (pc := 18) (tgt := 25) dJ13_numberOfTrailingZeros_95d88_18 (by decide) ?_
    exact V_iret (pc := 25) dJ13_numberOfTrailingZeros_95d88_25 (Nat.le_of_ble_eq_true rfl) (Nat.le_of_ble_eq_true rfl) (hB _ _ ⟨congrArg (fun z => some (Value.int z)) (by simp only [ntzL, *, ↓reduceIte]), by rfl⟩)
set_option maxHeartbeats 4000000 in
set_option maxRecDepth 100000 in
theorem c_J13_numberOfLeadingZeros_95d88 (Z : VZ) (S : XS) (x_ : Int64) : CtF XW Z yJ13_numberOfLeadingZeros_95d88 cJ13_numberOfLeadingZeros_95d88 3 (some .int) 1 0 0 [.long x_] (S) (some (.int (nlzL x_))) (S) := by
  refine V_entry (own := RJ13) (by decide) rfl (Nat.le_of_ble_eq_true rfl) ?_
  intro B hB
  refine V_sub (L' := [(0, .long x_)]) [0] rfl ?_
  refine V_lload_n (pc := 0) dJ13_numberOfLeadingZeros_95d88_0 0 rfl rfl ?_
  refine V_bipush (v := 32) (pc := 1) dJ13_numberOfLeadingZeros_95d88_1 (by decide) ?_
  refine V_lushr (pc := 3) dJ13_numberOfLeadingZeros_95d88_3 rfl ?_
  refine V_l2i (pc := 4) dJ13_numberOfLeadingZeros_95d88_4 rfl ?_
  refine V_istore_n (pc := 5) (L2 := [(0, .long x_)]) dJ13_numberOfLeadingZeros_95d88_5 rfl (by decide) rfl (fun x2_5 ex2_5 => ?_)
  subst ex2_5
  refine V_iload_n (pc := 6) dJ13_numberOfLeadingZeros_95d88_6 0 rfl rfl ?_
  refine V_if_ne (pc := 7) (tgt := 21) dJ13_numberOfLeadingZeros_95d88_7 (by decide) (fun h7 => ?_) (fun h7 => ?_)
  · skip
    refine V_iload_n (pc := 21) dJ13_numberOfLeadingZeros_95d88_21 0 rfl rfl ?_
    refine V_callSi (pc := 22) dJ13_numberOfLeadingZeros_95d88_22 (c_J6_numberOfLeadingZeros_0f7a4 Z _ _) kJ13_308 rfl (Nat.le_of_ble_eq_true rfl) (by decide) (by decide) (Nat.le_of_ble_eq_true rfl) (Nat.le_of_ble_eq_true rfl) ?_
    exact V_iret (pc := 25) dJ13_numberOfLeadingZeros_95d88_25 (Nat.le_of_ble_eq_true rfl) (Nat.le_of_ble_eq_true rfl) (hB _ _ ⟨congrArg (fun z => some (Value.int z)) (by simp only [nlzL, *, ↓reduceIte]), by rfl⟩)
  · skip
    refine V_bipush (v := 32) (pc := 10) dJ13_numberOfLeadingZeros_95d88_10 (by decide) ?_
    refine V_lload_n (pc := 12) dJ13_numberOfLeadingZeros_95d88_12 1 rfl rfl ?_
    refine V_l2i (pc := 13) dJ13_numberOfLeadingZeros_95d88_13 rfl ?_
    refine V_callSi (pc := 14) dJ13_numberOfLeadingZeros_95d88_14 (c_J6_numberOfLeadingZeros_0f7a4 Z _ _) kJ13_308 rfl (Nat.le_of_ble_eq_true rfl) (by decide) (by decide) (Nat.le_of_ble_eq_true rfl) (Nat.le_of_ble_eq_true rfl) ?_
    refine V_iadd (pc := 17) dJ13_numberOfLeadingZeros_95d88_17 ?_
    refine V_goto (pc := 18) (tgt := 25) dJ13_numberOfLeadingZeros_95d88_18 (by decide) ?_
    exact V_iret (pc := 25) dJ13_numberOfLeadingZeros_95d88_25 (Nat.le_of_ble_eq_true rfl) (Nat.le_of_ble_eq_true rfl) (hB _ _ ⟨congrArg (fun z => some (Value.int z)) (by simp only [nlzL, *, ↓reduceIte]), by rfl⟩)
set_option maxHeartbeats 4000000 in
set_option maxRecDepth 100000 in
theorem c_J13_bitCount_95d88 (Z : VZ) (S : XS) (x_ : Int64) : CtF XW Z yJ13_bitCount_95d88 cJ13_bitCount_95d88 2 (some .int) 0 0 0 [.long x_] (S) (some (.int (lbc x_))) (S) := by
  refine V_entry (own := RJ13) (by decide) rfl (Nat.le_of_ble_eq_true rfl) ?_
  intro B hB
  refine V_sub (L' := [(0, .long x_)]) [0] rfl ?_
  refine V_lload_n (pc := 0) dJ13_bitCount_95d88_0 0 rfl rfl ?_
  refine V_lload_n (pc := 1) dJ13_bitCount_95d88_1 0 rfl rfl ?_
  refine V_iconst (v := 1) (pc := 2) dJ13_bitCount_95d88_2 (by decide) ?_
  refine V_lushr (pc := 3) dJ13_bitCount_95d88_3 rfl ?_
  refine V_ldc2 (pc := 4) dJ13_bitCount_95d88_4 tw_590 ?_
  refine V_land (pc := 7) dJ13_bitCount_95d88_7 ?_
  refine V_lsub (pc := 8) dJ13_bitCount_95d88_8 ?_
  refine V_lstore_n (pc := 9) (L2 := []) dJ13_bitCount_95d88_9 rfl (by decide) rfl (fun n1_ en1_ => ?_)
  refine V_lload_n (pc := 10) dJ13_bitCount_95d88_10 0 rfl rfl ?_
  refine V_ldc2 (pc := 11) dJ13_bitCount_95d88_11 tw_591 ?_
  refine V_land (pc := 14) dJ13_bitCount_95d88_14 ?_
  refine V_lload_n (pc := 15) dJ13_bitCount_95d88_15 0 rfl rfl ?_
  refine V_iconst (v := 2) (pc := 16) dJ13_bitCount_95d88_16 (by decide) ?_
  refine V_lushr (pc := 17) dJ13_bitCount_95d88_17 rfl ?_
  refine V_ldc2 (pc := 18) dJ13_bitCount_95d88_18 tw_591 ?_
  refine V_land (pc := 21) dJ13_bitCount_95d88_21 ?_
  refine V_ladd (pc := 22) dJ13_bitCount_95d88_22 ?_
  refine V_lstore_n (pc := 23) (L2 := []) dJ13_bitCount_95d88_23 rfl (by decide) rfl (fun n2_ en2_ => ?_)
  refine V_lload_n (pc := 24) dJ13_bitCount_95d88_24 0 rfl rfl ?_
  refine V_lload_n (pc := 25) dJ13_bitCount_95d88_25 0 rfl rfl ?_
  refine V_iconst (v := 4) (pc := 26) dJ13_bitCount_95d88_26 (by decide) ?_
  refine V_lushr (pc := 27) dJ13_bitCount_95d88_27 rfl ?_
  refine V_ladd (pc := 28) dJ13_bitCount_95d88_28 ?_
  refine V_ldc2 (pc := 29) dJ13_bitCount_95d88_29 tw_592 ?_
  refine V_land (pc := 32) dJ13_bitCount_95d88_32 ?_
  refine V_lstore_n (pc := 33) (L2 := []) dJ13_bitCount_95d88_33 rfl (by decide) rfl (fun n3_ en3_ => ?_)
  refine V_lload_n (pc := 34) dJ13_bitCount_95d88_34 0 rfl rfl ?_
  refine V_lload_n (pc := 35) dJ13_bitCount_95d88_35 0 rfl rfl ?_
  refine V_bipush (v := 8) (pc := 36) dJ13_bitCount_95d88_36 (by decide) ?_
  refine V_lushr (pc := 38) dJ13_bitCount_95d88_38 rfl ?_
  refine V_ladd (pc := 39) dJ13_bitCount_95d88_39 ?_
  refine V_lstore_n (pc := 40) (L2 := []) dJ13_bitCount_95d88_40 rfl (by decide) rfl (fun n4_ en4_ => ?_)
  refine V_lload_n (pc := 41) dJ13_bitCount_95d88_41 0 rfl rfl ?_
  refine V_lload_n (pc := 42) dJ13_bitCount_95d88_42 0 rfl rfl ?_
  refine V_bipush (v := 16) (pc := 43) dJ13_bitCount_95d88_43 (by decide) ?_
  refine V_lushr (pc := 45) dJ13_bitCount_95d88_45 rfl ?_
  refine V_ladd (pc := 46) dJ13_bitCount_95d88_46 ?_
  refine V_lstore_n (pc := 47) (L2 := []) dJ13_bitCount_95d88_47 rfl (by decide) rfl (fun n5_ en5_ => ?_)
  refine V_lload_n (pc := 48) dJ13_bitCount_95d88_48 0 rfl rfl ?_
  refine V_lload_n (pc := 49) dJ13_bitCount_95d88_49 0 rfl rfl ?_
  refine V_bipush (v := 32) (pc := 50) dJ13_bitCount_95d88_50 (by decide) ?_
  refine V_lushr (pc := 52) dJ13_bitCount_95d88_52 rfl ?_
  refine V_ladd (pc := 53) dJ13_bitCount_95d88_53 ?_
  refine V_lstore_n (pc := 54) (L2 := []) dJ13_bitCount_95d88_54 rfl (by decide) rfl (fun n6_ en6_ => ?_)
  refine V_lload_n (pc := 55) dJ13_bitCount_95d88_55 0 rfl rfl ?_
  refine V_l2i (pc := 56) dJ13_bitCount_95d88_56 rfl ?_
  refine V_bipush (v := 127) (pc := 57) dJ13_bitCount_95d88_57 (by decide) ?_
  refine V_iand (pc := 59) dJ13_bitCount_95d88_59 ?_
  exact V_iret (pc := 60) dJ13_bitCount_95d88_60 (Nat.le_of_ble_eq_true rfl) (Nat.le_of_ble_eq_true rfl) (hB _ _ ⟨congrArg (fun z => some (Value.int z)) (by subst_vars; rfl), by rfl⟩)
set_option maxHeartbeats 4000000 in
set_option maxRecDepth 100000 in
theorem c_J9_floorDiv_f86c9 (Z : VZ) (S : XS) (a_ : Int64) (b_ : Int64) (hb : ¬ b_ = 0) : CtF XW Z yJ9_floorDiv_f86c9 cJ9_floorDiv_f86c9 6 (some .long) 0 0 0 [.long a_, .long b_] (S) (some (.long (flD a_ b_))) (S) := by
  refine V_entryF (own := RJ9) (by decide +kernel) rfl (Nat.le_of_ble_eq_true rfl) ?_
  intro B hB
  refine V_sub (L' := [(0, .long a_), (2, .long b_)]) [0, 1] rfl ?_
  refine V_lload_n (pc := 0) dJ9_floorDiv_f86c9_0 0 rfl rfl ?_
  refine V_lload_n (pc := 1) dJ9_floorDiv_f86c9_1 1 rfl rfl ?_
  refine V_ldiv (pc := 2) dJ9_floorDiv_f86c9_2 (by exact hb) ?_
  refine V_lstore (pc := 3) (L2 := [(0, .long a_), (2, .long b_)]) dJ9_floorDiv_f86c9_3 (by decide) rfl (fun x4_3 ex4_3 => ?_)
  subst ex4_3
  refine V_lload_n (pc := 5) dJ9_floorDiv_f86c9_5 1 rfl rfl ?_
  refine V_lload_n (pc := 6) dJ9_floorDiv_f86c9_6 2 rfl rfl ?_
  refine V_lxor (pc := 7) dJ9_floorDiv_f86c9_7 ?_
  refine V_lconst (v := 0) (pc := 8) dJ9_floorDiv_f86c9_8 (by decide) ?_
  refine V_lcmp (pc := 9) dJ9_floorDiv_f86c9_9 ?_
  refine V_if_ge (pc := 10) (tgt := 27) dJ9_floorDiv_f86c9_10 (by decide) (fun h10 => ?_) (fun h10 => ?_)
  · skip
    refine V_lload (pc := 27) dJ9_floorDiv_f86c9_27 0 rfl ?_
    exact V_lret (pc := 29) dJ9_floorDiv_f86c9_29 (Nat.le_of_ble_eq_true rfl) (Nat.le_of_ble_eq_true rfl) (hB _ _ ⟨congrArg (fun z => some (Value.long z)) (by simp only [flD, *, ↓reduceIte]), by rfl⟩)
  · skip
    refine V_lload (pc := 13) dJ9_floorDiv_f86c9_13 0 rfl ?_
    refine V_lload_n (pc := 15) dJ9_floorDiv_f86c9_15 2 rfl rfl ?_
    refine V_lmul (pc := 16) dJ9_floorDiv_f86c9_16 ?_
    refine V_lload_n (pc := 17) dJ9_floorDiv_f86c9_17 1 rfl rfl ?_
    refine V_lcmp (pc := 18) dJ9_floorDiv_f86c9_18 ?_
    refine V_if_eq (pc := 19) (tgt := 27) dJ9_floorDiv_f86c9_19 (by decide) (fun h19 => ?_) (fun h19 => ?_)
    · skip
      refine V_lload (pc := 27) dJ9_floorDiv_f86c9_27 0 rfl ?_
      exact V_lret (pc := 29) dJ9_floorDiv_f86c9_29 (Nat.le_of_ble_eq_true rfl) (Nat.le_of_ble_eq_true rfl) (hB _ _ ⟨congrArg (fun z => some (Value.long z)) (by simp only [flD, *, ↓reduceIte]), by rfl⟩)
    · skip
      refine V_lload (pc := 22) dJ9_floorDiv_f86c9_22 0 rfl ?_
      refine V_lconst (v := 1) (pc := 24) dJ9_floorDiv_f86c9_24 (by decide) ?_
      refine V_lsub (pc := 25) dJ9_floorDiv_f86c9_25 ?_
      exact V_lret (pc := 26) dJ9_floorDiv_f86c9_26 (Nat.le_of_ble_eq_true rfl) (Nat.le_of_ble_eq_true rfl) (hB _ _ ⟨congrArg (fun z => some (Value.long z)) (by simp only [flD, *, ↓reduceIte]), by rfl⟩)
