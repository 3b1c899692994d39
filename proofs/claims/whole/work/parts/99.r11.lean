theorem iL_lN {x : Int} (h0 : 0 ≤ x) (h : x < 2 ^ 62) : iL x = lN x.toNat := by
  apply Int64.toInt_inj.mp
  rw [iL_t ⟨by omega, by omega⟩]
  have q := iL_t (x := (x.toNat : Int)) ⟨by omega, by omega⟩
  have e : iL (x.toNat : Int) = lN x.toNat := by
    show Int64.ofInt (x.toNat : Int) = _
    exact Int64.ofInt_eq_ofNat
  rw [← e, q]
  omega
theorem nlz_sz {A B : Int} (ha : smQ A) (hb : smQ B) : 64 - nlzL (iL (szQ A B)) = nI (dgl (szQ A B).toNat) := by
  have h0 : 0 ≤ szQ A B := by unfold szQ; omega
  have h1 : szQ A B < 2 ^ 62 := by
    obtain ⟨a1, a2⟩ := ha
    obtain ⟨b1, b2⟩ := hb
    unfold szQ
    omega
  rw [iL_lN h0 h1]
  exact nlz_N (by omega)
theorem fr_eq {A B : Int} (ha : smQ A) (hb : smQ B) (w : Int32) : frV A B w = frM A B w := by
  unfold frV frM
  rw [nlz_sz ha hb]
