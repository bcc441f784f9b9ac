/-! ===== small numbers as ints ===== -/
theorem zib_nI {k n : Nat} (h : k < n) (hn : n < 2 ^ 31) : zib (nI k) n = true := by
  unfold zib
  rw [nI_clamp (by omega)]
  simp only [Bool.and_eq_true, Bool.not_eq_true', decide_eq_false_iff_not, decide_eq_true_eq]
  exact ⟨nI_pos (by omega), h⟩
theorem zib_ex {x : Int32} {n : Nat} (h : zib x n = true) : x.toNatClampNeg < n ∧ ¬ x < 0 := by
  unfold zib at h
  simp only [Bool.and_eq_true, Bool.not_eq_true', decide_eq_false_iff_not, decide_eq_true_eq] at h
  exact ⟨h.2, h.1⟩
theorem zib_of {x : Int32} {n : Nat} (h : ¬ x < 0) (h2 : x.toNatClampNeg < n) : zib x n = true := by
  unfold zib
  simp [h, h2]
theorem zib_mono {x : Int32} {n m : Nat} (h : zib x n = true) (hm : n ≤ m) : zib x m = true := zib_of (zib_ex h).2 (Nat.lt_of_lt_of_le (zib_ex h).1 hm)
theorem nI_rd {x : Int32} (h : ¬ x < 0) : nI x.toNatClampNeg = x := by
  have hn := znn x h
  apply Int32.toInt_inj.mp
  have hb : x.toInt < 2 ^ 31 := by
    have := Int32.toInt_lt x
    exact this
  rw [nI_toInt (by omega)]
  exact hn.symm
theorem rd_lt {x : Int32} : x.toNatClampNeg < 2 ^ 31 := by
  have h1 := Int32.toInt_lt x
  have : x.toNatClampNeg = x.toInt.toNat := rfl
  omega
theorem nI_inj {a b : Nat} (ha : a < 2 ^ 31) (hb : b < 2 ^ 31) : nI a = nI b ↔ a = b := by
  constructor
  · intro h
    have := congrArg Int32.toNatClampNeg h
    rwa [nI_clamp ha, nI_clamp hb] at this
  · intro h
    rw [h]
theorem nJ_le {a b : Nat} (ha : a < 2 ^ 31) (hb : b < 2 ^ 31) : nI a ≤ nI b ↔ a ≤ b := by
  rw [Int32.le_iff_toInt_le, nI_toInt ha, nI_toInt hb]
  omega
theorem nJ_lt {a b : Nat} (ha : a < 2 ^ 31) (hb : b < 2 ^ 31) : nI a < nI b ↔ a < b := by
  rw [Int32.lt_iff_toInt_lt, nI_toInt ha, nI_toInt hb]
  omega
theorem rd_inj {x y : Int32} (hx : ¬ x < 0) (hy : ¬ y < 0) : x.toNatClampNeg = y.toNatClampNeg ↔ x = y := by
  constructor
  · intro h
    rw [← nI_rd hx, ← nI_rd hy, h]
  · intro h
    rw [h]
theorem zib_lt {x : Int32} {n : Nat} (hn : n < 2 ^ 31) (hx : ¬ x < 0) : (nI n ≤ x) = ¬ (zib x n = true) := by
  apply propext
  constructor
  · intro h z
    have := (zib_ex z).1
    rw [← nI_rd hx, nJ_le hn rd_lt] at h
    omega
  · intro h
    rw [← nI_rd hx, nJ_le hn rd_lt]
    refine Nat.not_lt.mp fun z => h (zib_of hx z)
theorem zib_neg {x : Int32} {n : Nat} (hx : x < 0) : zib x n = false := by
  unfold zib
  simp [hx]
/-- an index, or none -/
theorem zib_cases (x : Int32) (n : Nat) : zib x n = true ∨ zib x n = false := by
  cases zib x n <;> simp
