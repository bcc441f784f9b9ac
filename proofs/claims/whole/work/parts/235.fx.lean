/-! ===== the reference writes a text ===== -/
def FX (r : Nat) (R R' : zH) : Prop := (∀ q i k, ¬ (q = 144 ∧ 60 * r ≤ k) → zI R' q i k = zI R q i k) ∧ (∀ q i k, zJ R' q i k = zJ R q i k) ∧ (∀ q i k, zR R' q i k = zR R q i k) ∧ (∀ q, zN R' q = zN R q) ∧ ∀ q i, zL R' q i = zL R q i
theorem FX.rf {r : Nat} {R : zH} : FX r R R := ⟨fun _ _ _ _ => rfl, fun _ _ _ => rfl, fun _ _ _ => rfl, fun _ => rfl, fun _ _ => rfl⟩
theorem FX.set {r : Nat} {R R' : zH} (h : FX r R R') {k : Nat} (hk : 60 * r ≤ k) (x : Int32) : FX r R (zsI R' 144 0 k x) := ⟨fun q i l h1 => by rw [wI_sI, if_neg (fun z => h1 ⟨z.1, by rw [z.2.2]; exact hk⟩)]; exact h.1 q i l h1, fun q i l => by rw [wJ_sI]; exact h.2.1 q i l, fun q i l => by rw [wR_sI]; exact h.2.2.1 q i l, fun q => by rw [wN_sI]; exact h.2.2.2.1 q, fun q i => by rw [wL_sI]; exact h.2.2.2.2 q i⟩
theorem FX.kr {r : Nat} {R R' : zH} (h : FX r R R') (hr : KR R) : KR R' := by
  unfold KR at *
  simp only [h.2.2.1, h.2.2.2.2]
  exact hr
theorem FX_kc {r : Nat} {C R R' : zH} (F : FX r R R') (h : KC C) : KC C := by
  obtain ⟨f1, f2, f3, f4, f5⟩ := F
  (try simp only [f2, f3, f4, f5])
  exact h
theorem FX_cnt {r : Nat} {C R R' : zH} (F : FX r R R') (h : zI R 40 0 49 = nI (zN C 3) ∧ zI R 40 0 50 = nI (zN C 4) ∧ zI R 40 0 51 = nI (zN C 5) ∧ zI R 40 0 52 = nI (zN C 6)) : zI R' 40 0 49 = nI (zN C 3) ∧ zI R' 40 0 50 = nI (zN C 4) ∧ zI R' 40 0 51 = nI (zN C 5) ∧ zI R' 40 0 52 = nI (zN C 6) := by
  obtain ⟨f1, f2, f3, f4, f5⟩ := F
  have i40 : ∀ i k, zI R' 40 i k = zI R 40 i k := fun i k => f1 40 i k (by simp)
  (try simp only [f2, f3, f4, f5, i40])
  exact h
theorem FX_mx {r : Nat} {C R R' : zH} (F : FX r R R') (h : zN C 3 ≤ 40 ∧ zN C 4 ≤ 60 ∧ zN C 5 ≤ 30 ∧ zN C 6 ≤ 30) : zN C 3 ≤ 40 ∧ zN C 4 ≤ 60 ∧ zN C 5 ≤ 30 ∧ zN C 6 ≤ 30 := by
  obtain ⟨f1, f2, f3, f4, f5⟩ := F
  (try simp only [f2, f3, f4, f5])
  exact h
theorem FX_la {r : Nat} {C R R' : zH} (F : FX r R R') (h : LO C 10 (zN C 3)) : LO C 10 (zN C 3) := by
  obtain ⟨f1, f2, f3, f4, f5⟩ := F
  (try simp only [f2, f3, f4, f5])
  exact h
theorem FX_ll {r : Nat} {C R R' : zH} (F : FX r R R') (h : LO C 11 (zN C 4)) : LO C 11 (zN C 4) := by
  obtain ⟨f1, f2, f3, f4, f5⟩ := F
  (try simp only [f2, f3, f4, f5])
  exact h
theorem FX_lm {r : Nat} {C R R' : zH} (F : FX r R R') (h : LO C 12 (zN C 5)) : LO C 12 (zN C 5) := by
  obtain ⟨f1, f2, f3, f4, f5⟩ := F
  (try simp only [f2, f3, f4, f5])
  exact h
theorem FX_lr {r : Nat} {C R R' : zH} (F : FX r R R') (h : LO C 13 (zN C 6)) : LO C 13 (zN C 6) := by
  obtain ⟨f1, f2, f3, f4, f5⟩ := F
  (try simp only [f2, f3, f4, f5])
  exact h
theorem FX_al {r : Nat} {C R R' : zH} (F : FX r R R') (h : zN C 23 = zN C 3 ∧ zN C 24 = zN C 4 ∧ zN C 25 = zN C 6 ∧ 0 < zN C 0 ∧ 0 < zN R 40) : zN C 23 = zN C 3 ∧ zN C 24 = zN C 4 ∧ zN C 25 = zN C 6 ∧ 0 < zN C 0 ∧ 0 < zN R' 40 := by
  obtain ⟨f1, f2, f3, f4, f5⟩ := F
  (try simp only [f2, f3, f4, f5])
  exact h
theorem FX_bno {r : Nat} {C R R' : zH} (F : FX r R R') (h : ∀ b, b < 8 → zR C 18 0 b = some b ∧ zI C 2 b 0 = nI b) : ∀ b, b < 8 → zR C 18 0 b = some b ∧ zI C 2 b 0 = nI b := by
  obtain ⟨f1, f2, f3, f4, f5⟩ := F
  (try simp only [f2, f3, f4, f5])
  exact h
theorem FX_bfee {r : Nat} {C R R' : zH} (F : FX r R R') (h : ∀ b, b < 8 → zI C 2 b 1 = zI R 104 0 b ∧ zib (zI R 104 0 b) 1000 = true) : ∀ b, b < 8 → zI C 2 b 1 = zI R' 104 0 b ∧ zib (zI R' 104 0 b) 1000 = true := by
  obtain ⟨f1, f2, f3, f4, f5⟩ := F
  have i104 : ∀ i k, zI R' 104 i k = zI R 104 i k := fun i k => f1 104 i k (by simp)
  (try simp only [f2, f3, f4, f5, i104])
  exact h
theorem FX_bcap {r : Nat} {C R R' : zH} (F : FX r R R') (h : ∀ b, b < 8 → zI C 2 b 2 = zI R 105 0 b) : ∀ b, b < 8 → zI C 2 b 2 = zI R' 105 0 b := by
  obtain ⟨f1, f2, f3, f4, f5⟩ := F
  have i105 : ∀ i k, zI R' 105 i k = zI R 105 i k := fun i k => f1 105 i k (by simp)
  (try simp only [f2, f3, f4, f5, i105])
  exact h
theorem FX_bow {r : Nat} {C R R' : zH} (F : FX r R R') (h : ∀ b, b < 8 → zI C 2 b 3 = zI R 106 0 b ∧ zib (zI R 106 0 b) 1000000001 = true) : ∀ b, b < 8 → zI C 2 b 3 = zI R' 106 0 b ∧ zib (zI R' 106 0 b) 1000000001 = true := by
  obtain ⟨f1, f2, f3, f4, f5⟩ := F
  have i106 : ∀ i k, zI R' 106 i k = zI R 106 i k := fun i k => f1 106 i k (by simp)
  (try simp only [f2, f3, f4, f5, i106])
  exact h
theorem FX_bdid {r : Nat} {C R R' : zH} (F : FX r R R') (h : ∀ b, b < 8 → zI C 2 b 4 = zI R 107 0 b) : ∀ b, b < 8 → zI C 2 b 4 = zI R' 107 0 b := by
  obtain ⟨f1, f2, f3, f4, f5⟩ := F
  have i107 : ∀ i k, zI R' 107 i k = zI R 107 i k := fun i k => f1 107 i k (by simp)
  (try simp only [f2, f3, f4, f5, i107])
  exact h
theorem FX_bnet {r : Nat} {C R R' : zH} (F : FX r R R') (h : ∀ b, b < 8 → zJ C 2 b 5 = zJ R 108 0 b) : ∀ b, b < 8 → zJ C 2 b 5 = zJ R' 108 0 b := by
  obtain ⟨f1, f2, f3, f4, f5⟩ := F
  (try simp only [f2, f3, f4, f5])
  exact h
theorem FX_day {r : Nat} {C R R' : zH} (F : FX r R R') (h : zI C 1 0 4 = zI R 40 0 46 ∧ zib (zI R 40 0 46) 1501 = true) : zI C 1 0 4 = zI R' 40 0 46 ∧ zib (zI R' 40 0 46) 1501 = true := by
  obtain ⟨f1, f2, f3, f4, f5⟩ := F
  have i40 : ∀ i k, zI R' 40 i k = zI R 40 i k := fun i k => f1 40 i k (by simp)
  (try simp only [f2, f3, f4, f5, i40])
  exact h
theorem FX_ngt {r : Nat} {C R R' : zH} (F : FX r R R') (h : zI C 1 0 5 = zI R 40 0 53 ∧ ¬ zI R 40 0 53 < 0 ∧ zI R 40 0 53 ≤ zI R 40 0 46) : zI C 1 0 5 = zI R' 40 0 53 ∧ ¬ zI R' 40 0 53 < 0 ∧ zI R' 40 0 53 ≤ zI R' 40 0 46 := by
  obtain ⟨f1, f2, f3, f4, f5⟩ := F
  have i40 : ∀ i k, zI R' 40 i k = zI R 40 i k := fun i k => f1 40 i k (by simp)
  (try simp only [f2, f3, f4, f5, i40])
  exact h
theorem FX_due {r : Nat} {C R R' : zH} (F : FX r R R') (h : zI C 1 0 6 = zI R 40 0 54 + 1 ∧ ¬ zI R 40 0 54 + 1 < 0 ∧ zI R 40 0 54 + 1 ≤ zI R 40 0 46) : zI C 1 0 6 = zI R' 40 0 54 + 1 ∧ ¬ zI R' 40 0 54 + 1 < 0 ∧ zI R' 40 0 54 + 1 ≤ zI R' 40 0 46 := by
  obtain ⟨f1, f2, f3, f4, f5⟩ := F
  have i40 : ∀ i k, zI R' 40 i k = zI R 40 i k := fun i k => f1 40 i k (by simp)
  (try simp only [f2, f3, f4, f5, i40])
  exact h
theorem FX_hol {r : Nat} {C R R' : zH} (F : FX r R R') (h : zI C 1 0 2 = zI R 40 0 47 ∧ zib (zI R 40 0 47) 21 = true ∧ (∀ k, k < (zI R 40 0 47).toNatClampNeg → zib (zI R 101 0 k) 1501 = true) ∧ ∀ d, d < 1501 → (¬ zI C 21 0 d = 0 ↔ ∃ k, k < (zI R 40 0 47).toNatClampNeg ∧ zI R 101 0 k = nI d)) : zI C 1 0 2 = zI R' 40 0 47 ∧ zib (zI R' 40 0 47) 21 = true ∧ (∀ k, k < (zI R' 40 0 47).toNatClampNeg → zib (zI R' 101 0 k) 1501 = true) ∧ ∀ d, d < 1501 → (¬ zI C 21 0 d = 0 ↔ ∃ k, k < (zI R' 40 0 47).toNatClampNeg ∧ zI R' 101 0 k = nI d) := by
  obtain ⟨f1, f2, f3, f4, f5⟩ := F
  have i40 : ∀ i k, zI R' 40 i k = zI R 40 i k := fun i k => f1 40 i k (by simp)
  have i101 : ∀ i k, zI R' 101 i k = zI R 101 i k := fun i k => f1 101 i k (by simp)
  (try simp only [f2, f3, f4, f5, i40, i101])
  exact h
theorem FX_lat {r : Nat} {C R R' : zH} (F : FX r R R') (h : zI C 1 0 3 = zI R 40 0 48 ∧ zib (zI R 40 0 48) 61 = true ∧ (∀ k, k < (zI R 40 0 48).toNatClampNeg → zib (zI R 103 0 k) 1501 = true ∧ zib (zI R 102 0 k) 8 = true) ∧ ∀ d b, d < 1501 → b < 8 → ((zI C 22 0 d >>> (nI b &&& 31)) &&& 1 = 1 ↔ ∃ k, k < (zI R 40 0 48).toNatClampNeg ∧ zI R 102 0 k = nI b ∧ zI R 103 0 k = nI d)) : zI C 1 0 3 = zI R' 40 0 48 ∧ zib (zI R' 40 0 48) 61 = true ∧ (∀ k, k < (zI R' 40 0 48).toNatClampNeg → zib (zI R' 103 0 k) 1501 = true ∧ zib (zI R' 102 0 k) 8 = true) ∧ ∀ d b, d < 1501 → b < 8 → ((zI C 22 0 d >>> (nI b &&& 31)) &&& 1 = 1 ↔ ∃ k, k < (zI R' 40 0 48).toNatClampNeg ∧ zI R' 102 0 k = nI b ∧ zI R' 103 0 k = nI d) := by
  obtain ⟨f1, f2, f3, f4, f5⟩ := F
  have i40 : ∀ i k, zI R' 40 i k = zI R 40 i k := fun i k => f1 40 i k (by simp)
  have i102 : ∀ i k, zI R' 102 i k = zI R 102 i k := fun i k => f1 102 i k (by simp)
  have i103 : ∀ i k, zI R' 103 i k = zI R 103 i k := fun i k => f1 103 i k (by simp)
  (try simp only [f2, f3, f4, f5, i40, i102, i103])
  exact h
theorem FX_ano {r : Nat} {C R R' : zH} (F : FX r R R') (h : ∀ i, i < zN C 3 → zI C 3 i 0 = nI i) : ∀ i, i < zN C 3 → zI C 3 i 0 = nI i := by
  obtain ⟨f1, f2, f3, f4, f5⟩ := F
  (try simp only [f2, f3, f4, f5])
  exact h
theorem FX_abk {r : Nat} {C R R' : zH} (F : FX r R R') (h : ∀ i, i < zN C 3 → zR C 3 i 1 = some (zI R 110 0 i).toNatClampNeg ∧ zib (zI R 110 0 i) 8 = true) : ∀ i, i < zN C 3 → zR C 3 i 1 = some (zI R' 110 0 i).toNatClampNeg ∧ zib (zI R' 110 0 i) 8 = true := by
  obtain ⟨f1, f2, f3, f4, f5⟩ := F
  have i110 : ∀ i k, zI R' 110 i k = zI R 110 i k := fun i k => f1 110 i k (by simp)
  (try simp only [f2, f3, f4, f5, i110])
  exact h
theorem FX_anm {r : Nat} {C R R' : zH} (F : FX r R R') (h : ∀ i, i < zN C 3 → zI C 3 i 2 = zI R 111 0 i ∧ zI C 3 i 3 = zI R 112 0 i) : ∀ i, i < zN C 3 → zI C 3 i 2 = zI R' 111 0 i ∧ zI C 3 i 3 = zI R' 112 0 i := by
  obtain ⟨f1, f2, f3, f4, f5⟩ := F
  have i111 : ∀ i k, zI R' 111 i k = zI R 111 i k := fun i k => f1 111 i k (by simp)
  have i112 : ∀ i k, zI R' 112 i k = zI R 112 i k := fun i k => f1 112 i k (by simp)
  (try simp only [f2, f3, f4, f5, i111, i112])
  exact h
theorem FX_asum {r : Nat} {C R R' : zH} (F : FX r R R') (h : ∀ i, i < zN C 3 → zJ C 3 i 6 = zJ R 118 0 i) : ∀ i, i < zN C 3 → zJ C 3 i 6 = zJ R' 118 0 i := by
  obtain ⟨f1, f2, f3, f4, f5⟩ := F
  (try simp only [f2, f3, f4, f5])
  exact h
theorem FX_aov {r : Nat} {C R R' : zH} (F : FX r R R') (h : ∀ i, i < zN C 3 → zI C 3 i 7 = zI R 113 0 i ∧ zib (zI R 113 0 i) 100000 = true) : ∀ i, i < zN C 3 → zI C 3 i 7 = zI R' 113 0 i ∧ zib (zI R' 113 0 i) 100000 = true := by
  obtain ⟨f1, f2, f3, f4, f5⟩ := F
  have i113 : ∀ i k, zI R' 113 i k = zI R 113 i k := fun i k => f1 113 i k (by simp)
  (try simp only [f2, f3, f4, f5, i113])
  exact h
theorem FX_ast {r : Nat} {C R R' : zH} (F : FX r R R') (h : ∀ i, i < zN C 3 → zI C 3 i 8 = zI R 114 0 i) : ∀ i, i < zN C 3 → zI C 3 i 8 = zI R' 114 0 i := by
  obtain ⟨f1, f2, f3, f4, f5⟩ := F
  have i114 : ∀ i k, zI R' 114 i k = zI R 114 i k := fun i k => f1 114 i k (by simp)
  (try simp only [f2, f3, f4, f5, i114])
  exact h
theorem FX_amv {r : Nat} {C R R' : zH} (F : FX r R R') (h : ∀ i, i < zN C 3 → zI R 114 0 i = 2 → zR C 3 i 9 = some (zI R 115 0 i).toNatClampNeg ∧ zib (zI R 115 0 i) (zN C 3) = true ∧ i < (zI R 115 0 i).toNatClampNeg ∧ zI C 3 i 10 = zI R 116 0 i ∧ zib (zI R 116 0 i) 1501 = true) : ∀ i, i < zN C 3 → zI R' 114 0 i = 2 → zR C 3 i 9 = some (zI R' 115 0 i).toNatClampNeg ∧ zib (zI R' 115 0 i) (zN C 3) = true ∧ i < (zI R' 115 0 i).toNatClampNeg ∧ zI C 3 i 10 = zI R' 116 0 i ∧ zib (zI R' 116 0 i) 1501 = true := by
  obtain ⟨f1, f2, f3, f4, f5⟩ := F
  have i114 : ∀ i k, zI R' 114 i k = zI R 114 i k := fun i k => f1 114 i k (by simp)
  have i115 : ∀ i k, zI R' 115 i k = zI R 115 i k := fun i k => f1 115 i k (by simp)
  have i116 : ∀ i k, zI R' 116 i k = zI R 116 i k := fun i k => f1 116 i k (by simp)
  (try simp only [f2, f3, f4, f5, i114, i115, i116])
  exact h
theorem FX_ano2 {r : Nat} {C R R' : zH} (F : FX r R R') (h : ∀ i, i < zN C 3 → ¬ zI R 114 0 i = 2 → zR C 3 i 9 = none ∧ zI R 115 0 i = -9 ∧ zI R 116 0 i = -9) : ∀ i, i < zN C 3 → ¬ zI R' 114 0 i = 2 → zR C 3 i 9 = none ∧ zI R' 115 0 i = -9 ∧ zI R' 116 0 i = -9 := by
  obtain ⟨f1, f2, f3, f4, f5⟩ := F
  have i114 : ∀ i k, zI R' 114 i k = zI R 114 i k := fun i k => f1 114 i k (by simp)
  have i115 : ∀ i k, zI R' 115 i k = zI R 115 i k := fun i k => f1 115 i k (by simp)
  have i116 : ∀ i k, zI R' 116 i k = zI R 116 i k := fun i k => f1 116 i k (by simp)
  (try simp only [f2, f3, f4, f5, i114, i115, i116])
  exact h
theorem FX_agd {r : Nat} {C R R' : zH} (F : FX r R R') (h : ∀ i, i < zN C 3 → zI C 3 i 11 = zI R 117 0 i ∧ zib (zI R 117 0 i) 1000000001 = true) : ∀ i, i < zN C 3 → zI C 3 i 11 = zI R' 117 0 i ∧ zib (zI R' 117 0 i) 1000000001 = true := by
  obtain ⟨f1, f2, f3, f4, f5⟩ := F
  have i117 : ∀ i k, zI R' 117 i k = zI R 117 i k := fun i k => f1 117 i k (by simp)
  (try simp only [f2, f3, f4, f5, i117])
  exact h
theorem FX_akp {r : Nat} {C R R' : zH} (F : FX r R R') (h : ∀ i, i < zN C 3 → zR C 3 i 5 = some i ∧ zib (zI C 3 i 4) 1501 = true ∧ zI C 3 i 4 ≤ zI R 40 0 46 ∧ zL C 23 i = 1500 - (zI C 3 i 4).toNatClampNeg) : ∀ i, i < zN C 3 → zR C 3 i 5 = some i ∧ zib (zI C 3 i 4) 1501 = true ∧ zI C 3 i 4 ≤ zI R' 40 0 46 ∧ zL C 23 i = 1500 - (zI C 3 i 4).toNatClampNeg := by
  obtain ⟨f1, f2, f3, f4, f5⟩ := F
  have i40 : ∀ i k, zI R' 40 i k = zI R 40 i k := fun i k => f1 40 i k (by simp)
  (try simp only [f2, f3, f4, f5, i40])
  exact h
theorem FX_ahs {r : Nat} {C R R' : zH} (F : FX r R R') (h : ∀ i, i < zN C 3 → ∀ d, d < (zI R 40 0 46).toNatClampNeg → zJ R 119 0 (1501 * i + d) = if d < (zI C 3 i 4).toNatClampNeg then 0 else zJ C 23 i (d - (zI C 3 i 4).toNatClampNeg)) : ∀ i, i < zN C 3 → ∀ d, d < (zI R' 40 0 46).toNatClampNeg → zJ R' 119 0 (1501 * i + d) = if d < (zI C 3 i 4).toNatClampNeg then 0 else zJ C 23 i (d - (zI C 3 i 4).toNatClampNeg) := by
  obtain ⟨f1, f2, f3, f4, f5⟩ := F
  have i40 : ∀ i k, zI R' 40 i k = zI R 40 i k := fun i k => f1 40 i k (by simp)
  (try simp only [f2, f3, f4, f5, i40])
  exact h
theorem FX_afr {r : Nat} {C R R' : zH} (F : FX r R R') (h : ∀ i, zN C 3 ≤ i → i < 40 → zI R 113 0 i = 0 ∧ zI R 114 0 i = 0 ∧ zI R 117 0 i = 0 ∧ zJ R 118 0 i = 0 ∧ ∀ d, d < 1501 → zJ R 119 0 (1501 * i + d) = 0) : ∀ i, zN C 3 ≤ i → i < 40 → zI R' 113 0 i = 0 ∧ zI R' 114 0 i = 0 ∧ zI R' 117 0 i = 0 ∧ zJ R' 118 0 i = 0 ∧ ∀ d, d < 1501 → zJ R' 119 0 (1501 * i + d) = 0 := by
  obtain ⟨f1, f2, f3, f4, f5⟩ := F
  have i113 : ∀ i k, zI R' 113 i k = zI R 113 i k := fun i k => f1 113 i k (by simp)
  have i114 : ∀ i k, zI R' 114 i k = zI R 114 i k := fun i k => f1 114 i k (by simp)
  have i117 : ∀ i k, zI R' 117 i k = zI R 117 i k := fun i k => f1 117 i k (by simp)
  (try simp only [f2, f3, f4, f5, i113, i114, i117])
  exact h
theorem FX_lk {r : Nat} {C R R' : zH} (F : FX r R R') (h : ∀ l, l < zN C 4 → zI C 4 l 0 = zI R 120 0 l ∧ zib (zI R 120 0 l) 4 = true) : ∀ l, l < zN C 4 → zI C 4 l 0 = zI R' 120 0 l ∧ zib (zI R' 120 0 l) 4 = true := by
  obtain ⟨f1, f2, f3, f4, f5⟩ := F
  have i120 : ∀ i k, zI R' 120 i k = zI R 120 i k := fun i k => f1 120 i k (by simp)
  (try simp only [f2, f3, f4, f5, i120])
  exact h
theorem FX_lft {r : Nat} {C R R' : zH} (F : FX r R R') (h : ∀ l, l < zN C 4 → zR C 4 l 1 = some (zI R 121 0 l).toNatClampNeg ∧ zib (zI R 121 0 l) (zN C 3) = true ∧ zR C 4 l 2 = some (zI R 122 0 l).toNatClampNeg ∧ zib (zI R 122 0 l) (zN C 3) = true) : ∀ l, l < zN C 4 → zR C 4 l 1 = some (zI R' 121 0 l).toNatClampNeg ∧ zib (zI R' 121 0 l) (zN C 3) = true ∧ zR C 4 l 2 = some (zI R' 122 0 l).toNatClampNeg ∧ zib (zI R' 122 0 l) (zN C 3) = true := by
  obtain ⟨f1, f2, f3, f4, f5⟩ := F
  have i121 : ∀ i k, zI R' 121 i k = zI R 121 i k := fun i k => f1 121 i k (by simp)
  have i122 : ∀ i k, zI R' 122 i k = zI R 122 i k := fun i k => f1 122 i k (by simp)
  (try simp only [f2, f3, f4, f5, i121, i122])
  exact h
theorem FX_lam {r : Nat} {C R R' : zH} (F : FX r R R') (h : ∀ l, l < zN C 4 → zI C 4 l 3 = zI R 123 0 l ∧ zib (zI R 123 0 l) 100000 = true) : ∀ l, l < zN C 4 → zI C 4 l 3 = zI R' 123 0 l ∧ zib (zI R' 123 0 l) 100000 = true := by
  obtain ⟨f1, f2, f3, f4, f5⟩ := F
  have i123 : ∀ i k, zI R' 123 i k = zI R 123 i k := fun i k => f1 123 i k (by simp)
  (try simp only [f2, f3, f4, f5, i123])
  exact h
theorem FX_led {r : Nat} {C R R' : zH} (F : FX r R R') (h : ∀ l, l < zN C 4 → (zI R 126 0 l < 0 → zI C 4 l 6 = 0) ∧ (¬ zI R 126 0 l < 0 → zI C 4 l 6 = 1 ∧ zI C 4 l 7 = zI R 126 0 l ∧ zib (zI R 126 0 l) 1501 = true)) : ∀ l, l < zN C 4 → (zI R' 126 0 l < 0 → zI C 4 l 6 = 0) ∧ (¬ zI R' 126 0 l < 0 → zI C 4 l 6 = 1 ∧ zI C 4 l 7 = zI R' 126 0 l ∧ zib (zI R' 126 0 l) 1501 = true) := by
  obtain ⟨f1, f2, f3, f4, f5⟩ := F
  have i126 : ∀ i k, zI R' 126 i k = zI R 126 i k := fun i k => f1 126 i k (by simp)
  (try simp only [f2, f3, f4, f5, i126])
  exact h
theorem FX_ldn {r : Nat} {C R R' : zH} (F : FX r R R') (h : ∀ l, l < zN C 4 → zI C 4 l 8 = zI R 127 0 l ∧ zI C 4 l 9 = zI R 129 0 l) : ∀ l, l < zN C 4 → zI C 4 l 8 = zI R' 127 0 l ∧ zI C 4 l 9 = zI R' 129 0 l := by
  obtain ⟨f1, f2, f3, f4, f5⟩ := F
  have i127 : ∀ i k, zI R' 127 i k = zI R 127 i k := fun i k => f1 127 i k (by simp)
  have i129 : ∀ i k, zI R' 129 i k = zI R 129 i k := fun i k => f1 129 i k (by simp)
  (try simp only [f2, f3, f4, f5, i127, i129])
  exact h
theorem FX_lbk {r : Nat} {C R R' : zH} (F : FX r R R') (h : ∀ l, l < zN C 4 → zR C 4 l 10 = some l ∧ zL C 24 l = 5 ∧ ∀ w, w < 4 → zI C 24 l (w + 1) = zI R 128 0 (4 * l + w)) : ∀ l, l < zN C 4 → zR C 4 l 10 = some l ∧ zL C 24 l = 5 ∧ ∀ w, w < 4 → zI C 24 l (w + 1) = zI R' 128 0 (4 * l + w) := by
  obtain ⟨f1, f2, f3, f4, f5⟩ := F
  have i128 : ∀ i k, zI R' 128 i k = zI R 128 i k := fun i k => f1 128 i k (by simp)
  (try simp only [f2, f3, f4, f5, i128])
  exact h
theorem FX_ldu {r : Nat} {C R R' : zH} (F : FX r R R') (h : ∀ l, l < zN C 4 → LDu (zI R 40 0 54 + 1).toNatClampNeg (zI C 4 l 4) (zI C 4 l 5) (zI C 4 l 6) (zI C 4 l 7) (zI R 120 0 l) (zI R 124 0 l) (zI R 125 0 l)) : ∀ l, l < zN C 4 → LDu (zI R' 40 0 54 + 1).toNatClampNeg (zI C 4 l 4) (zI C 4 l 5) (zI C 4 l 6) (zI C 4 l 7) (zI R' 120 0 l) (zI R' 124 0 l) (zI R' 125 0 l) := by
  obtain ⟨f1, f2, f3, f4, f5⟩ := F
  have i40 : ∀ i k, zI R' 40 i k = zI R 40 i k := fun i k => f1 40 i k (by simp)
  have i120 : ∀ i k, zI R' 120 i k = zI R 120 i k := fun i k => f1 120 i k (by simp)
  have i124 : ∀ i k, zI R' 124 i k = zI R 124 i k := fun i k => f1 124 i k (by simp)
  have i125 : ∀ i k, zI R' 125 i k = zI R 125 i k := fun i k => f1 125 i k (by simp)
  (try simp only [f2, f3, f4, f5, i40, i120, i124, i125])
  exact h
theorem FX_lfr {r : Nat} {C R R' : zH} (F : FX r R R') (h : ∀ l, zN C 4 ≤ l → l < 60 → zI R 127 0 l = 0 ∧ ∀ w, w < 4 → zI R 128 0 (4 * l + w) = 0) : ∀ l, zN C 4 ≤ l → l < 60 → zI R' 127 0 l = 0 ∧ ∀ w, w < 4 → zI R' 128 0 (4 * l + w) = 0 := by
  obtain ⟨f1, f2, f3, f4, f5⟩ := F
  have i127 : ∀ i k, zI R' 127 i k = zI R 127 i k := fun i k => f1 127 i k (by simp)
  have i128 : ∀ i k, zI R' 128 i k = zI R 128 i k := fun i k => f1 128 i k (by simp)
  (try simp only [f2, f3, f4, f5, i127, i128])
  exact h
theorem FX_mac {r : Nat} {C R R' : zH} (F : FX r R R') (h : ∀ m, m < zN C 5 → zR C 5 m 0 = some (zI R 130 0 m).toNatClampNeg ∧ zib (zI R 130 0 m) (zN C 3) = true ∧ zR C 5 m 1 = some (zI R 131 0 m).toNatClampNeg ∧ zib (zI R 131 0 m) (zN C 3) = true ∧ (zI R 130 0 m).toNatClampNeg < (zI R 131 0 m).toNatClampNeg) : ∀ m, m < zN C 5 → zR C 5 m 0 = some (zI R' 130 0 m).toNatClampNeg ∧ zib (zI R' 130 0 m) (zN C 3) = true ∧ zR C 5 m 1 = some (zI R' 131 0 m).toNatClampNeg ∧ zib (zI R' 131 0 m) (zN C 3) = true ∧ (zI R' 130 0 m).toNatClampNeg < (zI R' 131 0 m).toNatClampNeg := by
  obtain ⟨f1, f2, f3, f4, f5⟩ := F
  have i130 : ∀ i k, zI R' 130 i k = zI R 130 i k := fun i k => f1 130 i k (by simp)
  have i131 : ∀ i k, zI R' 131 i k = zI R 131 i k := fun i k => f1 131 i k (by simp)
  (try simp only [f2, f3, f4, f5, i130, i131])
  exact h
theorem FX_mpt {r : Nat} {C R R' : zH} (F : FX r R R') (h : ∀ m, m < zN C 5 → zI C 5 m 2 = zI R 140 0 m) : ∀ m, m < zN C 5 → zI C 5 m 2 = zI R' 140 0 m := by
  obtain ⟨f1, f2, f3, f4, f5⟩ := F
  have i140 : ∀ i k, zI R' 140 i k = zI R 140 i k := fun i k => f1 140 i k (by simp)
  (try simp only [f2, f3, f4, f5, i140])
  exact h
theorem FX_mas {r : Nat} {C R R' : zH} (F : FX r R R') (h : ∀ m, m < zN C 5 → zI C 5 m 3 = zI R 136 0 m ∧ zib (zI R 136 0 m) 1501 = true) : ∀ m, m < zN C 5 → zI C 5 m 3 = zI R' 136 0 m ∧ zib (zI R' 136 0 m) 1501 = true := by
  obtain ⟨f1, f2, f3, f4, f5⟩ := F
  have i136 : ∀ i k, zI R' 136 i k = zI R 136 i k := fun i k => f1 136 i k (by simp)
  (try simp only [f2, f3, f4, f5, i136])
  exact h
theorem FX_mst {r : Nat} {C R R' : zH} (F : FX r R R') (h : ∀ m, m < zN C 5 → zI C 5 m 4 = zI R 132 0 m ∧ zI C 5 m 5 = zI R 137 0 m) : ∀ m, m < zN C 5 → zI C 5 m 4 = zI R' 132 0 m ∧ zI C 5 m 5 = zI R' 137 0 m := by
  obtain ⟨f1, f2, f3, f4, f5⟩ := F
  have i132 : ∀ i k, zI R' 132 i k = zI R 132 i k := fun i k => f1 132 i k (by simp)
  have i137 : ∀ i k, zI R' 137 i k = zI R 137 i k := fun i k => f1 137 i k (by simp)
  (try simp only [f2, f3, f4, f5, i132, i137])
  exact h
theorem FX_mgo {r : Nat} {C R R' : zH} (F : FX r R R') (h : ∀ m, m < zN C 5 → zI C 5 m 6 = zI R 138 0 m ∧ (zI R 138 0 m = 0 ∨ zI R 138 0 m = 1)) : ∀ m, m < zN C 5 → zI C 5 m 6 = zI R' 138 0 m ∧ (zI R' 138 0 m = 0 ∨ zI R' 138 0 m = 1) := by
  obtain ⟨f1, f2, f3, f4, f5⟩ := F
  have i138 : ∀ i k, zI R' 138 i k = zI R 138 i k := fun i k => f1 138 i k (by simp)
  (try simp only [f2, f3, f4, f5, i138])
  exact h
theorem FX_mag {r : Nat} {C R R' : zH} (F : FX r R R') (h : ∀ m, m < zN C 5 → zI C 5 m 7 = zI R 139 0 m) : ∀ m, m < zN C 5 → zI C 5 m 7 = zI R' 139 0 m := by
  obtain ⟨f1, f2, f3, f4, f5⟩ := F
  have i139 : ∀ i k, zI R' 139 i k = zI R 139 i k := fun i k => f1 139 i k (by simp)
  (try simp only [f2, f3, f4, f5, i139])
  exact h
theorem FX_mwy {r : Nat} {C R R' : zH} (F : FX r R R') (h : ∀ m, m < zN C 5 → zI C 5 m 8 = zI R 133 0 m) : ∀ m, m < zN C 5 → zI C 5 m 8 = zI R' 133 0 m := by
  obtain ⟨f1, f2, f3, f4, f5⟩ := F
  have i133 : ∀ i k, zI R' 133 i k = zI R 133 i k := fun i k => f1 133 i k (by simp)
  (try simp only [f2, f3, f4, f5, i133])
  exact h
theorem FX_mfa {r : Nat} {C R R' : zH} (F : FX r R R') (h : ∀ m, m < zN C 5 → zI C 5 m 9 = zI R 134 0 m ∧ ¬ zI R 134 0 m < 0 ∧ zI R 134 0 m ≤ zI R 40 0 53) : ∀ m, m < zN C 5 → zI C 5 m 9 = zI R' 134 0 m ∧ ¬ zI R' 134 0 m < 0 ∧ zI R' 134 0 m ≤ zI R' 40 0 53 := by
  obtain ⟨f1, f2, f3, f4, f5⟩ := F
  have i40 : ∀ i k, zI R' 40 i k = zI R 40 i k := fun i k => f1 40 i k (by simp)
  have i134 : ∀ i k, zI R' 134 i k = zI R 134 i k := fun i k => f1 134 i k (by simp)
  (try simp only [f2, f3, f4, f5, i40, i134])
  exact h
theorem FX_mfb {r : Nat} {C R R' : zH} (F : FX r R R') (h : ∀ m, m < zN C 5 → (zI R 134 0 m = 0 → zR C 5 m 10 = none ∧ zI R 135 0 m = -9) ∧ (¬ zI R 134 0 m = 0 → zR C 5 m 10 = some (zI R 135 0 m).toNatClampNeg ∧ zib (zI R 135 0 m) 8 = true)) : ∀ m, m < zN C 5 → (zI R' 134 0 m = 0 → zR C 5 m 10 = none ∧ zI R' 135 0 m = -9) ∧ (¬ zI R' 134 0 m = 0 → zR C 5 m 10 = some (zI R' 135 0 m).toNatClampNeg ∧ zib (zI R' 135 0 m) 8 = true) := by
  obtain ⟨f1, f2, f3, f4, f5⟩ := F
  have i134 : ∀ i k, zI R' 134 i k = zI R 134 i k := fun i k => f1 134 i k (by simp)
  have i135 : ∀ i k, zI R' 135 i k = zI R 135 i k := fun i k => f1 135 i k (by simp)
  (try simp only [f2, f3, f4, f5, i134, i135])
  exact h
theorem FX_mop {r : Nat} {C R R' : zH} (F : FX r R R') (h : ∀ m, m < zN C 5 → ¬ zI R 138 0 m = 0 → zI R 114 0 (zI R 130 0 m).toNatClampNeg = 0 ∧ zI R 114 0 (zI R 131 0 m).toNatClampNeg = 0) : ∀ m, m < zN C 5 → ¬ zI R' 138 0 m = 0 → zI R' 114 0 (zI R' 130 0 m).toNatClampNeg = 0 ∧ zI R' 114 0 (zI R' 131 0 m).toNatClampNeg = 0 := by
  obtain ⟨f1, f2, f3, f4, f5⟩ := F
  have i114 : ∀ i k, zI R' 114 i k = zI R 114 i k := fun i k => f1 114 i k (by simp)
  have i130 : ∀ i k, zI R' 130 i k = zI R 130 i k := fun i k => f1 130 i k (by simp)
  have i131 : ∀ i k, zI R' 131 i k = zI R 131 i k := fun i k => f1 131 i k (by simp)
  have i138 : ∀ i k, zI R' 138 i k = zI R 138 i k := fun i k => f1 138 i k (by simp)
  (try simp only [f2, f3, f4, f5, i114, i130, i131, i138])
  exact h
theorem FX_mdj {r : Nat} {C R R' : zH} (F : FX r R R') (h : ∀ m m2, m < zN C 5 → m2 < zN C 5 → ¬ m = m2 → ¬ zI R 138 0 m = 0 → ¬ zI R 138 0 m2 = 0 → ¬ zI R 130 0 m = zI R 130 0 m2 ∧ ¬ zI R 130 0 m = zI R 131 0 m2 ∧ ¬ zI R 131 0 m = zI R 131 0 m2) : ∀ m m2, m < zN C 5 → m2 < zN C 5 → ¬ m = m2 → ¬ zI R' 138 0 m = 0 → ¬ zI R' 138 0 m2 = 0 → ¬ zI R' 130 0 m = zI R' 130 0 m2 ∧ ¬ zI R' 130 0 m = zI R' 131 0 m2 ∧ ¬ zI R' 131 0 m = zI R' 131 0 m2 := by
  obtain ⟨f1, f2, f3, f4, f5⟩ := F
  have i130 : ∀ i k, zI R' 130 i k = zI R 130 i k := fun i k => f1 130 i k (by simp)
  have i131 : ∀ i k, zI R' 131 i k = zI R 131 i k := fun i k => f1 131 i k (by simp)
  have i138 : ∀ i k, zI R' 138 i k = zI R 138 i k := fun i k => f1 138 i k (by simp)
  (try simp only [f2, f3, f4, f5, i130, i131, i138])
  exact h
theorem FX_mfr {r : Nat} {C R R' : zH} (F : FX r R R') (h : ∀ m, zN C 5 ≤ m → m < 30 → zI R 132 0 m = 0 ∧ zI R 133 0 m = 0 ∧ zI R 134 0 m = 0 ∧ zI R 139 0 m = 0) : ∀ m, zN C 5 ≤ m → m < 30 → zI R' 132 0 m = 0 ∧ zI R' 133 0 m = 0 ∧ zI R' 134 0 m = 0 ∧ zI R' 139 0 m = 0 := by
  obtain ⟨f1, f2, f3, f4, f5⟩ := F
  have i132 : ∀ i k, zI R' 132 i k = zI R 132 i k := fun i k => f1 132 i k (by simp)
  have i133 : ∀ i k, zI R' 133 i k = zI R 133 i k := fun i k => f1 133 i k (by simp)
  have i134 : ∀ i k, zI R' 134 i k = zI R 134 i k := fun i k => f1 134 i k (by simp)
  have i139 : ∀ i k, zI R' 139 i k = zI R 139 i k := fun i k => f1 139 i k (by simp)
  (try simp only [f2, f3, f4, f5, i132, i133, i134, i139])
  exact h
theorem FX_rpf {r : Nat} {C R R' : zH} (F : FX r R R') (h : ∀ r, r < zN C 6 → zI C 6 r 0 = zI R 142 0 r ∧ zI C 6 r 1 = zI R 143 0 r ∧ zR C 6 r 2 = some r) : ∀ r, r < zN C 6 → zI C 6 r 0 = zI R' 142 0 r ∧ zI C 6 r 1 = zI R' 143 0 r ∧ zR C 6 r 2 = some r := by
  obtain ⟨f1, f2, f3, f4, f5⟩ := F
  have i142 : ∀ i k, zI R' 142 i k = zI R 142 i k := fun i k => f1 142 i k (by simp)
  have i143 : ∀ i k, zI R' 143 i k = zI R 143 i k := fun i k => f1 143 i k (by simp)
  (try simp only [f2, f3, f4, f5, i142, i143])
  exact h
theorem FX_tap {r : Nat} {C R R' : zH} (F : FX r R R') (h : zI C 8 0 1 = zI R 40 0 59 ∧ zib (zI R 40 0 59) 61 = true ∧ ∀ k, k < (zI R 40 0 59).toNatClampNeg → zI C 28 0 k = zI R 157 0 k ∧ zib (zI R 157 0 k) 256 = true) : zI C 8 0 1 = zI R' 40 0 59 ∧ zib (zI R' 40 0 59) 61 = true ∧ ∀ k, k < (zI R' 40 0 59).toNatClampNeg → zI C 28 0 k = zI R' 157 0 k ∧ zib (zI R' 157 0 k) 256 = true := by
  obtain ⟨f1, f2, f3, f4, f5⟩ := F
  have i40 : ∀ i k, zI R' 40 i k = zI R 40 i k := fun i k => f1 40 i k (by simp)
  have i157 : ∀ i k, zI R' 157 i k = zI R 157 i k := fun i k => f1 157 i k (by simp)
  (try simp only [f2, f3, f4, f5, i40, i157])
  exact h
theorem FX_row {r : Nat} {C R R' : zH} (F : FX r R R') (h : zI C 0 0 9 = zI R 40 0 55 ∧ zib (zI R 40 0 55) 9 = true ∧ ∀ k, k < (zI R 40 0 55).toNatClampNeg → zJ C 19 0 k = zJ R 109 0 k) : zI C 0 0 9 = zI R' 40 0 55 ∧ zib (zI R' 40 0 55) 9 = true ∧ ∀ k, k < (zI R' 40 0 55).toNatClampNeg → zJ C 19 0 k = zJ R' 109 0 k := by
  obtain ⟨f1, f2, f3, f4, f5⟩ := F
  have i40 : ∀ i k, zI R' 40 i k = zI R 40 i k := fun i k => f1 40 i k (by simp)
  (try simp only [f2, f3, f4, f5, i40])
  exact h
theorem FX_sur {r : Nat} {C R R' : zH} (F : FX r R R') (h : zI C 9 0 1 = zI R 40 0 56 ∧ zib (zI R 40 0 56) 10 = true ∧ ∀ k, k < (zI R 40 0 56).toNatClampNeg → zI C 30 0 k = zI R 145 0 k ∧ zib (zI R 145 0 k) 128 = true) : zI C 9 0 1 = zI R' 40 0 56 ∧ zib (zI R' 40 0 56) 10 = true ∧ ∀ k, k < (zI R' 40 0 56).toNatClampNeg → zI C 30 0 k = zI R' 145 0 k ∧ zib (zI R' 145 0 k) 128 = true := by
  obtain ⟨f1, f2, f3, f4, f5⟩ := F
  have i40 : ∀ i k, zI R' 40 i k = zI R 40 i k := fun i k => f1 40 i k (by simp)
  have i145 : ∀ i k, zI R' 145 i k = zI R 145 i k := fun i k => f1 145 i k (by simp)
  (try simp only [f2, f3, f4, f5, i40, i145])
  exact h
theorem FX_ref {r : Nat} {C R R' : zH} (F : FX r R R') (h : ∀ k, k < 7 → zI C 20 0 k = zI R 100 0 k) : ∀ k, k < 7 → zI C 20 0 k = zI R' 100 0 k := by
  obtain ⟨f1, f2, f3, f4, f5⟩ := F
  have i100 : ∀ i k, zI R' 100 i k = zI R 100 i k := fun i k => f1 100 i k (by simp)
  (try simp only [f2, f3, f4, f5, i100])
  exact h
theorem Inv_FX {r : Nat} {C R R' : zH} (I : Inv C R) (F : FX r R R') (hx : ∀ r, r < zN C 6 → RTx (zL C 25 r) (fun k => zI C 25 r k) (zI R' 141 0 r) (fun k => zI R' 144 0 (60 * r + k))) : Inv C R' := by
  intro k
  match k with
  | 0 => exact FX_kc F (J_kc I)
  | 1 => exact F.kr (J_kr I)
  | 2 => exact FX_cnt F (J_cnt I)
  | 3 => exact FX_mx F (J_mx I)
  | 4 => exact FX_la F (J_la I)
  | 5 => exact FX_ll F (J_ll I)
  | 6 => exact FX_lm F (J_lm I)
  | 7 => exact FX_lr F (J_lr I)
  | 8 => exact FX_al F (J_al I)
  | 9 => exact FX_bno F (J_bno I)
  | 10 => exact FX_bfee F (J_bfee I)
  | 11 => exact FX_bcap F (J_bcap I)
  | 12 => exact FX_bow F (J_bow I)
  | 13 => exact FX_bdid F (J_bdid I)
  | 14 => exact FX_bnet F (J_bnet I)
  | 15 => exact FX_day F (J_day I)
  | 16 => exact FX_ngt F (J_ngt I)
  | 17 => exact FX_due F (J_due I)
  | 18 => exact FX_hol F (J_hol I)
  | 19 => exact FX_lat F (J_lat I)
  | 20 => exact FX_ano F (J_ano I)
  | 21 => exact FX_abk F (J_abk I)
  | 22 => exact FX_anm F (J_anm I)
  | 23 => exact FX_asum F (J_asum I)
  | 24 => exact FX_aov F (J_aov I)
  | 25 => exact FX_ast F (J_ast I)
  | 26 => exact FX_amv F (J_amv I)
  | 27 => exact FX_ano2 F (J_ano2 I)
  | 28 => exact FX_agd F (J_agd I)
  | 29 => exact FX_akp F (J_akp I)
  | 30 => exact FX_ahs F (J_ahs I)
  | 31 => exact FX_afr F (J_afr I)
  | 32 => exact FX_lk F (J_lk I)
  | 33 => exact FX_lft F (J_lft I)
  | 34 => exact FX_lam F (J_lam I)
  | 35 => exact FX_led F (J_led I)
  | 36 => exact FX_ldn F (J_ldn I)
  | 37 => exact FX_lbk F (J_lbk I)
  | 38 => exact FX_ldu F (J_ldu I)
  | 39 => exact FX_lfr F (J_lfr I)
  | 40 => exact FX_mac F (J_mac I)
  | 41 => exact FX_mpt F (J_mpt I)
  | 42 => exact FX_mas F (J_mas I)
  | 43 => exact FX_mst F (J_mst I)
  | 44 => exact FX_mgo F (J_mgo I)
  | 45 => exact FX_mag F (J_mag I)
  | 46 => exact FX_mwy F (J_mwy I)
  | 47 => exact FX_mfa F (J_mfa I)
  | 48 => exact FX_mfb F (J_mfb I)
  | 49 => exact FX_mop F (J_mop I)
  | 50 => exact FX_mdj F (J_mdj I)
  | 51 => exact FX_mfr F (J_mfr I)
  | 52 => exact FX_rpf F (J_rpf I)
  | 53 => exact hx
  | 54 => exact FX_tap F (J_tap I)
  | 55 => exact FX_row F (J_row I)
  | 56 => exact FX_sur F (J_sur I)
  | 57 => exact FX_ref F (J_ref I)
  | _ + 58 => exact trivial
