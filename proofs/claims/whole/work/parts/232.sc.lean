/-! ===== what may change unseen: letters, stack, routes, reading ===== -/
def SC (C C' : zH) : Prop := (∀ q i k, ¬ q = 29 → ¬ (q = 8 ∧ (k = 2 ∨ k = 3 ∨ k = 5)) → zI C' q i k = zI C q i k) ∧ (∀ q i k, ¬ q = 26 → ¬ q = 27 → zJ C' q i k = zJ C q i k) ∧ (∀ q i k, ¬ (q = 3 ∧ k = 12) → zR C' q i k = zR C q i k) ∧ (∀ q, zN C' q = zN C q) ∧ ∀ q i, zL C' q i = zL C q i
def SR (R R' : zH) : Prop := (∀ q i k, ¬ q = 158 → ¬ (q = 40 ∧ 60 ≤ k ∧ k ≤ 64) → zI R' q i k = zI R q i k) ∧ (∀ q i k, zJ R' q i k = zJ R q i k) ∧ (∀ q i k, zR R' q i k = zR R q i k) ∧ (∀ q, zN R' q = zN R q) ∧ ∀ q i, zL R' q i = zL R q i
theorem SC.rf {C : zH} : SC C C := ⟨fun _ _ _ _ _ => rfl, fun _ _ _ _ _ => rfl, fun _ _ _ _ => rfl, fun _ => rfl, fun _ _ => rfl⟩
theorem SR.rf {R : zH} : SR R R := ⟨fun _ _ _ _ _ => rfl, fun _ _ _ => rfl, fun _ _ _ => rfl, fun _ => rfl, fun _ _ => rfl⟩
theorem SC.tr {C C' C2 : zH} (h : SC C C') (g : SC C' C2) : SC C C2 := ⟨fun q i k a b => (g.1 q i k a b).trans (h.1 q i k a b), fun q i k a b => (g.2.1 q i k a b).trans (h.2.1 q i k a b), fun q i k a => (g.2.2.1 q i k a).trans (h.2.2.1 q i k a), fun q => (g.2.2.2.1 q).trans (h.2.2.2.1 q), fun q i => (g.2.2.2.2 q i).trans (h.2.2.2.2 q i)⟩
theorem SR.tr {C C' C2 : zH} (h : SR C C') (g : SR C' C2) : SR C C2 := ⟨fun q i k a b => (g.1 q i k a b).trans (h.1 q i k a b), fun q i k => (g.2.1 q i k).trans (h.2.1 q i k), fun q i k => (g.2.2.1 q i k).trans (h.2.2.1 q i k), fun q => (g.2.2.2.1 q).trans (h.2.2.2.1 q), fun q i => (g.2.2.2.2 q i).trans (h.2.2.2.2 q i)⟩
theorem FT.sc {C C' : zH} (h : FT C C') : SC C C' := ⟨fun q i k a b => h.1 q i k a b, fun q i k _ _ => h.2.1 q i k, fun q i k _ => h.2.2.1 q i k, h.2.2.2.1, h.2.2.2.2⟩
theorem FW.sc {C C' : zH} (h : FW C C') : SC C C' := ⟨fun q i k _ _ => h.1 q i k, fun q i k _ b => h.2.1 q i k b, fun q i k _ => h.2.2.1 q i k, h.2.2.2.1, h.2.2.2.2⟩
theorem FR.sr {R R' : zH} (h : FR R R') : SR R R' := ⟨fun q i k a b => h.1 q i k (fun z => b ⟨z.1, by rcases z.2 with y | y | y <;> omega, by rcases z.2 with y | y | y <;> omega⟩), h.2.1, h.2.2.1, h.2.2.2.1, h.2.2.2.2⟩
theorem SC.set26 {C C' : zH} (h : SC C C') (i k : Nat) (x : Int64) : SC C (zsJ C' 26 i k x) := ⟨fun q i l a b => by rw [wI_sJ]; exact h.1 q i l a b, fun q i l a b => by rw [wJ_sJ, if_neg (fun z => a z.1)]; exact h.2.1 q i l a b, fun q i l a => by rw [wR_sJ]; exact h.2.2.1 q i l a, fun q => by rw [wN_sJ]; exact h.2.2.2.1 q, fun q i => by rw [wL_sJ]; exact h.2.2.2.2 q i⟩
theorem SC.setR {C C' : zH} (h : SC C C') (i : Nat) (x : Option Nat) : SC C (zsR C' 3 i 12 x) := ⟨fun q i l a b => by rw [wI_sR]; exact h.1 q i l a b, fun q i l a b => by rw [wJ_sR]; exact h.2.1 q i l a b, fun q i l a => by rw [wR_sR, if_neg (fun z => a ⟨z.1, z.2.2⟩)]; exact h.2.2.1 q i l a, fun q => by rw [wN_sR]; exact h.2.2.2.1 q, fun q i => by rw [wL_sR]; exact h.2.2.2.2 q i⟩
theorem SR.set {R R' : zH} (h : SR R R') (q i k : Nat) (hq : q = 158 ∨ (q = 40 ∧ 60 ≤ k ∧ k ≤ 64)) (x : Int32) : SR R (zsI R' q i k x) := by
  refine ⟨fun p j l a b => ?_, fun q i l => by rw [wJ_sI]; exact h.2.1 q i l, fun q i l => by rw [wR_sI]; exact h.2.2.1 q i l, fun q => by rw [wN_sI]; exact h.2.2.2.1 q, fun q i => by rw [wL_sI]; exact h.2.2.2.2 q i⟩
  rw [wI_sI, if_neg (fun z => ?_)]
  · exact h.1 p j l a b
  · rcases hq with y | y
    · exact a (z.1.trans y)
    · exact b ⟨z.1.trans y.1, by rw [z.2.2]; exact y.2⟩
theorem SC.lo {C C' : zH} (h : SC C C') {p n : Nat} (hp : 10 ≤ p ∧ p ≤ 13) (l : LO C p n) : LO C' p n := by
  obtain ⟨a, l1, l2, l3, l4, l5, l6, l7⟩ := l
  obtain ⟨f1, f2, f3, f4, f5⟩ := h
  exact ⟨a, by rw [f3 p 0 1 (by omega)]; exact l1, by rw [f1 p 0 2 (by omega) (by omega)]; exact l2, by rw [f5]; exact l3, by rw [f5]; exact l4, by rw [f5]; exact l5, fun i hi => by rw [f3 (p + 4) a i (by omega)]; exact l6 i hi, by rw [f4]; exact l7⟩
theorem SC.kc {C C' : zH} (h : SC C C') (k : KC C) : KC C' := by
  obtain ⟨f1, f2, f3, f4, f5⟩ := h
  unfold KC at *
  simp only [f5, f3 0 0 0 (by decide), f3 0 0 1 (by decide), f3 0 0 2 (by decide), f3 0 0 3 (by decide), f3 0 0 4 (by decide), f3 0 0 5 (by decide), f3 0 0 6 (by decide), f3 0 0 7 (by decide), f3 0 0 8 (by decide), f3 0 0 10 (by decide), f3 1 0 0 (by decide), f3 1 0 1 (by decide), f3 7 0 0 (by decide), f3 7 0 1 (by decide), f3 7 0 2 (by decide), f3 8 0 0 (by decide), f3 8 0 4 (by decide), f3 9 0 0 (by decide)]
  exact k
theorem SR.kr {R R' : zH} (h : SR R R') (hr : KR R) : KR R' := by
  unfold KR at *
  simp only [h.2.2.1, h.2.2.2.2]
  exact hr
/-- a night under way: line l is seen from day q l on, the moves before mi have been gone through -/
def Jn (q : Nat → Nat) (mi : Nat) (C R : zH) (k : Nat) : Prop := if k = 16 then (zI C 1 0 5 = zI R 40 0 53 + 1 ∧ ¬ zI R 40 0 53 < 0 ∧ zI R 40 0 53 ≤ zI R 40 0 46) else if k = 38 then (∀ l, l < zN C 4 → LDu (q l) (zI C 4 l 4) (zI C 4 l 5) (zI C 4 l 6) (zI C 4 l 7) (zI R 120 0 l) (zI R 124 0 l) (zI R 125 0 l)) else if k = 47 then (∀ m, m < zN C 5 → zI C 5 m 9 = zI R 134 0 m ∧ ¬ zI R 134 0 m < 0 ∧ zI R 134 0 m ≤ zI R 40 0 53 + (if m < mi then 1 else 0)) else Jv C R k
def IN (q : Nat → Nat) (mi : Nat) (C R : zH) : Prop := ∀ k, Jn q mi C R k
def Inq (C R : zH) : Prop := ∀ k, ¬ k = 16 → ¬ k = 38 → ¬ k = 47 → Jv C R k
theorem Inv.q {C R : zH} (I : Inv C R) : Inq C R := fun k _ _ _ => I k
theorem IN.q {f : Nat → Nat} {mi : Nat} {C R : zH} (I : IN f mi C R) : Inq C R := fun k a b c => by
  have := I k
  unfold Jn at this
  rwa [if_neg a, if_neg b, if_neg c] at this
section ZQ
variable {q : Nat → Nat} {mi : Nat} {C R : zH}
theorem Q_kc (I : Inq C R) : KC C := I 0 (by decide) (by decide) (by decide)
theorem Q_kr (I : Inq C R) : KR R := I 1 (by decide) (by decide) (by decide)
theorem Q_cnt (I : Inq C R) : zI R 40 0 49 = nI (zN C 3) ∧ zI R 40 0 50 = nI (zN C 4) ∧ zI R 40 0 51 = nI (zN C 5) ∧ zI R 40 0 52 = nI (zN C 6) := I 2 (by decide) (by decide) (by decide)
theorem Q_mx (I : Inq C R) : zN C 3 ≤ 40 ∧ zN C 4 ≤ 60 ∧ zN C 5 ≤ 30 ∧ zN C 6 ≤ 30 := I 3 (by decide) (by decide) (by decide)
theorem Q_la (I : Inq C R) : LO C 10 (zN C 3) := I 4 (by decide) (by decide) (by decide)
theorem Q_ll (I : Inq C R) : LO C 11 (zN C 4) := I 5 (by decide) (by decide) (by decide)
theorem Q_lm (I : Inq C R) : LO C 12 (zN C 5) := I 6 (by decide) (by decide) (by decide)
theorem Q_lr (I : Inq C R) : LO C 13 (zN C 6) := I 7 (by decide) (by decide) (by decide)
theorem Q_al (I : Inq C R) : zN C 23 = zN C 3 ∧ zN C 24 = zN C 4 ∧ zN C 25 = zN C 6 ∧ 0 < zN C 0 ∧ 0 < zN R 40 := I 8 (by decide) (by decide) (by decide)
theorem Q_bno (I : Inq C R) : ∀ b, b < 8 → zR C 18 0 b = some b ∧ zI C 2 b 0 = nI b := I 9 (by decide) (by decide) (by decide)
theorem Q_bfee (I : Inq C R) : ∀ b, b < 8 → zI C 2 b 1 = zI R 104 0 b ∧ zib (zI R 104 0 b) 1000 = true := I 10 (by decide) (by decide) (by decide)
theorem Q_bcap (I : Inq C R) : ∀ b, b < 8 → zI C 2 b 2 = zI R 105 0 b := I 11 (by decide) (by decide) (by decide)
theorem Q_bow (I : Inq C R) : ∀ b, b < 8 → zI C 2 b 3 = zI R 106 0 b ∧ zib (zI R 106 0 b) 1000000001 = true := I 12 (by decide) (by decide) (by decide)
theorem Q_bdid (I : Inq C R) : ∀ b, b < 8 → zI C 2 b 4 = zI R 107 0 b := I 13 (by decide) (by decide) (by decide)
theorem Q_bnet (I : Inq C R) : ∀ b, b < 8 → zJ C 2 b 5 = zJ R 108 0 b := I 14 (by decide) (by decide) (by decide)
theorem Q_day (I : Inq C R) : zI C 1 0 4 = zI R 40 0 46 ∧ zib (zI R 40 0 46) 1501 = true := I 15 (by decide) (by decide) (by decide)
theorem Q_due (I : Inq C R) : zI C 1 0 6 = zI R 40 0 54 + 1 ∧ ¬ zI R 40 0 54 + 1 < 0 ∧ zI R 40 0 54 + 1 ≤ zI R 40 0 46 := I 17 (by decide) (by decide) (by decide)
theorem Q_hol (I : Inq C R) : zI C 1 0 2 = zI R 40 0 47 ∧ zib (zI R 40 0 47) 21 = true ∧ (∀ k, k < (zI R 40 0 47).toNatClampNeg → zib (zI R 101 0 k) 1501 = true) ∧ ∀ d, d < 1501 → (¬ zI C 21 0 d = 0 ↔ ∃ k, k < (zI R 40 0 47).toNatClampNeg ∧ zI R 101 0 k = nI d) := I 18 (by decide) (by decide) (by decide)
theorem Q_lat (I : Inq C R) : zI C 1 0 3 = zI R 40 0 48 ∧ zib (zI R 40 0 48) 61 = true ∧ (∀ k, k < (zI R 40 0 48).toNatClampNeg → zib (zI R 103 0 k) 1501 = true ∧ zib (zI R 102 0 k) 8 = true) ∧ ∀ d b, d < 1501 → b < 8 → ((zI C 22 0 d >>> (nI b &&& 31)) &&& 1 = 1 ↔ ∃ k, k < (zI R 40 0 48).toNatClampNeg ∧ zI R 102 0 k = nI b ∧ zI R 103 0 k = nI d) := I 19 (by decide) (by decide) (by decide)
theorem Q_ano (I : Inq C R) : ∀ i, i < zN C 3 → zI C 3 i 0 = nI i := I 20 (by decide) (by decide) (by decide)
theorem Q_abk (I : Inq C R) : ∀ i, i < zN C 3 → zR C 3 i 1 = some (zI R 110 0 i).toNatClampNeg ∧ zib (zI R 110 0 i) 8 = true := I 21 (by decide) (by decide) (by decide)
theorem Q_anm (I : Inq C R) : ∀ i, i < zN C 3 → zI C 3 i 2 = zI R 111 0 i ∧ zI C 3 i 3 = zI R 112 0 i := I 22 (by decide) (by decide) (by decide)
theorem Q_asum (I : Inq C R) : ∀ i, i < zN C 3 → zJ C 3 i 6 = zJ R 118 0 i := I 23 (by decide) (by decide) (by decide)
theorem Q_aov (I : Inq C R) : ∀ i, i < zN C 3 → zI C 3 i 7 = zI R 113 0 i ∧ zib (zI R 113 0 i) 100000 = true := I 24 (by decide) (by decide) (by decide)
theorem Q_ast (I : Inq C R) : ∀ i, i < zN C 3 → zI C 3 i 8 = zI R 114 0 i := I 25 (by decide) (by decide) (by decide)
theorem Q_amv (I : Inq C R) : ∀ i, i < zN C 3 → zI R 114 0 i = 2 → zR C 3 i 9 = some (zI R 115 0 i).toNatClampNeg ∧ zib (zI R 115 0 i) (zN C 3) = true ∧ i < (zI R 115 0 i).toNatClampNeg ∧ zI C 3 i 10 = zI R 116 0 i ∧ zib (zI R 116 0 i) 1501 = true := I 26 (by decide) (by decide) (by decide)
theorem Q_ano2 (I : Inq C R) : ∀ i, i < zN C 3 → ¬ zI R 114 0 i = 2 → zR C 3 i 9 = none ∧ zI R 115 0 i = -9 ∧ zI R 116 0 i = -9 := I 27 (by decide) (by decide) (by decide)
theorem Q_agd (I : Inq C R) : ∀ i, i < zN C 3 → zI C 3 i 11 = zI R 117 0 i ∧ zib (zI R 117 0 i) 1000000001 = true := I 28 (by decide) (by decide) (by decide)
theorem Q_akp (I : Inq C R) : ∀ i, i < zN C 3 → zR C 3 i 5 = some i ∧ zib (zI C 3 i 4) 1501 = true ∧ zI C 3 i 4 ≤ zI R 40 0 46 ∧ zL C 23 i = 1500 - (zI C 3 i 4).toNatClampNeg := I 29 (by decide) (by decide) (by decide)
theorem Q_ahs (I : Inq C R) : ∀ i, i < zN C 3 → ∀ d, d < (zI R 40 0 46).toNatClampNeg → zJ R 119 0 (1501 * i + d) = if d < (zI C 3 i 4).toNatClampNeg then 0 else zJ C 23 i (d - (zI C 3 i 4).toNatClampNeg) := I 30 (by decide) (by decide) (by decide)
theorem Q_afr (I : Inq C R) : ∀ i, zN C 3 ≤ i → i < 40 → zI R 113 0 i = 0 ∧ zI R 114 0 i = 0 ∧ zI R 117 0 i = 0 ∧ zJ R 118 0 i = 0 ∧ ∀ d, d < 1501 → zJ R 119 0 (1501 * i + d) = 0 := I 31 (by decide) (by decide) (by decide)
theorem Q_lk (I : Inq C R) : ∀ l, l < zN C 4 → zI C 4 l 0 = zI R 120 0 l ∧ zib (zI R 120 0 l) 4 = true := I 32 (by decide) (by decide) (by decide)
theorem Q_lft (I : Inq C R) : ∀ l, l < zN C 4 → zR C 4 l 1 = some (zI R 121 0 l).toNatClampNeg ∧ zib (zI R 121 0 l) (zN C 3) = true ∧ zR C 4 l 2 = some (zI R 122 0 l).toNatClampNeg ∧ zib (zI R 122 0 l) (zN C 3) = true := I 33 (by decide) (by decide) (by decide)
theorem Q_lam (I : Inq C R) : ∀ l, l < zN C 4 → zI C 4 l 3 = zI R 123 0 l ∧ zib (zI R 123 0 l) 100000 = true := I 34 (by decide) (by decide) (by decide)
theorem Q_led (I : Inq C R) : ∀ l, l < zN C 4 → (zI R 126 0 l < 0 → zI C 4 l 6 = 0) ∧ (¬ zI R 126 0 l < 0 → zI C 4 l 6 = 1 ∧ zI C 4 l 7 = zI R 126 0 l ∧ zib (zI R 126 0 l) 1501 = true) := I 35 (by decide) (by decide) (by decide)
theorem Q_ldn (I : Inq C R) : ∀ l, l < zN C 4 → zI C 4 l 8 = zI R 127 0 l ∧ zI C 4 l 9 = zI R 129 0 l := I 36 (by decide) (by decide) (by decide)
theorem Q_lbk (I : Inq C R) : ∀ l, l < zN C 4 → zR C 4 l 10 = some l ∧ zL C 24 l = 5 ∧ ∀ w, w < 4 → zI C 24 l (w + 1) = zI R 128 0 (4 * l + w) := I 37 (by decide) (by decide) (by decide)
theorem Q_lfr (I : Inq C R) : ∀ l, zN C 4 ≤ l → l < 60 → zI R 127 0 l = 0 ∧ ∀ w, w < 4 → zI R 128 0 (4 * l + w) = 0 := I 39 (by decide) (by decide) (by decide)
theorem Q_mac (I : Inq C R) : ∀ m, m < zN C 5 → zR C 5 m 0 = some (zI R 130 0 m).toNatClampNeg ∧ zib (zI R 130 0 m) (zN C 3) = true ∧ zR C 5 m 1 = some (zI R 131 0 m).toNatClampNeg ∧ zib (zI R 131 0 m) (zN C 3) = true ∧ (zI R 130 0 m).toNatClampNeg < (zI R 131 0 m).toNatClampNeg := I 40 (by decide) (by decide) (by decide)
theorem Q_mpt (I : Inq C R) : ∀ m, m < zN C 5 → zI C 5 m 2 = zI R 140 0 m := I 41 (by decide) (by decide) (by decide)
theorem Q_mas (I : Inq C R) : ∀ m, m < zN C 5 → zI C 5 m 3 = zI R 136 0 m ∧ zib (zI R 136 0 m) 1501 = true := I 42 (by decide) (by decide) (by decide)
theorem Q_mst (I : Inq C R) : ∀ m, m < zN C 5 → zI C 5 m 4 = zI R 132 0 m ∧ zI C 5 m 5 = zI R 137 0 m := I 43 (by decide) (by decide) (by decide)
theorem Q_mgo (I : Inq C R) : ∀ m, m < zN C 5 → zI C 5 m 6 = zI R 138 0 m ∧ (zI R 138 0 m = 0 ∨ zI R 138 0 m = 1) := I 44 (by decide) (by decide) (by decide)
theorem Q_mag (I : Inq C R) : ∀ m, m < zN C 5 → zI C 5 m 7 = zI R 139 0 m := I 45 (by decide) (by decide) (by decide)
theorem Q_mwy (I : Inq C R) : ∀ m, m < zN C 5 → zI C 5 m 8 = zI R 133 0 m := I 46 (by decide) (by decide) (by decide)
theorem Q_mfb (I : Inq C R) : ∀ m, m < zN C 5 → (zI R 134 0 m = 0 → zR C 5 m 10 = none ∧ zI R 135 0 m = -9) ∧ (¬ zI R 134 0 m = 0 → zR C 5 m 10 = some (zI R 135 0 m).toNatClampNeg ∧ zib (zI R 135 0 m) 8 = true) := I 48 (by decide) (by decide) (by decide)
theorem Q_mop (I : Inq C R) : ∀ m, m < zN C 5 → ¬ zI R 138 0 m = 0 → zI R 114 0 (zI R 130 0 m).toNatClampNeg = 0 ∧ zI R 114 0 (zI R 131 0 m).toNatClampNeg = 0 := I 49 (by decide) (by decide) (by decide)
theorem Q_mdj (I : Inq C R) : ∀ m m2, m < zN C 5 → m2 < zN C 5 → ¬ m = m2 → ¬ zI R 138 0 m = 0 → ¬ zI R 138 0 m2 = 0 → ¬ zI R 130 0 m = zI R 130 0 m2 ∧ ¬ zI R 130 0 m = zI R 131 0 m2 ∧ ¬ zI R 131 0 m = zI R 131 0 m2 := I 50 (by decide) (by decide) (by decide)
theorem Q_mfr (I : Inq C R) : ∀ m, zN C 5 ≤ m → m < 30 → zI R 132 0 m = 0 ∧ zI R 133 0 m = 0 ∧ zI R 134 0 m = 0 ∧ zI R 139 0 m = 0 := I 51 (by decide) (by decide) (by decide)
theorem Q_rpf (I : Inq C R) : ∀ r, r < zN C 6 → zI C 6 r 0 = zI R 142 0 r ∧ zI C 6 r 1 = zI R 143 0 r ∧ zR C 6 r 2 = some r := I 52 (by decide) (by decide) (by decide)
theorem Q_rtx (I : Inq C R) : ∀ r, r < zN C 6 → RTx (zL C 25 r) (fun k => zI C 25 r k) (zI R 141 0 r) (fun k => zI R 144 0 (60 * r + k)) := I 53 (by decide) (by decide) (by decide)
theorem Q_tap (I : Inq C R) : zI C 8 0 1 = zI R 40 0 59 ∧ zib (zI R 40 0 59) 61 = true ∧ ∀ k, k < (zI R 40 0 59).toNatClampNeg → zI C 28 0 k = zI R 157 0 k ∧ zib (zI R 157 0 k) 256 = true := I 54 (by decide) (by decide) (by decide)
theorem Q_row (I : Inq C R) : zI C 0 0 9 = zI R 40 0 55 ∧ zib (zI R 40 0 55) 9 = true ∧ ∀ k, k < (zI R 40 0 55).toNatClampNeg → zJ C 19 0 k = zJ R 109 0 k := I 55 (by decide) (by decide) (by decide)
theorem Q_sur (I : Inq C R) : zI C 9 0 1 = zI R 40 0 56 ∧ zib (zI R 40 0 56) 10 = true ∧ ∀ k, k < (zI R 40 0 56).toNatClampNeg → zI C 30 0 k = zI R 145 0 k ∧ zib (zI R 145 0 k) 128 = true := I 56 (by decide) (by decide) (by decide)
theorem Q_ref (I : Inq C R) : ∀ k, k < 7 → zI C 20 0 k = zI R 100 0 k := I 57 (by decide) (by decide) (by decide)
theorem N_kc (I : IN q mi C R) : KC C := Q_kc I.q
theorem N_kr (I : IN q mi C R) : KR R := Q_kr I.q
theorem N_cnt (I : IN q mi C R) : zI R 40 0 49 = nI (zN C 3) ∧ zI R 40 0 50 = nI (zN C 4) ∧ zI R 40 0 51 = nI (zN C 5) ∧ zI R 40 0 52 = nI (zN C 6) := Q_cnt I.q
theorem N_mx (I : IN q mi C R) : zN C 3 ≤ 40 ∧ zN C 4 ≤ 60 ∧ zN C 5 ≤ 30 ∧ zN C 6 ≤ 30 := Q_mx I.q
theorem N_la (I : IN q mi C R) : LO C 10 (zN C 3) := Q_la I.q
theorem N_ll (I : IN q mi C R) : LO C 11 (zN C 4) := Q_ll I.q
theorem N_lm (I : IN q mi C R) : LO C 12 (zN C 5) := Q_lm I.q
theorem N_lr (I : IN q mi C R) : LO C 13 (zN C 6) := Q_lr I.q
theorem N_al (I : IN q mi C R) : zN C 23 = zN C 3 ∧ zN C 24 = zN C 4 ∧ zN C 25 = zN C 6 ∧ 0 < zN C 0 ∧ 0 < zN R 40 := Q_al I.q
theorem N_bno (I : IN q mi C R) : ∀ b, b < 8 → zR C 18 0 b = some b ∧ zI C 2 b 0 = nI b := Q_bno I.q
theorem N_bfee (I : IN q mi C R) : ∀ b, b < 8 → zI C 2 b 1 = zI R 104 0 b ∧ zib (zI R 104 0 b) 1000 = true := Q_bfee I.q
theorem N_bcap (I : IN q mi C R) : ∀ b, b < 8 → zI C 2 b 2 = zI R 105 0 b := Q_bcap I.q
theorem N_bow (I : IN q mi C R) : ∀ b, b < 8 → zI C 2 b 3 = zI R 106 0 b ∧ zib (zI R 106 0 b) 1000000001 = true := Q_bow I.q
theorem N_bdid (I : IN q mi C R) : ∀ b, b < 8 → zI C 2 b 4 = zI R 107 0 b := Q_bdid I.q
theorem N_bnet (I : IN q mi C R) : ∀ b, b < 8 → zJ C 2 b 5 = zJ R 108 0 b := Q_bnet I.q
theorem N_day (I : IN q mi C R) : zI C 1 0 4 = zI R 40 0 46 ∧ zib (zI R 40 0 46) 1501 = true := Q_day I.q
theorem N_ngt (I : IN q mi C R) : zI C 1 0 5 = zI R 40 0 53 + 1 ∧ ¬ zI R 40 0 53 < 0 ∧ zI R 40 0 53 ≤ zI R 40 0 46 := I 16
theorem N_due (I : IN q mi C R) : zI C 1 0 6 = zI R 40 0 54 + 1 ∧ ¬ zI R 40 0 54 + 1 < 0 ∧ zI R 40 0 54 + 1 ≤ zI R 40 0 46 := Q_due I.q
theorem N_hol (I : IN q mi C R) : zI C 1 0 2 = zI R 40 0 47 ∧ zib (zI R 40 0 47) 21 = true ∧ (∀ k, k < (zI R 40 0 47).toNatClampNeg → zib (zI R 101 0 k) 1501 = true) ∧ ∀ d, d < 1501 → (¬ zI C 21 0 d = 0 ↔ ∃ k, k < (zI R 40 0 47).toNatClampNeg ∧ zI R 101 0 k = nI d) := Q_hol I.q
theorem N_lat (I : IN q mi C R) : zI C 1 0 3 = zI R 40 0 48 ∧ zib (zI R 40 0 48) 61 = true ∧ (∀ k, k < (zI R 40 0 48).toNatClampNeg → zib (zI R 103 0 k) 1501 = true ∧ zib (zI R 102 0 k) 8 = true) ∧ ∀ d b, d < 1501 → b < 8 → ((zI C 22 0 d >>> (nI b &&& 31)) &&& 1 = 1 ↔ ∃ k, k < (zI R 40 0 48).toNatClampNeg ∧ zI R 102 0 k = nI b ∧ zI R 103 0 k = nI d) := Q_lat I.q
theorem N_ano (I : IN q mi C R) : ∀ i, i < zN C 3 → zI C 3 i 0 = nI i := Q_ano I.q
theorem N_abk (I : IN q mi C R) : ∀ i, i < zN C 3 → zR C 3 i 1 = some (zI R 110 0 i).toNatClampNeg ∧ zib (zI R 110 0 i) 8 = true := Q_abk I.q
theorem N_anm (I : IN q mi C R) : ∀ i, i < zN C 3 → zI C 3 i 2 = zI R 111 0 i ∧ zI C 3 i 3 = zI R 112 0 i := Q_anm I.q
theorem N_asum (I : IN q mi C R) : ∀ i, i < zN C 3 → zJ C 3 i 6 = zJ R 118 0 i := Q_asum I.q
theorem N_aov (I : IN q mi C R) : ∀ i, i < zN C 3 → zI C 3 i 7 = zI R 113 0 i ∧ zib (zI R 113 0 i) 100000 = true := Q_aov I.q
theorem N_ast (I : IN q mi C R) : ∀ i, i < zN C 3 → zI C 3 i 8 = zI R 114 0 i := Q_ast I.q
theorem N_amv (I : IN q mi C R) : ∀ i, i < zN C 3 → zI R 114 0 i = 2 → zR C 3 i 9 = some (zI R 115 0 i).toNatClampNeg ∧ zib (zI R 115 0 i) (zN C 3) = true ∧ i < (zI R 115 0 i).toNatClampNeg ∧ zI C 3 i 10 = zI R 116 0 i ∧ zib (zI R 116 0 i) 1501 = true := Q_amv I.q
theorem N_ano2 (I : IN q mi C R) : ∀ i, i < zN C 3 → ¬ zI R 114 0 i = 2 → zR C 3 i 9 = none ∧ zI R 115 0 i = -9 ∧ zI R 116 0 i = -9 := Q_ano2 I.q
theorem N_agd (I : IN q mi C R) : ∀ i, i < zN C 3 → zI C 3 i 11 = zI R 117 0 i ∧ zib (zI R 117 0 i) 1000000001 = true := Q_agd I.q
theorem N_akp (I : IN q mi C R) : ∀ i, i < zN C 3 → zR C 3 i 5 = some i ∧ zib (zI C 3 i 4) 1501 = true ∧ zI C 3 i 4 ≤ zI R 40 0 46 ∧ zL C 23 i = 1500 - (zI C 3 i 4).toNatClampNeg := Q_akp I.q
theorem N_ahs (I : IN q mi C R) : ∀ i, i < zN C 3 → ∀ d, d < (zI R 40 0 46).toNatClampNeg → zJ R 119 0 (1501 * i + d) = if d < (zI C 3 i 4).toNatClampNeg then 0 else zJ C 23 i (d - (zI C 3 i 4).toNatClampNeg) := Q_ahs I.q
theorem N_afr (I : IN q mi C R) : ∀ i, zN C 3 ≤ i → i < 40 → zI R 113 0 i = 0 ∧ zI R 114 0 i = 0 ∧ zI R 117 0 i = 0 ∧ zJ R 118 0 i = 0 ∧ ∀ d, d < 1501 → zJ R 119 0 (1501 * i + d) = 0 := Q_afr I.q
theorem N_lk (I : IN q mi C R) : ∀ l, l < zN C 4 → zI C 4 l 0 = zI R 120 0 l ∧ zib (zI R 120 0 l) 4 = true := Q_lk I.q
theorem N_lft (I : IN q mi C R) : ∀ l, l < zN C 4 → zR C 4 l 1 = some (zI R 121 0 l).toNatClampNeg ∧ zib (zI R 121 0 l) (zN C 3) = true ∧ zR C 4 l 2 = some (zI R 122 0 l).toNatClampNeg ∧ zib (zI R 122 0 l) (zN C 3) = true := Q_lft I.q
theorem N_lam (I : IN q mi C R) : ∀ l, l < zN C 4 → zI C 4 l 3 = zI R 123 0 l ∧ zib (zI R 123 0 l) 100000 = true := Q_lam I.q
theorem N_led (I : IN q mi C R) : ∀ l, l < zN C 4 → (zI R 126 0 l < 0 → zI C 4 l 6 = 0) ∧ (¬ zI R 126 0 l < 0 → zI C 4 l 6 = 1 ∧ zI C 4 l 7 = zI R 126 0 l ∧ zib (zI R 126 0 l) 1501 = true) := Q_led I.q
theorem N_ldn (I : IN q mi C R) : ∀ l, l < zN C 4 → zI C 4 l 8 = zI R 127 0 l ∧ zI C 4 l 9 = zI R 129 0 l := Q_ldn I.q
theorem N_lbk (I : IN q mi C R) : ∀ l, l < zN C 4 → zR C 4 l 10 = some l ∧ zL C 24 l = 5 ∧ ∀ w, w < 4 → zI C 24 l (w + 1) = zI R 128 0 (4 * l + w) := Q_lbk I.q
theorem N_ldu (I : IN q mi C R) : ∀ l, l < zN C 4 → LDu (q l) (zI C 4 l 4) (zI C 4 l 5) (zI C 4 l 6) (zI C 4 l 7) (zI R 120 0 l) (zI R 124 0 l) (zI R 125 0 l) := I 38
theorem N_lfr (I : IN q mi C R) : ∀ l, zN C 4 ≤ l → l < 60 → zI R 127 0 l = 0 ∧ ∀ w, w < 4 → zI R 128 0 (4 * l + w) = 0 := Q_lfr I.q
theorem N_mac (I : IN q mi C R) : ∀ m, m < zN C 5 → zR C 5 m 0 = some (zI R 130 0 m).toNatClampNeg ∧ zib (zI R 130 0 m) (zN C 3) = true ∧ zR C 5 m 1 = some (zI R 131 0 m).toNatClampNeg ∧ zib (zI R 131 0 m) (zN C 3) = true ∧ (zI R 130 0 m).toNatClampNeg < (zI R 131 0 m).toNatClampNeg := Q_mac I.q
theorem N_mpt (I : IN q mi C R) : ∀ m, m < zN C 5 → zI C 5 m 2 = zI R 140 0 m := Q_mpt I.q
theorem N_mas (I : IN q mi C R) : ∀ m, m < zN C 5 → zI C 5 m 3 = zI R 136 0 m ∧ zib (zI R 136 0 m) 1501 = true := Q_mas I.q
theorem N_mst (I : IN q mi C R) : ∀ m, m < zN C 5 → zI C 5 m 4 = zI R 132 0 m ∧ zI C 5 m 5 = zI R 137 0 m := Q_mst I.q
theorem N_mgo (I : IN q mi C R) : ∀ m, m < zN C 5 → zI C 5 m 6 = zI R 138 0 m ∧ (zI R 138 0 m = 0 ∨ zI R 138 0 m = 1) := Q_mgo I.q
theorem N_mag (I : IN q mi C R) : ∀ m, m < zN C 5 → zI C 5 m 7 = zI R 139 0 m := Q_mag I.q
theorem N_mwy (I : IN q mi C R) : ∀ m, m < zN C 5 → zI C 5 m 8 = zI R 133 0 m := Q_mwy I.q
theorem N_mfa (I : IN q mi C R) : ∀ m, m < zN C 5 → zI C 5 m 9 = zI R 134 0 m ∧ ¬ zI R 134 0 m < 0 ∧ zI R 134 0 m ≤ zI R 40 0 53 + (if m < mi then 1 else 0) := I 47
theorem N_mfb (I : IN q mi C R) : ∀ m, m < zN C 5 → (zI R 134 0 m = 0 → zR C 5 m 10 = none ∧ zI R 135 0 m = -9) ∧ (¬ zI R 134 0 m = 0 → zR C 5 m 10 = some (zI R 135 0 m).toNatClampNeg ∧ zib (zI R 135 0 m) 8 = true) := Q_mfb I.q
theorem N_mop (I : IN q mi C R) : ∀ m, m < zN C 5 → ¬ zI R 138 0 m = 0 → zI R 114 0 (zI R 130 0 m).toNatClampNeg = 0 ∧ zI R 114 0 (zI R 131 0 m).toNatClampNeg = 0 := Q_mop I.q
theorem N_mdj (I : IN q mi C R) : ∀ m m2, m < zN C 5 → m2 < zN C 5 → ¬ m = m2 → ¬ zI R 138 0 m = 0 → ¬ zI R 138 0 m2 = 0 → ¬ zI R 130 0 m = zI R 130 0 m2 ∧ ¬ zI R 130 0 m = zI R 131 0 m2 ∧ ¬ zI R 131 0 m = zI R 131 0 m2 := Q_mdj I.q
theorem N_mfr (I : IN q mi C R) : ∀ m, zN C 5 ≤ m → m < 30 → zI R 132 0 m = 0 ∧ zI R 133 0 m = 0 ∧ zI R 134 0 m = 0 ∧ zI R 139 0 m = 0 := Q_mfr I.q
theorem N_rpf (I : IN q mi C R) : ∀ r, r < zN C 6 → zI C 6 r 0 = zI R 142 0 r ∧ zI C 6 r 1 = zI R 143 0 r ∧ zR C 6 r 2 = some r := Q_rpf I.q
theorem N_rtx (I : IN q mi C R) : ∀ r, r < zN C 6 → RTx (zL C 25 r) (fun k => zI C 25 r k) (zI R 141 0 r) (fun k => zI R 144 0 (60 * r + k)) := Q_rtx I.q
theorem N_tap (I : IN q mi C R) : zI C 8 0 1 = zI R 40 0 59 ∧ zib (zI R 40 0 59) 61 = true ∧ ∀ k, k < (zI R 40 0 59).toNatClampNeg → zI C 28 0 k = zI R 157 0 k ∧ zib (zI R 157 0 k) 256 = true := Q_tap I.q
theorem N_row (I : IN q mi C R) : zI C 0 0 9 = zI R 40 0 55 ∧ zib (zI R 40 0 55) 9 = true ∧ ∀ k, k < (zI R 40 0 55).toNatClampNeg → zJ C 19 0 k = zJ R 109 0 k := Q_row I.q
theorem N_sur (I : IN q mi C R) : zI C 9 0 1 = zI R 40 0 56 ∧ zib (zI R 40 0 56) 10 = true ∧ ∀ k, k < (zI R 40 0 56).toNatClampNeg → zI C 30 0 k = zI R 145 0 k ∧ zib (zI R 145 0 k) 128 = true := Q_sur I.q
theorem N_ref (I : IN q mi C R) : ∀ k, k < 7 → zI C 20 0 k = zI R 100 0 k := Q_ref I.q
theorem IN_mk (hkc : KC C) (hkr : KR R) (hcnt : zI R 40 0 49 = nI (zN C 3) ∧ zI R 40 0 50 = nI (zN C 4) ∧ zI R 40 0 51 = nI (zN C 5) ∧ zI R 40 0 52 = nI (zN C 6)) (hmx : zN C 3 ≤ 40 ∧ zN C 4 ≤ 60 ∧ zN C 5 ≤ 30 ∧ zN C 6 ≤ 30) (hla : LO C 10 (zN C 3)) (hll : LO C 11 (zN C 4)) (hlm : LO C 12 (zN C 5)) (hlr : LO C 13 (zN C 6)) (hal : zN C 23 = zN C 3 ∧ zN C 24 = zN C 4 ∧ zN C 25 = zN C 6 ∧ 0 < zN C 0 ∧ 0 < zN R 40) (hbno : ∀ b, b < 8 → zR C 18 0 b = some b ∧ zI C 2 b 0 = nI b) (hbfee : ∀ b, b < 8 → zI C 2 b 1 = zI R 104 0 b ∧ zib (zI R 104 0 b) 1000 = true) (hbcap : ∀ b, b < 8 → zI C 2 b 2 = zI R 105 0 b) (hbow : ∀ b, b < 8 → zI C 2 b 3 = zI R 106 0 b ∧ zib (zI R 106 0 b) 1000000001 = true) (hbdid : ∀ b, b < 8 → zI C 2 b 4 = zI R 107 0 b) (hbnet : ∀ b, b < 8 → zJ C 2 b 5 = zJ R 108 0 b) (hday : zI C 1 0 4 = zI R 40 0 46 ∧ zib (zI R 40 0 46) 1501 = true) (hngt : zI C 1 0 5 = zI R 40 0 53 + 1 ∧ ¬ zI R 40 0 53 < 0 ∧ zI R 40 0 53 ≤ zI R 40 0 46) (hdue : zI C 1 0 6 = zI R 40 0 54 + 1 ∧ ¬ zI R 40 0 54 + 1 < 0 ∧ zI R 40 0 54 + 1 ≤ zI R 40 0 46) (hhol : zI C 1 0 2 = zI R 40 0 47 ∧ zib (zI R 40 0 47) 21 = true ∧ (∀ k, k < (zI R 40 0 47).toNatClampNeg → zib (zI R 101 0 k) 1501 = true) ∧ ∀ d, d < 1501 → (¬ zI C 21 0 d = 0 ↔ ∃ k, k < (zI R 40 0 47).toNatClampNeg ∧ zI R 101 0 k = nI d)) (hlat : zI C 1 0 3 = zI R 40 0 48 ∧ zib (zI R 40 0 48) 61 = true ∧ (∀ k, k < (zI R 40 0 48).toNatClampNeg → zib (zI R 103 0 k) 1501 = true ∧ zib (zI R 102 0 k) 8 = true) ∧ ∀ d b, d < 1501 → b < 8 → ((zI C 22 0 d >>> (nI b &&& 31)) &&& 1 = 1 ↔ ∃ k, k < (zI R 40 0 48).toNatClampNeg ∧ zI R 102 0 k = nI b ∧ zI R 103 0 k = nI d)) (hano : ∀ i, i < zN C 3 → zI C 3 i 0 = nI i) (habk : ∀ i, i < zN C 3 → zR C 3 i 1 = some (zI R 110 0 i).toNatClampNeg ∧ zib (zI R 110 0 i) 8 = true) (hanm : ∀ i, i < zN C 3 → zI C 3 i 2 = zI R 111 0 i ∧ zI C 3 i 3 = zI R 112 0 i) (hasum : ∀ i, i < zN C 3 → zJ C 3 i 6 = zJ R 118 0 i) (haov : ∀ i, i < zN C 3 → zI C 3 i 7 = zI R 113 0 i ∧ zib (zI R 113 0 i) 100000 = true) (hast : ∀ i, i < zN C 3 → zI C 3 i 8 = zI R 114 0 i) (hamv : ∀ i, i < zN C 3 → zI R 114 0 i = 2 → zR C 3 i 9 = some (zI R 115 0 i).toNatClampNeg ∧ zib (zI R 115 0 i) (zN C 3) = true ∧ i < (zI R 115 0 i).toNatClampNeg ∧ zI C 3 i 10 = zI R 116 0 i ∧ zib (zI R 116 0 i) 1501 = true) (hano2 : ∀ i, i < zN C 3 → ¬ zI R 114 0 i = 2 → zR C 3 i 9 = none ∧ zI R 115 0 i = -9 ∧ zI R 116 0 i = -9) (hagd : ∀ i, i < zN C 3 → zI C 3 i 11 = zI R 117 0 i ∧ zib (zI R 117 0 i) 1000000001 = true) (hakp : ∀ i, i < zN C 3 → zR C 3 i 5 = some i ∧ zib (zI C 3 i 4) 1501 = true ∧ zI C 3 i 4 ≤ zI R 40 0 46 ∧ zL C 23 i = 1500 - (zI C 3 i 4).toNatClampNeg) (hahs : ∀ i, i < zN C 3 → ∀ d, d < (zI R 40 0 46).toNatClampNeg → zJ R 119 0 (1501 * i + d) = if d < (zI C 3 i 4).toNatClampNeg then 0 else zJ C 23 i (d - (zI C 3 i 4).toNatClampNeg)) (hafr : ∀ i, zN C 3 ≤ i → i < 40 → zI R 113 0 i = 0 ∧ zI R 114 0 i = 0 ∧ zI R 117 0 i = 0 ∧ zJ R 118 0 i = 0 ∧ ∀ d, d < 1501 → zJ R 119 0 (1501 * i + d) = 0) (hlk : ∀ l, l < zN C 4 → zI C 4 l 0 = zI R 120 0 l ∧ zib (zI R 120 0 l) 4 = true) (hlft : ∀ l, l < zN C 4 → zR C 4 l 1 = some (zI R 121 0 l).toNatClampNeg ∧ zib (zI R 121 0 l) (zN C 3) = true ∧ zR C 4 l 2 = some (zI R 122 0 l).toNatClampNeg ∧ zib (zI R 122 0 l) (zN C 3) = true) (hlam : ∀ l, l < zN C 4 → zI C 4 l 3 = zI R 123 0 l ∧ zib (zI R 123 0 l) 100000 = true) (hled : ∀ l, l < zN C 4 → (zI R 126 0 l < 0 → zI C 4 l 6 = 0) ∧ (¬ zI R 126 0 l < 0 → zI C 4 l 6 = 1 ∧ zI C 4 l 7 = zI R 126 0 l ∧ zib (zI R 126 0 l) 1501 = true)) (hldn : ∀ l, l < zN C 4 → zI C 4 l 8 = zI R 127 0 l ∧ zI C 4 l 9 = zI R 129 0 l) (hlbk : ∀ l, l < zN C 4 → zR C 4 l 10 = some l ∧ zL C 24 l = 5 ∧ ∀ w, w < 4 → zI C 24 l (w + 1) = zI R 128 0 (4 * l + w)) (hldu : ∀ l, l < zN C 4 → LDu (q l) (zI C 4 l 4) (zI C 4 l 5) (zI C 4 l 6) (zI C 4 l 7) (zI R 120 0 l) (zI R 124 0 l) (zI R 125 0 l)) (hlfr : ∀ l, zN C 4 ≤ l → l < 60 → zI R 127 0 l = 0 ∧ ∀ w, w < 4 → zI R 128 0 (4 * l + w) = 0) (hmac : ∀ m, m < zN C 5 → zR C 5 m 0 = some (zI R 130 0 m).toNatClampNeg ∧ zib (zI R 130 0 m) (zN C 3) = true ∧ zR C 5 m 1 = some (zI R 131 0 m).toNatClampNeg ∧ zib (zI R 131 0 m) (zN C 3) = true ∧ (zI R 130 0 m).toNatClampNeg < (zI R 131 0 m).toNatClampNeg) (hmpt : ∀ m, m < zN C 5 → zI C 5 m 2 = zI R 140 0 m) (hmas : ∀ m, m < zN C 5 → zI C 5 m 3 = zI R 136 0 m ∧ zib (zI R 136 0 m) 1501 = true) (hmst : ∀ m, m < zN C 5 → zI C 5 m 4 = zI R 132 0 m ∧ zI C 5 m 5 = zI R 137 0 m) (hmgo : ∀ m, m < zN C 5 → zI C 5 m 6 = zI R 138 0 m ∧ (zI R 138 0 m = 0 ∨ zI R 138 0 m = 1)) (hmag : ∀ m, m < zN C 5 → zI C 5 m 7 = zI R 139 0 m) (hmwy : ∀ m, m < zN C 5 → zI C 5 m 8 = zI R 133 0 m) (hmfa : ∀ m, m < zN C 5 → zI C 5 m 9 = zI R 134 0 m ∧ ¬ zI R 134 0 m < 0 ∧ zI R 134 0 m ≤ zI R 40 0 53 + (if m < mi then 1 else 0)) (hmfb : ∀ m, m < zN C 5 → (zI R 134 0 m = 0 → zR C 5 m 10 = none ∧ zI R 135 0 m = -9) ∧ (¬ zI R 134 0 m = 0 → zR C 5 m 10 = some (zI R 135 0 m).toNatClampNeg ∧ zib (zI R 135 0 m) 8 = true)) (hmop : ∀ m, m < zN C 5 → ¬ zI R 138 0 m = 0 → zI R 114 0 (zI R 130 0 m).toNatClampNeg = 0 ∧ zI R 114 0 (zI R 131 0 m).toNatClampNeg = 0) (hmdj : ∀ m m2, m < zN C 5 → m2 < zN C 5 → ¬ m = m2 → ¬ zI R 138 0 m = 0 → ¬ zI R 138 0 m2 = 0 → ¬ zI R 130 0 m = zI R 130 0 m2 ∧ ¬ zI R 130 0 m = zI R 131 0 m2 ∧ ¬ zI R 131 0 m = zI R 131 0 m2) (hmfr : ∀ m, zN C 5 ≤ m → m < 30 → zI R 132 0 m = 0 ∧ zI R 133 0 m = 0 ∧ zI R 134 0 m = 0 ∧ zI R 139 0 m = 0) (hrpf : ∀ r, r < zN C 6 → zI C 6 r 0 = zI R 142 0 r ∧ zI C 6 r 1 = zI R 143 0 r ∧ zR C 6 r 2 = some r) (hrtx : ∀ r, r < zN C 6 → RTx (zL C 25 r) (fun k => zI C 25 r k) (zI R 141 0 r) (fun k => zI R 144 0 (60 * r + k))) (htap : zI C 8 0 1 = zI R 40 0 59 ∧ zib (zI R 40 0 59) 61 = true ∧ ∀ k, k < (zI R 40 0 59).toNatClampNeg → zI C 28 0 k = zI R 157 0 k ∧ zib (zI R 157 0 k) 256 = true) (hrow : zI C 0 0 9 = zI R 40 0 55 ∧ zib (zI R 40 0 55) 9 = true ∧ ∀ k, k < (zI R 40 0 55).toNatClampNeg → zJ C 19 0 k = zJ R 109 0 k) (hsur : zI C 9 0 1 = zI R 40 0 56 ∧ zib (zI R 40 0 56) 10 = true ∧ ∀ k, k < (zI R 40 0 56).toNatClampNeg → zI C 30 0 k = zI R 145 0 k ∧ zib (zI R 145 0 k) 128 = true) (href : ∀ k, k < 7 → zI C 20 0 k = zI R 100 0 k) : IN q mi C R := by
  intro k
  unfold Jn
  match k with
  | 0 => exact hkc
  | 1 => exact hkr
  | 2 => exact hcnt
  | 3 => exact hmx
  | 4 => exact hla
  | 5 => exact hll
  | 6 => exact hlm
  | 7 => exact hlr
  | 8 => exact hal
  | 9 => exact hbno
  | 10 => exact hbfee
  | 11 => exact hbcap
  | 12 => exact hbow
  | 13 => exact hbdid
  | 14 => exact hbnet
  | 15 => exact hday
  | 16 => exact hngt
  | 17 => exact hdue
  | 18 => exact hhol
  | 19 => exact hlat
  | 20 => exact hano
  | 21 => exact habk
  | 22 => exact hanm
  | 23 => exact hasum
  | 24 => exact haov
  | 25 => exact hast
  | 26 => exact hamv
  | 27 => exact hano2
  | 28 => exact hagd
  | 29 => exact hakp
  | 30 => exact hahs
  | 31 => exact hafr
  | 32 => exact hlk
  | 33 => exact hlft
  | 34 => exact hlam
  | 35 => exact hled
  | 36 => exact hldn
  | 37 => exact hlbk
  | 38 => exact hldu
  | 39 => exact hlfr
  | 40 => exact hmac
  | 41 => exact hmpt
  | 42 => exact hmas
  | 43 => exact hmst
  | 44 => exact hmgo
  | 45 => exact hmag
  | 46 => exact hmwy
  | 47 => exact hmfa
  | 48 => exact hmfb
  | 49 => exact hmop
  | 50 => exact hmdj
  | 51 => exact hmfr
  | 52 => exact hrpf
  | 53 => exact hrtx
  | 54 => exact htap
  | 55 => exact hrow
  | 56 => exact hsur
  | 57 => exact href
  | _ + 58 => exact trivial
theorem Inv_IN (I : IN q mi C R) (h16 : Jv C R 16) (h38 : Jv C R 38) (h47 : Jv C R 47) : Inv C R := by
  intro k
  by_cases a : k = 16
  · rw [a]
    exact h16
  by_cases b : k = 38
  · rw [b]
    exact h38
  by_cases c : k = 47
  · rw [c]
    exact h47
  exact I.q k a b c
end ZQ
theorem Jv_SC {C C' R : zH} (F : SC C C') : ∀ k, Jv C R k → Jv C' R k := by
  obtain ⟨f1, f2, f3, f4, f5⟩ := id F
  have i0 : ∀ i k, zI C' 0 i k = zI C 0 i k := fun i k => f1 0 i k (by decide) (by simp)
  have i1 : ∀ i k, zI C' 1 i k = zI C 1 i k := fun i k => f1 1 i k (by decide) (by simp)
  have i2 : ∀ i k, zI C' 2 i k = zI C 2 i k := fun i k => f1 2 i k (by decide) (by simp)
  have i3 : ∀ i k, zI C' 3 i k = zI C 3 i k := fun i k => f1 3 i k (by decide) (by simp)
  have i4 : ∀ i k, zI C' 4 i k = zI C 4 i k := fun i k => f1 4 i k (by decide) (by simp)
  have i5 : ∀ i k, zI C' 5 i k = zI C 5 i k := fun i k => f1 5 i k (by decide) (by simp)
  have i6 : ∀ i k, zI C' 6 i k = zI C 6 i k := fun i k => f1 6 i k (by decide) (by simp)
  have i9 : ∀ i k, zI C' 9 i k = zI C 9 i k := fun i k => f1 9 i k (by decide) (by simp)
  have i20 : ∀ i k, zI C' 20 i k = zI C 20 i k := fun i k => f1 20 i k (by decide) (by simp)
  have i21 : ∀ i k, zI C' 21 i k = zI C 21 i k := fun i k => f1 21 i k (by decide) (by simp)
  have i22 : ∀ i k, zI C' 22 i k = zI C 22 i k := fun i k => f1 22 i k (by decide) (by simp)
  have i24 : ∀ i k, zI C' 24 i k = zI C 24 i k := fun i k => f1 24 i k (by decide) (by simp)
  have i25 : ∀ i k, zI C' 25 i k = zI C 25 i k := fun i k => f1 25 i k (by decide) (by simp)
  have i28 : ∀ i k, zI C' 28 i k = zI C 28 i k := fun i k => f1 28 i k (by decide) (by simp)
  have i30 : ∀ i k, zI C' 30 i k = zI C 30 i k := fun i k => f1 30 i k (by decide) (by simp)
  have i8 : zI C' 8 0 1 = zI C 8 0 1 := f1 8 0 1 (by decide) (by decide)
  have j2 : ∀ i k, zJ C' 2 i k = zJ C 2 i k := fun i k => f2 2 i k (by decide) (by decide)
  have j3 : ∀ i k, zJ C' 3 i k = zJ C 3 i k := fun i k => f2 3 i k (by decide) (by decide)
  have j19 : ∀ i k, zJ C' 19 i k = zJ C 19 i k := fun i k => f2 19 i k (by decide) (by decide)
  have j23 : ∀ i k, zJ C' 23 i k = zJ C 23 i k := fun i k => f2 23 i k (by decide) (by decide)
  have r4 : ∀ i k, zR C' 4 i k = zR C 4 i k := fun i k => f3 4 i k (by simp)
  have r5 : ∀ i k, zR C' 5 i k = zR C 5 i k := fun i k => f3 5 i k (by simp)
  have r6 : ∀ i k, zR C' 6 i k = zR C 6 i k := fun i k => f3 6 i k (by simp)
  have r18 : ∀ i k, zR C' 18 i k = zR C 18 i k := fun i k => f3 18 i k (by simp)
  have r3_1 : ∀ i, zR C' 3 i 1 = zR C 3 i 1 := fun i => f3 3 i 1 (by decide)
  have r3_5 : ∀ i, zR C' 3 i 5 = zR C 3 i 5 := fun i => f3 3 i 5 (by decide)
  have r3_9 : ∀ i, zR C' 3 i 9 = zR C 3 i 9 := fun i => f3 3 i 9 (by decide)
  intro k h
  match k, h with
  | 0, h => exact F.kc h
  | 1, h =>
    show KR R
    (try simp only [f4, f5, i0, i1, i2, i3, i4, i5, i6, i9, i20, i21, i22, i24, i25, i28, i30, i8, j2, j3, j19, j23, r4, r5, r6, r18, r3_1, r3_5, r3_9])
    exact h
  | 2, h =>
    show zI R 40 0 49 = nI (zN C' 3) ∧ zI R 40 0 50 = nI (zN C' 4) ∧ zI R 40 0 51 = nI (zN C' 5) ∧ zI R 40 0 52 = nI (zN C' 6)
    (try simp only [f4, f5, i0, i1, i2, i3, i4, i5, i6, i9, i20, i21, i22, i24, i25, i28, i30, i8, j2, j3, j19, j23, r4, r5, r6, r18, r3_1, r3_5, r3_9])
    exact h
  | 3, h =>
    show zN C' 3 ≤ 40 ∧ zN C' 4 ≤ 60 ∧ zN C' 5 ≤ 30 ∧ zN C' 6 ≤ 30
    (try simp only [f4, f5, i0, i1, i2, i3, i4, i5, i6, i9, i20, i21, i22, i24, i25, i28, i30, i8, j2, j3, j19, j23, r4, r5, r6, r18, r3_1, r3_5, r3_9])
    exact h
  | 4, h =>
    show LO C' 10 (zN C' 3)
    rw [f4]
    exact F.lo (by decide) h
  | 5, h =>
    show LO C' 11 (zN C' 4)
    rw [f4]
    exact F.lo (by decide) h
  | 6, h =>
    show LO C' 12 (zN C' 5)
    rw [f4]
    exact F.lo (by decide) h
  | 7, h =>
    show LO C' 13 (zN C' 6)
    rw [f4]
    exact F.lo (by decide) h
  | 8, h =>
    show zN C' 23 = zN C' 3 ∧ zN C' 24 = zN C' 4 ∧ zN C' 25 = zN C' 6 ∧ 0 < zN C' 0 ∧ 0 < zN R 40
    (try simp only [f4, f5, i0, i1, i2, i3, i4, i5, i6, i9, i20, i21, i22, i24, i25, i28, i30, i8, j2, j3, j19, j23, r4, r5, r6, r18, r3_1, r3_5, r3_9])
    exact h
  | 9, h =>
    show ∀ b, b < 8 → zR C' 18 0 b = some b ∧ zI C' 2 b 0 = nI b
    (try simp only [f4, f5, i0, i1, i2, i3, i4, i5, i6, i9, i20, i21, i22, i24, i25, i28, i30, i8, j2, j3, j19, j23, r4, r5, r6, r18, r3_1, r3_5, r3_9])
    exact h
  | 10, h =>
    show ∀ b, b < 8 → zI C' 2 b 1 = zI R 104 0 b ∧ zib (zI R 104 0 b) 1000 = true
    (try simp only [f4, f5, i0, i1, i2, i3, i4, i5, i6, i9, i20, i21, i22, i24, i25, i28, i30, i8, j2, j3, j19, j23, r4, r5, r6, r18, r3_1, r3_5, r3_9])
    exact h
  | 11, h =>
    show ∀ b, b < 8 → zI C' 2 b 2 = zI R 105 0 b
    (try simp only [f4, f5, i0, i1, i2, i3, i4, i5, i6, i9, i20, i21, i22, i24, i25, i28, i30, i8, j2, j3, j19, j23, r4, r5, r6, r18, r3_1, r3_5, r3_9])
    exact h
  | 12, h =>
    show ∀ b, b < 8 → zI C' 2 b 3 = zI R 106 0 b ∧ zib (zI R 106 0 b) 1000000001 = true
    (try simp only [f4, f5, i0, i1, i2, i3, i4, i5, i6, i9, i20, i21, i22, i24, i25, i28, i30, i8, j2, j3, j19, j23, r4, r5, r6, r18, r3_1, r3_5, r3_9])
    exact h
  | 13, h =>
    show ∀ b, b < 8 → zI C' 2 b 4 = zI R 107 0 b
    (try simp only [f4, f5, i0, i1, i2, i3, i4, i5, i6, i9, i20, i21, i22, i24, i25, i28, i30, i8, j2, j3, j19, j23, r4, r5, r6, r18, r3_1, r3_5, r3_9])
    exact h
  | 14, h =>
    show ∀ b, b < 8 → zJ C' 2 b 5 = zJ R 108 0 b
    (try simp only [f4, f5, i0, i1, i2, i3, i4, i5, i6, i9, i20, i21, i22, i24, i25, i28, i30, i8, j2, j3, j19, j23, r4, r5, r6, r18, r3_1, r3_5, r3_9])
    exact h
  | 15, h =>
    show zI C' 1 0 4 = zI R 40 0 46 ∧ zib (zI R 40 0 46) 1501 = true
    (try simp only [f4, f5, i0, i1, i2, i3, i4, i5, i6, i9, i20, i21, i22, i24, i25, i28, i30, i8, j2, j3, j19, j23, r4, r5, r6, r18, r3_1, r3_5, r3_9])
    exact h
  | 16, h =>
    show zI C' 1 0 5 = zI R 40 0 53 ∧ ¬ zI R 40 0 53 < 0 ∧ zI R 40 0 53 ≤ zI R 40 0 46
    (try simp only [f4, f5, i0, i1, i2, i3, i4, i5, i6, i9, i20, i21, i22, i24, i25, i28, i30, i8, j2, j3, j19, j23, r4, r5, r6, r18, r3_1, r3_5, r3_9])
    exact h
  | 17, h =>
    show zI C' 1 0 6 = zI R 40 0 54 + 1 ∧ ¬ zI R 40 0 54 + 1 < 0 ∧ zI R 40 0 54 + 1 ≤ zI R 40 0 46
    (try simp only [f4, f5, i0, i1, i2, i3, i4, i5, i6, i9, i20, i21, i22, i24, i25, i28, i30, i8, j2, j3, j19, j23, r4, r5, r6, r18, r3_1, r3_5, r3_9])
    exact h
  | 18, h =>
    show zI C' 1 0 2 = zI R 40 0 47 ∧ zib (zI R 40 0 47) 21 = true ∧ (∀ k, k < (zI R 40 0 47).toNatClampNeg → zib (zI R 101 0 k) 1501 = true) ∧ ∀ d, d < 1501 → (¬ zI C' 21 0 d = 0 ↔ ∃ k, k < (zI R 40 0 47).toNatClampNeg ∧ zI R 101 0 k = nI d)
    (try simp only [f4, f5, i0, i1, i2, i3, i4, i5, i6, i9, i20, i21, i22, i24, i25, i28, i30, i8, j2, j3, j19, j23, r4, r5, r6, r18, r3_1, r3_5, r3_9])
    exact h
  | 19, h =>
    show zI C' 1 0 3 = zI R 40 0 48 ∧ zib (zI R 40 0 48) 61 = true ∧ (∀ k, k < (zI R 40 0 48).toNatClampNeg → zib (zI R 103 0 k) 1501 = true ∧ zib (zI R 102 0 k) 8 = true) ∧ ∀ d b, d < 1501 → b < 8 → ((zI C' 22 0 d >>> (nI b &&& 31)) &&& 1 = 1 ↔ ∃ k, k < (zI R 40 0 48).toNatClampNeg ∧ zI R 102 0 k = nI b ∧ zI R 103 0 k = nI d)
    (try simp only [f4, f5, i0, i1, i2, i3, i4, i5, i6, i9, i20, i21, i22, i24, i25, i28, i30, i8, j2, j3, j19, j23, r4, r5, r6, r18, r3_1, r3_5, r3_9])
    exact h
  | 20, h =>
    show ∀ i, i < zN C' 3 → zI C' 3 i 0 = nI i
    (try simp only [f4, f5, i0, i1, i2, i3, i4, i5, i6, i9, i20, i21, i22, i24, i25, i28, i30, i8, j2, j3, j19, j23, r4, r5, r6, r18, r3_1, r3_5, r3_9])
    exact h
  | 21, h =>
    show ∀ i, i < zN C' 3 → zR C' 3 i 1 = some (zI R 110 0 i).toNatClampNeg ∧ zib (zI R 110 0 i) 8 = true
    (try simp only [f4, f5, i0, i1, i2, i3, i4, i5, i6, i9, i20, i21, i22, i24, i25, i28, i30, i8, j2, j3, j19, j23, r4, r5, r6, r18, r3_1, r3_5, r3_9])
    exact h
  | 22, h =>
    show ∀ i, i < zN C' 3 → zI C' 3 i 2 = zI R 111 0 i ∧ zI C' 3 i 3 = zI R 112 0 i
    (try simp only [f4, f5, i0, i1, i2, i3, i4, i5, i6, i9, i20, i21, i22, i24, i25, i28, i30, i8, j2, j3, j19, j23, r4, r5, r6, r18, r3_1, r3_5, r3_9])
    exact h
  | 23, h =>
    show ∀ i, i < zN C' 3 → zJ C' 3 i 6 = zJ R 118 0 i
    (try simp only [f4, f5, i0, i1, i2, i3, i4, i5, i6, i9, i20, i21, i22, i24, i25, i28, i30, i8, j2, j3, j19, j23, r4, r5, r6, r18, r3_1, r3_5, r3_9])
    exact h
  | 24, h =>
    show ∀ i, i < zN C' 3 → zI C' 3 i 7 = zI R 113 0 i ∧ zib (zI R 113 0 i) 100000 = true
    (try simp only [f4, f5, i0, i1, i2, i3, i4, i5, i6, i9, i20, i21, i22, i24, i25, i28, i30, i8, j2, j3, j19, j23, r4, r5, r6, r18, r3_1, r3_5, r3_9])
    exact h
  | 25, h =>
    show ∀ i, i < zN C' 3 → zI C' 3 i 8 = zI R 114 0 i
    (try simp only [f4, f5, i0, i1, i2, i3, i4, i5, i6, i9, i20, i21, i22, i24, i25, i28, i30, i8, j2, j3, j19, j23, r4, r5, r6, r18, r3_1, r3_5, r3_9])
    exact h
  | 26, h =>
    show ∀ i, i < zN C' 3 → zI R 114 0 i = 2 → zR C' 3 i 9 = some (zI R 115 0 i).toNatClampNeg ∧ zib (zI R 115 0 i) (zN C' 3) = true ∧ i < (zI R 115 0 i).toNatClampNeg ∧ zI C' 3 i 10 = zI R 116 0 i ∧ zib (zI R 116 0 i) 1501 = true
    (try simp only [f4, f5, i0, i1, i2, i3, i4, i5, i6, i9, i20, i21, i22, i24, i25, i28, i30, i8, j2, j3, j19, j23, r4, r5, r6, r18, r3_1, r3_5, r3_9])
    exact h
  | 27, h =>
    show ∀ i, i < zN C' 3 → ¬ zI R 114 0 i = 2 → zR C' 3 i 9 = none ∧ zI R 115 0 i = -9 ∧ zI R 116 0 i = -9
    (try simp only [f4, f5, i0, i1, i2, i3, i4, i5, i6, i9, i20, i21, i22, i24, i25, i28, i30, i8, j2, j3, j19, j23, r4, r5, r6, r18, r3_1, r3_5, r3_9])
    exact h
  | 28, h =>
    show ∀ i, i < zN C' 3 → zI C' 3 i 11 = zI R 117 0 i ∧ zib (zI R 117 0 i) 1000000001 = true
    (try simp only [f4, f5, i0, i1, i2, i3, i4, i5, i6, i9, i20, i21, i22, i24, i25, i28, i30, i8, j2, j3, j19, j23, r4, r5, r6, r18, r3_1, r3_5, r3_9])
    exact h
  | 29, h =>
    show ∀ i, i < zN C' 3 → zR C' 3 i 5 = some i ∧ zib (zI C' 3 i 4) 1501 = true ∧ zI C' 3 i 4 ≤ zI R 40 0 46 ∧ zL C' 23 i = 1500 - (zI C' 3 i 4).toNatClampNeg
    (try simp only [f4, f5, i0, i1, i2, i3, i4, i5, i6, i9, i20, i21, i22, i24, i25, i28, i30, i8, j2, j3, j19, j23, r4, r5, r6, r18, r3_1, r3_5, r3_9])
    exact h
  | 30, h =>
    show ∀ i, i < zN C' 3 → ∀ d, d < (zI R 40 0 46).toNatClampNeg → zJ R 119 0 (1501 * i + d) = if d < (zI C' 3 i 4).toNatClampNeg then 0 else zJ C' 23 i (d - (zI C' 3 i 4).toNatClampNeg)
    (try simp only [f4, f5, i0, i1, i2, i3, i4, i5, i6, i9, i20, i21, i22, i24, i25, i28, i30, i8, j2, j3, j19, j23, r4, r5, r6, r18, r3_1, r3_5, r3_9])
    exact h
  | 31, h =>
    show ∀ i, zN C' 3 ≤ i → i < 40 → zI R 113 0 i = 0 ∧ zI R 114 0 i = 0 ∧ zI R 117 0 i = 0 ∧ zJ R 118 0 i = 0 ∧ ∀ d, d < 1501 → zJ R 119 0 (1501 * i + d) = 0
    (try simp only [f4, f5, i0, i1, i2, i3, i4, i5, i6, i9, i20, i21, i22, i24, i25, i28, i30, i8, j2, j3, j19, j23, r4, r5, r6, r18, r3_1, r3_5, r3_9])
    exact h
  | 32, h =>
    show ∀ l, l < zN C' 4 → zI C' 4 l 0 = zI R 120 0 l ∧ zib (zI R 120 0 l) 4 = true
    (try simp only [f4, f5, i0, i1, i2, i3, i4, i5, i6, i9, i20, i21, i22, i24, i25, i28, i30, i8, j2, j3, j19, j23, r4, r5, r6, r18, r3_1, r3_5, r3_9])
    exact h
  | 33, h =>
    show ∀ l, l < zN C' 4 → zR C' 4 l 1 = some (zI R 121 0 l).toNatClampNeg ∧ zib (zI R 121 0 l) (zN C' 3) = true ∧ zR C' 4 l 2 = some (zI R 122 0 l).toNatClampNeg ∧ zib (zI R 122 0 l) (zN C' 3) = true
    (try simp only [f4, f5, i0, i1, i2, i3, i4, i5, i6, i9, i20, i21, i22, i24, i25, i28, i30, i8, j2, j3, j19, j23, r4, r5, r6, r18, r3_1, r3_5, r3_9])
    exact h
  | 34, h =>
    show ∀ l, l < zN C' 4 → zI C' 4 l 3 = zI R 123 0 l ∧ zib (zI R 123 0 l) 100000 = true
    (try simp only [f4, f5, i0, i1, i2, i3, i4, i5, i6, i9, i20, i21, i22, i24, i25, i28, i30, i8, j2, j3, j19, j23, r4, r5, r6, r18, r3_1, r3_5, r3_9])
    exact h
  | 35, h =>
    show ∀ l, l < zN C' 4 → (zI R 126 0 l < 0 → zI C' 4 l 6 = 0) ∧ (¬ zI R 126 0 l < 0 → zI C' 4 l 6 = 1 ∧ zI C' 4 l 7 = zI R 126 0 l ∧ zib (zI R 126 0 l) 1501 = true)
    (try simp only [f4, f5, i0, i1, i2, i3, i4, i5, i6, i9, i20, i21, i22, i24, i25, i28, i30, i8, j2, j3, j19, j23, r4, r5, r6, r18, r3_1, r3_5, r3_9])
    exact h
  | 36, h =>
    show ∀ l, l < zN C' 4 → zI C' 4 l 8 = zI R 127 0 l ∧ zI C' 4 l 9 = zI R 129 0 l
    (try simp only [f4, f5, i0, i1, i2, i3, i4, i5, i6, i9, i20, i21, i22, i24, i25, i28, i30, i8, j2, j3, j19, j23, r4, r5, r6, r18, r3_1, r3_5, r3_9])
    exact h
  | 37, h =>
    show ∀ l, l < zN C' 4 → zR C' 4 l 10 = some l ∧ zL C' 24 l = 5 ∧ ∀ w, w < 4 → zI C' 24 l (w + 1) = zI R 128 0 (4 * l + w)
    (try simp only [f4, f5, i0, i1, i2, i3, i4, i5, i6, i9, i20, i21, i22, i24, i25, i28, i30, i8, j2, j3, j19, j23, r4, r5, r6, r18, r3_1, r3_5, r3_9])
    exact h
  | 38, h =>
    show ∀ l, l < zN C' 4 → LDu (zI R 40 0 54 + 1).toNatClampNeg (zI C' 4 l 4) (zI C' 4 l 5) (zI C' 4 l 6) (zI C' 4 l 7) (zI R 120 0 l) (zI R 124 0 l) (zI R 125 0 l)
    (try simp only [f4, f5, i0, i1, i2, i3, i4, i5, i6, i9, i20, i21, i22, i24, i25, i28, i30, i8, j2, j3, j19, j23, r4, r5, r6, r18, r3_1, r3_5, r3_9])
    exact h
  | 39, h =>
    show ∀ l, zN C' 4 ≤ l → l < 60 → zI R 127 0 l = 0 ∧ ∀ w, w < 4 → zI R 128 0 (4 * l + w) = 0
    (try simp only [f4, f5, i0, i1, i2, i3, i4, i5, i6, i9, i20, i21, i22, i24, i25, i28, i30, i8, j2, j3, j19, j23, r4, r5, r6, r18, r3_1, r3_5, r3_9])
    exact h
  | 40, h =>
    show ∀ m, m < zN C' 5 → zR C' 5 m 0 = some (zI R 130 0 m).toNatClampNeg ∧ zib (zI R 130 0 m) (zN C' 3) = true ∧ zR C' 5 m 1 = some (zI R 131 0 m).toNatClampNeg ∧ zib (zI R 131 0 m) (zN C' 3) = true ∧ (zI R 130 0 m).toNatClampNeg < (zI R 131 0 m).toNatClampNeg
    (try simp only [f4, f5, i0, i1, i2, i3, i4, i5, i6, i9, i20, i21, i22, i24, i25, i28, i30, i8, j2, j3, j19, j23, r4, r5, r6, r18, r3_1, r3_5, r3_9])
    exact h
  | 41, h =>
    show ∀ m, m < zN C' 5 → zI C' 5 m 2 = zI R 140 0 m
    (try simp only [f4, f5, i0, i1, i2, i3, i4, i5, i6, i9, i20, i21, i22, i24, i25, i28, i30, i8, j2, j3, j19, j23, r4, r5, r6, r18, r3_1, r3_5, r3_9])
    exact h
  | 42, h =>
    show ∀ m, m < zN C' 5 → zI C' 5 m 3 = zI R 136 0 m ∧ zib (zI R 136 0 m) 1501 = true
    (try simp only [f4, f5, i0, i1, i2, i3, i4, i5, i6, i9, i20, i21, i22, i24, i25, i28, i30, i8, j2, j3, j19, j23, r4, r5, r6, r18, r3_1, r3_5, r3_9])
    exact h
  | 43, h =>
    show ∀ m, m < zN C' 5 → zI C' 5 m 4 = zI R 132 0 m ∧ zI C' 5 m 5 = zI R 137 0 m
    (try simp only [f4, f5, i0, i1, i2, i3, i4, i5, i6, i9, i20, i21, i22, i24, i25, i28, i30, i8, j2, j3, j19, j23, r4, r5, r6, r18, r3_1, r3_5, r3_9])
    exact h
  | 44, h =>
    show ∀ m, m < zN C' 5 → zI C' 5 m 6 = zI R 138 0 m ∧ (zI R 138 0 m = 0 ∨ zI R 138 0 m = 1)
    (try simp only [f4, f5, i0, i1, i2, i3, i4, i5, i6, i9, i20, i21, i22, i24, i25, i28, i30, i8, j2, j3, j19, j23, r4, r5, r6, r18, r3_1, r3_5, r3_9])
    exact h
  | 45, h =>
    show ∀ m, m < zN C' 5 → zI C' 5 m 7 = zI R 139 0 m
    (try simp only [f4, f5, i0, i1, i2, i3, i4, i5, i6, i9, i20, i21, i22, i24, i25, i28, i30, i8, j2, j3, j19, j23, r4, r5, r6, r18, r3_1, r3_5, r3_9])
    exact h
  | 46, h =>
    show ∀ m, m < zN C' 5 → zI C' 5 m 8 = zI R 133 0 m
    (try simp only [f4, f5, i0, i1, i2, i3, i4, i5, i6, i9, i20, i21, i22, i24, i25, i28, i30, i8, j2, j3, j19, j23, r4, r5, r6, r18, r3_1, r3_5, r3_9])
    exact h
  | 47, h =>
    show ∀ m, m < zN C' 5 → zI C' 5 m 9 = zI R 134 0 m ∧ ¬ zI R 134 0 m < 0 ∧ zI R 134 0 m ≤ zI R 40 0 53
    (try simp only [f4, f5, i0, i1, i2, i3, i4, i5, i6, i9, i20, i21, i22, i24, i25, i28, i30, i8, j2, j3, j19, j23, r4, r5, r6, r18, r3_1, r3_5, r3_9])
    exact h
  | 48, h =>
    show ∀ m, m < zN C' 5 → (zI R 134 0 m = 0 → zR C' 5 m 10 = none ∧ zI R 135 0 m = -9) ∧ (¬ zI R 134 0 m = 0 → zR C' 5 m 10 = some (zI R 135 0 m).toNatClampNeg ∧ zib (zI R 135 0 m) 8 = true)
    (try simp only [f4, f5, i0, i1, i2, i3, i4, i5, i6, i9, i20, i21, i22, i24, i25, i28, i30, i8, j2, j3, j19, j23, r4, r5, r6, r18, r3_1, r3_5, r3_9])
    exact h
  | 49, h =>
    show ∀ m, m < zN C' 5 → ¬ zI R 138 0 m = 0 → zI R 114 0 (zI R 130 0 m).toNatClampNeg = 0 ∧ zI R 114 0 (zI R 131 0 m).toNatClampNeg = 0
    (try simp only [f4, f5, i0, i1, i2, i3, i4, i5, i6, i9, i20, i21, i22, i24, i25, i28, i30, i8, j2, j3, j19, j23, r4, r5, r6, r18, r3_1, r3_5, r3_9])
    exact h
  | 50, h =>
    show ∀ m m2, m < zN C' 5 → m2 < zN C' 5 → ¬ m = m2 → ¬ zI R 138 0 m = 0 → ¬ zI R 138 0 m2 = 0 → ¬ zI R 130 0 m = zI R 130 0 m2 ∧ ¬ zI R 130 0 m = zI R 131 0 m2 ∧ ¬ zI R 131 0 m = zI R 131 0 m2
    (try simp only [f4, f5, i0, i1, i2, i3, i4, i5, i6, i9, i20, i21, i22, i24, i25, i28, i30, i8, j2, j3, j19, j23, r4, r5, r6, r18, r3_1, r3_5, r3_9])
    exact h
  | 51, h =>
    show ∀ m, zN C' 5 ≤ m → m < 30 → zI R 132 0 m = 0 ∧ zI R 133 0 m = 0 ∧ zI R 134 0 m = 0 ∧ zI R 139 0 m = 0
    (try simp only [f4, f5, i0, i1, i2, i3, i4, i5, i6, i9, i20, i21, i22, i24, i25, i28, i30, i8, j2, j3, j19, j23, r4, r5, r6, r18, r3_1, r3_5, r3_9])
    exact h
  | 52, h =>
    show ∀ r, r < zN C' 6 → zI C' 6 r 0 = zI R 142 0 r ∧ zI C' 6 r 1 = zI R 143 0 r ∧ zR C' 6 r 2 = some r
    (try simp only [f4, f5, i0, i1, i2, i3, i4, i5, i6, i9, i20, i21, i22, i24, i25, i28, i30, i8, j2, j3, j19, j23, r4, r5, r6, r18, r3_1, r3_5, r3_9])
    exact h
  | 53, h =>
    show ∀ r, r < zN C' 6 → RTx (zL C' 25 r) (fun k => zI C' 25 r k) (zI R 141 0 r) (fun k => zI R 144 0 (60 * r + k))
    (try simp only [f4, f5, i0, i1, i2, i3, i4, i5, i6, i9, i20, i21, i22, i24, i25, i28, i30, i8, j2, j3, j19, j23, r4, r5, r6, r18, r3_1, r3_5, r3_9])
    exact h
  | 54, h =>
    show zI C' 8 0 1 = zI R 40 0 59 ∧ zib (zI R 40 0 59) 61 = true ∧ ∀ k, k < (zI R 40 0 59).toNatClampNeg → zI C' 28 0 k = zI R 157 0 k ∧ zib (zI R 157 0 k) 256 = true
    (try simp only [f4, f5, i0, i1, i2, i3, i4, i5, i6, i9, i20, i21, i22, i24, i25, i28, i30, i8, j2, j3, j19, j23, r4, r5, r6, r18, r3_1, r3_5, r3_9])
    exact h
  | 55, h =>
    show zI C' 0 0 9 = zI R 40 0 55 ∧ zib (zI R 40 0 55) 9 = true ∧ ∀ k, k < (zI R 40 0 55).toNatClampNeg → zJ C' 19 0 k = zJ R 109 0 k
    (try simp only [f4, f5, i0, i1, i2, i3, i4, i5, i6, i9, i20, i21, i22, i24, i25, i28, i30, i8, j2, j3, j19, j23, r4, r5, r6, r18, r3_1, r3_5, r3_9])
    exact h
  | 56, h =>
    show zI C' 9 0 1 = zI R 40 0 56 ∧ zib (zI R 40 0 56) 10 = true ∧ ∀ k, k < (zI R 40 0 56).toNatClampNeg → zI C' 30 0 k = zI R 145 0 k ∧ zib (zI R 145 0 k) 128 = true
    (try simp only [f4, f5, i0, i1, i2, i3, i4, i5, i6, i9, i20, i21, i22, i24, i25, i28, i30, i8, j2, j3, j19, j23, r4, r5, r6, r18, r3_1, r3_5, r3_9])
    exact h
  | 57, h =>
    show ∀ k, k < 7 → zI C' 20 0 k = zI R 100 0 k
    (try simp only [f4, f5, i0, i1, i2, i3, i4, i5, i6, i9, i20, i21, i22, i24, i25, i28, i30, i8, j2, j3, j19, j23, r4, r5, r6, r18, r3_1, r3_5, r3_9])
    exact h
  | _ + 58, _ => exact trivial
theorem SR_kc {C R R' : zH} (F : SR R R') (h : KC C) : KC C := by
  obtain ⟨f1, f2, f3, f4, f5⟩ := F
  (try simp only [f2, f3, f4, f5])
  exact h
theorem SR_cnt {C R R' : zH} (F : SR R R') (h : zI R 40 0 49 = nI (zN C 3) ∧ zI R 40 0 50 = nI (zN C 4) ∧ zI R 40 0 51 = nI (zN C 5) ∧ zI R 40 0 52 = nI (zN C 6)) : zI R' 40 0 49 = nI (zN C 3) ∧ zI R' 40 0 50 = nI (zN C 4) ∧ zI R' 40 0 51 = nI (zN C 5) ∧ zI R' 40 0 52 = nI (zN C 6) := by
  obtain ⟨f1, f2, f3, f4, f5⟩ := F
  have k49 : zI R' 40 0 49 = zI R 40 0 49 := f1 40 0 49 (by decide) (by decide)
  have k50 : zI R' 40 0 50 = zI R 40 0 50 := f1 40 0 50 (by decide) (by decide)
  have k51 : zI R' 40 0 51 = zI R 40 0 51 := f1 40 0 51 (by decide) (by decide)
  have k52 : zI R' 40 0 52 = zI R 40 0 52 := f1 40 0 52 (by decide) (by decide)
  (try simp only [f2, f3, f4, f5, k49, k50, k51, k52])
  exact h
theorem SR_mx {C R R' : zH} (F : SR R R') (h : zN C 3 ≤ 40 ∧ zN C 4 ≤ 60 ∧ zN C 5 ≤ 30 ∧ zN C 6 ≤ 30) : zN C 3 ≤ 40 ∧ zN C 4 ≤ 60 ∧ zN C 5 ≤ 30 ∧ zN C 6 ≤ 30 := by
  obtain ⟨f1, f2, f3, f4, f5⟩ := F
  (try simp only [f2, f3, f4, f5])
  exact h
theorem SR_la {C R R' : zH} (F : SR R R') (h : LO C 10 (zN C 3)) : LO C 10 (zN C 3) := by
  obtain ⟨f1, f2, f3, f4, f5⟩ := F
  (try simp only [f2, f3, f4, f5])
  exact h
theorem SR_ll {C R R' : zH} (F : SR R R') (h : LO C 11 (zN C 4)) : LO C 11 (zN C 4) := by
  obtain ⟨f1, f2, f3, f4, f5⟩ := F
  (try simp only [f2, f3, f4, f5])
  exact h
theorem SR_lm {C R R' : zH} (F : SR R R') (h : LO C 12 (zN C 5)) : LO C 12 (zN C 5) := by
  obtain ⟨f1, f2, f3, f4, f5⟩ := F
  (try simp only [f2, f3, f4, f5])
  exact h
theorem SR_lr {C R R' : zH} (F : SR R R') (h : LO C 13 (zN C 6)) : LO C 13 (zN C 6) := by
  obtain ⟨f1, f2, f3, f4, f5⟩ := F
  (try simp only [f2, f3, f4, f5])
  exact h
theorem SR_al {C R R' : zH} (F : SR R R') (h : zN C 23 = zN C 3 ∧ zN C 24 = zN C 4 ∧ zN C 25 = zN C 6 ∧ 0 < zN C 0 ∧ 0 < zN R 40) : zN C 23 = zN C 3 ∧ zN C 24 = zN C 4 ∧ zN C 25 = zN C 6 ∧ 0 < zN C 0 ∧ 0 < zN R' 40 := by
  obtain ⟨f1, f2, f3, f4, f5⟩ := F
  (try simp only [f2, f3, f4, f5])
  exact h
theorem SR_bno {C R R' : zH} (F : SR R R') (h : ∀ b, b < 8 → zR C 18 0 b = some b ∧ zI C 2 b 0 = nI b) : ∀ b, b < 8 → zR C 18 0 b = some b ∧ zI C 2 b 0 = nI b := by
  obtain ⟨f1, f2, f3, f4, f5⟩ := F
  (try simp only [f2, f3, f4, f5])
  exact h
theorem SR_bfee {C R R' : zH} (F : SR R R') (h : ∀ b, b < 8 → zI C 2 b 1 = zI R 104 0 b ∧ zib (zI R 104 0 b) 1000 = true) : ∀ b, b < 8 → zI C 2 b 1 = zI R' 104 0 b ∧ zib (zI R' 104 0 b) 1000 = true := by
  obtain ⟨f1, f2, f3, f4, f5⟩ := F
  have i104 : ∀ i k, zI R' 104 i k = zI R 104 i k := fun i k => f1 104 i k (by decide) (by simp)
  (try simp only [f2, f3, f4, f5, i104])
  exact h
theorem SR_bcap {C R R' : zH} (F : SR R R') (h : ∀ b, b < 8 → zI C 2 b 2 = zI R 105 0 b) : ∀ b, b < 8 → zI C 2 b 2 = zI R' 105 0 b := by
  obtain ⟨f1, f2, f3, f4, f5⟩ := F
  have i105 : ∀ i k, zI R' 105 i k = zI R 105 i k := fun i k => f1 105 i k (by decide) (by simp)
  (try simp only [f2, f3, f4, f5, i105])
  exact h
theorem SR_bow {C R R' : zH} (F : SR R R') (h : ∀ b, b < 8 → zI C 2 b 3 = zI R 106 0 b ∧ zib (zI R 106 0 b) 1000000001 = true) : ∀ b, b < 8 → zI C 2 b 3 = zI R' 106 0 b ∧ zib (zI R' 106 0 b) 1000000001 = true := by
  obtain ⟨f1, f2, f3, f4, f5⟩ := F
  have i106 : ∀ i k, zI R' 106 i k = zI R 106 i k := fun i k => f1 106 i k (by decide) (by simp)
  (try simp only [f2, f3, f4, f5, i106])
  exact h
theorem SR_bdid {C R R' : zH} (F : SR R R') (h : ∀ b, b < 8 → zI C 2 b 4 = zI R 107 0 b) : ∀ b, b < 8 → zI C 2 b 4 = zI R' 107 0 b := by
  obtain ⟨f1, f2, f3, f4, f5⟩ := F
  have i107 : ∀ i k, zI R' 107 i k = zI R 107 i k := fun i k => f1 107 i k (by decide) (by simp)
  (try simp only [f2, f3, f4, f5, i107])
  exact h
theorem SR_bnet {C R R' : zH} (F : SR R R') (h : ∀ b, b < 8 → zJ C 2 b 5 = zJ R 108 0 b) : ∀ b, b < 8 → zJ C 2 b 5 = zJ R' 108 0 b := by
  obtain ⟨f1, f2, f3, f4, f5⟩ := F
  (try simp only [f2, f3, f4, f5])
  exact h
theorem SR_day {C R R' : zH} (F : SR R R') (h : zI C 1 0 4 = zI R 40 0 46 ∧ zib (zI R 40 0 46) 1501 = true) : zI C 1 0 4 = zI R' 40 0 46 ∧ zib (zI R' 40 0 46) 1501 = true := by
  obtain ⟨f1, f2, f3, f4, f5⟩ := F
  have k46 : zI R' 40 0 46 = zI R 40 0 46 := f1 40 0 46 (by decide) (by decide)
  (try simp only [f2, f3, f4, f5, k46])
  exact h
theorem SR_ngt {C R R' : zH} (F : SR R R') (h : zI C 1 0 5 = zI R 40 0 53 ∧ ¬ zI R 40 0 53 < 0 ∧ zI R 40 0 53 ≤ zI R 40 0 46) : zI C 1 0 5 = zI R' 40 0 53 ∧ ¬ zI R' 40 0 53 < 0 ∧ zI R' 40 0 53 ≤ zI R' 40 0 46 := by
  obtain ⟨f1, f2, f3, f4, f5⟩ := F
  have k46 : zI R' 40 0 46 = zI R 40 0 46 := f1 40 0 46 (by decide) (by decide)
  have k53 : zI R' 40 0 53 = zI R 40 0 53 := f1 40 0 53 (by decide) (by decide)
  (try simp only [f2, f3, f4, f5, k46, k53])
  exact h
theorem SR_due {C R R' : zH} (F : SR R R') (h : zI C 1 0 6 = zI R 40 0 54 + 1 ∧ ¬ zI R 40 0 54 + 1 < 0 ∧ zI R 40 0 54 + 1 ≤ zI R 40 0 46) : zI C 1 0 6 = zI R' 40 0 54 + 1 ∧ ¬ zI R' 40 0 54 + 1 < 0 ∧ zI R' 40 0 54 + 1 ≤ zI R' 40 0 46 := by
  obtain ⟨f1, f2, f3, f4, f5⟩ := F
  have k46 : zI R' 40 0 46 = zI R 40 0 46 := f1 40 0 46 (by decide) (by decide)
  have k54 : zI R' 40 0 54 = zI R 40 0 54 := f1 40 0 54 (by decide) (by decide)
  (try simp only [f2, f3, f4, f5, k46, k54])
  exact h
theorem SR_hol {C R R' : zH} (F : SR R R') (h : zI C 1 0 2 = zI R 40 0 47 ∧ zib (zI R 40 0 47) 21 = true ∧ (∀ k, k < (zI R 40 0 47).toNatClampNeg → zib (zI R 101 0 k) 1501 = true) ∧ ∀ d, d < 1501 → (¬ zI C 21 0 d = 0 ↔ ∃ k, k < (zI R 40 0 47).toNatClampNeg ∧ zI R 101 0 k = nI d)) : zI C 1 0 2 = zI R' 40 0 47 ∧ zib (zI R' 40 0 47) 21 = true ∧ (∀ k, k < (zI R' 40 0 47).toNatClampNeg → zib (zI R' 101 0 k) 1501 = true) ∧ ∀ d, d < 1501 → (¬ zI C 21 0 d = 0 ↔ ∃ k, k < (zI R' 40 0 47).toNatClampNeg ∧ zI R' 101 0 k = nI d) := by
  obtain ⟨f1, f2, f3, f4, f5⟩ := F
  have i101 : ∀ i k, zI R' 101 i k = zI R 101 i k := fun i k => f1 101 i k (by decide) (by simp)
  have k47 : zI R' 40 0 47 = zI R 40 0 47 := f1 40 0 47 (by decide) (by decide)
  (try simp only [f2, f3, f4, f5, i101, k47])
  exact h
theorem SR_lat {C R R' : zH} (F : SR R R') (h : zI C 1 0 3 = zI R 40 0 48 ∧ zib (zI R 40 0 48) 61 = true ∧ (∀ k, k < (zI R 40 0 48).toNatClampNeg → zib (zI R 103 0 k) 1501 = true ∧ zib (zI R 102 0 k) 8 = true) ∧ ∀ d b, d < 1501 → b < 8 → ((zI C 22 0 d >>> (nI b &&& 31)) &&& 1 = 1 ↔ ∃ k, k < (zI R 40 0 48).toNatClampNeg ∧ zI R 102 0 k = nI b ∧ zI R 103 0 k = nI d)) : zI C 1 0 3 = zI R' 40 0 48 ∧ zib (zI R' 40 0 48) 61 = true ∧ (∀ k, k < (zI R' 40 0 48).toNatClampNeg → zib (zI R' 103 0 k) 1501 = true ∧ zib (zI R' 102 0 k) 8 = true) ∧ ∀ d b, d < 1501 → b < 8 → ((zI C 22 0 d >>> (nI b &&& 31)) &&& 1 = 1 ↔ ∃ k, k < (zI R' 40 0 48).toNatClampNeg ∧ zI R' 102 0 k = nI b ∧ zI R' 103 0 k = nI d) := by
  obtain ⟨f1, f2, f3, f4, f5⟩ := F
  have i102 : ∀ i k, zI R' 102 i k = zI R 102 i k := fun i k => f1 102 i k (by decide) (by simp)
  have i103 : ∀ i k, zI R' 103 i k = zI R 103 i k := fun i k => f1 103 i k (by decide) (by simp)
  have k48 : zI R' 40 0 48 = zI R 40 0 48 := f1 40 0 48 (by decide) (by decide)
  (try simp only [f2, f3, f4, f5, i102, i103, k48])
  exact h
theorem SR_ano {C R R' : zH} (F : SR R R') (h : ∀ i, i < zN C 3 → zI C 3 i 0 = nI i) : ∀ i, i < zN C 3 → zI C 3 i 0 = nI i := by
  obtain ⟨f1, f2, f3, f4, f5⟩ := F
  (try simp only [f2, f3, f4, f5])
  exact h
theorem SR_abk {C R R' : zH} (F : SR R R') (h : ∀ i, i < zN C 3 → zR C 3 i 1 = some (zI R 110 0 i).toNatClampNeg ∧ zib (zI R 110 0 i) 8 = true) : ∀ i, i < zN C 3 → zR C 3 i 1 = some (zI R' 110 0 i).toNatClampNeg ∧ zib (zI R' 110 0 i) 8 = true := by
  obtain ⟨f1, f2, f3, f4, f5⟩ := F
  have i110 : ∀ i k, zI R' 110 i k = zI R 110 i k := fun i k => f1 110 i k (by decide) (by simp)
  (try simp only [f2, f3, f4, f5, i110])
  exact h
theorem SR_anm {C R R' : zH} (F : SR R R') (h : ∀ i, i < zN C 3 → zI C 3 i 2 = zI R 111 0 i ∧ zI C 3 i 3 = zI R 112 0 i) : ∀ i, i < zN C 3 → zI C 3 i 2 = zI R' 111 0 i ∧ zI C 3 i 3 = zI R' 112 0 i := by
  obtain ⟨f1, f2, f3, f4, f5⟩ := F
  have i111 : ∀ i k, zI R' 111 i k = zI R 111 i k := fun i k => f1 111 i k (by decide) (by simp)
  have i112 : ∀ i k, zI R' 112 i k = zI R 112 i k := fun i k => f1 112 i k (by decide) (by simp)
  (try simp only [f2, f3, f4, f5, i111, i112])
  exact h
theorem SR_asum {C R R' : zH} (F : SR R R') (h : ∀ i, i < zN C 3 → zJ C 3 i 6 = zJ R 118 0 i) : ∀ i, i < zN C 3 → zJ C 3 i 6 = zJ R' 118 0 i := by
  obtain ⟨f1, f2, f3, f4, f5⟩ := F
  (try simp only [f2, f3, f4, f5])
  exact h
theorem SR_aov {C R R' : zH} (F : SR R R') (h : ∀ i, i < zN C 3 → zI C 3 i 7 = zI R 113 0 i ∧ zib (zI R 113 0 i) 100000 = true) : ∀ i, i < zN C 3 → zI C 3 i 7 = zI R' 113 0 i ∧ zib (zI R' 113 0 i) 100000 = true := by
  obtain ⟨f1, f2, f3, f4, f5⟩ := F
  have i113 : ∀ i k, zI R' 113 i k = zI R 113 i k := fun i k => f1 113 i k (by decide) (by simp)
  (try simp only [f2, f3, f4, f5, i113])
  exact h
theorem SR_ast {C R R' : zH} (F : SR R R') (h : ∀ i, i < zN C 3 → zI C 3 i 8 = zI R 114 0 i) : ∀ i, i < zN C 3 → zI C 3 i 8 = zI R' 114 0 i := by
  obtain ⟨f1, f2, f3, f4, f5⟩ := F
  have i114 : ∀ i k, zI R' 114 i k = zI R 114 i k := fun i k => f1 114 i k (by decide) (by simp)
  (try simp only [f2, f3, f4, f5, i114])
  exact h
theorem SR_amv {C R R' : zH} (F : SR R R') (h : ∀ i, i < zN C 3 → zI R 114 0 i = 2 → zR C 3 i 9 = some (zI R 115 0 i).toNatClampNeg ∧ zib (zI R 115 0 i) (zN C 3) = true ∧ i < (zI R 115 0 i).toNatClampNeg ∧ zI C 3 i 10 = zI R 116 0 i ∧ zib (zI R 116 0 i) 1501 = true) : ∀ i, i < zN C 3 → zI R' 114 0 i = 2 → zR C 3 i 9 = some (zI R' 115 0 i).toNatClampNeg ∧ zib (zI R' 115 0 i) (zN C 3) = true ∧ i < (zI R' 115 0 i).toNatClampNeg ∧ zI C 3 i 10 = zI R' 116 0 i ∧ zib (zI R' 116 0 i) 1501 = true := by
  obtain ⟨f1, f2, f3, f4, f5⟩ := F
  have i114 : ∀ i k, zI R' 114 i k = zI R 114 i k := fun i k => f1 114 i k (by decide) (by simp)
  have i115 : ∀ i k, zI R' 115 i k = zI R 115 i k := fun i k => f1 115 i k (by decide) (by simp)
  have i116 : ∀ i k, zI R' 116 i k = zI R 116 i k := fun i k => f1 116 i k (by decide) (by simp)
  (try simp only [f2, f3, f4, f5, i114, i115, i116])
  exact h
theorem SR_ano2 {C R R' : zH} (F : SR R R') (h : ∀ i, i < zN C 3 → ¬ zI R 114 0 i = 2 → zR C 3 i 9 = none ∧ zI R 115 0 i = -9 ∧ zI R 116 0 i = -9) : ∀ i, i < zN C 3 → ¬ zI R' 114 0 i = 2 → zR C 3 i 9 = none ∧ zI R' 115 0 i = -9 ∧ zI R' 116 0 i = -9 := by
  obtain ⟨f1, f2, f3, f4, f5⟩ := F
  have i114 : ∀ i k, zI R' 114 i k = zI R 114 i k := fun i k => f1 114 i k (by decide) (by simp)
  have i115 : ∀ i k, zI R' 115 i k = zI R 115 i k := fun i k => f1 115 i k (by decide) (by simp)
  have i116 : ∀ i k, zI R' 116 i k = zI R 116 i k := fun i k => f1 116 i k (by decide) (by simp)
  (try simp only [f2, f3, f4, f5, i114, i115, i116])
  exact h
theorem SR_agd {C R R' : zH} (F : SR R R') (h : ∀ i, i < zN C 3 → zI C 3 i 11 = zI R 117 0 i ∧ zib (zI R 117 0 i) 1000000001 = true) : ∀ i, i < zN C 3 → zI C 3 i 11 = zI R' 117 0 i ∧ zib (zI R' 117 0 i) 1000000001 = true := by
  obtain ⟨f1, f2, f3, f4, f5⟩ := F
  have i117 : ∀ i k, zI R' 117 i k = zI R 117 i k := fun i k => f1 117 i k (by decide) (by simp)
  (try simp only [f2, f3, f4, f5, i117])
  exact h
theorem SR_akp {C R R' : zH} (F : SR R R') (h : ∀ i, i < zN C 3 → zR C 3 i 5 = some i ∧ zib (zI C 3 i 4) 1501 = true ∧ zI C 3 i 4 ≤ zI R 40 0 46 ∧ zL C 23 i = 1500 - (zI C 3 i 4).toNatClampNeg) : ∀ i, i < zN C 3 → zR C 3 i 5 = some i ∧ zib (zI C 3 i 4) 1501 = true ∧ zI C 3 i 4 ≤ zI R' 40 0 46 ∧ zL C 23 i = 1500 - (zI C 3 i 4).toNatClampNeg := by
  obtain ⟨f1, f2, f3, f4, f5⟩ := F
  have k46 : zI R' 40 0 46 = zI R 40 0 46 := f1 40 0 46 (by decide) (by decide)
  (try simp only [f2, f3, f4, f5, k46])
  exact h
theorem SR_ahs {C R R' : zH} (F : SR R R') (h : ∀ i, i < zN C 3 → ∀ d, d < (zI R 40 0 46).toNatClampNeg → zJ R 119 0 (1501 * i + d) = if d < (zI C 3 i 4).toNatClampNeg then 0 else zJ C 23 i (d - (zI C 3 i 4).toNatClampNeg)) : ∀ i, i < zN C 3 → ∀ d, d < (zI R' 40 0 46).toNatClampNeg → zJ R' 119 0 (1501 * i + d) = if d < (zI C 3 i 4).toNatClampNeg then 0 else zJ C 23 i (d - (zI C 3 i 4).toNatClampNeg) := by
  obtain ⟨f1, f2, f3, f4, f5⟩ := F
  have k46 : zI R' 40 0 46 = zI R 40 0 46 := f1 40 0 46 (by decide) (by decide)
  (try simp only [f2, f3, f4, f5, k46])
  exact h
theorem SR_afr {C R R' : zH} (F : SR R R') (h : ∀ i, zN C 3 ≤ i → i < 40 → zI R 113 0 i = 0 ∧ zI R 114 0 i = 0 ∧ zI R 117 0 i = 0 ∧ zJ R 118 0 i = 0 ∧ ∀ d, d < 1501 → zJ R 119 0 (1501 * i + d) = 0) : ∀ i, zN C 3 ≤ i → i < 40 → zI R' 113 0 i = 0 ∧ zI R' 114 0 i = 0 ∧ zI R' 117 0 i = 0 ∧ zJ R' 118 0 i = 0 ∧ ∀ d, d < 1501 → zJ R' 119 0 (1501 * i + d) = 0 := by
  obtain ⟨f1, f2, f3, f4, f5⟩ := F
  have i113 : ∀ i k, zI R' 113 i k = zI R 113 i k := fun i k => f1 113 i k (by decide) (by simp)
  have i114 : ∀ i k, zI R' 114 i k = zI R 114 i k := fun i k => f1 114 i k (by decide) (by simp)
  have i117 : ∀ i k, zI R' 117 i k = zI R 117 i k := fun i k => f1 117 i k (by decide) (by simp)
  (try simp only [f2, f3, f4, f5, i113, i114, i117])
  exact h
theorem SR_lk {C R R' : zH} (F : SR R R') (h : ∀ l, l < zN C 4 → zI C 4 l 0 = zI R 120 0 l ∧ zib (zI R 120 0 l) 4 = true) : ∀ l, l < zN C 4 → zI C 4 l 0 = zI R' 120 0 l ∧ zib (zI R' 120 0 l) 4 = true := by
  obtain ⟨f1, f2, f3, f4, f5⟩ := F
  have i120 : ∀ i k, zI R' 120 i k = zI R 120 i k := fun i k => f1 120 i k (by decide) (by simp)
  (try simp only [f2, f3, f4, f5, i120])
  exact h
theorem SR_lft {C R R' : zH} (F : SR R R') (h : ∀ l, l < zN C 4 → zR C 4 l 1 = some (zI R 121 0 l).toNatClampNeg ∧ zib (zI R 121 0 l) (zN C 3) = true ∧ zR C 4 l 2 = some (zI R 122 0 l).toNatClampNeg ∧ zib (zI R 122 0 l) (zN C 3) = true) : ∀ l, l < zN C 4 → zR C 4 l 1 = some (zI R' 121 0 l).toNatClampNeg ∧ zib (zI R' 121 0 l) (zN C 3) = true ∧ zR C 4 l 2 = some (zI R' 122 0 l).toNatClampNeg ∧ zib (zI R' 122 0 l) (zN C 3) = true := by
  obtain ⟨f1, f2, f3, f4, f5⟩ := F
  have i121 : ∀ i k, zI R' 121 i k = zI R 121 i k := fun i k => f1 121 i k (by decide) (by simp)
  have i122 : ∀ i k, zI R' 122 i k = zI R 122 i k := fun i k => f1 122 i k (by decide) (by simp)
  (try simp only [f2, f3, f4, f5, i121, i122])
  exact h
theorem SR_lam {C R R' : zH} (F : SR R R') (h : ∀ l, l < zN C 4 → zI C 4 l 3 = zI R 123 0 l ∧ zib (zI R 123 0 l) 100000 = true) : ∀ l, l < zN C 4 → zI C 4 l 3 = zI R' 123 0 l ∧ zib (zI R' 123 0 l) 100000 = true := by
  obtain ⟨f1, f2, f3, f4, f5⟩ := F
  have i123 : ∀ i k, zI R' 123 i k = zI R 123 i k := fun i k => f1 123 i k (by decide) (by simp)
  (try simp only [f2, f3, f4, f5, i123])
  exact h
theorem SR_led {C R R' : zH} (F : SR R R') (h : ∀ l, l < zN C 4 → (zI R 126 0 l < 0 → zI C 4 l 6 = 0) ∧ (¬ zI R 126 0 l < 0 → zI C 4 l 6 = 1 ∧ zI C 4 l 7 = zI R 126 0 l ∧ zib (zI R 126 0 l) 1501 = true)) : ∀ l, l < zN C 4 → (zI R' 126 0 l < 0 → zI C 4 l 6 = 0) ∧ (¬ zI R' 126 0 l < 0 → zI C 4 l 6 = 1 ∧ zI C 4 l 7 = zI R' 126 0 l ∧ zib (zI R' 126 0 l) 1501 = true) := by
  obtain ⟨f1, f2, f3, f4, f5⟩ := F
  have i126 : ∀ i k, zI R' 126 i k = zI R 126 i k := fun i k => f1 126 i k (by decide) (by simp)
  (try simp only [f2, f3, f4, f5, i126])
  exact h
theorem SR_ldn {C R R' : zH} (F : SR R R') (h : ∀ l, l < zN C 4 → zI C 4 l 8 = zI R 127 0 l ∧ zI C 4 l 9 = zI R 129 0 l) : ∀ l, l < zN C 4 → zI C 4 l 8 = zI R' 127 0 l ∧ zI C 4 l 9 = zI R' 129 0 l := by
  obtain ⟨f1, f2, f3, f4, f5⟩ := F
  have i127 : ∀ i k, zI R' 127 i k = zI R 127 i k := fun i k => f1 127 i k (by decide) (by simp)
  have i129 : ∀ i k, zI R' 129 i k = zI R 129 i k := fun i k => f1 129 i k (by decide) (by simp)
  (try simp only [f2, f3, f4, f5, i127, i129])
  exact h
theorem SR_lbk {C R R' : zH} (F : SR R R') (h : ∀ l, l < zN C 4 → zR C 4 l 10 = some l ∧ zL C 24 l = 5 ∧ ∀ w, w < 4 → zI C 24 l (w + 1) = zI R 128 0 (4 * l + w)) : ∀ l, l < zN C 4 → zR C 4 l 10 = some l ∧ zL C 24 l = 5 ∧ ∀ w, w < 4 → zI C 24 l (w + 1) = zI R' 128 0 (4 * l + w) := by
  obtain ⟨f1, f2, f3, f4, f5⟩ := F
  have i128 : ∀ i k, zI R' 128 i k = zI R 128 i k := fun i k => f1 128 i k (by decide) (by simp)
  (try simp only [f2, f3, f4, f5, i128])
  exact h
theorem SR_ldu {C R R' : zH} (F : SR R R') (h : ∀ l, l < zN C 4 → LDu (zI R 40 0 54 + 1).toNatClampNeg (zI C 4 l 4) (zI C 4 l 5) (zI C 4 l 6) (zI C 4 l 7) (zI R 120 0 l) (zI R 124 0 l) (zI R 125 0 l)) : ∀ l, l < zN C 4 → LDu (zI R' 40 0 54 + 1).toNatClampNeg (zI C 4 l 4) (zI C 4 l 5) (zI C 4 l 6) (zI C 4 l 7) (zI R' 120 0 l) (zI R' 124 0 l) (zI R' 125 0 l) := by
  obtain ⟨f1, f2, f3, f4, f5⟩ := F
  have i120 : ∀ i k, zI R' 120 i k = zI R 120 i k := fun i k => f1 120 i k (by decide) (by simp)
  have i124 : ∀ i k, zI R' 124 i k = zI R 124 i k := fun i k => f1 124 i k (by decide) (by simp)
  have i125 : ∀ i k, zI R' 125 i k = zI R 125 i k := fun i k => f1 125 i k (by decide) (by simp)
  have k54 : zI R' 40 0 54 = zI R 40 0 54 := f1 40 0 54 (by decide) (by decide)
  (try simp only [f2, f3, f4, f5, i120, i124, i125, k54])
  exact h
theorem SR_lfr {C R R' : zH} (F : SR R R') (h : ∀ l, zN C 4 ≤ l → l < 60 → zI R 127 0 l = 0 ∧ ∀ w, w < 4 → zI R 128 0 (4 * l + w) = 0) : ∀ l, zN C 4 ≤ l → l < 60 → zI R' 127 0 l = 0 ∧ ∀ w, w < 4 → zI R' 128 0 (4 * l + w) = 0 := by
  obtain ⟨f1, f2, f3, f4, f5⟩ := F
  have i127 : ∀ i k, zI R' 127 i k = zI R 127 i k := fun i k => f1 127 i k (by decide) (by simp)
  have i128 : ∀ i k, zI R' 128 i k = zI R 128 i k := fun i k => f1 128 i k (by decide) (by simp)
  (try simp only [f2, f3, f4, f5, i127, i128])
  exact h
theorem SR_mac {C R R' : zH} (F : SR R R') (h : ∀ m, m < zN C 5 → zR C 5 m 0 = some (zI R 130 0 m).toNatClampNeg ∧ zib (zI R 130 0 m) (zN C 3) = true ∧ zR C 5 m 1 = some (zI R 131 0 m).toNatClampNeg ∧ zib (zI R 131 0 m) (zN C 3) = true ∧ (zI R 130 0 m).toNatClampNeg < (zI R 131 0 m).toNatClampNeg) : ∀ m, m < zN C 5 → zR C 5 m 0 = some (zI R' 130 0 m).toNatClampNeg ∧ zib (zI R' 130 0 m) (zN C 3) = true ∧ zR C 5 m 1 = some (zI R' 131 0 m).toNatClampNeg ∧ zib (zI R' 131 0 m) (zN C 3) = true ∧ (zI R' 130 0 m).toNatClampNeg < (zI R' 131 0 m).toNatClampNeg := by
  obtain ⟨f1, f2, f3, f4, f5⟩ := F
  have i130 : ∀ i k, zI R' 130 i k = zI R 130 i k := fun i k => f1 130 i k (by decide) (by simp)
  have i131 : ∀ i k, zI R' 131 i k = zI R 131 i k := fun i k => f1 131 i k (by decide) (by simp)
  (try simp only [f2, f3, f4, f5, i130, i131])
  exact h
theorem SR_mpt {C R R' : zH} (F : SR R R') (h : ∀ m, m < zN C 5 → zI C 5 m 2 = zI R 140 0 m) : ∀ m, m < zN C 5 → zI C 5 m 2 = zI R' 140 0 m := by
  obtain ⟨f1, f2, f3, f4, f5⟩ := F
  have i140 : ∀ i k, zI R' 140 i k = zI R 140 i k := fun i k => f1 140 i k (by decide) (by simp)
  (try simp only [f2, f3, f4, f5, i140])
  exact h
theorem SR_mas {C R R' : zH} (F : SR R R') (h : ∀ m, m < zN C 5 → zI C 5 m 3 = zI R 136 0 m ∧ zib (zI R 136 0 m) 1501 = true) : ∀ m, m < zN C 5 → zI C 5 m 3 = zI R' 136 0 m ∧ zib (zI R' 136 0 m) 1501 = true := by
  obtain ⟨f1, f2, f3, f4, f5⟩ := F
  have i136 : ∀ i k, zI R' 136 i k = zI R 136 i k := fun i k => f1 136 i k (by decide) (by simp)
  (try simp only [f2, f3, f4, f5, i136])
  exact h
theorem SR_mst {C R R' : zH} (F : SR R R') (h : ∀ m, m < zN C 5 → zI C 5 m 4 = zI R 132 0 m ∧ zI C 5 m 5 = zI R 137 0 m) : ∀ m, m < zN C 5 → zI C 5 m 4 = zI R' 132 0 m ∧ zI C 5 m 5 = zI R' 137 0 m := by
  obtain ⟨f1, f2, f3, f4, f5⟩ := F
  have i132 : ∀ i k, zI R' 132 i k = zI R 132 i k := fun i k => f1 132 i k (by decide) (by simp)
  have i137 : ∀ i k, zI R' 137 i k = zI R 137 i k := fun i k => f1 137 i k (by decide) (by simp)
  (try simp only [f2, f3, f4, f5, i132, i137])
  exact h
theorem SR_mgo {C R R' : zH} (F : SR R R') (h : ∀ m, m < zN C 5 → zI C 5 m 6 = zI R 138 0 m ∧ (zI R 138 0 m = 0 ∨ zI R 138 0 m = 1)) : ∀ m, m < zN C 5 → zI C 5 m 6 = zI R' 138 0 m ∧ (zI R' 138 0 m = 0 ∨ zI R' 138 0 m = 1) := by
  obtain ⟨f1, f2, f3, f4, f5⟩ := F
  have i138 : ∀ i k, zI R' 138 i k = zI R 138 i k := fun i k => f1 138 i k (by decide) (by simp)
  (try simp only [f2, f3, f4, f5, i138])
  exact h
theorem SR_mag {C R R' : zH} (F : SR R R') (h : ∀ m, m < zN C 5 → zI C 5 m 7 = zI R 139 0 m) : ∀ m, m < zN C 5 → zI C 5 m 7 = zI R' 139 0 m := by
  obtain ⟨f1, f2, f3, f4, f5⟩ := F
  have i139 : ∀ i k, zI R' 139 i k = zI R 139 i k := fun i k => f1 139 i k (by decide) (by simp)
  (try simp only [f2, f3, f4, f5, i139])
  exact h
theorem SR_mwy {C R R' : zH} (F : SR R R') (h : ∀ m, m < zN C 5 → zI C 5 m 8 = zI R 133 0 m) : ∀ m, m < zN C 5 → zI C 5 m 8 = zI R' 133 0 m := by
  obtain ⟨f1, f2, f3, f4, f5⟩ := F
  have i133 : ∀ i k, zI R' 133 i k = zI R 133 i k := fun i k => f1 133 i k (by decide) (by simp)
  (try simp only [f2, f3, f4, f5, i133])
  exact h
theorem SR_mfa {C R R' : zH} (F : SR R R') (h : ∀ m, m < zN C 5 → zI C 5 m 9 = zI R 134 0 m ∧ ¬ zI R 134 0 m < 0 ∧ zI R 134 0 m ≤ zI R 40 0 53) : ∀ m, m < zN C 5 → zI C 5 m 9 = zI R' 134 0 m ∧ ¬ zI R' 134 0 m < 0 ∧ zI R' 134 0 m ≤ zI R' 40 0 53 := by
  obtain ⟨f1, f2, f3, f4, f5⟩ := F
  have i134 : ∀ i k, zI R' 134 i k = zI R 134 i k := fun i k => f1 134 i k (by decide) (by simp)
  have k53 : zI R' 40 0 53 = zI R 40 0 53 := f1 40 0 53 (by decide) (by decide)
  (try simp only [f2, f3, f4, f5, i134, k53])
  exact h
theorem SR_mfb {C R R' : zH} (F : SR R R') (h : ∀ m, m < zN C 5 → (zI R 134 0 m = 0 → zR C 5 m 10 = none ∧ zI R 135 0 m = -9) ∧ (¬ zI R 134 0 m = 0 → zR C 5 m 10 = some (zI R 135 0 m).toNatClampNeg ∧ zib (zI R 135 0 m) 8 = true)) : ∀ m, m < zN C 5 → (zI R' 134 0 m = 0 → zR C 5 m 10 = none ∧ zI R' 135 0 m = -9) ∧ (¬ zI R' 134 0 m = 0 → zR C 5 m 10 = some (zI R' 135 0 m).toNatClampNeg ∧ zib (zI R' 135 0 m) 8 = true) := by
  obtain ⟨f1, f2, f3, f4, f5⟩ := F
  have i134 : ∀ i k, zI R' 134 i k = zI R 134 i k := fun i k => f1 134 i k (by decide) (by simp)
  have i135 : ∀ i k, zI R' 135 i k = zI R 135 i k := fun i k => f1 135 i k (by decide) (by simp)
  (try simp only [f2, f3, f4, f5, i134, i135])
  exact h
theorem SR_mop {C R R' : zH} (F : SR R R') (h : ∀ m, m < zN C 5 → ¬ zI R 138 0 m = 0 → zI R 114 0 (zI R 130 0 m).toNatClampNeg = 0 ∧ zI R 114 0 (zI R 131 0 m).toNatClampNeg = 0) : ∀ m, m < zN C 5 → ¬ zI R' 138 0 m = 0 → zI R' 114 0 (zI R' 130 0 m).toNatClampNeg = 0 ∧ zI R' 114 0 (zI R' 131 0 m).toNatClampNeg = 0 := by
  obtain ⟨f1, f2, f3, f4, f5⟩ := F
  have i114 : ∀ i k, zI R' 114 i k = zI R 114 i k := fun i k => f1 114 i k (by decide) (by simp)
  have i130 : ∀ i k, zI R' 130 i k = zI R 130 i k := fun i k => f1 130 i k (by decide) (by simp)
  have i131 : ∀ i k, zI R' 131 i k = zI R 131 i k := fun i k => f1 131 i k (by decide) (by simp)
  have i138 : ∀ i k, zI R' 138 i k = zI R 138 i k := fun i k => f1 138 i k (by decide) (by simp)
  (try simp only [f2, f3, f4, f5, i114, i130, i131, i138])
  exact h
theorem SR_mdj {C R R' : zH} (F : SR R R') (h : ∀ m m2, m < zN C 5 → m2 < zN C 5 → ¬ m = m2 → ¬ zI R 138 0 m = 0 → ¬ zI R 138 0 m2 = 0 → ¬ zI R 130 0 m = zI R 130 0 m2 ∧ ¬ zI R 130 0 m = zI R 131 0 m2 ∧ ¬ zI R 131 0 m = zI R 131 0 m2) : ∀ m m2, m < zN C 5 → m2 < zN C 5 → ¬ m = m2 → ¬ zI R' 138 0 m = 0 → ¬ zI R' 138 0 m2 = 0 → ¬ zI R' 130 0 m = zI R' 130 0 m2 ∧ ¬ zI R' 130 0 m = zI R' 131 0 m2 ∧ ¬ zI R' 131 0 m = zI R' 131 0 m2 := by
  obtain ⟨f1, f2, f3, f4, f5⟩ := F
  have i130 : ∀ i k, zI R' 130 i k = zI R 130 i k := fun i k => f1 130 i k (by decide) (by simp)
  have i131 : ∀ i k, zI R' 131 i k = zI R 131 i k := fun i k => f1 131 i k (by decide) (by simp)
  have i138 : ∀ i k, zI R' 138 i k = zI R 138 i k := fun i k => f1 138 i k (by decide) (by simp)
  (try simp only [f2, f3, f4, f5, i130, i131, i138])
  exact h
theorem SR_mfr {C R R' : zH} (F : SR R R') (h : ∀ m, zN C 5 ≤ m → m < 30 → zI R 132 0 m = 0 ∧ zI R 133 0 m = 0 ∧ zI R 134 0 m = 0 ∧ zI R 139 0 m = 0) : ∀ m, zN C 5 ≤ m → m < 30 → zI R' 132 0 m = 0 ∧ zI R' 133 0 m = 0 ∧ zI R' 134 0 m = 0 ∧ zI R' 139 0 m = 0 := by
  obtain ⟨f1, f2, f3, f4, f5⟩ := F
  have i132 : ∀ i k, zI R' 132 i k = zI R 132 i k := fun i k => f1 132 i k (by decide) (by simp)
  have i133 : ∀ i k, zI R' 133 i k = zI R 133 i k := fun i k => f1 133 i k (by decide) (by simp)
  have i134 : ∀ i k, zI R' 134 i k = zI R 134 i k := fun i k => f1 134 i k (by decide) (by simp)
  have i139 : ∀ i k, zI R' 139 i k = zI R 139 i k := fun i k => f1 139 i k (by decide) (by simp)
  (try simp only [f2, f3, f4, f5, i132, i133, i134, i139])
  exact h
theorem SR_rpf {C R R' : zH} (F : SR R R') (h : ∀ r, r < zN C 6 → zI C 6 r 0 = zI R 142 0 r ∧ zI C 6 r 1 = zI R 143 0 r ∧ zR C 6 r 2 = some r) : ∀ r, r < zN C 6 → zI C 6 r 0 = zI R' 142 0 r ∧ zI C 6 r 1 = zI R' 143 0 r ∧ zR C 6 r 2 = some r := by
  obtain ⟨f1, f2, f3, f4, f5⟩ := F
  have i142 : ∀ i k, zI R' 142 i k = zI R 142 i k := fun i k => f1 142 i k (by decide) (by simp)
  have i143 : ∀ i k, zI R' 143 i k = zI R 143 i k := fun i k => f1 143 i k (by decide) (by simp)
  (try simp only [f2, f3, f4, f5, i142, i143])
  exact h
theorem SR_rtx {C R R' : zH} (F : SR R R') (h : ∀ r, r < zN C 6 → RTx (zL C 25 r) (fun k => zI C 25 r k) (zI R 141 0 r) (fun k => zI R 144 0 (60 * r + k))) : ∀ r, r < zN C 6 → RTx (zL C 25 r) (fun k => zI C 25 r k) (zI R' 141 0 r) (fun k => zI R' 144 0 (60 * r + k)) := by
  obtain ⟨f1, f2, f3, f4, f5⟩ := F
  have i141 : ∀ i k, zI R' 141 i k = zI R 141 i k := fun i k => f1 141 i k (by decide) (by simp)
  have i144 : ∀ i k, zI R' 144 i k = zI R 144 i k := fun i k => f1 144 i k (by decide) (by simp)
  (try simp only [f2, f3, f4, f5, i141, i144])
  exact h
theorem SR_tap {C R R' : zH} (F : SR R R') (h : zI C 8 0 1 = zI R 40 0 59 ∧ zib (zI R 40 0 59) 61 = true ∧ ∀ k, k < (zI R 40 0 59).toNatClampNeg → zI C 28 0 k = zI R 157 0 k ∧ zib (zI R 157 0 k) 256 = true) : zI C 8 0 1 = zI R' 40 0 59 ∧ zib (zI R' 40 0 59) 61 = true ∧ ∀ k, k < (zI R' 40 0 59).toNatClampNeg → zI C 28 0 k = zI R' 157 0 k ∧ zib (zI R' 157 0 k) 256 = true := by
  obtain ⟨f1, f2, f3, f4, f5⟩ := F
  have i157 : ∀ i k, zI R' 157 i k = zI R 157 i k := fun i k => f1 157 i k (by decide) (by simp)
  have k59 : zI R' 40 0 59 = zI R 40 0 59 := f1 40 0 59 (by decide) (by decide)
  (try simp only [f2, f3, f4, f5, i157, k59])
  exact h
theorem SR_row {C R R' : zH} (F : SR R R') (h : zI C 0 0 9 = zI R 40 0 55 ∧ zib (zI R 40 0 55) 9 = true ∧ ∀ k, k < (zI R 40 0 55).toNatClampNeg → zJ C 19 0 k = zJ R 109 0 k) : zI C 0 0 9 = zI R' 40 0 55 ∧ zib (zI R' 40 0 55) 9 = true ∧ ∀ k, k < (zI R' 40 0 55).toNatClampNeg → zJ C 19 0 k = zJ R' 109 0 k := by
  obtain ⟨f1, f2, f3, f4, f5⟩ := F
  have k55 : zI R' 40 0 55 = zI R 40 0 55 := f1 40 0 55 (by decide) (by decide)
  (try simp only [f2, f3, f4, f5, k55])
  exact h
theorem SR_sur {C R R' : zH} (F : SR R R') (h : zI C 9 0 1 = zI R 40 0 56 ∧ zib (zI R 40 0 56) 10 = true ∧ ∀ k, k < (zI R 40 0 56).toNatClampNeg → zI C 30 0 k = zI R 145 0 k ∧ zib (zI R 145 0 k) 128 = true) : zI C 9 0 1 = zI R' 40 0 56 ∧ zib (zI R' 40 0 56) 10 = true ∧ ∀ k, k < (zI R' 40 0 56).toNatClampNeg → zI C 30 0 k = zI R' 145 0 k ∧ zib (zI R' 145 0 k) 128 = true := by
  obtain ⟨f1, f2, f3, f4, f5⟩ := F
  have i145 : ∀ i k, zI R' 145 i k = zI R 145 i k := fun i k => f1 145 i k (by decide) (by simp)
  have k56 : zI R' 40 0 56 = zI R 40 0 56 := f1 40 0 56 (by decide) (by decide)
  (try simp only [f2, f3, f4, f5, i145, k56])
  exact h
theorem SR_ref {C R R' : zH} (F : SR R R') (h : ∀ k, k < 7 → zI C 20 0 k = zI R 100 0 k) : ∀ k, k < 7 → zI C 20 0 k = zI R' 100 0 k := by
  obtain ⟨f1, f2, f3, f4, f5⟩ := F
  have i100 : ∀ i k, zI R' 100 i k = zI R 100 i k := fun i k => f1 100 i k (by decide) (by simp)
  (try simp only [f2, f3, f4, f5, i100])
  exact h
theorem Jv_SR {C R R' : zH} (F : SR R R') : ∀ k, Jv C R k → Jv C R' k := by
  intro k h
  match k, h with
  | 0, h => exact SR_kc F h
  | 1, h => exact F.kr h
  | 2, h => exact SR_cnt F h
  | 3, h => exact SR_mx F h
  | 4, h => exact SR_la F h
  | 5, h => exact SR_ll F h
  | 6, h => exact SR_lm F h
  | 7, h => exact SR_lr F h
  | 8, h => exact SR_al F h
  | 9, h => exact SR_bno F h
  | 10, h => exact SR_bfee F h
  | 11, h => exact SR_bcap F h
  | 12, h => exact SR_bow F h
  | 13, h => exact SR_bdid F h
  | 14, h => exact SR_bnet F h
  | 15, h => exact SR_day F h
  | 16, h => exact SR_ngt F h
  | 17, h => exact SR_due F h
  | 18, h => exact SR_hol F h
  | 19, h => exact SR_lat F h
  | 20, h => exact SR_ano F h
  | 21, h => exact SR_abk F h
  | 22, h => exact SR_anm F h
  | 23, h => exact SR_asum F h
  | 24, h => exact SR_aov F h
  | 25, h => exact SR_ast F h
  | 26, h => exact SR_amv F h
  | 27, h => exact SR_ano2 F h
  | 28, h => exact SR_agd F h
  | 29, h => exact SR_akp F h
  | 30, h => exact SR_ahs F h
  | 31, h => exact SR_afr F h
  | 32, h => exact SR_lk F h
  | 33, h => exact SR_lft F h
  | 34, h => exact SR_lam F h
  | 35, h => exact SR_led F h
  | 36, h => exact SR_ldn F h
  | 37, h => exact SR_lbk F h
  | 38, h => exact SR_ldu F h
  | 39, h => exact SR_lfr F h
  | 40, h => exact SR_mac F h
  | 41, h => exact SR_mpt F h
  | 42, h => exact SR_mas F h
  | 43, h => exact SR_mst F h
  | 44, h => exact SR_mgo F h
  | 45, h => exact SR_mag F h
  | 46, h => exact SR_mwy F h
  | 47, h => exact SR_mfa F h
  | 48, h => exact SR_mfb F h
  | 49, h => exact SR_mop F h
  | 50, h => exact SR_mdj F h
  | 51, h => exact SR_mfr F h
  | 52, h => exact SR_rpf F h
  | 53, h => exact SR_rtx F h
  | 54, h => exact SR_tap F h
  | 55, h => exact SR_row F h
  | 56, h => exact SR_sur F h
  | 57, h => exact SR_ref F h
  | _ + 58, _ => exact trivial
theorem Inv_SC {C C' R : zH} (I : Inv C R) (F : SC C C') : Inv C' R := fun k => Jv_SC F k (I k)
theorem Inv_SR {C R R' : zH} (I : Inv C R) (F : SR R R') : Inv C R' := fun k => Jv_SR F k (I k)
theorem Inq_SC {C C' R : zH} (I : Inq C R) (F : SC C C') : Inq C' R := fun k a b c => Jv_SC F k (I k a b c)
theorem Inq_SR {C R R' : zH} (I : Inq C R) (F : SR R R') : Inq C R' := fun k a b c => Jv_SR F k (I k a b c)
theorem IN_SC {q : Nat → Nat} {mi : Nat} {C C' R : zH} (I : IN q mi C R) (F : SC C C') : IN q mi C' R := by
  have i1 : ∀ i k, zI C' 1 i k = zI C 1 i k := fun i k => F.1 1 i k (by decide) (by simp)
  have i4 : ∀ i k, zI C' 4 i k = zI C 4 i k := fun i k => F.1 4 i k (by decide) (by simp)
  have i5 : ∀ i k, zI C' 5 i k = zI C 5 i k := fun i k => F.1 5 i k (by decide) (by simp)
  intro k
  have h := I k
  unfold Jn at h ⊢
  by_cases a : k = 16
  · rw [if_pos a] at h ⊢
    simp only [i1]
    exact h
  rw [if_neg a] at h ⊢
  by_cases b : k = 38
  · rw [if_pos b] at h ⊢
    simp only [i4, F.2.2.2.1]
    exact h
  rw [if_neg b] at h ⊢
  by_cases c : k = 47
  · rw [if_pos c] at h ⊢
    simp only [i5, F.2.2.2.1]
    exact h
  rw [if_neg c] at h ⊢
  exact Jv_SC F k h
theorem IN_SR {q : Nat → Nat} {mi : Nat} {C R R' : zH} (I : IN q mi C R) (F : SR R R') : IN q mi C R' := by
  have i120 : ∀ i k, zI R' 120 i k = zI R 120 i k := fun i k => F.1 120 i k (by decide) (by simp)
  have i124 : ∀ i k, zI R' 124 i k = zI R 124 i k := fun i k => F.1 124 i k (by decide) (by simp)
  have i125 : ∀ i k, zI R' 125 i k = zI R 125 i k := fun i k => F.1 125 i k (by decide) (by simp)
  have i134 : ∀ i k, zI R' 134 i k = zI R 134 i k := fun i k => F.1 134 i k (by decide) (by simp)
  have k53 : zI R' 40 0 53 = zI R 40 0 53 := F.1 40 0 53 (by decide) (by decide)
  have k46 : zI R' 40 0 46 = zI R 40 0 46 := F.1 40 0 46 (by decide) (by decide)
  intro k
  have h := I k
  unfold Jn at h ⊢
  by_cases a : k = 16
  · rw [if_pos a] at h ⊢
    simp only [k53, k46]
    exact h
  rw [if_neg a] at h ⊢
  by_cases b : k = 38
  · rw [if_pos b] at h ⊢
    simp only [i120, i124, i125]
    exact h
  rw [if_neg b] at h ⊢
  by_cases c : k = 47
  · rw [if_pos c] at h ⊢
    simp only [i134, k53]
    exact h
  rw [if_neg c] at h ⊢
  exact Jv_SR F k h
