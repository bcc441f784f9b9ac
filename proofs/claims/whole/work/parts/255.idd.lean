/-! ===== the end of a day under way ===== -/
def Jd (C R : zH) (k : Nat) : Prop := if k = 16 then (zI C 1 0 5 = zI R 40 0 53 ∧ ¬ zI R 40 0 53 < 0 ∧ zI R 40 0 53 ≤ zI R 40 0 46 + 1) else if k = 17 then (zI C 1 0 6 = zI R 40 0 54 + 1 ∧ ¬ zI R 40 0 54 + 1 < 0 ∧ zI R 40 0 54 + 1 ≤ zI R 40 0 46 + 1) else Jv C R k
def ID (C R : zH) : Prop := ∀ k, Jd C R k
section ZDD
variable {C R : zH}
theorem ID.v (I : ID C R) (k : Nat) (a : ¬ k = 16) (b : ¬ k = 17) : Jv C R k := by
  have := I k
  unfold Jd at this
  rwa [if_neg a, if_neg b] at this
theorem D_kc (I : ID C R) : KC C := I.v 0 (by decide) (by decide)
theorem D_kr (I : ID C R) : KR R := I.v 1 (by decide) (by decide)
theorem D_cnt (I : ID C R) : zI R 40 0 49 = nI (zN C 3) ∧ zI R 40 0 50 = nI (zN C 4) ∧ zI R 40 0 51 = nI (zN C 5) ∧ zI R 40 0 52 = nI (zN C 6) := I.v 2 (by decide) (by decide)
theorem D_mx (I : ID C R) : zN C 3 ≤ 40 ∧ zN C 4 ≤ 60 ∧ zN C 5 ≤ 30 ∧ zN C 6 ≤ 30 := I.v 3 (by decide) (by decide)
theorem D_la (I : ID C R) : LO C 10 (zN C 3) := I.v 4 (by decide) (by decide)
theorem D_ll (I : ID C R) : LO C 11 (zN C 4) := I.v 5 (by decide) (by decide)
theorem D_lm (I : ID C R) : LO C 12 (zN C 5) := I.v 6 (by decide) (by decide)
theorem D_lr (I : ID C R) : LO C 13 (zN C 6) := I.v 7 (by decide) (by decide)
theorem D_al (I : ID C R) : zN C 23 = zN C 3 ∧ zN C 24 = zN C 4 ∧ zN C 25 = zN C 6 ∧ 0 < zN C 0 ∧ 0 < zN R 40 := I.v 8 (by decide) (by decide)
theorem D_bno (I : ID C R) : ∀ b, b < 8 → zR C 18 0 b = some b ∧ zI C 2 b 0 = nI b := I.v 9 (by decide) (by decide)
theorem D_bfee (I : ID C R) : ∀ b, b < 8 → zI C 2 b 1 = zI R 104 0 b ∧ zib (zI R 104 0 b) 1000 = true := I.v 10 (by decide) (by decide)
theorem D_bcap (I : ID C R) : ∀ b, b < 8 → zI C 2 b 2 = zI R 105 0 b := I.v 11 (by decide) (by decide)
theorem D_bow (I : ID C R) : ∀ b, b < 8 → zI C 2 b 3 = zI R 106 0 b ∧ zib (zI R 106 0 b) 1000000001 = true := I.v 12 (by decide) (by decide)
theorem D_bdid (I : ID C R) : ∀ b, b < 8 → zI C 2 b 4 = zI R 107 0 b := I.v 13 (by decide) (by decide)
theorem D_bnet (I : ID C R) : ∀ b, b < 8 → zJ C 2 b 5 = zJ R 108 0 b := I.v 14 (by decide) (by decide)
theorem D_day (I : ID C R) : zI C 1 0 4 = zI R 40 0 46 ∧ zib (zI R 40 0 46) 1501 = true := I.v 15 (by decide) (by decide)
theorem D_ngt (I : ID C R) : zI C 1 0 5 = zI R 40 0 53 ∧ ¬ zI R 40 0 53 < 0 ∧ zI R 40 0 53 ≤ zI R 40 0 46 + 1 := I 16
theorem D_due (I : ID C R) : zI C 1 0 6 = zI R 40 0 54 + 1 ∧ ¬ zI R 40 0 54 + 1 < 0 ∧ zI R 40 0 54 + 1 ≤ zI R 40 0 46 + 1 := I 17
theorem D_hol (I : ID C R) : zI C 1 0 2 = zI R 40 0 47 ∧ zib (zI R 40 0 47) 21 = true ∧ (∀ k, k < (zI R 40 0 47).toNatClampNeg → zib (zI R 101 0 k) 1501 = true) ∧ ∀ d, d < 1501 → (¬ zI C 21 0 d = 0 ↔ ∃ k, k < (zI R 40 0 47).toNatClampNeg ∧ zI R 101 0 k = nI d) := I.v 18 (by decide) (by decide)
theorem D_lat (I : ID C R) : zI C 1 0 3 = zI R 40 0 48 ∧ zib (zI R 40 0 48) 61 = true ∧ (∀ k, k < (zI R 40 0 48).toNatClampNeg → zib (zI R 103 0 k) 1501 = true ∧ zib (zI R 102 0 k) 8 = true) ∧ ∀ d b, d < 1501 → b < 8 → ((zI C 22 0 d >>> (nI b &&& 31)) &&& 1 = 1 ↔ ∃ k, k < (zI R 40 0 48).toNatClampNeg ∧ zI R 102 0 k = nI b ∧ zI R 103 0 k = nI d) := I.v 19 (by decide) (by decide)
theorem D_ano (I : ID C R) : ∀ i, i < zN C 3 → zI C 3 i 0 = nI i := I.v 20 (by decide) (by decide)
theorem D_abk (I : ID C R) : ∀ i, i < zN C 3 → zR C 3 i 1 = some (zI R 110 0 i).toNatClampNeg ∧ zib (zI R 110 0 i) 8 = true := I.v 21 (by decide) (by decide)
theorem D_anm (I : ID C R) : ∀ i, i < zN C 3 → zI C 3 i 2 = zI R 111 0 i ∧ zI C 3 i 3 = zI R 112 0 i := I.v 22 (by decide) (by decide)
theorem D_asum (I : ID C R) : ∀ i, i < zN C 3 → zJ C 3 i 6 = zJ R 118 0 i := I.v 23 (by decide) (by decide)
theorem D_aov (I : ID C R) : ∀ i, i < zN C 3 → zI C 3 i 7 = zI R 113 0 i ∧ zib (zI R 113 0 i) 100000 = true := I.v 24 (by decide) (by decide)
theorem D_ast (I : ID C R) : ∀ i, i < zN C 3 → zI C 3 i 8 = zI R 114 0 i := I.v 25 (by decide) (by decide)
theorem D_amv (I : ID C R) : ∀ i, i < zN C 3 → zI R 114 0 i = 2 → zR C 3 i 9 = some (zI R 115 0 i).toNatClampNeg ∧ zib (zI R 115 0 i) (zN C 3) = true ∧ i < (zI R 115 0 i).toNatClampNeg ∧ zI C 3 i 10 = zI R 116 0 i ∧ zib (zI R 116 0 i) 1501 = true := I.v 26 (by decide) (by decide)
theorem D_ano2 (I : ID C R) : ∀ i, i < zN C 3 → ¬ zI R 114 0 i = 2 → zR C 3 i 9 = none ∧ zI R 115 0 i = -9 ∧ zI R 116 0 i = -9 := I.v 27 (by decide) (by decide)
theorem D_agd (I : ID C R) : ∀ i, i < zN C 3 → zI C 3 i 11 = zI R 117 0 i ∧ zib (zI R 117 0 i) 1000000001 = true := I.v 28 (by decide) (by decide)
theorem D_akp (I : ID C R) : ∀ i, i < zN C 3 → zR C 3 i 5 = some i ∧ zib (zI C 3 i 4) 1501 = true ∧ zI C 3 i 4 ≤ zI R 40 0 46 ∧ zL C 23 i = 1500 - (zI C 3 i 4).toNatClampNeg := I.v 29 (by decide) (by decide)
theorem D_ahs (I : ID C R) : ∀ i, i < zN C 3 → ∀ d, d < (zI R 40 0 46).toNatClampNeg → zJ R 119 0 (1501 * i + d) = if d < (zI C 3 i 4).toNatClampNeg then 0 else zJ C 23 i (d - (zI C 3 i 4).toNatClampNeg) := I.v 30 (by decide) (by decide)
theorem D_afr (I : ID C R) : ∀ i, zN C 3 ≤ i → i < 40 → zI R 113 0 i = 0 ∧ zI R 114 0 i = 0 ∧ zI R 117 0 i = 0 ∧ zJ R 118 0 i = 0 ∧ ∀ d, d < 1501 → zJ R 119 0 (1501 * i + d) = 0 := I.v 31 (by decide) (by decide)
theorem D_lk (I : ID C R) : ∀ l, l < zN C 4 → zI C 4 l 0 = zI R 120 0 l ∧ zib (zI R 120 0 l) 4 = true := I.v 32 (by decide) (by decide)
theorem D_lft (I : ID C R) : ∀ l, l < zN C 4 → zR C 4 l 1 = some (zI R 121 0 l).toNatClampNeg ∧ zib (zI R 121 0 l) (zN C 3) = true ∧ zR C 4 l 2 = some (zI R 122 0 l).toNatClampNeg ∧ zib (zI R 122 0 l) (zN C 3) = true := I.v 33 (by decide) (by decide)
theorem D_lam (I : ID C R) : ∀ l, l < zN C 4 → zI C 4 l 3 = zI R 123 0 l ∧ zib (zI R 123 0 l) 100000 = true := I.v 34 (by decide) (by decide)
theorem D_led (I : ID C R) : ∀ l, l < zN C 4 → (zI R 126 0 l < 0 → zI C 4 l 6 = 0) ∧ (¬ zI R 126 0 l < 0 → zI C 4 l 6 = 1 ∧ zI C 4 l 7 = zI R 126 0 l ∧ zib (zI R 126 0 l) 1501 = true) := I.v 35 (by decide) (by decide)
theorem D_ldn (I : ID C R) : ∀ l, l < zN C 4 → zI C 4 l 8 = zI R 127 0 l ∧ zI C 4 l 9 = zI R 129 0 l := I.v 36 (by decide) (by decide)
theorem D_lbk (I : ID C R) : ∀ l, l < zN C 4 → zR C 4 l 10 = some l ∧ zL C 24 l = 5 ∧ ∀ w, w < 4 → zI C 24 l (w + 1) = zI R 128 0 (4 * l + w) := I.v 37 (by decide) (by decide)
theorem D_ldu (I : ID C R) : ∀ l, l < zN C 4 → LDu (zI R 40 0 54 + 1).toNatClampNeg (zI C 4 l 4) (zI C 4 l 5) (zI C 4 l 6) (zI C 4 l 7) (zI R 120 0 l) (zI R 124 0 l) (zI R 125 0 l) := I.v 38 (by decide) (by decide)
theorem D_lfr (I : ID C R) : ∀ l, zN C 4 ≤ l → l < 60 → zI R 127 0 l = 0 ∧ ∀ w, w < 4 → zI R 128 0 (4 * l + w) = 0 := I.v 39 (by decide) (by decide)
theorem D_mac (I : ID C R) : ∀ m, m < zN C 5 → zR C 5 m 0 = some (zI R 130 0 m).toNatClampNeg ∧ zib (zI R 130 0 m) (zN C 3) = true ∧ zR C 5 m 1 = some (zI R 131 0 m).toNatClampNeg ∧ zib (zI R 131 0 m) (zN C 3) = true ∧ (zI R 130 0 m).toNatClampNeg < (zI R 131 0 m).toNatClampNeg := I.v 40 (by decide) (by decide)
theorem D_mpt (I : ID C R) : ∀ m, m < zN C 5 → zI C 5 m 2 = zI R 140 0 m := I.v 41 (by decide) (by decide)
theorem D_mas (I : ID C R) : ∀ m, m < zN C 5 → zI C 5 m 3 = zI R 136 0 m ∧ zib (zI R 136 0 m) 1501 = true := I.v 42 (by decide) (by decide)
theorem D_mst (I : ID C R) : ∀ m, m < zN C 5 → zI C 5 m 4 = zI R 132 0 m ∧ zI C 5 m 5 = zI R 137 0 m := I.v 43 (by decide) (by decide)
theorem D_mgo (I : ID C R) : ∀ m, m < zN C 5 → zI C 5 m 6 = zI R 138 0 m ∧ (zI R 138 0 m = 0 ∨ zI R 138 0 m = 1) := I.v 44 (by decide) (by decide)
theorem D_mag (I : ID C R) : ∀ m, m < zN C 5 → zI C 5 m 7 = zI R 139 0 m := I.v 45 (by decide) (by decide)
theorem D_mwy (I : ID C R) : ∀ m, m < zN C 5 → zI C 5 m 8 = zI R 133 0 m := I.v 46 (by decide) (by decide)
theorem D_mfa (I : ID C R) : ∀ m, m < zN C 5 → zI C 5 m 9 = zI R 134 0 m ∧ ¬ zI R 134 0 m < 0 ∧ zI R 134 0 m ≤ zI R 40 0 53 := I.v 47 (by decide) (by decide)
theorem D_mfb (I : ID C R) : ∀ m, m < zN C 5 → (zI R 134 0 m = 0 → zR C 5 m 10 = none ∧ zI R 135 0 m = -9) ∧ (¬ zI R 134 0 m = 0 → zR C 5 m 10 = some (zI R 135 0 m).toNatClampNeg ∧ zib (zI R 135 0 m) 8 = true) := I.v 48 (by decide) (by decide)
theorem D_mop (I : ID C R) : ∀ m, m < zN C 5 → ¬ zI R 138 0 m = 0 → zI R 114 0 (zI R 130 0 m).toNatClampNeg = 0 ∧ zI R 114 0 (zI R 131 0 m).toNatClampNeg = 0 := I.v 49 (by decide) (by decide)
theorem D_mdj (I : ID C R) : ∀ m m2, m < zN C 5 → m2 < zN C 5 → ¬ m = m2 → ¬ zI R 138 0 m = 0 → ¬ zI R 138 0 m2 = 0 → ¬ zI R 130 0 m = zI R 130 0 m2 ∧ ¬ zI R 130 0 m = zI R 131 0 m2 ∧ ¬ zI R 131 0 m = zI R 131 0 m2 := I.v 50 (by decide) (by decide)
theorem D_mfr (I : ID C R) : ∀ m, zN C 5 ≤ m → m < 30 → zI R 132 0 m = 0 ∧ zI R 133 0 m = 0 ∧ zI R 134 0 m = 0 ∧ zI R 139 0 m = 0 := I.v 51 (by decide) (by decide)
theorem D_rpf (I : ID C R) : ∀ r, r < zN C 6 → zI C 6 r 0 = zI R 142 0 r ∧ zI C 6 r 1 = zI R 143 0 r ∧ zR C 6 r 2 = some r := I.v 52 (by decide) (by decide)
theorem D_rtx (I : ID C R) : ∀ r, r < zN C 6 → RTx (zL C 25 r) (fun k => zI C 25 r k) (zI R 141 0 r) (fun k => zI R 144 0 (60 * r + k)) := I.v 53 (by decide) (by decide)
theorem D_tap (I : ID C R) : zI C 8 0 1 = zI R 40 0 59 ∧ zib (zI R 40 0 59) 61 = true ∧ ∀ k, k < (zI R 40 0 59).toNatClampNeg → zI C 28 0 k = zI R 157 0 k ∧ zib (zI R 157 0 k) 256 = true := I.v 54 (by decide) (by decide)
theorem D_row (I : ID C R) : zI C 0 0 9 = zI R 40 0 55 ∧ zib (zI R 40 0 55) 9 = true ∧ ∀ k, k < (zI R 40 0 55).toNatClampNeg → zJ C 19 0 k = zJ R 109 0 k := I.v 55 (by decide) (by decide)
theorem D_sur (I : ID C R) : zI C 9 0 1 = zI R 40 0 56 ∧ zib (zI R 40 0 56) 10 = true ∧ ∀ k, k < (zI R 40 0 56).toNatClampNeg → zI C 30 0 k = zI R 145 0 k ∧ zib (zI R 145 0 k) 128 = true := I.v 56 (by decide) (by decide)
theorem D_ref (I : ID C R) : ∀ k, k < 7 → zI C 20 0 k = zI R 100 0 k := I.v 57 (by decide) (by decide)
theorem ID_mk (hkc : KC C) (hkr : KR R) (hcnt : zI R 40 0 49 = nI (zN C 3) ∧ zI R 40 0 50 = nI (zN C 4) ∧ zI R 40 0 51 = nI (zN C 5) ∧ zI R 40 0 52 = nI (zN C 6)) (hmx : zN C 3 ≤ 40 ∧ zN C 4 ≤ 60 ∧ zN C 5 ≤ 30 ∧ zN C 6 ≤ 30) (hla : LO C 10 (zN C 3)) (hll : LO C 11 (zN C 4)) (hlm : LO C 12 (zN C 5)) (hlr : LO C 13 (zN C 6)) (hal : zN C 23 = zN C 3 ∧ zN C 24 = zN C 4 ∧ zN C 25 = zN C 6 ∧ 0 < zN C 0 ∧ 0 < zN R 40) (hbno : ∀ b, b < 8 → zR C 18 0 b = some b ∧ zI C 2 b 0 = nI b) (hbfee : ∀ b, b < 8 → zI C 2 b 1 = zI R 104 0 b ∧ zib (zI R 104 0 b) 1000 = true) (hbcap : ∀ b, b < 8 → zI C 2 b 2 = zI R 105 0 b) (hbow : ∀ b, b < 8 → zI C 2 b 3 = zI R 106 0 b ∧ zib (zI R 106 0 b) 1000000001 = true) (hbdid : ∀ b, b < 8 → zI C 2 b 4 = zI R 107 0 b) (hbnet : ∀ b, b < 8 → zJ C 2 b 5 = zJ R 108 0 b) (hday : zI C 1 0 4 = zI R 40 0 46 ∧ zib (zI R 40 0 46) 1501 = true) (hngt : zI C 1 0 5 = zI R 40 0 53 ∧ ¬ zI R 40 0 53 < 0 ∧ zI R 40 0 53 ≤ zI R 40 0 46 + 1) (hdue : zI C 1 0 6 = zI R 40 0 54 + 1 ∧ ¬ zI R 40 0 54 + 1 < 0 ∧ zI R 40 0 54 + 1 ≤ zI R 40 0 46 + 1) (hhol : zI C 1 0 2 = zI R 40 0 47 ∧ zib (zI R 40 0 47) 21 = true ∧ (∀ k, k < (zI R 40 0 47).toNatClampNeg → zib (zI R 101 0 k) 1501 = true) ∧ ∀ d, d < 1501 → (¬ zI C 21 0 d = 0 ↔ ∃ k, k < (zI R 40 0 47).toNatClampNeg ∧ zI R 101 0 k = nI d)) (hlat : zI C 1 0 3 = zI R 40 0 48 ∧ zib (zI R 40 0 48) 61 = true ∧ (∀ k, k < (zI R 40 0 48).toNatClampNeg → zib (zI R 103 0 k) 1501 = true ∧ zib (zI R 102 0 k) 8 = true) ∧ ∀ d b, d < 1501 → b < 8 → ((zI C 22 0 d >>> (nI b &&& 31)) &&& 1 = 1 ↔ ∃ k, k < (zI R 40 0 48).toNatClampNeg ∧ zI R 102 0 k = nI b ∧ zI R 103 0 k = nI d)) (hano : ∀ i, i < zN C 3 → zI C 3 i 0 = nI i) (habk : ∀ i, i < zN C 3 → zR C 3 i 1 = some (zI R 110 0 i).toNatClampNeg ∧ zib (zI R 110 0 i) 8 = true) (hanm : ∀ i, i < zN C 3 → zI C 3 i 2 = zI R 111 0 i ∧ zI C 3 i 3 = zI R 112 0 i) (hasum : ∀ i, i < zN C 3 → zJ C 3 i 6 = zJ R 118 0 i) (haov : ∀ i, i < zN C 3 → zI C 3 i 7 = zI R 113 0 i ∧ zib (zI R 113 0 i) 100000 = true) (hast : ∀ i, i < zN C 3 → zI C 3 i 8 = zI R 114 0 i) (hamv : ∀ i, i < zN C 3 → zI R 114 0 i = 2 → zR C 3 i 9 = some (zI R 115 0 i).toNatClampNeg ∧ zib (zI R 115 0 i) (zN C 3) = true ∧ i < (zI R 115 0 i).toNatClampNeg ∧ zI C 3 i 10 = zI R 116 0 i ∧ zib (zI R 116 0 i) 1501 = true) (hano2 : ∀ i, i < zN C 3 → ¬ zI R 114 0 i = 2 → zR C 3 i 9 = none ∧ zI R 115 0 i = -9 ∧ zI R 116 0 i = -9) (hagd : ∀ i, i < zN C 3 → zI C 3 i 11 = zI R 117 0 i ∧ zib (zI R 117 0 i) 1000000001 = true) (hakp : ∀ i, i < zN C 3 → zR C 3 i 5 = some i ∧ zib (zI C 3 i 4) 1501 = true ∧ zI C 3 i 4 ≤ zI R 40 0 46 ∧ zL C 23 i = 1500 - (zI C 3 i 4).toNatClampNeg) (hahs : ∀ i, i < zN C 3 → ∀ d, d < (zI R 40 0 46).toNatClampNeg → zJ R 119 0 (1501 * i + d) = if d < (zI C 3 i 4).toNatClampNeg then 0 else zJ C 23 i (d - (zI C 3 i 4).toNatClampNeg)) (hafr : ∀ i, zN C 3 ≤ i → i < 40 → zI R 113 0 i = 0 ∧ zI R 114 0 i = 0 ∧ zI R 117 0 i = 0 ∧ zJ R 118 0 i = 0 ∧ ∀ d, d < 1501 → zJ R 119 0 (1501 * i + d) = 0) (hlk : ∀ l, l < zN C 4 → zI C 4 l 0 = zI R 120 0 l ∧ zib (zI R 120 0 l) 4 = true) (hlft : ∀ l, l < zN C 4 → zR C 4 l 1 = some (zI R 121 0 l).toNatClampNeg ∧ zib (zI R 121 0 l) (zN C 3) = true ∧ zR C 4 l 2 = some (zI R 122 0 l).toNatClampNeg ∧ zib (zI R 122 0 l) (zN C 3) = true) (hlam : ∀ l, l < zN C 4 → zI C 4 l 3 = zI R 123 0 l ∧ zib (zI R 123 0 l) 100000 = true) (hled : ∀ l, l < zN C 4 → (zI R 126 0 l < 0 → zI C 4 l 6 = 0) ∧ (¬ zI R 126 0 l < 0 → zI C 4 l 6 = 1 ∧ zI C 4 l 7 = zI R 126 0 l ∧ zib (zI R 126 0 l) 1501 = true)) (hldn : ∀ l, l < zN C 4 → zI C 4 l 8 = zI R 127 0 l ∧ zI C 4 l 9 = zI R 129 0 l) (hlbk : ∀ l, l < zN C 4 → zR C 4 l 10 = some l ∧ zL C 24 l = 5 ∧ ∀ w, w < 4 → zI C 24 l (w + 1) = zI R 128 0 (4 * l + w)) (hldu : ∀ l, l < zN C 4 → LDu (zI R 40 0 54 + 1).toNatClampNeg (zI C 4 l 4) (zI C 4 l 5) (zI C 4 l 6) (zI C 4 l 7) (zI R 120 0 l) (zI R 124 0 l) (zI R 125 0 l)) (hlfr : ∀ l, zN C 4 ≤ l → l < 60 → zI R 127 0 l = 0 ∧ ∀ w, w < 4 → zI R 128 0 (4 * l + w) = 0) (hmac : ∀ m, m < zN C 5 → zR C 5 m 0 = some (zI R 130 0 m).toNatClampNeg ∧ zib (zI R 130 0 m) (zN C 3) = true ∧ zR C 5 m 1 = some (zI R 131 0 m).toNatClampNeg ∧ zib (zI R 131 0 m) (zN C 3) = true ∧ (zI R 130 0 m).toNatClampNeg < (zI R 131 0 m).toNatClampNeg) (hmpt : ∀ m, m < zN C 5 → zI C 5 m 2 = zI R 140 0 m) (hmas : ∀ m, m < zN C 5 → zI C 5 m 3 = zI R 136 0 m ∧ zib (zI R 136 0 m) 1501 = true) (hmst : ∀ m, m < zN C 5 → zI C 5 m 4 = zI R 132 0 m ∧ zI C 5 m 5 = zI R 137 0 m) (hmgo : ∀ m, m < zN C 5 → zI C 5 m 6 = zI R 138 0 m ∧ (zI R 138 0 m = 0 ∨ zI R 138 0 m = 1)) (hmag : ∀ m, m < zN C 5 → zI C 5 m 7 = zI R 139 0 m) (hmwy : ∀ m, m < zN C 5 → zI C 5 m 8 = zI R 133 0 m) (hmfa : ∀ m, m < zN C 5 → zI C 5 m 9 = zI R 134 0 m ∧ ¬ zI R 134 0 m < 0 ∧ zI R 134 0 m ≤ zI R 40 0 53) (hmfb : ∀ m, m < zN C 5 → (zI R 134 0 m = 0 → zR C 5 m 10 = none ∧ zI R 135 0 m = -9) ∧ (¬ zI R 134 0 m = 0 → zR C 5 m 10 = some (zI R 135 0 m).toNatClampNeg ∧ zib (zI R 135 0 m) 8 = true)) (hmop : ∀ m, m < zN C 5 → ¬ zI R 138 0 m = 0 → zI R 114 0 (zI R 130 0 m).toNatClampNeg = 0 ∧ zI R 114 0 (zI R 131 0 m).toNatClampNeg = 0) (hmdj : ∀ m m2, m < zN C 5 → m2 < zN C 5 → ¬ m = m2 → ¬ zI R 138 0 m = 0 → ¬ zI R 138 0 m2 = 0 → ¬ zI R 130 0 m = zI R 130 0 m2 ∧ ¬ zI R 130 0 m = zI R 131 0 m2 ∧ ¬ zI R 131 0 m = zI R 131 0 m2) (hmfr : ∀ m, zN C 5 ≤ m → m < 30 → zI R 132 0 m = 0 ∧ zI R 133 0 m = 0 ∧ zI R 134 0 m = 0 ∧ zI R 139 0 m = 0) (hrpf : ∀ r, r < zN C 6 → zI C 6 r 0 = zI R 142 0 r ∧ zI C 6 r 1 = zI R 143 0 r ∧ zR C 6 r 2 = some r) (hrtx : ∀ r, r < zN C 6 → RTx (zL C 25 r) (fun k => zI C 25 r k) (zI R 141 0 r) (fun k => zI R 144 0 (60 * r + k))) (htap : zI C 8 0 1 = zI R 40 0 59 ∧ zib (zI R 40 0 59) 61 = true ∧ ∀ k, k < (zI R 40 0 59).toNatClampNeg → zI C 28 0 k = zI R 157 0 k ∧ zib (zI R 157 0 k) 256 = true) (hrow : zI C 0 0 9 = zI R 40 0 55 ∧ zib (zI R 40 0 55) 9 = true ∧ ∀ k, k < (zI R 40 0 55).toNatClampNeg → zJ C 19 0 k = zJ R 109 0 k) (hsur : zI C 9 0 1 = zI R 40 0 56 ∧ zib (zI R 40 0 56) 10 = true ∧ ∀ k, k < (zI R 40 0 56).toNatClampNeg → zI C 30 0 k = zI R 145 0 k ∧ zib (zI R 145 0 k) 128 = true) (href : ∀ k, k < 7 → zI C 20 0 k = zI R 100 0 k) : ID C R := by
  intro k
  unfold Jd
  match k with
  | 0 => exact hkc
  | 1 => exact hkr
  | 2 => exact hcnt
  | 3 => exact hmx
  | 4 => exact hla
  | 5 => exact hll
  | 6 => exact hlm
  | 7 => exact hlr
  | 8 => exact hal
  | 9 => exact hbno
  | 10 => exact hbfee
  | 11 => exact hbcap
  | 12 => exact hbow
  | 13 => exact hbdid
  | 14 => exact hbnet
  | 15 => exact hday
  | 16 => exact hngt
  | 17 => exact hdue
  | 18 => exact hhol
  | 19 => exact hlat
  | 20 => exact hano
  | 21 => exact habk
  | 22 => exact hanm
  | 23 => exact hasum
  | 24 => exact haov
  | 25 => exact hast
  | 26 => exact hamv
  | 27 => exact hano2
  | 28 => exact hagd
  | 29 => exact hakp
  | 30 => exact hahs
  | 31 => exact hafr
  | 32 => exact hlk
  | 33 => exact hlft
  | 34 => exact hlam
  | 35 => exact hled
  | 36 => exact hldn
  | 37 => exact hlbk
  | 38 => exact hldu
  | 39 => exact hlfr
  | 40 => exact hmac
  | 41 => exact hmpt
  | 42 => exact hmas
  | 43 => exact hmst
  | 44 => exact hmgo
  | 45 => exact hmag
  | 46 => exact hmwy
  | 47 => exact hmfa
  | 48 => exact hmfb
  | 49 => exact hmop
  | 50 => exact hmdj
  | 51 => exact hmfr
  | 52 => exact hrpf
  | 53 => exact hrtx
  | 54 => exact htap
  | 55 => exact hrow
  | 56 => exact hsur
  | 57 => exact href
  | _ + 58 => exact trivial
end ZDD
