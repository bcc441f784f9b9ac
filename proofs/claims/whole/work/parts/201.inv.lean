/-! ===== what ties the class to the reference ===== -/
def KC (C : zH) : Prop := zR C 0 0 0 = some 0 ∧ zR C 0 0 1 = some 0 ∧ zR C 0 0 2 = some 0 ∧ zR C 0 0 3 = some 0 ∧ zR C 0 0 4 = some 0 ∧ zR C 0 0 5 = some 0 ∧ zR C 0 0 6 = some 0 ∧ zR C 0 0 7 = some 0 ∧ zR C 0 0 8 = some 0 ∧ zR C 0 0 10 = some 0 ∧ zR C 1 0 0 = some 0 ∧ zR C 1 0 1 = some 0 ∧ zL C 21 0 = 1501 ∧ zL C 22 0 = 1501 ∧ zL C 18 0 = 8 ∧ zR C 7 0 0 = some 0 ∧ zR C 7 0 1 = some 0 ∧ zR C 7 0 2 = some 0 ∧ zL C 26 0 = 10 ∧ zL C 27 0 = 60 ∧ zR C 8 0 0 = some 0 ∧ zR C 8 0 4 = some 0 ∧ zL C 28 0 = 60 ∧ zL C 29 0 = 60 ∧ zR C 9 0 0 = some 0 ∧ zL C 30 0 = 9 ∧ zL C 19 0 = 8 ∧ zL C 20 0 = 7
def KR (R : zH) : Prop := zR R 40 0 0 = some 0 ∧ zR R 40 0 1 = some 0 ∧ zR R 40 0 2 = some 0 ∧ zR R 40 0 3 = some 0 ∧ zR R 40 0 4 = some 0 ∧ zR R 40 0 5 = some 0 ∧ zR R 40 0 6 = some 0 ∧ zR R 40 0 7 = some 0 ∧ zR R 40 0 8 = some 0 ∧ zR R 40 0 9 = some 0 ∧ zR R 40 0 10 = some 0 ∧ zR R 40 0 11 = some 0 ∧ zR R 40 0 12 = some 0 ∧ zR R 40 0 13 = some 0 ∧ zR R 40 0 14 = some 0 ∧ zR R 40 0 15 = some 0 ∧ zR R 40 0 16 = some 0 ∧ zR R 40 0 17 = some 0 ∧ zR R 40 0 18 = some 0 ∧ zR R 40 0 19 = some 0 ∧ zR R 40 0 20 = some 0 ∧ zR R 40 0 21 = some 0 ∧ zR R 40 0 22 = some 0 ∧ zR R 40 0 23 = some 0 ∧ zR R 40 0 24 = some 0 ∧ zR R 40 0 25 = some 0 ∧ zR R 40 0 26 = some 0 ∧ zR R 40 0 27 = some 0 ∧ zR R 40 0 28 = some 0 ∧ zR R 40 0 29 = some 0 ∧ zR R 40 0 30 = some 0 ∧ zR R 40 0 31 = some 0 ∧ zR R 40 0 32 = some 0 ∧ zR R 40 0 33 = some 0 ∧ zR R 40 0 34 = some 0 ∧ zR R 40 0 35 = some 0 ∧ zR R 40 0 36 = some 0 ∧ zR R 40 0 37 = some 0 ∧ zR R 40 0 38 = some 0 ∧ zR R 40 0 39 = some 0 ∧ zR R 40 0 40 = some 0 ∧ zR R 40 0 41 = some 0 ∧ zR R 40 0 42 = some 0 ∧ zR R 40 0 43 = some 0 ∧ zR R 40 0 44 = some 0 ∧ zR R 40 0 45 = some 0 ∧ zR R 40 0 57 = some 0 ∧ zR R 40 0 58 = some 0 ∧ zL R 100 0 = 7 ∧ zL R 101 0 = 20 ∧ zL R 102 0 = 60 ∧ zL R 103 0 = 60 ∧ zL R 104 0 = 8 ∧ zL R 105 0 = 8 ∧ zL R 106 0 = 8 ∧ zL R 107 0 = 8 ∧ zL R 108 0 = 8 ∧ zL R 109 0 = 8 ∧ zL R 110 0 = 40 ∧ zL R 111 0 = 40 ∧ zL R 112 0 = 40 ∧ zL R 113 0 = 40 ∧ zL R 114 0 = 40 ∧ zL R 115 0 = 40 ∧ zL R 116 0 = 40 ∧ zL R 117 0 = 40 ∧ zL R 118 0 = 40 ∧ zL R 119 0 = 60040 ∧ zL R 120 0 = 60 ∧ zL R 121 0 = 60 ∧ zL R 122 0 = 60 ∧ zL R 123 0 = 60 ∧ zL R 124 0 = 60 ∧ zL R 125 0 = 60 ∧ zL R 126 0 = 60 ∧ zL R 127 0 = 60 ∧ zL R 128 0 = 240 ∧ zL R 129 0 = 60 ∧ zL R 130 0 = 30 ∧ zL R 131 0 = 30 ∧ zL R 132 0 = 30 ∧ zL R 133 0 = 30 ∧ zL R 134 0 = 30 ∧ zL R 135 0 = 30 ∧ zL R 136 0 = 30 ∧ zL R 137 0 = 30 ∧ zL R 138 0 = 30 ∧ zL R 139 0 = 30 ∧ zL R 140 0 = 30 ∧ zL R 141 0 = 30 ∧ zL R 142 0 = 30 ∧ zL R 143 0 = 30 ∧ zL R 144 0 = 1800 ∧ zL R 145 0 = 9 ∧ zL R 157 0 = 60 ∧ zL R 158 0 = 128
/-- list p holds the first n of its pool, in order -/
def LO (C : zH) (p n : Nat) : Prop := ∃ a, zR C p 0 1 = some a ∧ zI C p 0 2 = nI n ∧ n ≤ zL C (p + 4) a ∧ (zL C (p + 4) a = 0 ∨ zL C (p + 4) a = 10 ∨ zL C (p + 4) a = 15 ∨ zL C (p + 4) a = 22 ∨ zL C (p + 4) a = 33 ∨ zL C (p + 4) a = 49 ∨ zL C (p + 4) a = 73) ∧ (a = 0 ↔ zL C (p + 4) a = 0) ∧ (∀ i, i < n → zR C (p + 4) a i = some i) ∧ a < zN C (p + 4)
/-- when a line is due next, seen from day q on -/
def LDu (q : Nat) (ev nx en ed kd fi ev2 : Int32) : Prop :=
  zib fi 1501 = true ∧ (kd = 0 → ev = 0) ∧ (¬ kd = 0 → ev = ev2 ∧ zib ev 91 = true ∧ ¬ ev = 0) ∧
  ((en = 1 ∧ ed.toNatClampNeg < q ∧ nx < nI q) ∨
   (kd = 0 ∧ ((nx = fi ∧ q ≤ fi.toNatClampNeg) ∨ (nx = -9 ∧ fi.toNatClampNeg < q))) ∨
   (¬ kd = 0 ∧ ∃ k, nx = nI (fi.toNatClampNeg + ev.toNatClampNeg * k) ∧ q ≤ fi.toNatClampNeg + ev.toNatClampNeg * k ∧ fi.toNatClampNeg + ev.toNatClampNeg * k < 2000 ∧ (k = 0 ∨ fi.toNatClampNeg + ev.toNatClampNeg * k < q + ev.toNatClampNeg)))
/-- a rule's text, read by the hub, is its code -/
def RTx (n : Nat) (code : Nat → Int32) (size : Int32) (text : Nat → Int32) : Prop :=
  zib size 61 = true ∧ (∀ k, k < size.toNatClampNeg → zib (text k) 256 = true) ∧ (hAll text size.toNatClampNeg).1 = true ∧ (hAll text size.toNatClampNeg).2.1 = size.toNatClampNeg ∧ (hAll text size.toNatClampNeg).2.2.length = n ∧ ∀ j, j < n → (hAll text size.toNatClampNeg).2.2[j]? = some (code j)
def Jv (C R : zH) : Nat → Prop
  | 0 => KC C
  | 1 => KR R
  | 2 => zI R 40 0 49 = nI (zN C 3) ∧ zI R 40 0 50 = nI (zN C 4) ∧ zI R 40 0 51 = nI (zN C 5) ∧ zI R 40 0 52 = nI (zN C 6)
  | 3 => zN C 3 ≤ 40 ∧ zN C 4 ≤ 60 ∧ zN C 5 ≤ 30 ∧ zN C 6 ≤ 30
  | 4 => LO C 10 (zN C 3)
  | 5 => LO C 11 (zN C 4)
  | 6 => LO C 12 (zN C 5)
  | 7 => LO C 13 (zN C 6)
  | 8 => zN C 23 = zN C 3 ∧ zN C 24 = zN C 4 ∧ zN C 25 = zN C 6 ∧ 0 < zN C 0 ∧ 0 < zN R 40
  | 9 => ∀ b, b < 8 → zR C 18 0 b = some b ∧ zI C 2 b 0 = nI b
  | 10 => ∀ b, b < 8 → zI C 2 b 1 = zI R 104 0 b ∧ zib (zI R 104 0 b) 1000 = true
  | 11 => ∀ b, b < 8 → zI C 2 b 2 = zI R 105 0 b
  | 12 => ∀ b, b < 8 → zI C 2 b 3 = zI R 106 0 b ∧ zib (zI R 106 0 b) 1000000001 = true
  | 13 => ∀ b, b < 8 → zI C 2 b 4 = zI R 107 0 b
  | 14 => ∀ b, b < 8 → zJ C 2 b 5 = zJ R 108 0 b
  | 15 => zI C 1 0 4 = zI R 40 0 46 ∧ zib (zI R 40 0 46) 1501 = true
  | 16 => zI C 1 0 5 = zI R 40 0 53 ∧ ¬ zI R 40 0 53 < 0 ∧ zI R 40 0 53 ≤ zI R 40 0 46
  | 17 => zI C 1 0 6 = zI R 40 0 54 + 1 ∧ ¬ zI R 40 0 54 + 1 < 0 ∧ zI R 40 0 54 + 1 ≤ zI R 40 0 46
  | 18 => zI C 1 0 2 = zI R 40 0 47 ∧ zib (zI R 40 0 47) 21 = true ∧ (∀ k, k < (zI R 40 0 47).toNatClampNeg → zib (zI R 101 0 k) 1501 = true) ∧ ∀ d, d < 1501 → (¬ zI C 21 0 d = 0 ↔ ∃ k, k < (zI R 40 0 47).toNatClampNeg ∧ zI R 101 0 k = nI d)
  | 19 => zI C 1 0 3 = zI R 40 0 48 ∧ zib (zI R 40 0 48) 61 = true ∧ (∀ k, k < (zI R 40 0 48).toNatClampNeg → zib (zI R 103 0 k) 1501 = true ∧ zib (zI R 102 0 k) 8 = true) ∧ ∀ d b, d < 1501 → b < 8 → ((zI C 22 0 d >>> (nI b &&& 31)) &&& 1 = 1 ↔ ∃ k, k < (zI R 40 0 48).toNatClampNeg ∧ zI R 102 0 k = nI b ∧ zI R 103 0 k = nI d)
  | 20 => ∀ i, i < zN C 3 → zI C 3 i 0 = nI i
  | 21 => ∀ i, i < zN C 3 → zR C 3 i 1 = some (zI R 110 0 i).toNatClampNeg ∧ zib (zI R 110 0 i) 8 = true
  | 22 => ∀ i, i < zN C 3 → zI C 3 i 2 = zI R 111 0 i ∧ zI C 3 i 3 = zI R 112 0 i
  | 23 => ∀ i, i < zN C 3 → zJ C 3 i 6 = zJ R 118 0 i
  | 24 => ∀ i, i < zN C 3 → zI C 3 i 7 = zI R 113 0 i ∧ zib (zI R 113 0 i) 100000 = true
  | 25 => ∀ i, i < zN C 3 → zI C 3 i 8 = zI R 114 0 i
  | 26 => ∀ i, i < zN C 3 → zI R 114 0 i = 2 → zR C 3 i 9 = some (zI R 115 0 i).toNatClampNeg ∧ zib (zI R 115 0 i) (zN C 3) = true ∧ i < (zI R 115 0 i).toNatClampNeg ∧ zI C 3 i 10 = zI R 116 0 i ∧ zib (zI R 116 0 i) 1501 = true
  | 27 => ∀ i, i < zN C 3 → ¬ zI R 114 0 i = 2 → zR C 3 i 9 = none ∧ zI R 115 0 i = -9 ∧ zI R 116 0 i = -9
  | 28 => ∀ i, i < zN C 3 → zI C 3 i 11 = zI R 117 0 i ∧ zib (zI R 117 0 i) 1000000001 = true
  | 29 => ∀ i, i < zN C 3 → zR C 3 i 5 = some i ∧ zib (zI C 3 i 4) 1501 = true ∧ zI C 3 i 4 ≤ zI R 40 0 46 ∧ zL C 23 i = 1500 - (zI C 3 i 4).toNatClampNeg
  | 30 => ∀ i, i < zN C 3 → ∀ d, d < (zI R 40 0 46).toNatClampNeg → zJ R 119 0 (1501 * i + d) = if d < (zI C 3 i 4).toNatClampNeg then 0 else zJ C 23 i (d - (zI C 3 i 4).toNatClampNeg)
  | 31 => ∀ i, zN C 3 ≤ i → i < 40 → zI R 113 0 i = 0 ∧ zI R 114 0 i = 0 ∧ zI R 117 0 i = 0 ∧ zJ R 118 0 i = 0 ∧ ∀ d, d < 1501 → zJ R 119 0 (1501 * i + d) = 0
  | 32 => ∀ l, l < zN C 4 → zI C 4 l 0 = zI R 120 0 l ∧ zib (zI R 120 0 l) 4 = true
  | 33 => ∀ l, l < zN C 4 → zR C 4 l 1 = some (zI R 121 0 l).toNatClampNeg ∧ zib (zI R 121 0 l) (zN C 3) = true ∧ zR C 4 l 2 = some (zI R 122 0 l).toNatClampNeg ∧ zib (zI R 122 0 l) (zN C 3) = true
  | 34 => ∀ l, l < zN C 4 → zI C 4 l 3 = zI R 123 0 l ∧ zib (zI R 123 0 l) 100000 = true
  | 35 => ∀ l, l < zN C 4 → (zI R 126 0 l < 0 → zI C 4 l 6 = 0) ∧ (¬ zI R 126 0 l < 0 → zI C 4 l 6 = 1 ∧ zI C 4 l 7 = zI R 126 0 l ∧ zib (zI R 126 0 l) 1501 = true)
  | 36 => ∀ l, l < zN C 4 → zI C 4 l 8 = zI R 127 0 l ∧ zI C 4 l 9 = zI R 129 0 l
  | 37 => ∀ l, l < zN C 4 → zR C 4 l 10 = some l ∧ zL C 24 l = 5 ∧ ∀ w, w < 4 → zI C 24 l (w + 1) = zI R 128 0 (4 * l + w)
  | 38 => ∀ l, l < zN C 4 → LDu (zI R 40 0 54 + 1).toNatClampNeg (zI C 4 l 4) (zI C 4 l 5) (zI C 4 l 6) (zI C 4 l 7) (zI R 120 0 l) (zI R 124 0 l) (zI R 125 0 l)
  | 39 => ∀ l, zN C 4 ≤ l → l < 60 → zI R 127 0 l = 0 ∧ ∀ w, w < 4 → zI R 128 0 (4 * l + w) = 0
  | 40 => ∀ m, m < zN C 5 → zR C 5 m 0 = some (zI R 130 0 m).toNatClampNeg ∧ zib (zI R 130 0 m) (zN C 3) = true ∧ zR C 5 m 1 = some (zI R 131 0 m).toNatClampNeg ∧ zib (zI R 131 0 m) (zN C 3) = true ∧ (zI R 130 0 m).toNatClampNeg < (zI R 131 0 m).toNatClampNeg
  | 41 => ∀ m, m < zN C 5 → zI C 5 m 2 = zI R 140 0 m
  | 42 => ∀ m, m < zN C 5 → zI C 5 m 3 = zI R 136 0 m ∧ zib (zI R 136 0 m) 1501 = true
  | 43 => ∀ m, m < zN C 5 → zI C 5 m 4 = zI R 132 0 m ∧ zI C 5 m 5 = zI R 137 0 m
  | 44 => ∀ m, m < zN C 5 → zI C 5 m 6 = zI R 138 0 m ∧ (zI R 138 0 m = 0 ∨ zI R 138 0 m = 1)
  | 45 => ∀ m, m < zN C 5 → zI C 5 m 7 = zI R 139 0 m
  | 46 => ∀ m, m < zN C 5 → zI C 5 m 8 = zI R 133 0 m
  | 47 => ∀ m, m < zN C 5 → zI C 5 m 9 = zI R 134 0 m ∧ ¬ zI R 134 0 m < 0 ∧ zI R 134 0 m ≤ zI R 40 0 53
  | 48 => ∀ m, m < zN C 5 → (zI R 134 0 m = 0 → zR C 5 m 10 = none ∧ zI R 135 0 m = -9) ∧ (¬ zI R 134 0 m = 0 → zR C 5 m 10 = some (zI R 135 0 m).toNatClampNeg ∧ zib (zI R 135 0 m) 8 = true)
  | 49 => ∀ m, m < zN C 5 → ¬ zI R 138 0 m = 0 → zI R 114 0 (zI R 130 0 m).toNatClampNeg = 0 ∧ zI R 114 0 (zI R 131 0 m).toNatClampNeg = 0
  | 50 => ∀ m m2, m < zN C 5 → m2 < zN C 5 → ¬ m = m2 → ¬ zI R 138 0 m = 0 → ¬ zI R 138 0 m2 = 0 → ¬ zI R 130 0 m = zI R 130 0 m2 ∧ ¬ zI R 130 0 m = zI R 131 0 m2 ∧ ¬ zI R 131 0 m = zI R 131 0 m2
  | 51 => ∀ m, zN C 5 ≤ m → m < 30 → zI R 132 0 m = 0 ∧ zI R 133 0 m = 0 ∧ zI R 134 0 m = 0 ∧ zI R 139 0 m = 0
  | 52 => ∀ r, r < zN C 6 → zI C 6 r 0 = zI R 142 0 r ∧ zI C 6 r 1 = zI R 143 0 r ∧ zR C 6 r 2 = some r
  | 53 => ∀ r, r < zN C 6 → RTx (zL C 25 r) (fun k => zI C 25 r k) (zI R 141 0 r) (fun k => zI R 144 0 (60 * r + k))
  | 54 => zI C 8 0 1 = zI R 40 0 59 ∧ zib (zI R 40 0 59) 61 = true ∧ ∀ k, k < (zI R 40 0 59).toNatClampNeg → zI C 28 0 k = zI R 157 0 k ∧ zib (zI R 157 0 k) 256 = true
  | 55 => zI C 0 0 9 = zI R 40 0 55 ∧ zib (zI R 40 0 55) 9 = true ∧ ∀ k, k < (zI R 40 0 55).toNatClampNeg → zJ C 19 0 k = zJ R 109 0 k
  | 56 => zI C 9 0 1 = zI R 40 0 56 ∧ zib (zI R 40 0 56) 10 = true ∧ ∀ k, k < (zI R 40 0 56).toNatClampNeg → zI C 30 0 k = zI R 145 0 k ∧ zib (zI R 145 0 k) 128 = true
  | 57 => ∀ k, k < 7 → zI C 20 0 k = zI R 100 0 k
  | _ => True
def Inv (C R : zH) : Prop := ∀ k, Jv C R k
section ZI
variable {C R : zH}
theorem J_kc (I : Inv C R) : KC C := I 0
theorem J_kr (I : Inv C R) : KR R := I 1
theorem J_cnt (I : Inv C R) : zI R 40 0 49 = nI (zN C 3) ∧ zI R 40 0 50 = nI (zN C 4) ∧ zI R 40 0 51 = nI (zN C 5) ∧ zI R 40 0 52 = nI (zN C 6) := I 2
theorem J_mx (I : Inv C R) : zN C 3 ≤ 40 ∧ zN C 4 ≤ 60 ∧ zN C 5 ≤ 30 ∧ zN C 6 ≤ 30 := I 3
theorem J_la (I : Inv C R) : LO C 10 (zN C 3) := I 4
theorem J_ll (I : Inv C R) : LO C 11 (zN C 4) := I 5
theorem J_lm (I : Inv C R) : LO C 12 (zN C 5) := I 6
theorem J_lr (I : Inv C R) : LO C 13 (zN C 6) := I 7
theorem J_al (I : Inv C R) : zN C 23 = zN C 3 ∧ zN C 24 = zN C 4 ∧ zN C 25 = zN C 6 ∧ 0 < zN C 0 ∧ 0 < zN R 40 := I 8
theorem J_bno (I : Inv C R) : ∀ b, b < 8 → zR C 18 0 b = some b ∧ zI C 2 b 0 = nI b := I 9
theorem J_bfee (I : Inv C R) : ∀ b, b < 8 → zI C 2 b 1 = zI R 104 0 b ∧ zib (zI R 104 0 b) 1000 = true := I 10
theorem J_bcap (I : Inv C R) : ∀ b, b < 8 → zI C 2 b 2 = zI R 105 0 b := I 11
theorem J_bow (I : Inv C R) : ∀ b, b < 8 → zI C 2 b 3 = zI R 106 0 b ∧ zib (zI R 106 0 b) 1000000001 = true := I 12
theorem J_bdid (I : Inv C R) : ∀ b, b < 8 → zI C 2 b 4 = zI R 107 0 b := I 13
theorem J_bnet (I : Inv C R) : ∀ b, b < 8 → zJ C 2 b 5 = zJ R 108 0 b := I 14
theorem J_day (I : Inv C R) : zI C 1 0 4 = zI R 40 0 46 ∧ zib (zI R 40 0 46) 1501 = true := I 15
theorem J_ngt (I : Inv C R) : zI C 1 0 5 = zI R 40 0 53 ∧ ¬ zI R 40 0 53 < 0 ∧ zI R 40 0 53 ≤ zI R 40 0 46 := I 16
theorem J_due (I : Inv C R) : zI C 1 0 6 = zI R 40 0 54 + 1 ∧ ¬ zI R 40 0 54 + 1 < 0 ∧ zI R 40 0 54 + 1 ≤ zI R 40 0 46 := I 17
theorem J_hol (I : Inv C R) : zI C 1 0 2 = zI R 40 0 47 ∧ zib (zI R 40 0 47) 21 = true ∧ (∀ k, k < (zI R 40 0 47).toNatClampNeg → zib (zI R 101 0 k) 1501 = true) ∧ ∀ d, d < 1501 → (¬ zI C 21 0 d = 0 ↔ ∃ k, k < (zI R 40 0 47).toNatClampNeg ∧ zI R 101 0 k = nI d) := I 18
theorem J_lat (I : Inv C R) : zI C 1 0 3 = zI R 40 0 48 ∧ zib (zI R 40 0 48) 61 = true ∧ (∀ k, k < (zI R 40 0 48).toNatClampNeg → zib (zI R 103 0 k) 1501 = true ∧ zib (zI R 102 0 k) 8 = true) ∧ ∀ d b, d < 1501 → b < 8 → ((zI C 22 0 d >>> (nI b &&& 31)) &&& 1 = 1 ↔ ∃ k, k < (zI R 40 0 48).toNatClampNeg ∧ zI R 102 0 k = nI b ∧ zI R 103 0 k = nI d) := I 19
theorem J_ano (I : Inv C R) : ∀ i, i < zN C 3 → zI C 3 i 0 = nI i := I 20
theorem J_abk (I : Inv C R) : ∀ i, i < zN C 3 → zR C 3 i 1 = some (zI R 110 0 i).toNatClampNeg ∧ zib (zI R 110 0 i) 8 = true := I 21
theorem J_anm (I : Inv C R) : ∀ i, i < zN C 3 → zI C 3 i 2 = zI R 111 0 i ∧ zI C 3 i 3 = zI R 112 0 i := I 22
theorem J_asum (I : Inv C R) : ∀ i, i < zN C 3 → zJ C 3 i 6 = zJ R 118 0 i := I 23
theorem J_aov (I : Inv C R) : ∀ i, i < zN C 3 → zI C 3 i 7 = zI R 113 0 i ∧ zib (zI R 113 0 i) 100000 = true := I 24
theorem J_ast (I : Inv C R) : ∀ i, i < zN C 3 → zI C 3 i 8 = zI R 114 0 i := I 25
theorem J_amv (I : Inv C R) : ∀ i, i < zN C 3 → zI R 114 0 i = 2 → zR C 3 i 9 = some (zI R 115 0 i).toNatClampNeg ∧ zib (zI R 115 0 i) (zN C 3) = true ∧ i < (zI R 115 0 i).toNatClampNeg ∧ zI C 3 i 10 = zI R 116 0 i ∧ zib (zI R 116 0 i) 1501 = true := I 26
theorem J_ano2 (I : Inv C R) : ∀ i, i < zN C 3 → ¬ zI R 114 0 i = 2 → zR C 3 i 9 = none ∧ zI R 115 0 i = -9 ∧ zI R 116 0 i = -9 := I 27
theorem J_agd (I : Inv C R) : ∀ i, i < zN C 3 → zI C 3 i 11 = zI R 117 0 i ∧ zib (zI R 117 0 i) 1000000001 = true := I 28
theorem J_akp (I : Inv C R) : ∀ i, i < zN C 3 → zR C 3 i 5 = some i ∧ zib (zI C 3 i 4) 1501 = true ∧ zI C 3 i 4 ≤ zI R 40 0 46 ∧ zL C 23 i = 1500 - (zI C 3 i 4).toNatClampNeg := I 29
theorem J_ahs (I : Inv C R) : ∀ i, i < zN C 3 → ∀ d, d < (zI R 40 0 46).toNatClampNeg → zJ R 119 0 (1501 * i + d) = if d < (zI C 3 i 4).toNatClampNeg then 0 else zJ C 23 i (d - (zI C 3 i 4).toNatClampNeg) := I 30
theorem J_afr (I : Inv C R) : ∀ i, zN C 3 ≤ i → i < 40 → zI R 113 0 i = 0 ∧ zI R 114 0 i = 0 ∧ zI R 117 0 i = 0 ∧ zJ R 118 0 i = 0 ∧ ∀ d, d < 1501 → zJ R 119 0 (1501 * i + d) = 0 := I 31
theorem J_lk (I : Inv C R) : ∀ l, l < zN C 4 → zI C 4 l 0 = zI R 120 0 l ∧ zib (zI R 120 0 l) 4 = true := I 32
theorem J_lft (I : Inv C R) : ∀ l, l < zN C 4 → zR C 4 l 1 = some (zI R 121 0 l).toNatClampNeg ∧ zib (zI R 121 0 l) (zN C 3) = true ∧ zR C 4 l 2 = some (zI R 122 0 l).toNatClampNeg ∧ zib (zI R 122 0 l) (zN C 3) = true := I 33
theorem J_lam (I : Inv C R) : ∀ l, l < zN C 4 → zI C 4 l 3 = zI R 123 0 l ∧ zib (zI R 123 0 l) 100000 = true := I 34
theorem J_led (I : Inv C R) : ∀ l, l < zN C 4 → (zI R 126 0 l < 0 → zI C 4 l 6 = 0) ∧ (¬ zI R 126 0 l < 0 → zI C 4 l 6 = 1 ∧ zI C 4 l 7 = zI R 126 0 l ∧ zib (zI R 126 0 l) 1501 = true) := I 35
theorem J_ldn (I : Inv C R) : ∀ l, l < zN C 4 → zI C 4 l 8 = zI R 127 0 l ∧ zI C 4 l 9 = zI R 129 0 l := I 36
theorem J_lbk (I : Inv C R) : ∀ l, l < zN C 4 → zR C 4 l 10 = some l ∧ zL C 24 l = 5 ∧ ∀ w, w < 4 → zI C 24 l (w + 1) = zI R 128 0 (4 * l + w) := I 37
theorem J_ldu (I : Inv C R) : ∀ l, l < zN C 4 → LDu (zI R 40 0 54 + 1).toNatClampNeg (zI C 4 l 4) (zI C 4 l 5) (zI C 4 l 6) (zI C 4 l 7) (zI R 120 0 l) (zI R 124 0 l) (zI R 125 0 l) := I 38
theorem J_lfr (I : Inv C R) : ∀ l, zN C 4 ≤ l → l < 60 → zI R 127 0 l = 0 ∧ ∀ w, w < 4 → zI R 128 0 (4 * l + w) = 0 := I 39
theorem J_mac (I : Inv C R) : ∀ m, m < zN C 5 → zR C 5 m 0 = some (zI R 130 0 m).toNatClampNeg ∧ zib (zI R 130 0 m) (zN C 3) = true ∧ zR C 5 m 1 = some (zI R 131 0 m).toNatClampNeg ∧ zib (zI R 131 0 m) (zN C 3) = true ∧ (zI R 130 0 m).toNatClampNeg < (zI R 131 0 m).toNatClampNeg := I 40
theorem J_mpt (I : Inv C R) : ∀ m, m < zN C 5 → zI C 5 m 2 = zI R 140 0 m := I 41
theorem J_mas (I : Inv C R) : ∀ m, m < zN C 5 → zI C 5 m 3 = zI R 136 0 m ∧ zib (zI R 136 0 m) 1501 = true := I 42
theorem J_mst (I : Inv C R) : ∀ m, m < zN C 5 → zI C 5 m 4 = zI R 132 0 m ∧ zI C 5 m 5 = zI R 137 0 m := I 43
theorem J_mgo (I : Inv C R) : ∀ m, m < zN C 5 → zI C 5 m 6 = zI R 138 0 m ∧ (zI R 138 0 m = 0 ∨ zI R 138 0 m = 1) := I 44
theorem J_mag (I : Inv C R) : ∀ m, m < zN C 5 → zI C 5 m 7 = zI R 139 0 m := I 45
theorem J_mwy (I : Inv C R) : ∀ m, m < zN C 5 → zI C 5 m 8 = zI R 133 0 m := I 46
theorem J_mfa (I : Inv C R) : ∀ m, m < zN C 5 → zI C 5 m 9 = zI R 134 0 m ∧ ¬ zI R 134 0 m < 0 ∧ zI R 134 0 m ≤ zI R 40 0 53 := I 47
theorem J_mfb (I : Inv C R) : ∀ m, m < zN C 5 → (zI R 134 0 m = 0 → zR C 5 m 10 = none ∧ zI R 135 0 m = -9) ∧ (¬ zI R 134 0 m = 0 → zR C 5 m 10 = some (zI R 135 0 m).toNatClampNeg ∧ zib (zI R 135 0 m) 8 = true) := I 48
theorem J_mop (I : Inv C R) : ∀ m, m < zN C 5 → ¬ zI R 138 0 m = 0 → zI R 114 0 (zI R 130 0 m).toNatClampNeg = 0 ∧ zI R 114 0 (zI R 131 0 m).toNatClampNeg = 0 := I 49
theorem J_mdj (I : Inv C R) : ∀ m m2, m < zN C 5 → m2 < zN C 5 → ¬ m = m2 → ¬ zI R 138 0 m = 0 → ¬ zI R 138 0 m2 = 0 → ¬ zI R 130 0 m = zI R 130 0 m2 ∧ ¬ zI R 130 0 m = zI R 131 0 m2 ∧ ¬ zI R 131 0 m = zI R 131 0 m2 := I 50
theorem J_mfr (I : Inv C R) : ∀ m, zN C 5 ≤ m → m < 30 → zI R 132 0 m = 0 ∧ zI R 133 0 m = 0 ∧ zI R 134 0 m = 0 ∧ zI R 139 0 m = 0 := I 51
theorem J_rpf (I : Inv C R) : ∀ r, r < zN C 6 → zI C 6 r 0 = zI R 142 0 r ∧ zI C 6 r 1 = zI R 143 0 r ∧ zR C 6 r 2 = some r := I 52
theorem J_rtx (I : Inv C R) : ∀ r, r < zN C 6 → RTx (zL C 25 r) (fun k => zI C 25 r k) (zI R 141 0 r) (fun k => zI R 144 0 (60 * r + k)) := I 53
theorem J_tap (I : Inv C R) : zI C 8 0 1 = zI R 40 0 59 ∧ zib (zI R 40 0 59) 61 = true ∧ ∀ k, k < (zI R 40 0 59).toNatClampNeg → zI C 28 0 k = zI R 157 0 k ∧ zib (zI R 157 0 k) 256 = true := I 54
theorem J_row (I : Inv C R) : zI C 0 0 9 = zI R 40 0 55 ∧ zib (zI R 40 0 55) 9 = true ∧ ∀ k, k < (zI R 40 0 55).toNatClampNeg → zJ C 19 0 k = zJ R 109 0 k := I 55
theorem J_sur (I : Inv C R) : zI C 9 0 1 = zI R 40 0 56 ∧ zib (zI R 40 0 56) 10 = true ∧ ∀ k, k < (zI R 40 0 56).toNatClampNeg → zI C 30 0 k = zI R 145 0 k ∧ zib (zI R 145 0 k) 128 = true := I 56
theorem J_ref (I : Inv C R) : ∀ k, k < 7 → zI C 20 0 k = zI R 100 0 k := I 57
theorem Inv_mk (hkc : KC C) (hkr : KR R) (hcnt : zI R 40 0 49 = nI (zN C 3) ∧ zI R 40 0 50 = nI (zN C 4) ∧ zI R 40 0 51 = nI (zN C 5) ∧ zI R 40 0 52 = nI (zN C 6)) (hmx : zN C 3 ≤ 40 ∧ zN C 4 ≤ 60 ∧ zN C 5 ≤ 30 ∧ zN C 6 ≤ 30) (hla : LO C 10 (zN C 3)) (hll : LO C 11 (zN C 4)) (hlm : LO C 12 (zN C 5)) (hlr : LO C 13 (zN C 6)) (hal : zN C 23 = zN C 3 ∧ zN C 24 = zN C 4 ∧ zN C 25 = zN C 6 ∧ 0 < zN C 0 ∧ 0 < zN R 40) (hbno : ∀ b, b < 8 → zR C 18 0 b = some b ∧ zI C 2 b 0 = nI b) (hbfee : ∀ b, b < 8 → zI C 2 b 1 = zI R 104 0 b ∧ zib (zI R 104 0 b) 1000 = true) (hbcap : ∀ b, b < 8 → zI C 2 b 2 = zI R 105 0 b) (hbow : ∀ b, b < 8 → zI C 2 b 3 = zI R 106 0 b ∧ zib (zI R 106 0 b) 1000000001 = true) (hbdid : ∀ b, b < 8 → zI C 2 b 4 = zI R 107 0 b) (hbnet : ∀ b, b < 8 → zJ C 2 b 5 = zJ R 108 0 b) (hday : zI C 1 0 4 = zI R 40 0 46 ∧ zib (zI R 40 0 46) 1501 = true) (hngt : zI C 1 0 5 = zI R 40 0 53 ∧ ¬ zI R 40 0 53 < 0 ∧ zI R 40 0 53 ≤ zI R 40 0 46) (hdue : zI C 1 0 6 = zI R 40 0 54 + 1 ∧ ¬ zI R 40 0 54 + 1 < 0 ∧ zI R 40 0 54 + 1 ≤ zI R 40 0 46) (hhol : zI C 1 0 2 = zI R 40 0 47 ∧ zib (zI R 40 0 47) 21 = true ∧ (∀ k, k < (zI R 40 0 47).toNatClampNeg → zib (zI R 101 0 k) 1501 = true) ∧ ∀ d, d < 1501 → (¬ zI C 21 0 d = 0 ↔ ∃ k, k < (zI R 40 0 47).toNatClampNeg ∧ zI R 101 0 k = nI d)) (hlat : zI C 1 0 3 = zI R 40 0 48 ∧ zib (zI R 40 0 48) 61 = true ∧ (∀ k, k < (zI R 40 0 48).toNatClampNeg → zib (zI R 103 0 k) 1501 = true ∧ zib (zI R 102 0 k) 8 = true) ∧ ∀ d b, d < 1501 → b < 8 → ((zI C 22 0 d >>> (nI b &&& 31)) &&& 1 = 1 ↔ ∃ k, k < (zI R 40 0 48).toNatClampNeg ∧ zI R 102 0 k = nI b ∧ zI R 103 0 k = nI d)) (hano : ∀ i, i < zN C 3 → zI C 3 i 0 = nI i) (habk : ∀ i, i < zN C 3 → zR C 3 i 1 = some (zI R 110 0 i).toNatClampNeg ∧ zib (zI R 110 0 i) 8 = true) (hanm : ∀ i, i < zN C 3 → zI C 3 i 2 = zI R 111 0 i ∧ zI C 3 i 3 = zI R 112 0 i) (hasum : ∀ i, i < zN C 3 → zJ C 3 i 6 = zJ R 118 0 i) (haov : ∀ i, i < zN C 3 → zI C 3 i 7 = zI R 113 0 i ∧ zib (zI R 113 0 i) 100000 = true) (hast : ∀ i, i < zN C 3 → zI C 3 i 8 = zI R 114 0 i) (hamv : ∀ i, i < zN C 3 → zI R 114 0 i = 2 → zR C 3 i 9 = some (zI R 115 0 i).toNatClampNeg ∧ zib (zI R 115 0 i) (zN C 3) = true ∧ i < (zI R 115 0 i).toNatClampNeg ∧ zI C 3 i 10 = zI R 116 0 i ∧ zib (zI R 116 0 i) 1501 = true) (hano2 : ∀ i, i < zN C 3 → ¬ zI R 114 0 i = 2 → zR C 3 i 9 = none ∧ zI R 115 0 i = -9 ∧ zI R 116 0 i = -9) (hagd : ∀ i, i < zN C 3 → zI C 3 i 11 = zI R 117 0 i ∧ zib (zI R 117 0 i) 1000000001 = true) (hakp : ∀ i, i < zN C 3 → zR C 3 i 5 = some i ∧ zib (zI C 3 i 4) 1501 = true ∧ zI C 3 i 4 ≤ zI R 40 0 46 ∧ zL C 23 i = 1500 - (zI C 3 i 4).toNatClampNeg) (hahs : ∀ i, i < zN C 3 → ∀ d, d < (zI R 40 0 46).toNatClampNeg → zJ R 119 0 (1501 * i + d) = if d < (zI C 3 i 4).toNatClampNeg then 0 else zJ C 23 i (d - (zI C 3 i 4).toNatClampNeg)) (hafr : ∀ i, zN C 3 ≤ i → i < 40 → zI R 113 0 i = 0 ∧ zI R 114 0 i = 0 ∧ zI R 117 0 i = 0 ∧ zJ R 118 0 i = 0 ∧ ∀ d, d < 1501 → zJ R 119 0 (1501 * i + d) = 0) (hlk : ∀ l, l < zN C 4 → zI C 4 l 0 = zI R 120 0 l ∧ zib (zI R 120 0 l) 4 = true) (hlft : ∀ l, l < zN C 4 → zR C 4 l 1 = some (zI R 121 0 l).toNatClampNeg ∧ zib (zI R 121 0 l) (zN C 3) = true ∧ zR C 4 l 2 = some (zI R 122 0 l).toNatClampNeg ∧ zib (zI R 122 0 l) (zN C 3) = true) (hlam : ∀ l, l < zN C 4 → zI C 4 l 3 = zI R 123 0 l ∧ zib (zI R 123 0 l) 100000 = true) (hled : ∀ l, l < zN C 4 → (zI R 126 0 l < 0 → zI C 4 l 6 = 0) ∧ (¬ zI R 126 0 l < 0 → zI C 4 l 6 = 1 ∧ zI C 4 l 7 = zI R 126 0 l ∧ zib (zI R 126 0 l) 1501 = true)) (hldn : ∀ l, l < zN C 4 → zI C 4 l 8 = zI R 127 0 l ∧ zI C 4 l 9 = zI R 129 0 l) (hlbk : ∀ l, l < zN C 4 → zR C 4 l 10 = some l ∧ zL C 24 l = 5 ∧ ∀ w, w < 4 → zI C 24 l (w + 1) = zI R 128 0 (4 * l + w)) (hldu : ∀ l, l < zN C 4 → LDu (zI R 40 0 54 + 1).toNatClampNeg (zI C 4 l 4) (zI C 4 l 5) (zI C 4 l 6) (zI C 4 l 7) (zI R 120 0 l) (zI R 124 0 l) (zI R 125 0 l)) (hlfr : ∀ l, zN C 4 ≤ l → l < 60 → zI R 127 0 l = 0 ∧ ∀ w, w < 4 → zI R 128 0 (4 * l + w) = 0) (hmac : ∀ m, m < zN C 5 → zR C 5 m 0 = some (zI R 130 0 m).toNatClampNeg ∧ zib (zI R 130 0 m) (zN C 3) = true ∧ zR C 5 m 1 = some (zI R 131 0 m).toNatClampNeg ∧ zib (zI R 131 0 m) (zN C 3) = true ∧ (zI R 130 0 m).toNatClampNeg < (zI R 131 0 m).toNatClampNeg) (hmpt : ∀ m, m < zN C 5 → zI C 5 m 2 = zI R 140 0 m) (hmas : ∀ m, m < zN C 5 → zI C 5 m 3 = zI R 136 0 m ∧ zib (zI R 136 0 m) 1501 = true) (hmst : ∀ m, m < zN C 5 → zI C 5 m 4 = zI R 132 0 m ∧ zI C 5 m 5 = zI R 137 0 m) (hmgo : ∀ m, m < zN C 5 → zI C 5 m 6 = zI R 138 0 m ∧ (zI R 138 0 m = 0 ∨ zI R 138 0 m = 1)) (hmag : ∀ m, m < zN C 5 → zI C 5 m 7 = zI R 139 0 m) (hmwy : ∀ m, m < zN C 5 → zI C 5 m 8 = zI R 133 0 m) (hmfa : ∀ m, m < zN C 5 → zI C 5 m 9 = zI R 134 0 m ∧ ¬ zI R 134 0 m < 0 ∧ zI R 134 0 m ≤ zI R 40 0 53) (hmfb : ∀ m, m < zN C 5 → (zI R 134 0 m = 0 → zR C 5 m 10 = none ∧ zI R 135 0 m = -9) ∧ (¬ zI R 134 0 m = 0 → zR C 5 m 10 = some (zI R 135 0 m).toNatClampNeg ∧ zib (zI R 135 0 m) 8 = true)) (hmop : ∀ m, m < zN C 5 → ¬ zI R 138 0 m = 0 → zI R 114 0 (zI R 130 0 m).toNatClampNeg = 0 ∧ zI R 114 0 (zI R 131 0 m).toNatClampNeg = 0) (hmdj : ∀ m m2, m < zN C 5 → m2 < zN C 5 → ¬ m = m2 → ¬ zI R 138 0 m = 0 → ¬ zI R 138 0 m2 = 0 → ¬ zI R 130 0 m = zI R 130 0 m2 ∧ ¬ zI R 130 0 m = zI R 131 0 m2 ∧ ¬ zI R 131 0 m = zI R 131 0 m2) (hmfr : ∀ m, zN C 5 ≤ m → m < 30 → zI R 132 0 m = 0 ∧ zI R 133 0 m = 0 ∧ zI R 134 0 m = 0 ∧ zI R 139 0 m = 0) (hrpf : ∀ r, r < zN C 6 → zI C 6 r 0 = zI R 142 0 r ∧ zI C 6 r 1 = zI R 143 0 r ∧ zR C 6 r 2 = some r) (hrtx : ∀ r, r < zN C 6 → RTx (zL C 25 r) (fun k => zI C 25 r k) (zI R 141 0 r) (fun k => zI R 144 0 (60 * r + k))) (htap : zI C 8 0 1 = zI R 40 0 59 ∧ zib (zI R 40 0 59) 61 = true ∧ ∀ k, k < (zI R 40 0 59).toNatClampNeg → zI C 28 0 k = zI R 157 0 k ∧ zib (zI R 157 0 k) 256 = true) (hrow : zI C 0 0 9 = zI R 40 0 55 ∧ zib (zI R 40 0 55) 9 = true ∧ ∀ k, k < (zI R 40 0 55).toNatClampNeg → zJ C 19 0 k = zJ R 109 0 k) (hsur : zI C 9 0 1 = zI R 40 0 56 ∧ zib (zI R 40 0 56) 10 = true ∧ ∀ k, k < (zI R 40 0 56).toNatClampNeg → zI C 30 0 k = zI R 145 0 k ∧ zib (zI R 145 0 k) 128 = true) (href : ∀ k, k < 7 → zI C 20 0 k = zI R 100 0 k) : Inv C R := fun k => match k with
  | 0 => hkc
  | 1 => hkr
  | 2 => hcnt
  | 3 => hmx
  | 4 => hla
  | 5 => hll
  | 6 => hlm
  | 7 => hlr
  | 8 => hal
  | 9 => hbno
  | 10 => hbfee
  | 11 => hbcap
  | 12 => hbow
  | 13 => hbdid
  | 14 => hbnet
  | 15 => hday
  | 16 => hngt
  | 17 => hdue
  | 18 => hhol
  | 19 => hlat
  | 20 => hano
  | 21 => habk
  | 22 => hanm
  | 23 => hasum
  | 24 => haov
  | 25 => hast
  | 26 => hamv
  | 27 => hano2
  | 28 => hagd
  | 29 => hakp
  | 30 => hahs
  | 31 => hafr
  | 32 => hlk
  | 33 => hlft
  | 34 => hlam
  | 35 => hled
  | 36 => hldn
  | 37 => hlbk
  | 38 => hldu
  | 39 => hlfr
  | 40 => hmac
  | 41 => hmpt
  | 42 => hmas
  | 43 => hmst
  | 44 => hmgo
  | 45 => hmag
  | 46 => hmwy
  | 47 => hmfa
  | 48 => hmfb
  | 49 => hmop
  | 50 => hmdj
  | 51 => hmfr
  | 52 => hrpf
  | 53 => hrtx
  | 54 => htap
  | 55 => hrow
  | 56 => hsur
  | 57 => href
  | (_ + 58) => trivial
end ZI
