/-! ===== the JDK's pieces, as functions ===== -/
def zl_size (p i : Nat) (S : zH) : Option Int32 := some (zI S p i 2)
def zl_get (p i : Nat) (x : Int32) (S : zH) : Option (Option Nat) :=
  Option.bind (zR S p i 1) (fun a => zgd (!(decide (x < 0)) && decide (x < zI S p i 2) && zib x (zL S (p + 4) a)) (some (zR S (p + 4) a x.toNatClampNeg)))
def zl_init (p i : Nat) (S : zH) : Option zH := zgd (decide (0 < zN S (p + 4))) (some (zsR (zsI S p i 0 0) p i 1 (some 0)))
/-- the first n references of row a go to row b -/
def zcpR (S : zH) (p a b n : Nat) : zH := (S.1, S.2.1, S.2.2.1, S.2.2.2.1, fun q j l => if q = p ∧ j = b ∧ l < n then S.2.2.2.2 p a l else S.2.2.2.2 q j l)
/-- the first n ints of row a of pool p go to row b of pool p' -/
def zcpI (S : zH) (p a p' b n : Nat) : zH := (S.1, S.2.1, fun q j l => if q = p' ∧ j = b ∧ l < n then S.2.2.1 p a l else S.2.2.1 q j l, S.2.2.2.1, S.2.2.2.2)
def zl_grow (L : Nat) : Nat := if L = 0 then 10 else L + L / 2
def zl_add (p i : Nat) (v : Option Nat) (S : zH) : Option zH :=
  Option.bind v (fun w => Option.bind (zR S p i 1) (fun a =>
    zlt (zsI S p i 0 (zI S p i 0 + 1)) (fun S1 =>
    if zI S p i 2 = Int32.ofNat (zL S (p + 4) a) then
      zgd (decide (zL S (p + 4) a ≤ 50 ∧ ¬ zL S (p + 4) a = 1 ∧ (a = 0 ↔ zL S (p + 4) a = 0))) (
      zlt (zcpR (znw S1 (p + 4) (zl_grow (zL S (p + 4) a))) (p + 4) a (zN S (p + 4)) (zL S (p + 4) a)) (fun S2 =>
      zlt (zsR S2 p i 1 (some (zN S (p + 4)))) (fun S3 =>
      zlt (zsR S3 (p + 4) (zN S (p + 4)) (zL S (p + 4) a) (some w)) (fun S4 =>
      some (zsI S4 p i 2 (zI S p i 2 + 1))))))
    else zgd (zib (zI S p i 2) (zL S (p + 4) a)) (
      zlt (zsR S1 (p + 4) a (zI S p i 2).toNatClampNeg (some w)) (fun S2 => some (zsI S2 p i 2 (zI S p i 2 + 1)))))))
def za_copy (r : Option Nat) (x : Int32) (S : zH) : Option (Nat × zH) :=
  Option.bind r (fun a => zgd (zib x (zL S 29 a) && decide (zL S 29 a ≤ 60)) (some (zN S 25, zcpI (znw S 25 x.toNatClampNeg) 29 a 25 (zN S 25) x.toNatClampNeg)))
def zix (c : Int32) : Int32 := if c = 98 then 0 else if c = 116 then 1 else if c = 115 then 2 else if c = 111 then 3 else if c = 106 then 4 else if c = 108 then 5 else if c = 110 then 6 else if c = 102 then 7 else if c = 119 then 8 else if c = 100 then 9 else -1
def zlet (x : Int32) : Int32 := zix (UInt32.toInt32 (Int32.toUInt32 x % 65536))
section ZJ
variable {G : zG} {D kc ks : Nat} {S : zH} {p i : Nat}
theorem zc_size {out : Int32} (hp : 10 ≤ p ∧ p ≤ 13) (hD : 0 ≤ D) (h : zl_size p i S = some out) : zct G M_Jx4a65c_size_8abf5 D 0 0 [vR p (some i)] S (zpo (some (vI out)) S) := sorry
theorem zc_get {x : Int32} {out : Option Nat} {q : Nat} (hp : 10 ≤ p ∧ p ≤ 13) (hq : q = p - 7) (hD : 3 ≤ D) (h : zl_get p i x S = some out) : zct G M_Jx4a65c_get_915e3 D 0 0 [vR p (some i), vI x] S (zpo (some (vR q out)) S) := sorry
theorem zc_init {out : zH} (hp : 10 ≤ p ∧ p ≤ 13) (hD : 4 ≤ D) (h : zl_init p i S = some out) : zct G M_Jx4a65c_init_da8c8 D 0 0 [vR p (some i)] S (zpo none out) := sorry
theorem zc_add {v : Option Nat} {out : zH} {q : Nat} (hp : 10 ≤ p ∧ p ≤ 13) (hq : q = p - 7) (hD : 9 ≤ D) (h : zl_add p i v S = some out) : zct G M_Jx4a65c_add_9ea2d D 1 80 [vR p (some i), vR q v] S (zpo (some (vI 1)) out) := sorry
theorem zc_copy {r : Option Nat} {x : Int32} {out : Nat × zH} (hD : 2 ≤ D) (h : za_copy r x S = some out) : zct G M_J7_copyOf_59c91 D 1 60 [vR 29 r, vI x] S (zpo (some (vR 25 (some out.1))) out.2) := sorry
theorem zn_letLen {ls : List (Nat × zV)} {st : List zV} {Post : Option zV → zH → Prop} (hd : decode cX6_init 16 = .ok (.ldc 18, 2)) (hd2 : decode cX6_init 18 = .ok (.invokevirtual 20, 3)) (h8 : (st.map zcat).sum ≤ 7) (k : zn G M_X6_init (D + 5) kc ks 21 ls (vI 10 :: st) S Post) : zn G M_X6_init (D + 5) kc ks 16 ls st S Post := sorry
theorem zn_letIx {ls : List (Nat × zV)} {st : List zV} {Post : Option zV → zH → Prop} (j : Nat) {x : Int32} (hd : decode cX8_readUnit 14 = .ok (.ldc 63, 2)) (hd2 : decode cX8_readUnit 16 = .ok (.iload_n 2, 1)) (hd3 : decode cX8_readUnit 17 = .ok (.i2c, 1)) (hd4 : decode cX8_readUnit 18 = .ok (.invokevirtual 65, 3)) (hj : ls[j]? = some (2, vI x)) (h8 : (st.map zcat).sum ≤ 6) (k : zn G M_X8_readUnit (D + 8) kc ks 21 ls (vI (zlet x) :: st) S Post) : zn G M_X8_readUnit (D + 8) kc ks 14 ls st S Post := sorry
end ZJ
