/-! ===== the two new objects ===== -/
def hC0 : zH := (fun p => if 14 ≤ p ∧ p ≤ 17 then 1 else 0, fun _ _ => 0, fun _ _ _ => 0, fun _ _ _ => 0, fun _ _ _ => none)
def hR0 : zH := (fun _ => 0, fun _ _ => 0, fun _ _ _ => 0, fun _ _ _ => 0, fun _ _ _ => none)
theorem hC1_ok : (f_X9_init 0 (znw hC0 0 0)).isSome = true := by decide +kernel
theorem hR1_ok : (f_X10_init 0 (znw hR0 40 0)).isSome = true := by decide +kernel
def hC1 : zH := (f_X9_init 0 (znw hC0 0 0)).get hC1_ok
def hR1 : zH := (f_X10_init 0 (znw hR0 40 0)).get hR1_ok
theorem hC1_eq : f_X9_init 0 (znw hC0 0 0) = some hC1 := (Option.some_get hC1_ok).symm
theorem hR1_eq : f_X10_init 0 (znw hR0 40 0) = some hR1 := (Option.some_get hR1_ok).symm
/-- all numbers of a pool are 0 -/
def Zr (q : Nat) (S : zH) : Prop := (∀ i k, zI S q i k = 0) ∧ ∀ i k, zJ S q i k = 0
theorem Zr_nw {q : Nat} {S : zH} (p n : Nat) (h : Zr q S) : Zr q (znw S p n) := by
  refine ⟨fun i k => ?_, fun i k => ?_⟩
  · rw [wI_nw]
    split
    · rfl
    · exact h.1 i k
  · rw [wJ_nw]
    split
    · rfl
    · exact h.2 i k
theorem Zr_sR {q : Nat} {S : zH} (p i k : Nat) (x : Option Nat) (h : Zr q S) : Zr q (zsR S p i k x) := ⟨fun i k => by rw [wI_sR]; exact h.1 i k, fun i k => by rw [wJ_sR]; exact h.2 i k⟩
theorem Zr_sI {q : Nat} {S : zH} (p i k : Nat) (x : Int32) (hp : ¬ q = p) (h : Zr q S) : Zr q (zsI S p i k x) := ⟨fun i k => by rw [wI_sI, if_neg (fun z => hp z.1)]; exact h.1 i k, fun i k => by rw [wJ_sI]; exact h.2 i k⟩
theorem Zr_398 {q : Nat} (hq : ¬ q = 105) : ∀ (n : Nat) (x : Int32) (S S' : zH), Zr q S → f_X10_init_398 n 0 x S = some S' → Zr q S' := by
  intro n
  induction n with
  | zero => intro x S S' h e; cases e
  | succ n ih =>
    intro x S S' h e
    rw [f_X10_init_398] at e
    split at e
    · cases e
      exact h
    · cases hr : zR S 40 0 5 with
      | none =>
        rw [hr] at e
        cases e
      | some i =>
        rw [hr, Option.bind_some] at e
        obtain ⟨_, e2⟩ := zgdd e
        exact ih _ _ S' (Zr_sI 105 i _ 99 hq h) e2
theorem Zr_0 (q : Nat) : Zr q hR0 := ⟨fun _ _ => rfl, fun _ _ => rfl⟩
theorem PZ_lt {q : Nat} {S o : zH} {f : zH → Option zH} (h : Zr q S) (e : zlt S f = some o) (k : ∀ S', Zr q S' → f S' = some o → Zr q o) : Zr q o := k S h e
theorem Zr_R1 {q : Nat} (h40 : ¬ q = 40) (h105 : ¬ q = 105) : Zr q hR1 := by
  have e0 := hR1_eq
  unfold f_X10_init at e0
  have h0 := Zr_nw 40 0 (Zr_0 q)
  refine PZ_lt (Zr_nw _ _ h0) e0 (fun S1 h1 e1 => ?_)
  clear h0 e0
  refine PZ_lt (Zr_sR _ _ _ _ h1) e1 (fun S2 h2 e2 => ?_)
  clear h1 e1
  refine PZ_lt (Zr_nw _ _ h2) e2 (fun S3 h3 e3 => ?_)
  clear h2 e2
  refine PZ_lt (Zr_sR _ _ _ _ h3) e3 (fun S4 h4 e4 => ?_)
  clear h3 e3
  refine PZ_lt (Zr_nw _ _ h4) e4 (fun S5 h5 e5 => ?_)
  clear h4 e4
  refine PZ_lt (Zr_sR _ _ _ _ h5) e5 (fun S6 h6 e6 => ?_)
  clear h5 e5
  refine PZ_lt (Zr_nw _ _ h6) e6 (fun S7 h7 e7 => ?_)
  clear h6 e6
  refine PZ_lt (Zr_sR _ _ _ _ h7) e7 (fun S8 h8 e8 => ?_)
  clear h7 e7
  refine PZ_lt (Zr_nw _ _ h8) e8 (fun S9 h9 e9 => ?_)
  clear h8 e8
  refine PZ_lt (Zr_sR _ _ _ _ h9) e9 (fun S10 h10 e10 => ?_)
  clear h9 e9
  refine PZ_lt (Zr_nw _ _ h10) e10 (fun S11 h11 e11 => ?_)
  clear h10 e10
  refine PZ_lt (Zr_sR _ _ _ _ h11) e11 (fun S12 h12 e12 => ?_)
  clear h11 e11
  refine PZ_lt (Zr_nw _ _ h12) e12 (fun S13 h13 e13 => ?_)
  clear h12 e12
  refine PZ_lt (Zr_sR _ _ _ _ h13) e13 (fun S14 h14 e14 => ?_)
  clear h13 e13
  refine PZ_lt (Zr_nw _ _ h14) e14 (fun S15 h15 e15 => ?_)
  clear h14 e14
  refine PZ_lt (Zr_sR _ _ _ _ h15) e15 (fun S16 h16 e16 => ?_)
  clear h15 e15
  refine PZ_lt (Zr_nw _ _ h16) e16 (fun S17 h17 e17 => ?_)
  clear h16 e16
  refine PZ_lt (Zr_sR _ _ _ _ h17) e17 (fun S18 h18 e18 => ?_)
  clear h17 e17
  refine PZ_lt (Zr_nw _ _ h18) e18 (fun S19 h19 e19 => ?_)
  clear h18 e18
  refine PZ_lt (Zr_sR _ _ _ _ h19) e19 (fun S20 h20 e20 => ?_)
  clear h19 e19
  refine PZ_lt (Zr_nw _ _ h20) e20 (fun S21 h21 e21 => ?_)
  clear h20 e20
  refine PZ_lt (Zr_sR _ _ _ _ h21) e21 (fun S22 h22 e22 => ?_)
  clear h21 e21
  refine PZ_lt (Zr_nw _ _ h22) e22 (fun S23 h23 e23 => ?_)
  clear h22 e22
  refine PZ_lt (Zr_sR _ _ _ _ h23) e23 (fun S24 h24 e24 => ?_)
  clear h23 e23
  refine PZ_lt (Zr_nw _ _ h24) e24 (fun S25 h25 e25 => ?_)
  clear h24 e24
  refine PZ_lt (Zr_sR _ _ _ _ h25) e25 (fun S26 h26 e26 => ?_)
  clear h25 e25
  refine PZ_lt (Zr_nw _ _ h26) e26 (fun S27 h27 e27 => ?_)
  clear h26 e26
  refine PZ_lt (Zr_sR _ _ _ _ h27) e27 (fun S28 h28 e28 => ?_)
  clear h27 e27
  refine PZ_lt (Zr_nw _ _ h28) e28 (fun S29 h29 e29 => ?_)
  clear h28 e28
  refine PZ_lt (Zr_sR _ _ _ _ h29) e29 (fun S30 h30 e30 => ?_)
  clear h29 e29
  refine PZ_lt (Zr_nw _ _ h30) e30 (fun S31 h31 e31 => ?_)
  clear h30 e30
  refine PZ_lt (Zr_sR _ _ _ _ h31) e31 (fun S32 h32 e32 => ?_)
  clear h31 e31
  refine PZ_lt (Zr_nw _ _ h32) e32 (fun S33 h33 e33 => ?_)
  clear h32 e32
  refine PZ_lt (Zr_sR _ _ _ _ h33) e33 (fun S34 h34 e34 => ?_)
  clear h33 e33
  refine PZ_lt (Zr_nw _ _ h34) e34 (fun S35 h35 e35 => ?_)
  clear h34 e34
  refine PZ_lt (Zr_sR _ _ _ _ h35) e35 (fun S36 h36 e36 => ?_)
  clear h35 e35
  refine PZ_lt (Zr_nw _ _ h36) e36 (fun S37 h37 e37 => ?_)
  clear h36 e36
  refine PZ_lt (Zr_sR _ _ _ _ h37) e37 (fun S38 h38 e38 => ?_)
  clear h37 e37
  refine PZ_lt (Zr_nw _ _ h38) e38 (fun S39 h39 e39 => ?_)
  clear h38 e38
  refine PZ_lt (Zr_sR _ _ _ _ h39) e39 (fun S40 h40 e40 => ?_)
  clear h39 e39
  refine PZ_lt (Zr_nw _ _ h40) e40 (fun S41 h41 e41 => ?_)
  clear h40 e40
  refine PZ_lt (Zr_sR _ _ _ _ h41) e41 (fun S42 h42 e42 => ?_)
  clear h41 e41
  refine PZ_lt (Zr_nw _ _ h42) e42 (fun S43 h43 e43 => ?_)
  clear h42 e42
  refine PZ_lt (Zr_sR _ _ _ _ h43) e43 (fun S44 h44 e44 => ?_)
  clear h43 e43
  refine PZ_lt (Zr_nw _ _ h44) e44 (fun S45 h45 e45 => ?_)
  clear h44 e44
  refine PZ_lt (Zr_sR _ _ _ _ h45) e45 (fun S46 h46 e46 => ?_)
  clear h45 e45
  refine PZ_lt (Zr_nw _ _ h46) e46 (fun S47 h47 e47 => ?_)
  clear h46 e46
  refine PZ_lt (Zr_sR _ _ _ _ h47) e47 (fun S48 h48 e48 => ?_)
  clear h47 e47
  refine PZ_lt (Zr_nw _ _ h48) e48 (fun S49 h49 e49 => ?_)
  clear h48 e48
  refine PZ_lt (Zr_sR _ _ _ _ h49) e49 (fun S50 h50 e50 => ?_)
  clear h49 e49
  refine PZ_lt (Zr_nw _ _ h50) e50 (fun S51 h51 e51 => ?_)
  clear h50 e50
  refine PZ_lt (Zr_sR _ _ _ _ h51) e51 (fun S52 h52 e52 => ?_)
  clear h51 e51
  refine PZ_lt (Zr_nw _ _ h52) e52 (fun S53 h53 e53 => ?_)
  clear h52 e52
  refine PZ_lt (Zr_sR _ _ _ _ h53) e53 (fun S54 h54 e54 => ?_)
  clear h53 e53
  refine PZ_lt (Zr_nw _ _ h54) e54 (fun S55 h55 e55 => ?_)
  clear h54 e54
  refine PZ_lt (Zr_sR _ _ _ _ h55) e55 (fun S56 h56 e56 => ?_)
  clear h55 e55
  refine PZ_lt (Zr_nw _ _ h56) e56 (fun S57 h57 e57 => ?_)
  clear h56 e56
  refine PZ_lt (Zr_sR _ _ _ _ h57) e57 (fun S58 h58 e58 => ?_)
  clear h57 e57
  refine PZ_lt (Zr_nw _ _ h58) e58 (fun S59 h59 e59 => ?_)
  clear h58 e58
  refine PZ_lt (Zr_sR _ _ _ _ h59) e59 (fun S60 h60 e60 => ?_)
  clear h59 e59
  refine PZ_lt (Zr_nw _ _ h60) e60 (fun S61 h61 e61 => ?_)
  clear h60 e60
  refine PZ_lt (Zr_sR _ _ _ _ h61) e61 (fun S62 h62 e62 => ?_)
  clear h61 e61
  refine PZ_lt (Zr_nw _ _ h62) e62 (fun S63 h63 e63 => ?_)
  clear h62 e62
  refine PZ_lt (Zr_sR _ _ _ _ h63) e63 (fun S64 h64 e64 => ?_)
  clear h63 e63
  refine PZ_lt (Zr_nw _ _ h64) e64 (fun S65 h65 e65 => ?_)
  clear h64 e64
  refine PZ_lt (Zr_sR _ _ _ _ h65) e65 (fun S66 h66 e66 => ?_)
  clear h65 e65
  refine PZ_lt (Zr_nw _ _ h66) e66 (fun S67 h67 e67 => ?_)
  clear h66 e66
  refine PZ_lt (Zr_sR _ _ _ _ h67) e67 (fun S68 h68 e68 => ?_)
  clear h67 e67
  refine PZ_lt (Zr_nw _ _ h68) e68 (fun S69 h69 e69 => ?_)
  clear h68 e68
  refine PZ_lt (Zr_sR _ _ _ _ h69) e69 (fun S70 h70 e70 => ?_)
  clear h69 e69
  refine PZ_lt (Zr_nw _ _ h70) e70 (fun S71 h71 e71 => ?_)
  clear h70 e70
  refine PZ_lt (Zr_sR _ _ _ _ h71) e71 (fun S72 h72 e72 => ?_)
  clear h71 e71
  refine PZ_lt (Zr_nw _ _ h72) e72 (fun S73 h73 e73 => ?_)
  clear h72 e72
  refine PZ_lt (Zr_sR _ _ _ _ h73) e73 (fun S74 h74 e74 => ?_)
  clear h73 e73
  refine PZ_lt (Zr_nw _ _ h74) e74 (fun S75 h75 e75 => ?_)
  clear h74 e74
  refine PZ_lt (Zr_sR _ _ _ _ h75) e75 (fun S76 h76 e76 => ?_)
  clear h75 e75
  refine PZ_lt (Zr_nw _ _ h76) e76 (fun S77 h77 e77 => ?_)
  clear h76 e76
  refine PZ_lt (Zr_sR _ _ _ _ h77) e77 (fun S78 h78 e78 => ?_)
  clear h77 e77
  refine PZ_lt (Zr_nw _ _ h78) e78 (fun S79 h79 e79 => ?_)
  clear h78 e78
  refine PZ_lt (Zr_sR _ _ _ _ h79) e79 (fun S80 h80 e80 => ?_)
  clear h79 e79
  refine PZ_lt (Zr_nw _ _ h80) e80 (fun S81 h81 e81 => ?_)
  clear h80 e80
  refine PZ_lt (Zr_sR _ _ _ _ h81) e81 (fun S82 h82 e82 => ?_)
  clear h81 e81
  refine PZ_lt (Zr_nw _ _ h82) e82 (fun S83 h83 e83 => ?_)
  clear h82 e82
  refine PZ_lt (Zr_sR _ _ _ _ h83) e83 (fun S84 h84 e84 => ?_)
  clear h83 e83
  refine PZ_lt (Zr_nw _ _ h84) e84 (fun S85 h85 e85 => ?_)
  clear h84 e84
  refine PZ_lt (Zr_sR _ _ _ _ h85) e85 (fun S86 h86 e86 => ?_)
  clear h85 e85
  refine PZ_lt (Zr_nw _ _ h86) e86 (fun S87 h87 e87 => ?_)
  clear h86 e86
  refine PZ_lt (Zr_sR _ _ _ _ h87) e87 (fun S88 h88 e88 => ?_)
  clear h87 e87
  refine PZ_lt (Zr_nw _ _ h88) e88 (fun S89 h89 e89 => ?_)
  clear h88 e88
  refine PZ_lt (Zr_sR _ _ _ _ h89) e89 (fun S90 h90 e90 => ?_)
  clear h89 e89
  refine PZ_lt (Zr_nw _ _ h90) e90 (fun S91 h91 e91 => ?_)
  clear h90 e90
  refine PZ_lt (Zr_sR _ _ _ _ h91) e91 (fun S92 h92 e92 => ?_)
  clear h91 e91
  refine PZ_lt (Zr_sI _ _ _ _ h40 h92) e92 (fun S93 h93 e93 => ?_)
  clear h92 e92
  refine PZ_lt (Zr_nw _ _ h93) e93 (fun S94 h94 e94 => ?_)
  clear h93 e93
  refine PZ_lt (Zr_sR _ _ _ _ h94) e94 (fun S95 h95 e95 => ?_)
  clear h94 e94
  refine PZ_lt (Zr_nw _ _ h95) e95 (fun S96 h96 e96 => ?_)
  clear h95 e95
  refine PZ_lt (Zr_sR _ _ _ _ h96) e96 (fun S97 h97 e97 => ?_)
  clear h96 e96
  exact Zr_398 h105 _ _ _ _ h97 e97
theorem n_C1 : zN hC1 3 = 0 ∧ zN hC1 4 = 0 ∧ zN hC1 5 = 0 ∧ zN hC1 6 = 0 := by decide +kernel
theorem k_C1 : KC hC1 := by
  unfold KC
  decide +kernel
theorem k_R1 : KR hR1 := by
  unfold KR
  exact ⟨by decide +kernel, by decide +kernel, by decide +kernel, by decide +kernel, by decide +kernel, by decide +kernel, by decide +kernel, by decide +kernel, by decide +kernel, by decide +kernel, by decide +kernel, by decide +kernel, by decide +kernel, by decide +kernel, by decide +kernel, by decide +kernel, by decide +kernel, by decide +kernel, by decide +kernel, by decide +kernel, by decide +kernel, by decide +kernel, by decide +kernel, by decide +kernel, by decide +kernel, by decide +kernel, by decide +kernel, by decide +kernel, by decide +kernel, by decide +kernel, by decide +kernel, by decide +kernel, by decide +kernel, by decide +kernel, by decide +kernel, by decide +kernel, by decide +kernel, by decide +kernel, by decide +kernel, by decide +kernel, by decide +kernel, by decide +kernel, by decide +kernel, by decide +kernel, by decide +kernel, by decide +kernel, by decide +kernel, by decide +kernel, by decide +kernel, by decide +kernel, by decide +kernel, by decide +kernel, by decide +kernel, by decide +kernel, by decide +kernel, by decide +kernel, by decide +kernel, by decide +kernel, by decide +kernel, by decide +kernel, by decide +kernel, by decide +kernel, by decide +kernel, by decide +kernel, by decide +kernel, by decide +kernel, by decide +kernel, by decide +kernel, by decide +kernel, by decide +kernel, by decide +kernel, by decide +kernel, by decide +kernel, by decide +kernel, by decide +kernel, by decide +kernel, by decide +kernel, by decide +kernel, by decide +kernel, by decide +kernel, by decide +kernel, by decide +kernel, by decide +kernel, by decide +kernel, by decide +kernel, by decide +kernel, by decide +kernel, by decide +kernel, by decide +kernel, by decide +kernel, by decide +kernel, by decide +kernel, by decide +kernel, by decide +kernel, by decide +kernel, by decide +kernel⟩
theorem z_C21 : ∀ d, d < 1501 → zI hC1 21 0 d = 0 := by decide +kernel
theorem z_C22 : ∀ d, d < 1501 → zI hC1 22 0 d = 0 := by decide +kernel
theorem in_cnt : zI hR1 40 0 49 = nI (zN hC1 3) ∧ zI hR1 40 0 50 = nI (zN hC1 4) ∧ zI hR1 40 0 51 = nI (zN hC1 5) ∧ zI hR1 40 0 52 = nI (zN hC1 6) := by decide +kernel
theorem in_mx : zN hC1 3 ≤ 40 ∧ zN hC1 4 ≤ 60 ∧ zN hC1 5 ≤ 30 ∧ zN hC1 6 ≤ 30 := by decide +kernel
theorem in_al : zN hC1 23 = zN hC1 3 ∧ zN hC1 24 = zN hC1 4 ∧ zN hC1 25 = zN hC1 6 ∧ 0 < zN hC1 0 ∧ 0 < zN hR1 40 := by decide +kernel
theorem in_bno : ∀ b, b < 8 → zR hC1 18 0 b = some b ∧ zI hC1 2 b 0 = nI b := by decide +kernel
theorem in_bfee : ∀ b, b < 8 → zI hC1 2 b 1 = zI hR1 104 0 b ∧ zib (zI hR1 104 0 b) 1000 = true := by decide +kernel
theorem in_bcap : ∀ b, b < 8 → zI hC1 2 b 2 = zI hR1 105 0 b := by decide +kernel
theorem in_bow : ∀ b, b < 8 → zI hC1 2 b 3 = zI hR1 106 0 b ∧ zib (zI hR1 106 0 b) 1000000001 = true := by decide +kernel
theorem in_bdid : ∀ b, b < 8 → zI hC1 2 b 4 = zI hR1 107 0 b := by decide +kernel
theorem in_bnet : ∀ b, b < 8 → zJ hC1 2 b 5 = zJ hR1 108 0 b := by decide +kernel
theorem in_day : zI hC1 1 0 4 = zI hR1 40 0 46 ∧ zib (zI hR1 40 0 46) 1501 = true := by decide +kernel
theorem in_ngt : zI hC1 1 0 5 = zI hR1 40 0 53 ∧ ¬ zI hR1 40 0 53 < 0 ∧ zI hR1 40 0 53 ≤ zI hR1 40 0 46 := by decide +kernel
theorem in_due : zI hC1 1 0 6 = zI hR1 40 0 54 + 1 ∧ ¬ zI hR1 40 0 54 + 1 < 0 ∧ zI hR1 40 0 54 + 1 ≤ zI hR1 40 0 46 := by decide +kernel
theorem in_ref : ∀ k, k < 7 → zI hC1 20 0 k = zI hR1 100 0 k := by decide +kernel
theorem in_la : LO hC1 10 0 := ⟨0, by decide +kernel, by decide +kernel, Nat.zero_le _, by decide +kernel, by decide +kernel, fun i hi => absurd hi (Nat.not_lt_zero _), by decide +kernel⟩
theorem in_ll : LO hC1 11 0 := ⟨0, by decide +kernel, by decide +kernel, Nat.zero_le _, by decide +kernel, by decide +kernel, fun i hi => absurd hi (Nat.not_lt_zero _), by decide +kernel⟩
theorem in_lm : LO hC1 12 0 := ⟨0, by decide +kernel, by decide +kernel, Nat.zero_le _, by decide +kernel, by decide +kernel, fun i hi => absurd hi (Nat.not_lt_zero _), by decide +kernel⟩
theorem in_lr : LO hC1 13 0 := ⟨0, by decide +kernel, by decide +kernel, Nat.zero_le _, by decide +kernel, by decide +kernel, fun i hi => absurd hi (Nat.not_lt_zero _), by decide +kernel⟩
theorem c_1 : zI hC1 1 0 2 = zI hR1 40 0 47 ∧ zI hR1 40 0 47 = 0 ∧ zI hC1 1 0 3 = zI hR1 40 0 48 ∧ zI hR1 40 0 48 = 0 ∧ zI hC1 8 0 1 = zI hR1 40 0 59 ∧ zI hR1 40 0 59 = 0 ∧ zI hC1 0 0 9 = zI hR1 40 0 55 ∧ zI hR1 40 0 55 = 0 ∧ zI hC1 9 0 1 = zI hR1 40 0 56 ∧ zI hR1 40 0 56 = 0 := by decide +kernel
theorem Inv_1 : Inv hC1 hR1 := by
  obtain ⟨n3, n4, n5, n6⟩ := n_C1
  obtain ⟨c1, c2, c3, c4, c5, c6, c7, c8, c9, c10⟩ := c_1
  have z : ∀ q, ¬ q = 40 → ¬ q = 105 → Zr q hR1 := fun q a b => Zr_R1 a b
  refine Inv_mk ?hkc ?hkr ?hcnt ?hmx ?hla ?hll ?hlm ?hlr ?hal ?hbno ?hbfee ?hbcap ?hbow ?hbdid ?hbnet ?hday ?hngt ?hdue ?hhol ?hlat ?hano ?habk ?hanm ?hasum ?haov ?hast ?hamv ?hano2 ?hagd ?hakp ?hahs ?hafr ?hlk ?hlft ?hlam ?hled ?hldn ?hlbk ?hldu ?hlfr ?hmac ?hmpt ?hmas ?hmst ?hmgo ?hmag ?hmwy ?hmfa ?hmfb ?hmop ?hmdj ?hmfr ?hrpf ?hrtx ?htap ?hrow ?hsur ?href
  case hkc => exact k_C1
  case hkr => exact k_R1
  case hcnt => exact in_cnt
  case hmx => exact in_mx
  case hla => rw [n3]; exact in_la
  case hll => rw [n4]; exact in_ll
  case hlm => rw [n5]; exact in_lm
  case hlr => rw [n6]; exact in_lr
  case hal => exact in_al
  case hbno => exact in_bno
  case hbfee => exact in_bfee
  case hbcap => exact in_bcap
  case hbow => exact in_bow
  case hbdid => exact in_bdid
  case hbnet => exact in_bnet
  case hday => exact in_day
  case hngt => exact in_ngt
  case hdue => exact in_due
  case hhol => exact ⟨c1, by rw [c2]; decide, fun k hk => absurd hk (by rw [c2]; exact Nat.not_lt_zero _), fun d hd => ⟨fun h => absurd (z_C21 d hd) h, fun ⟨k, hk, _⟩ => absurd hk (by rw [c2]; exact Nat.not_lt_zero _)⟩⟩
  case hlat => exact ⟨c3, by rw [c4]; decide, fun k hk => absurd hk (by rw [c4]; exact Nat.not_lt_zero _), fun d b hd hb => ⟨fun h => by rw [z_C22 d hd] at h; exact absurd h (by have : ∀ b, b < 8 → ¬ ((0 : Int32) >>> (nI b &&& 31)) &&& 1 = 1 := by decide +kernel
                                                                                                                                                                                  exact this b hb), fun ⟨k, hk, _⟩ => absurd hk (by rw [c4]; exact Nat.not_lt_zero _)⟩⟩
  case hano => exact fun i hi => absurd hi (by rw [n3]; exact Nat.not_lt_zero _)
  case habk => exact fun i hi => absurd hi (by rw [n3]; exact Nat.not_lt_zero _)
  case hanm => exact fun i hi => absurd hi (by rw [n3]; exact Nat.not_lt_zero _)
  case hasum => exact fun i hi => absurd hi (by rw [n3]; exact Nat.not_lt_zero _)
  case haov => exact fun i hi => absurd hi (by rw [n3]; exact Nat.not_lt_zero _)
  case hast => exact fun i hi => absurd hi (by rw [n3]; exact Nat.not_lt_zero _)
  case hamv => exact fun i hi => absurd hi (by rw [n3]; exact Nat.not_lt_zero _)
  case hano2 => exact fun i hi => absurd hi (by rw [n3]; exact Nat.not_lt_zero _)
  case hagd => exact fun i hi => absurd hi (by rw [n3]; exact Nat.not_lt_zero _)
  case hakp => exact fun i hi => absurd hi (by rw [n3]; exact Nat.not_lt_zero _)
  case hahs => exact fun i hi => absurd hi (by rw [n3]; exact Nat.not_lt_zero _)
  case hafr => exact fun i _ _ => ⟨(z 113 (by decide) (by decide)).1 _ _, (z 114 (by decide) (by decide)).1 _ _, (z 117 (by decide) (by decide)).1 _ _, (z 118 (by decide) (by decide)).2 _ _, fun d _ => (z 119 (by decide) (by decide)).2 _ _⟩
  case hlk => exact fun i hi => absurd hi (by rw [n4]; exact Nat.not_lt_zero _)
  case hlft => exact fun i hi => absurd hi (by rw [n4]; exact Nat.not_lt_zero _)
  case hlam => exact fun i hi => absurd hi (by rw [n4]; exact Nat.not_lt_zero _)
  case hled => exact fun i hi => absurd hi (by rw [n4]; exact Nat.not_lt_zero _)
  case hldn => exact fun i hi => absurd hi (by rw [n4]; exact Nat.not_lt_zero _)
  case hlbk => exact fun i hi => absurd hi (by rw [n4]; exact Nat.not_lt_zero _)
  case hldu => exact fun i hi => absurd hi (by rw [n4]; exact Nat.not_lt_zero _)
  case hlfr => exact fun l _ _ => ⟨(z 127 (by decide) (by decide)).1 _ _, fun w _ => (z 128 (by decide) (by decide)).1 _ _⟩
  case hmac => exact fun i hi => absurd hi (by rw [n5]; exact Nat.not_lt_zero _)
  case hmpt => exact fun i hi => absurd hi (by rw [n5]; exact Nat.not_lt_zero _)
  case hmas => exact fun i hi => absurd hi (by rw [n5]; exact Nat.not_lt_zero _)
  case hmst => exact fun i hi => absurd hi (by rw [n5]; exact Nat.not_lt_zero _)
  case hmgo => exact fun i hi => absurd hi (by rw [n5]; exact Nat.not_lt_zero _)
  case hmag => exact fun i hi => absurd hi (by rw [n5]; exact Nat.not_lt_zero _)
  case hmwy => exact fun i hi => absurd hi (by rw [n5]; exact Nat.not_lt_zero _)
  case hmfa => exact fun i hi => absurd hi (by rw [n5]; exact Nat.not_lt_zero _)
  case hmfb => exact fun i hi => absurd hi (by rw [n5]; exact Nat.not_lt_zero _)
  case hmop => exact fun i hi => absurd hi (by rw [n5]; exact Nat.not_lt_zero _)
  case hmdj => exact fun i j hi => absurd hi (by rw [n5]; exact Nat.not_lt_zero _)
  case hmfr => exact fun m _ _ => ⟨(z 132 (by decide) (by decide)).1 _ _, (z 133 (by decide) (by decide)).1 _ _, (z 134 (by decide) (by decide)).1 _ _, (z 139 (by decide) (by decide)).1 _ _⟩
  case hrpf => exact fun i hi => absurd hi (by rw [n6]; exact Nat.not_lt_zero _)
  case hrtx => exact fun i hi => absurd hi (by rw [n6]; exact Nat.not_lt_zero _)
  case htap => exact ⟨c5, by rw [c6]; decide, fun k hk => absurd hk (by rw [c6]; exact Nat.not_lt_zero _)⟩
  case hrow => exact ⟨c7, by rw [c8]; decide, fun k hk => absurd hk (by rw [c8]; exact Nat.not_lt_zero _)⟩
  case hsur => exact ⟨c9, by rw [c10]; decide, fun k hk => absurd hk (by rw [c10]; exact Nat.not_lt_zero _)⟩
  case href => exact in_ref
