theorem c_X5_hold {G : zG} {x0 : Int64} {S : zH} {out : Int64} (h0 : f_X5_hold x0 S = some out) : zct G M_X5_hold 0 0 0 [vJ x0] S (zpo (some (vJ out)) S) := by
  refine zct_of (by decide) (Nat.le_of_ble_eq_true rfl) ?_
  show zn G M_X5_hold 0 0 0 0 [(0, vJ x0)] [] S _
  have hp : zpo (some (vJ out)) S (some (vJ out)) S := ⟨rfl, rfl⟩
  unfold f_X5_hold at h0
  refine zn_lload_n (pc := 0) 0 dX5_hold_0 rfl rfl ?_
  refine zn_ldc2 (pc := 1) dX5_hold_1 w2_X5_31 ?_
  refine zn_lcmp (pc := 4) dX5_hold_4 ?_
  have h2 := h0; clear h0
  refine zn_if_le (pc := 5) (tgt := 14) dX5_hold_5 (by decide) (fun c1 => ?_) (fun c1 => ?_)
  · replace h2 := zif_t c1 h2
    refine zn_lload_n (pc := 14) 0 dX5_hold_14 rfl rfl ?_
    refine zn_ldc2 (pc := 15) dX5_hold_15 w2_X5_33 ?_
    refine zn_lcmp (pc := 18) dX5_hold_18 ?_
    have h4 := h2; clear h2
    refine zn_if_ge (pc := 19) (tgt := 28) dX5_hold_19 (by decide) (fun c3 => ?_) (fun c3 => ?_)
    · replace h4 := zif_t c3 h4
      refine zn_lload_n (pc := 28) 0 dX5_hold_28 rfl rfl ?_
      have hz := Option.some.inj h4; clear h4; subst hz
      exact zn_lreturn (pc := 29) dX5_hold_29 rfl hp
    · replace h4 := zif_f c3 h4
      refine zn_ldc2 (pc := 22) dX5_hold_22 w2_X5_33 ?_
      refine zn_goto (pc := 25) (tgt := 29) dX5_hold_25 (by decide) ?_
      have hz := Option.some.inj h4; clear h4; subst hz
      exact zn_lreturn (pc := 29) dX5_hold_29 rfl hp
  · replace h2 := zif_f c1 h2
    refine zn_ldc2 (pc := 8) dX5_hold_8 w2_X5_31 ?_
    refine zn_goto (pc := 11) (tgt := 29) dX5_hold_11 (by decide) ?_
    have hz := Option.some.inj h2; clear h2; subst hz
    exact zn_lreturn (pc := 29) dX5_hold_29 rfl hp
theorem b_X5_worth_5 {G : zG} {Post : Option zV → zH → Prop} : ∀ (n : Nat) (i0 : Nat) (r1 : Option Nat) (r2 : Option Nat) (x3 : Int32) (x4 : Int32) (S : zH) (out : (Int64 × zH)), f_X5_worth_5 n i0 r1 r2 x3 x4 S = some out → Post (some (vJ out.1)) out.2 → zn G M_X5_worth 1 0 0 5 [(0, vR 6 (some i0)), (1, vR 26 r1), (2, vR 27 r2), (3, vI x3), (4, vI x4)] [] S Post := by
  intro n
  induction n with
  | zero => intro i0 r1 r2 x3 x4 S out h0 hp; exact (nomatch (show (none : Option _) = some out from h0))
  | succ n ih =>
    intro i0 r1 r2 x3 x4 S out h0 hp
    rw [f_X5_worth_5] at h0
    refine zn_iload (pc := 5) 4 dX5_worth_5 rfl ?_
    refine zn_aload_n (pc := 7) 0 dX5_worth_7 rfl rfl ?_
    refine zn_getR (pc := 8) fa_X5_18_6.1 fa_X5_18_6.2 dX5_worth_8 ?_
    obtain ⟨i1, hi2, h3⟩ := zbd h0; clear h0
    rw [hi2]
    refine zn_alen (pc := 11) zk_25 rfl dX5_worth_11 ?_
    have h5 := h3; clear h3
    refine zn_icmp_ge (pc := 12) (tgt := 118) dX5_worth_12 (by decide) (fun c4 => ?_) (fun c4 => ?_)
    · replace h5 := zif_t c4 h5
      refine zn_iload_n (pc := 118) 3 dX5_worth_118 rfl rfl ?_
      have h7 := h5; clear h5
      refine zn_if_le (pc := 119) (tgt := 136) dX5_worth_119 (by decide) (fun c6 => ?_) (fun c6 => ?_)
      · replace h7 := zif_t c6 h7
        refine zn_lconst (pc := 136) (x := 0) dX5_worth_136 (by decide) ?_
        have hz := Option.some.inj h7; clear h7; subst hz
        exact zn_lreturn (pc := 137) dX5_worth_137 rfl hp
      · replace h7 := zif_f c6 h7
        refine zn_iload_n (pc := 122) 3 dX5_worth_122 rfl rfl ?_
        refine zn_aload_n (pc := 123) 2 dX5_worth_123 rfl rfl ?_
        obtain ⟨i8, hi9, h10⟩ := zbd h7; clear h7
        rw [hi9]
        refine zn_alen (pc := 124) zk_27 rfl dX5_worth_124 ?_
        have h12 := h10; clear h10
        refine zn_icmp_gt (pc := 125) (tgt := 136) dX5_worth_125 (by decide) (fun c11 => ?_) (fun c11 => ?_)
        · replace h12 := zif_t c11 h12
          refine zn_lconst (pc := 136) (x := 0) dX5_worth_136 (by decide) ?_
          have hz := Option.some.inj h12; clear h12; subst hz
          exact zn_lreturn (pc := 137) dX5_worth_137 rfl hp
        · replace h12 := zif_f c11 h12
          refine zn_aload_n (pc := 128) 2 dX5_worth_128 rfl rfl ?_
          refine zn_iload_n (pc := 129) 3 dX5_worth_129 rfl rfl ?_
          refine zn_iconst (pc := 130) (x := 1) dX5_worth_130 (by decide) ?_
          refine zn_isub (pc := 131) dX5_worth_131 ?_
          obtain ⟨hb13, h14⟩ := zgdd h12; clear h12
          refine zn_laload (pc := 132) zk_27 dX5_worth_132 (zib_in hb13) ?_
          refine zn_goto (pc := 133) (tgt := 137) dX5_worth_133 (by decide) ?_
          have hz := Option.some.inj h14; clear h14; subst hz
          exact zn_lreturn (pc := 137) dX5_worth_137 rfl hp
    · replace h5 := zif_f c4 h5
      refine zn_aload_n (pc := 15) 0 dX5_worth_15 rfl rfl ?_
      refine zn_getR (pc := 16) fa_X5_18_6.1 fa_X5_18_6.2 dX5_worth_16 ?_
      refine zn_iload (pc := 19) 4 dX5_worth_19 rfl ?_
      obtain ⟨i15, hi16, h17⟩ := zbd h5; clear h5
      rw [hi16]
      obtain ⟨hb18, h19⟩ := zgdd h17; clear h17
      refine zn_iaload (pc := 21) zk_25 dX5_worth_21 (zib_in hb18) ?_
      refine zn_istore (pc := 22) (ls' := [(5, vI (zI S 25 i15 (Int32.toNatClampNeg x4))), (0, vR 6 (some i0)), (1, vR 26 r1), (2, vR 27 r2), (3, vI x3), (4, vI x4)]) dX5_worth_22 (Nat.le_of_ble_eq_true rfl) rfl ?_
      refine zn_iload (pc := 24) 0 dX5_worth_24 rfl ?_
      have h21 := h19; clear h19
      refine zn_if_ge (pc := 26) (tgt := 68) dX5_worth_26 (by decide) (fun c20 => ?_) (fun c20 => ?_)
      · replace h21 := zif_t c20 h21
        refine zn_iload_n (pc := 68) 4 dX5_worth_68 rfl rfl ?_
        refine zn_aload_n (pc := 69) 3 dX5_worth_69 rfl rfl ?_
        obtain ⟨i22, hi23, h24⟩ := zbd h21; clear h21
        rw [hi23]
        refine zn_alen (pc := 70) zk_27 rfl dX5_worth_70 ?_
        have h26 := h24; clear h24
        refine zn_icmp_ge (pc := 71) (tgt := 112) dX5_worth_71 (by decide) (fun c25 => ?_) (fun c25 => ?_)
        · replace h26 := zif_t c25 h26
          refine zn_iinc (pc := 112) 5 (y := x4 + 1) (ls' := [(4, vI (x4 + 1)), (5, vI (zI S 25 i15 (Int32.toNatClampNeg x4))), (0, vR 6 (some i0)), (1, vR 26 r1), (2, vR 27 (some i22)), (3, vI x3)]) dX5_worth_112 rfl rfl (Nat.le_of_ble_eq_true rfl) rfl ?_
          refine zn_goto (pc := 115) (tgt := 5) dX5_worth_115 (by decide) ?_
          refine zn_pick [2, 3, 4, 5, 0] rfl ?_
          exact ih _ _ _ _ _ _ _ h26 hp
        · replace h26 := zif_f c25 h26
          refine zn_iload (pc := 74) 0 dX5_worth_74 rfl ?_
          refine zn_ldc (pc := 76) dX5_worth_76 w1_X5_30 ?_
          refine zn_isub (pc := 78) dX5_worth_78 ?_
          refine zn_istore (pc := 79) (ls' := [(6, vI ((zI S 25 i15 (Int32.toNatClampNeg x4)) - 100000)), (5, vI (zI S 25 i15 (Int32.toNatClampNeg x4))), (0, vR 6 (some i0)), (1, vR 26 r1), (2, vR 27 (some i22)), (3, vI x3), (4, vI x4)]) dX5_worth_79 (Nat.le_of_ble_eq_true rfl) rfl ?_
          refine zn_aload_n (pc := 81) 4 dX5_worth_81 rfl rfl ?_
          refine zn_iload_n (pc := 82) 5 dX5_worth_82 rfl rfl ?_
          refine zn_iload (pc := 83) 0 dX5_worth_83 rfl ?_
          have h28 := h26; clear h26
          refine zn_if_lt (pc := 85) (tgt := 105) dX5_worth_85 (by decide) (fun c27 => ?_) (fun c27 => ?_)
          · replace h28 := zif_t c27 h28
            refine zn_iload (pc := 105) 1 dX5_worth_105 rfl ?_
            refine zn_i2l (pc := 107) dX5_worth_107 ?_
            obtain ⟨hb29, h30⟩ := zgdd h28; clear h28
            obtain ⟨S31, hS32, h33⟩ := zltd h30; clear h30
            refine zn_lastore (pc := 108) zk_27 dX5_worth_108 (zib_in hb29) hS32 ?_
            refine zn_iinc (pc := 109) 5 (y := x3 + 1) (ls' := [(3, vI (x3 + 1)), (6, vI ((zI S 25 i15 (Int32.toNatClampNeg x4)) - 100000)), (5, vI (zI S 25 i15 (Int32.toNatClampNeg x4))), (0, vR 6 (some i0)), (1, vR 26 r1), (2, vR 27 (some i22)), (4, vI x4)]) dX5_worth_109 rfl rfl (Nat.le_of_ble_eq_true rfl) rfl ?_
            refine zn_iinc (pc := 112) 6 (y := x4 + 1) (ls' := [(4, vI (x4 + 1)), (3, vI (x3 + 1)), (6, vI ((zI S 25 i15 (Int32.toNatClampNeg x4)) - 100000)), (5, vI (zI S 25 i15 (Int32.toNatClampNeg x4))), (0, vR 6 (some i0)), (1, vR 26 r1), (2, vR 27 (some i22))]) dX5_worth_112 rfl rfl (Nat.le_of_ble_eq_true rfl) rfl ?_
            refine zn_goto (pc := 115) (tgt := 5) dX5_worth_115 (by decide) ?_
            refine zn_pick [4, 5, 6, 1, 0] rfl ?_
            exact ih _ _ _ _ _ _ _ h33 hp
          · replace h28 := zif_f c27 h28
            refine zn_iload (pc := 88) 0 dX5_worth_88 rfl ?_
            refine zn_aload_n (pc := 90) 3 dX5_worth_90 rfl rfl ?_
            obtain ⟨i34, hi35, h36⟩ := zbd h28; clear h28
            rw [hi35]
            refine zn_alen (pc := 91) zk_26 rfl dX5_worth_91 ?_
            have h38 := h36; clear h36
            refine zn_icmp_ge (pc := 92) (tgt := 105) dX5_worth_92 (by decide) (fun c37 => ?_) (fun c37 => ?_)
            · replace h38 := zif_t c37 h38
              refine zn_iload (pc := 105) 1 dX5_worth_105 rfl ?_
              refine zn_i2l (pc := 107) dX5_worth_107 ?_
              obtain ⟨hb39, h40⟩ := zgdd h38; clear h38
              obtain ⟨S41, hS42, h43⟩ := zltd h40; clear h40
              refine zn_lastore (pc := 108) zk_27 dX5_worth_108 (zib_in hb39) hS42 ?_
              refine zn_iinc (pc := 109) 5 (y := x3 + 1) (ls' := [(3, vI (x3 + 1)), (6, vI ((zI S 25 i15 (Int32.toNatClampNeg x4)) - 100000)), (5, vI (zI S 25 i15 (Int32.toNatClampNeg x4))), (0, vR 6 (some i0)), (1, vR 26 (some i34)), (2, vR 27 (some i22)), (4, vI x4)]) dX5_worth_109 rfl rfl (Nat.le_of_ble_eq_true rfl) rfl ?_
              refine zn_iinc (pc := 112) 6 (y := x4 + 1) (ls' := [(4, vI (x4 + 1)), (3, vI (x3 + 1)), (6, vI ((zI S 25 i15 (Int32.toNatClampNeg x4)) - 100000)), (5, vI (zI S 25 i15 (Int32.toNatClampNeg x4))), (0, vR 6 (some i0)), (1, vR 26 (some i34)), (2, vR 27 (some i22))]) dX5_worth_112 rfl rfl (Nat.le_of_ble_eq_true rfl) rfl ?_
              refine zn_goto (pc := 115) (tgt := 5) dX5_worth_115 (by decide) ?_
              refine zn_pick [4, 5, 6, 1, 0] rfl ?_
              exact ih _ _ _ _ _ _ _ h43 hp
            · replace h38 := zif_f c37 h38
              refine zn_aload_n (pc := 95) 3 dX5_worth_95 rfl rfl ?_
              refine zn_iload (pc := 96) 0 dX5_worth_96 rfl ?_
              obtain ⟨hb44, h45⟩ := zgdd h38; clear h38
              refine zn_laload (pc := 98) zk_26 dX5_worth_98 (zib_in hb44) ?_
              obtain ⟨o46, e47, h48⟩ := zbd h45; clear h45
              refine zn_cSv (pc := 99) (kc := 0) (ks := 0) (kc' := 0) (ks' := 0) (As := [vJ (zJ S 26 i34 (Int32.toNatClampNeg ((zI S 25 i15 (Int32.toNatClampNeg x4)) - 100000)))]) (st := [vI x3, vR 27 (some i22)]) dX5_worth_99 cs_X5_26 rfl rfl (Nat.le_of_ble_eq_true rfl) ((c_X5_hold e47).mono (Nat.le_of_ble_eq_true rfl)) ?_
              refine zn_goto (pc := 102) (tgt := 108) dX5_worth_102 (by decide) ?_
              obtain ⟨hb49, h50⟩ := zgdd h48; clear h48
              obtain ⟨S51, hS52, h53⟩ := zltd h50; clear h50
              refine zn_lastore (pc := 108) zk_27 dX5_worth_108 (zib_in hb49) hS52 ?_
              refine zn_iinc (pc := 109) 5 (y := x3 + 1) (ls' := [(3, vI (x3 + 1)), (6, vI ((zI S 25 i15 (Int32.toNatClampNeg x4)) - 100000)), (5, vI (zI S 25 i15 (Int32.toNatClampNeg x4))), (0, vR 6 (some i0)), (1, vR 26 (some i34)), (2, vR 27 (some i22)), (4, vI x4)]) dX5_worth_109 rfl rfl (Nat.le_of_ble_eq_true rfl) rfl ?_
              refine zn_iinc (pc := 112) 6 (y := x4 + 1) (ls' := [(4, vI (x4 + 1)), (3, vI (x3 + 1)), (6, vI ((zI S 25 i15 (Int32.toNatClampNeg x4)) - 100000)), (5, vI (zI S 25 i15 (Int32.toNatClampNeg x4))), (0, vR 6 (some i0)), (1, vR 26 (some i34)), (2, vR 27 (some i22))]) dX5_worth_112 rfl rfl (Nat.le_of_ble_eq_true rfl) rfl ?_
              refine zn_goto (pc := 115) (tgt := 5) dX5_worth_115 (by decide) ?_
              refine zn_pick [4, 5, 6, 1, 0] rfl ?_
              exact ih _ _ _ _ _ _ _ h53 hp
      · replace h21 := zif_f c20 h21
        refine zn_iload_n (pc := 29) 4 dX5_worth_29 rfl rfl ?_
        refine zn_iconst (pc := 30) (x := 2) dX5_worth_30 (by decide) ?_
        have h55 := h21; clear h21
        refine zn_icmp_lt (pc := 31) (tgt := 112) dX5_worth_31 (by decide) (fun c54 => ?_) (fun c54 => ?_)
        · replace h55 := zif_t c54 h55
          refine zn_iinc (pc := 112) 5 (y := x4 + 1) (ls' := [(4, vI (x4 + 1)), (5, vI (zI S 25 i15 (Int32.toNatClampNeg x4))), (0, vR 6 (some i0)), (1, vR 26 r1), (2, vR 27 r2), (3, vI x3)]) dX5_worth_112 rfl rfl (Nat.le_of_ble_eq_true rfl) rfl ?_
          refine zn_goto (pc := 115) (tgt := 5) dX5_worth_115 (by decide) ?_
          refine zn_pick [2, 3, 4, 5, 0] rfl ?_
          exact ih _ _ _ _ _ _ _ h55 hp
        · replace h55 := zif_f c54 h55
          refine zn_iload_n (pc := 34) 4 dX5_worth_34 rfl rfl ?_
          refine zn_aload_n (pc := 35) 3 dX5_worth_35 rfl rfl ?_
          obtain ⟨i56, hi57, h58⟩ := zbd h55; clear h55
          rw [hi57]
          refine zn_alen (pc := 36) zk_27 rfl dX5_worth_36 ?_
          have h60 := h58; clear h58
          refine zn_icmp_gt (pc := 37) (tgt := 112) dX5_worth_37 (by decide) (fun c59 => ?_) (fun c59 => ?_)
          · replace h60 := zif_t c59 h60
            refine zn_iinc (pc := 112) 5 (y := x4 + 1) (ls' := [(4, vI (x4 + 1)), (5, vI (zI S 25 i15 (Int32.toNatClampNeg x4))), (0, vR 6 (some i0)), (1, vR 26 r1), (2, vR 27 (some i56)), (3, vI x3)]) dX5_worth_112 rfl rfl (Nat.le_of_ble_eq_true rfl) rfl ?_
            refine zn_goto (pc := 115) (tgt := 5) dX5_worth_115 (by decide) ?_
            refine zn_pick [2, 3, 4, 5, 0] rfl ?_
            exact ih _ _ _ _ _ _ _ h60 hp
          · replace h60 := zif_f c59 h60
            refine zn_iinc (pc := 40) 4 (y := x3 + (-1)) (ls' := [(3, vI (x3 + (-1))), (5, vI (zI S 25 i15 (Int32.toNatClampNeg x4))), (0, vR 6 (some i0)), (1, vR 26 r1), (2, vR 27 (some i56)), (4, vI x4)]) dX5_worth_40 rfl rfl (Nat.le_of_ble_eq_true rfl) rfl ?_
            refine zn_aload_n (pc := 43) 4 dX5_worth_43 rfl rfl ?_
            refine zn_iload_n (pc := 44) 0 dX5_worth_44 rfl rfl ?_
            refine zn_iconst (pc := 45) (x := 1) dX5_worth_45 (by decide) ?_
            refine zn_isub (pc := 46) dX5_worth_46 ?_
            refine zn_iload (pc := 47) 1 dX5_worth_47 rfl ?_
            refine zn_ineg (pc := 49) dX5_worth_49 ?_
            refine zn_aload_n (pc := 50) 4 dX5_worth_50 rfl rfl ?_
            refine zn_iload_n (pc := 51) 0 dX5_worth_51 rfl rfl ?_
            refine zn_iconst (pc := 52) (x := 1) dX5_worth_52 (by decide) ?_
            refine zn_isub (pc := 53) dX5_worth_53 ?_
            obtain ⟨hb61, h62⟩ := zgdd h60; clear h60
            refine zn_laload (pc := 54) zk_27 dX5_worth_54 (zib_in hb61) ?_
            refine zn_aload_n (pc := 55) 4 dX5_worth_55 rfl rfl ?_
            refine zn_iload_n (pc := 56) 0 dX5_worth_56 rfl rfl ?_
            obtain ⟨hb63, h64⟩ := zgdd h62; clear h62
            refine zn_laload (pc := 57) zk_27 dX5_worth_57 (zib_in hb63) ?_
            obtain ⟨o65, e66, h67⟩ := zbd h64; clear h64
            refine zn_cSv (pc := 58) (kc := 0) (ks := 0) (kc' := 0) (ks' := 0) (As := [vI (-(zI S 25 i15 (Int32.toNatClampNeg x4))), vJ (zJ S 27 i56 (Int32.toNatClampNeg ((x3 + (-1)) - 1))), vJ (zJ S 27 i56 (Int32.toNatClampNeg (x3 + (-1))))]) (st := [vI ((x3 + (-1)) - 1), vR 27 (some i56)]) dX5_worth_58 cs_X5_22 rfl rfl (Nat.le_of_ble_eq_true rfl) ((c_X5_join e66).mono (Nat.le_of_ble_eq_true rfl)) ?_
            obtain ⟨o68, e69, h70⟩ := zbd h67; clear h67
            refine zn_cSv (pc := 61) (kc := 0) (ks := 0) (kc' := 0) (ks' := 0) (As := [vJ o65]) (st := [vI ((x3 + (-1)) - 1), vR 27 (some i56)]) dX5_worth_61 cs_X5_26 rfl rfl (Nat.le_of_ble_eq_true rfl) ((c_X5_hold e69).mono (Nat.le_of_ble_eq_true rfl)) ?_
            obtain ⟨hb71, h72⟩ := zgdd h70; clear h70
            obtain ⟨S73, hS74, h75⟩ := zltd h72; clear h72
            refine zn_lastore (pc := 64) zk_27 dX5_worth_64 (zib_in hb71) hS74 ?_
            refine zn_goto (pc := 65) (tgt := 112) dX5_worth_65 (by decide) ?_
            refine zn_iinc (pc := 112) 5 (y := x4 + 1) (ls' := [(4, vI (x4 + 1)), (3, vI (x3 + (-1))), (5, vI (zI S 25 i15 (Int32.toNatClampNeg x4))), (0, vR 6 (some i0)), (1, vR 26 r1), (2, vR 27 (some i56))]) dX5_worth_112 rfl rfl (Nat.le_of_ble_eq_true rfl) rfl ?_
            refine zn_goto (pc := 115) (tgt := 5) dX5_worth_115 (by decide) ?_
            refine zn_pick [3, 4, 5, 1, 0] rfl ?_
            exact ih _ _ _ _ _ _ _ h75 hp
theorem c_X5_worth {G : zG} {i0 : Nat} {r1 : Option Nat} {r2 : Option Nat} {S : zH} {out : (Int64 × zH)} (h0 : f_X5_worth i0 r1 r2 S = some out) : zct G M_X5_worth 1 0 0 [vR 6 (some i0), vR 26 r1, vR 27 r2] S (zpo (some (vJ out.1)) out.2) := by
  refine zct_of (by decide) (Nat.le_of_ble_eq_true rfl) ?_
  show zn G M_X5_worth 1 0 0 0 [(0, vR 6 (some i0)), (1, vR 26 r1), (2, vR 27 r2)] [] S _
  have hp : zpo (some (vJ out.1)) out.2 (some (vJ out.1)) out.2 := ⟨rfl, rfl⟩
  unfold f_X5_worth at h0
  refine zn_iconst (pc := 0) (x := 0) dX5_worth_0 (by decide) ?_
  refine zn_istore_n (pc := 1) (ls' := [(3, vI 0), (0, vR 6 (some i0)), (1, vR 26 r1), (2, vR 27 r2)]) dX5_worth_1 rfl (Nat.le_of_ble_eq_true rfl) rfl ?_
  refine zn_iconst (pc := 2) (x := 0) dX5_worth_2 (by decide) ?_
  refine zn_istore (pc := 3) (ls' := [(4, vI 0), (3, vI 0), (0, vR 6 (some i0)), (1, vR 26 r1), (2, vR 27 r2)]) dX5_worth_3 (Nat.le_of_ble_eq_true rfl) rfl ?_
  refine zn_pick [2, 3, 4, 1, 0] rfl ?_
  exact b_X5_worth_5  fu _ _ _ _ _ _ _ h0 hp
theorem c_X9_refusesOverdrawn {G : zG} {i0 : Nat} {r1 : Option Nat} {S : zH} {out : (Int32 × zH)} (h0 : f_X9_refusesOverdrawn i0 r1 S = some out) : zct G M_X9_refusesOverdrawn 6 0 0 [vR 0 (some i0), vR 5 r1] S (zpo (some (vI out.1)) out.2) := by
  refine zct_of (by decide) (Nat.le_of_ble_eq_true rfl) ?_
  show zn G M_X9_refusesOverdrawn 6 0 0 0 [(0, vR 0 (some i0)), (1, vR 5 r1)] [] S _
  have hp : zpo (some (vI out.1)) out.2 (some (vI out.1)) out.2 := ⟨rfl, rfl⟩
  unfold f_X9_refusesOverdrawn at h0
  refine zn_aload_n (pc := 0) 0 dX9_refusesOverdrawn_0 rfl rfl ?_
  refine zn_getR (pc := 1) fa_X9_41_0.1 fa_X9_41_0.2 dX9_refusesOverdrawn_1 ?_
  refine zn_iconst (pc := 4) (x := 2) dX9_refusesOverdrawn_4 (by decide) ?_
  refine zn_aload_n (pc := 5) 0 dX9_refusesOverdrawn_5 rfl rfl ?_
  refine zn_getR (pc := 6) fa_X9_10_0.1 fa_X9_10_0.2 dX9_refusesOverdrawn_6 ?_
  obtain ⟨i1, hi2, h3⟩ := zbd h0; clear h0
  rw [hi2]
  refine zn_getI (pc := 9) fa_X9_71_1.1 fa_X9_71_1.2 dX9_refusesOverdrawn_9 ?_
  obtain ⟨i4, hi5, h6⟩ := zbd h3; clear h3
  rw [hi5]
  obtain ⟨o7, e8, h9⟩ := zbd h6; clear h6
  refine zn_cVv (pc := 12) (kc := 0) (ks := 0) (kc' := 0) (ks' := 0) (As := [vI 2, vI (zI S 1 i1 4)]) (st := []) dX9_refusesOverdrawn_12 cs_X9_365 pc_7 rfl rfl (Nat.le_of_ble_eq_true rfl) ((c_X6_inForce e8).mono (Nat.le_of_ble_eq_true rfl)) ?_
  refine zn_astore_n (pc := 15) (ls' := [(2, vR 6 o7), (0, vR 0 (some i0)), (1, vR 5 r1)]) dX9_refusesOverdrawn_15 rfl (Nat.le_of_ble_eq_true rfl) rfl ?_
  refine zn_aload_n (pc := 16) 0 dX9_refusesOverdrawn_16 rfl rfl ?_
  have h12 := h9; clear h9
  refine zn_ifnonnull (pc := 17) (tgt := 22) dX9_refusesOverdrawn_17 (by decide) (fun i11 hr10 => ?_) (fun hr10 => ?_)
  · replace h12 := zop_s hr10 h12
    rw [hr10]
    refine zn_aload_n (pc := 22) 1 dX9_refusesOverdrawn_22 rfl rfl ?_
    refine zn_aload_n (pc := 23) 2 dX9_refusesOverdrawn_23 rfl rfl ?_
    obtain ⟨i13, hi14, h15⟩ := zbd h12; clear h12
    rw [hi14]
    refine zn_getR (pc := 24) fa_X9_280_5.1 fa_X9_280_5.2 dX9_refusesOverdrawn_24 ?_
    refine zn_aload_n (pc := 27) 2 dX9_refusesOverdrawn_27 rfl rfl ?_
    refine zn_getR (pc := 28) fa_X9_299_5.1 fa_X9_299_5.2 dX9_refusesOverdrawn_28 ?_
    obtain ⟨i16, hi17, h18⟩ := zbd h15; clear h15
    rw [hi17]
    refine zn_getR (pc := 31) fa_X9_176_3.1 fa_X9_176_3.2 dX9_refusesOverdrawn_31 ?_
    obtain ⟨o19, e20, h21⟩ := zbd h18; clear h18
    refine zn_cVv (pc := 34) (kc := 0) (ks := 0) (kc' := 0) (ks' := 0) (As := [vR 3 (zR S 5 i13 0), vR 2 (zR S 3 i16 1)]) (st := []) dX9_refusesOverdrawn_34 cs_X9_432 pc_0 rfl rfl (Nat.le_of_ble_eq_true rfl) ((c_X9_lettersOfLeaving e20).mono (Nat.le_of_ble_eq_true rfl)) ?_
    refine zn_astore_n (pc := 37) (ls' := [(3, vR 26 o19.1), (2, vR 6 (some i11)), (0, vR 0 (some i0)), (1, vR 5 (some i13))]) dX9_refusesOverdrawn_37 rfl (Nat.le_of_ble_eq_true rfl) rfl ?_
    refine zn_aload_n (pc := 38) 0 dX9_refusesOverdrawn_38 rfl rfl ?_
    refine zn_bipush (pc := 39) (x := 9) dX9_refusesOverdrawn_39 (by decide) ?_
    refine zn_aload_n (pc := 41) 2 dX9_refusesOverdrawn_41 rfl rfl ?_
    refine zn_getR (pc := 42) fa_X9_10_0.1 fa_X9_10_0.2 dX9_refusesOverdrawn_42 ?_
    obtain ⟨i22, hi23, h24⟩ := zbd h21; clear h21
    rw [hi23]
    refine zn_getI (pc := 45) fa_X9_71_1.1 fa_X9_71_1.2 dX9_refusesOverdrawn_45 ?_
    refine zn_aload_n (pc := 48) 3 dX9_refusesOverdrawn_48 rfl rfl ?_
    refine zn_getI (pc := 49) fa_X9_311_5.1 fa_X9_311_5.2 dX9_refusesOverdrawn_49 ?_
    refine zn_isub (pc := 52) dX9_refusesOverdrawn_52 ?_
    refine zn_i2l (pc := 53) dX9_refusesOverdrawn_53 ?_
    obtain ⟨i25, hi26, h27⟩ := zbd h24; clear h24
    rw [hi26]
    obtain ⟨hb28, h29⟩ := zgdd h27; clear h27
    obtain ⟨S30, hS31, h32⟩ := zltd h29; clear h29
    refine zn_lastore (pc := 54) zk_26 dX9_refusesOverdrawn_54 (zib_in hb28) hS31 ?_
    refine zn_aload_n (pc := 55) 1 dX9_refusesOverdrawn_55 rfl rfl ?_
    refine zn_aload_n (pc := 56) 0 dX9_refusesOverdrawn_56 rfl rfl ?_
    refine zn_aload_n (pc := 57) 2 dX9_refusesOverdrawn_57 rfl rfl ?_
    refine zn_getR (pc := 58) fa_X9_41_0.1 fa_X9_41_0.2 dX9_refusesOverdrawn_58 ?_
    obtain ⟨i33, hi34, h35⟩ := zbd h32; clear h32
    rw [hi34]
    refine zn_getR (pc := 61) fa_X9_377_7.1 fa_X9_377_7.2 dX9_refusesOverdrawn_61 ?_
    obtain ⟨o36, e37, h38⟩ := zbd h35; clear h35
    refine zn_cVv (pc := 64) (kc := 0) (ks := 0) (kc' := 0) (ks' := 0) (As := [vR 26 (some i25), vR 27 (zR S30 7 i33 2)]) (st := []) dX9_refusesOverdrawn_64 cs_X9_380 pc_6 rfl rfl (Nat.le_of_ble_eq_true rfl) ((c_X5_worth e37).mono (Nat.le_of_ble_eq_true rfl)) ?_
    refine zn_lconst (pc := 67) (x := 0) dX9_refusesOverdrawn_67 (by decide) ?_
    refine zn_lcmp (pc := 68) dX9_refusesOverdrawn_68 ?_
    have h40 := h38; clear h38
    refine zn_if_le (pc := 69) (tgt := 76) dX9_refusesOverdrawn_69 (by decide) (fun c39 => ?_) (fun c39 => ?_)
    · replace h40 := zif_t c39 h40
      refine zn_iconst (pc := 76) (x := 0) dX9_refusesOverdrawn_76 (by decide) ?_
      have hz := Option.some.inj h40; clear h40; subst hz
      exact zn_zreturn (pc := 77) dX9_refusesOverdrawn_77 rfl (by decide) hp
    · replace h40 := zif_f c39 h40
      refine zn_iconst (pc := 72) (x := 1) dX9_refusesOverdrawn_72 (by decide) ?_
      refine zn_goto (pc := 73) (tgt := 77) dX9_refusesOverdrawn_73 (by decide) ?_
      have hz := Option.some.inj h40; clear h40; subst hz
      exact zn_zreturn (pc := 77) dX9_refusesOverdrawn_77 rfl (by decide) hp
  · replace h12 := zop_n hr10 h12
    rw [hr10]
    refine zn_iconst (pc := 20) (x := 1) dX9_refusesOverdrawn_20 (by decide) ?_
    have hz := Option.some.inj h12; clear h12; subst hz
    exact zn_zreturn (pc := 21) dX9_refusesOverdrawn_21 rfl (by decide) hp
theorem b_X9_moveLines_51 {G : zG} {Post : Option zV → zH → Prop} {k2 : Nat → Option Nat → Int32 → zH → Option zH} {i0 : Nat} {r1 : Option Nat} {x2 : Int32} {r3 : Option Nat} {S : zH} {out : zH} (hk2 : ∀ (i0 : Nat) (r1 : Option Nat) (x2 : Int32) (S : zH) (out : zH), k2 i0 r1 x2 S = some out → Post none out → zn G M_X9_moveLines 4 0 0 2 [(0, vR 0 (some i0)), (1, vR 5 r1), (2, vI x2)] [] S Post) (h0 : f_X9_moveLines_51 k2 i0 r1 x2 r3 S = some out) (hp : Post none out) : zn G M_X9_moveLines 4 0 0 51 [(0, vR 0 (some i0)), (1, vR 5 r1), (2, vI x2), (3, vR 4 r3)] [] S Post := by
  unfold f_X9_moveLines_51 at h0
  refine zn_aload_n (pc := 51) 3 dX9_moveLines_51 rfl rfl ?_
  refine zn_aload_n (pc := 52) 1 dX9_moveLines_52 rfl rfl ?_
  obtain ⟨i1, hi2, h3⟩ := zbd h0; clear h0
  rw [hi2]
  refine zn_getR (pc := 53) fa_X9_299_5.1 fa_X9_299_5.2 dX9_moveLines_53 ?_
  obtain ⟨i4, hi5, h6⟩ := zbd h3; clear h3
  rw [hi5]
  obtain ⟨S7, hS8, h9⟩ := zltd h6; clear h6
  refine zn_putR (pc := 56) fp_X9_246_4.1 (fp_X9_246_4 (nm := "")).2.2 (fp_X9_246_4 (nm := "")).2.1 dX9_moveLines_56 hS8 ?_
  refine zn_iinc (pc := 59) 2 (y := x2 + 1) (ls' := [(2, vI (x2 + 1)), (0, vR 0 (some i0)), (1, vR 5 (some i1)), (3, vR 4 (some i4))]) dX9_moveLines_59 rfl rfl (Nat.le_of_ble_eq_true rfl) rfl ?_
  refine zn_goto (pc := 62) (tgt := 2) dX9_moveLines_62 (by decide) ?_
  refine zn_pick [1, 2, 0] rfl ?_
  exact hk2 _ _ _ _ _ h9 hp
theorem b_X9_moveLines_2 {G : zG} {Post : Option zV → zH → Prop} : ∀ (n : Nat) (i0 : Nat) (r1 : Option Nat) (x2 : Int32) (S : zH) (out : zH), f_X9_moveLines_2 n i0 r1 x2 S = some out → Post none out → zn G M_X9_moveLines 4 0 0 2 [(0, vR 0 (some i0)), (1, vR 5 r1), (2, vI x2)] [] S Post := by
  intro n
  induction n with
  | zero => intro i0 r1 x2 S out h0 hp; exact (nomatch (show (none : Option _) = some out from h0))
  | succ n ih =>
    intro i0 r1 x2 S out h0 hp
    rw [f_X9_moveLines_2] at h0
    refine zn_iload_n (pc := 2) 2 dX9_moveLines_2 rfl rfl ?_
    refine zn_aload_n (pc := 3) 0 dX9_moveLines_3 rfl rfl ?_
    refine zn_getR (pc := 4) fa_X9_32_0.1 fa_X9_32_0.2 dX9_moveLines_4 ?_
    obtain ⟨i1, hi2, h3⟩ := zbd h0; clear h0
    rw [hi2]
    obtain ⟨o4, e5, h6⟩ := zbd h3; clear h3
    refine zn_cVv (pc := 7) (kc := 0) (ks := 0) (kc' := 0) (ks' := 0) (As := []) (st := [vI x2]) dX9_moveLines_7 cls_X9_142 pc_11 rfl rfl (Nat.le_of_ble_eq_true rfl) (zc_size (p := 11) (by decide) (Nat.le_of_ble_eq_true rfl) e5) ?_
    have h8 := h6; clear h6
    refine zn_icmp_ge (pc := 10) (tgt := 65) dX9_moveLines_10 (by decide) (fun c7 => ?_) (fun c7 => ?_)
    · replace h8 := zif_t c7 h8
      have hz := Option.some.inj h8; clear h8; subst hz
      exact zn_return (pc := 65) dX9_moveLines_65 rfl hp
    · replace h8 := zif_f c7 h8
      refine zn_aload_n (pc := 13) 0 dX9_moveLines_13 rfl rfl ?_
      refine zn_getR (pc := 14) fa_X9_32_0.1 fa_X9_32_0.2 dX9_moveLines_14 ?_
      refine zn_iload_n (pc := 17) 2 dX9_moveLines_17 rfl rfl ?_
      obtain ⟨i9, hi10, h11⟩ := zbd h8; clear h8
      rw [hi10]
      obtain ⟨o12, e13, h14⟩ := zbd h11; clear h11
      refine zn_cVv (pc := 18) (kc := 0) (ks := 0) (kc' := 0) (ks' := 0) (As := [vI x2]) (st := []) dX9_moveLines_18 clg_X9_353 pc_11 rfl rfl (Nat.le_of_ble_eq_true rfl) (zc_get (p := 11) (by decide) rfl (Nat.le_of_ble_eq_true rfl) e13) ?_
      refine zn_cast (pc := 21) cl_X9_224 pc_4 dX9_moveLines_21 ?_
      refine zn_astore_n (pc := 24) (ls' := [(3, vR 4 o12), (0, vR 0 (some i0)), (1, vR 5 r1), (2, vI x2)]) dX9_moveLines_24 rfl (Nat.le_of_ble_eq_true rfl) rfl ?_
      refine zn_aload_n (pc := 25) 0 dX9_moveLines_25 rfl rfl ?_
      obtain ⟨i15, hi16, h17⟩ := zbd h14; clear h14
      rw [hi16]
      refine zn_getR (pc := 26) fa_X9_246_4.1 fa_X9_246_4.2 dX9_moveLines_26 ?_
      refine zn_aload_n (pc := 29) 2 dX9_moveLines_29 rfl rfl ?_
      obtain ⟨i18, hi19, h20⟩ := zbd h17; clear h17
      rw [hi19]
      refine zn_getR (pc := 30) fa_X9_280_5.1 fa_X9_280_5.2 dX9_moveLines_30 ?_
      have h22 := h20; clear h20
      refine zn_acmp_ne (pc := 33) (tgt := 59) rfl dX9_moveLines_33 (by decide) (fun c21 => ?_) (fun c21 => ?_)
      · replace h22 := zif_f c21 h22
        refine zn_iinc (pc := 59) 3 (y := x2 + 1) (ls' := [(2, vI (x2 + 1)), (3, vR 4 (some i15)), (0, vR 0 (some i0)), (1, vR 5 (some i18))]) dX9_moveLines_59 rfl rfl (Nat.le_of_ble_eq_true rfl) rfl ?_
        refine zn_goto (pc := 62) (tgt := 2) dX9_moveLines_62 (by decide) ?_
        refine zn_pick [2, 3, 0] rfl ?_
        exact ih _ _ _ _ _ h22 hp
      · replace h22 := zif_t c21 h22
        refine zn_aload_n (pc := 36) 2 dX9_moveLines_36 rfl rfl ?_
        refine zn_getI (pc := 37) fa_X9_414_5.1 fa_X9_414_5.2 dX9_moveLines_37 ?_
        have h24 := h22; clear h22
        refine zn_if_eq (pc := 40) (tgt := 51) dX9_moveLines_40 (by decide) (fun c23 => ?_) (fun c23 => ?_)
        · replace h24 := zif_t c23 h24
          refine zn_pick [1, 2, 3, 0] rfl ?_
          exact b_X9_moveLines_51 ih h24 hp
        · replace h24 := zif_f c23 h24
          refine zn_aload_n (pc := 43) 0 dX9_moveLines_43 rfl rfl ?_
          refine zn_getI (pc := 44) fa_X9_243_4.1 fa_X9_243_4.2 dX9_moveLines_44 ?_
          refine zn_iconst (pc := 47) (x := 1) dX9_moveLines_47 (by decide) ?_
          have h26 := h24; clear h24
          refine zn_icmp_ne (pc := 48) (tgt := 59) dX9_moveLines_48 (by decide) (fun c25 => ?_) (fun c25 => ?_)
          · replace h26 := zif_f c25 h26
            refine zn_iinc (pc := 59) 3 (y := x2 + 1) (ls' := [(2, vI (x2 + 1)), (3, vR 4 (some i15)), (0, vR 0 (some i0)), (1, vR 5 (some i18))]) dX9_moveLines_59 rfl rfl (Nat.le_of_ble_eq_true rfl) rfl ?_
            refine zn_goto (pc := 62) (tgt := 2) dX9_moveLines_62 (by decide) ?_
            refine zn_pick [2, 3, 0] rfl ?_
            exact ih _ _ _ _ _ h26 hp
          · replace h26 := zif_t c25 h26
            refine zn_pick [1, 2, 3, 0] rfl ?_
            exact b_X9_moveLines_51 ih h26 hp
theorem c_X9_moveLines {G : zG} {i0 : Nat} {r1 : Option Nat} {S : zH} {out : zH} (h0 : f_X9_moveLines i0 r1 S = some out) : zct G M_X9_moveLines 4 0 0 [vR 0 (some i0), vR 5 r1] S (zpo none out) := by
  refine zct_of (by decide) (Nat.le_of_ble_eq_true rfl) ?_
  show zn G M_X9_moveLines 4 0 0 0 [(0, vR 0 (some i0)), (1, vR 5 r1)] [] S _
  have hp : zpo none out none out := ⟨rfl, rfl⟩
  unfold f_X9_moveLines at h0
  refine zn_iconst (pc := 0) (x := 0) dX9_moveLines_0 (by decide) ?_
  refine zn_istore_n (pc := 1) (ls' := [(2, vI 0), (0, vR 0 (some i0)), (1, vR 5 r1)]) dX9_moveLines_1 rfl (Nat.le_of_ble_eq_true rfl) rfl ?_
  refine zn_pick [1, 2, 0] rfl ?_
  exact b_X9_moveLines_2  fu _ _ _ _ _ h0 hp
theorem c_X9_carry {G : zG} {r0 : Option Nat} {r1 : Option Nat} {x2 : Int64} {S : zH} {out : zH} (h0 : f_X9_carry r0 r1 x2 S = some out) : zct G M_X9_carry 0 0 0 [vR 3 r0, vR 3 r1, vJ x2] S (zpo none out) := by
  refine zct_of (by decide) (Nat.le_of_ble_eq_true rfl) ?_
  show zn G M_X9_carry 0 0 0 0 [(0, vR 3 r0), (1, vR 3 r1), (2, vJ x2)] [] S _
  have hp : zpo none out none out := ⟨rfl, rfl⟩
  unfold f_X9_carry at h0
  refine zn_aload_n (pc := 0) 0 dX9_carry_0 rfl rfl ?_
  refine zn_dup (pc := 1) dX9_carry_1 rfl ?_
  obtain ⟨i1, hi2, h3⟩ := zbd h0; clear h0
  rw [hi2]
  refine zn_getJ (pc := 2) fa_X9_163_3.1 fa_X9_163_3.2 dX9_carry_2 ?_
  refine zn_lload_n (pc := 5) 2 dX9_carry_5 rfl rfl ?_
  refine zn_lsub (pc := 6) dX9_carry_6 ?_
  obtain ⟨S4, hS5, h6⟩ := zltd h3; clear h3
  refine zn_putJ (pc := 7) fp_X9_163_3.1 (fp_X9_163_3 (nm := "")).2 dX9_carry_7 hS5 ?_
  refine zn_aload_n (pc := 10) 1 dX9_carry_10 rfl rfl ?_
  refine zn_dup (pc := 11) dX9_carry_11 rfl ?_
  obtain ⟨i7, hi8, h9⟩ := zbd h6; clear h6
  rw [hi8]
  refine zn_getJ (pc := 12) fa_X9_163_3.1 fa_X9_163_3.2 dX9_carry_12 ?_
  refine zn_lload_n (pc := 15) 2 dX9_carry_15 rfl rfl ?_
  refine zn_ladd (pc := 16) dX9_carry_16 ?_
  obtain ⟨S10, hS11, h12⟩ := zltd h9; clear h9
  refine zn_putJ (pc := 17) fp_X9_163_3.1 (fp_X9_163_3 (nm := "")).2 dX9_carry_17 hS11 ?_
  refine zn_aload_n (pc := 20) 0 dX9_carry_20 rfl rfl ?_
  refine zn_getR (pc := 21) fa_X9_176_3.1 fa_X9_176_3.2 dX9_carry_21 ?_
  refine zn_dup (pc := 24) dX9_carry_24 rfl ?_
  obtain ⟨i13, hi14, h15⟩ := zbd h12; clear h12
  rw [hi14]
  refine zn_getJ (pc := 25) fa_X9_138_2.1 fa_X9_138_2.2 dX9_carry_25 ?_
  refine zn_lload_n (pc := 28) 2 dX9_carry_28 rfl rfl ?_
  refine zn_lsub (pc := 29) dX9_carry_29 ?_
  obtain ⟨S16, hS17, h18⟩ := zltd h15; clear h15
  refine zn_putJ (pc := 30) fp_X9_138_2.1 (fp_X9_138_2 (nm := "")).2 dX9_carry_30 hS17 ?_
  refine zn_aload_n (pc := 33) 1 dX9_carry_33 rfl rfl ?_
  refine zn_getR (pc := 34) fa_X9_176_3.1 fa_X9_176_3.2 dX9_carry_34 ?_
  refine zn_dup (pc := 37) dX9_carry_37 rfl ?_
  obtain ⟨i19, hi20, h21⟩ := zbd h18; clear h18
  rw [hi20]
  refine zn_getJ (pc := 38) fa_X9_138_2.1 fa_X9_138_2.2 dX9_carry_38 ?_
  refine zn_lload_n (pc := 41) 2 dX9_carry_41 rfl rfl ?_
  refine zn_ladd (pc := 42) dX9_carry_42 ?_
  obtain ⟨S22, hS23, h24⟩ := zltd h21; clear h21
  refine zn_putJ (pc := 43) fp_X9_138_2.1 (fp_X9_138_2 (nm := "")).2 dX9_carry_43 hS23 ?_
  have hz := Option.some.inj h24; clear h24; subst hz
  exact zn_return (pc := 46) dX9_carry_46 rfl hp
theorem c_X0_leaveFor {G : zG} {i0 : Nat} {r1 : Option Nat} {x2 : Int32} {S : zH} {out : zH} (h0 : f_X0_leaveFor i0 r1 x2 S = some out) : zct G M_X0_leaveFor 0 0 0 [vR 3 (some i0), vR 3 r1, vI x2] S (zpo none out) := by
  refine zct_of (by decide) (Nat.le_of_ble_eq_true rfl) ?_
  show zn G M_X0_leaveFor 0 0 0 0 [(0, vR 3 (some i0)), (1, vR 3 r1), (2, vI x2)] [] S _
  have hp : zpo none out none out := ⟨rfl, rfl⟩
  unfold f_X0_leaveFor at h0
  refine zn_aload_n (pc := 0) 0 dX0_leaveFor_0 rfl rfl ?_
  refine zn_iconst (pc := 1) (x := 2) dX0_leaveFor_1 (by decide) ?_
  obtain ⟨S1, hS2, h3⟩ := zltd h0; clear h0
  refine zn_putI (pc := 2) fp_X0_36_3.1 (fp_X0_36_3 (nm := "")).2 dX0_leaveFor_2 hS2 ?_
  refine zn_aload_n (pc := 5) 0 dX0_leaveFor_5 rfl rfl ?_
  refine zn_aload_n (pc := 6) 1 dX0_leaveFor_6 rfl rfl ?_
  obtain ⟨S4, hS5, h6⟩ := zltd h3; clear h3
  refine zn_putR (pc := 7) fp_X0_39_3.1 (fp_X0_39_3 (nm := "")).2.2 (fp_X0_39_3 (nm := "")).2.1 dX0_leaveFor_7 hS5 ?_
  refine zn_aload_n (pc := 10) 0 dX0_leaveFor_10 rfl rfl ?_
  refine zn_iload_n (pc := 11) 2 dX0_leaveFor_11 rfl rfl ?_
  obtain ⟨S7, hS8, h9⟩ := zltd h6; clear h6
  refine zn_putI (pc := 12) fp_X0_43_3.1 (fp_X0_43_3 (nm := "")).2 dX0_leaveFor_12 hS8 ?_
  have hz := Option.some.inj h9; clear h9; subst hz
  exact zn_return (pc := 15) dX0_leaveFor_15 rfl hp
theorem c_X9_doStep {G : zG} {i0 : Nat} {r1 : Option Nat} {S : zH} {out : zH} (h0 : f_X9_doStep i0 r1 S = some out) : zct G M_X9_doStep 7 0 0 [vR 0 (some i0), vR 5 r1] S (zpo none out) := by
  refine zct_of (by decide) (Nat.le_of_ble_eq_true rfl) ?_
  show zn G M_X9_doStep 7 0 0 0 [(0, vR 0 (some i0)), (1, vR 5 r1)] [] S _
  have hp : zpo none out none out := ⟨rfl, rfl⟩
  unfold f_X9_doStep at h0
  refine zn_aload_n (pc := 0) 1 dX9_doStep_0 rfl rfl ?_
  obtain ⟨i1, hi2, h3⟩ := zbd h0; clear h0
  rw [hi2]
  refine zn_getI (pc := 1) fa_X9_293_5.1 fa_X9_293_5.2 dX9_doStep_1 ?_
  have h5 := h3; clear h3
  by_cases c4 : (zI S 5 i1 4) = 3
  · replace h5 := zif_t c4 h5
    refine zn_tsIn (pc := 4) (tgt := 40) (off := 36) dX9_doStep_4 c4 (by decide) (by decide) ?_
    refine zn_aload_n (pc := 40) 1 dX9_doStep_40 rfl rfl ?_
    refine zn_getR (pc := 41) fa_X9_280_5.1 fa_X9_280_5.2 dX9_doStep_41 ?_
    obtain ⟨i6, hi7, h8⟩ := zbd h5; clear h5
    rw [hi7]
    obtain ⟨o9, e10, h11⟩ := zbd h8; clear h8
    refine zn_cVv (pc := 44) (kc := 0) (ks := 0) (kc' := 0) (ks' := 0) (As := []) (st := []) dX9_doStep_44 cs_X9_283 pc_3 rfl rfl (Nat.le_of_ble_eq_true rfl) ((c_X0_isJoint e10).mono (Nat.le_of_ble_eq_true rfl)) ?_
    have h13 := h11; clear h11
    refine zn_if_eq (pc := 47) (tgt := 159) dX9_doStep_47 (by decide) (fun c12 => ?_) (fun c12 => ?_)
    · replace h13 := zif_t c12 h13
      have hz := Option.some.inj h13; clear h13; subst hz
      exact zn_return (pc := 159) dX9_doStep_159 rfl hp
    · replace h13 := zif_f c12 h13
      refine zn_aload_n (pc := 50) 1 dX9_doStep_50 rfl rfl ?_
      refine zn_getI (pc := 51) fa_X9_287_5.1 fa_X9_287_5.2 dX9_doStep_51 ?_
      have h15 := h13; clear h13
      refine zn_if_ne (pc := 54) (tgt := 159) dX9_doStep_54 (by decide) (fun c14 => ?_) (fun c14 => ?_)
      · replace h15 := zif_f c14 h15
        have hz := Option.some.inj h15; clear h15; subst hz
        exact zn_return (pc := 159) dX9_doStep_159 rfl hp
      · replace h15 := zif_t c14 h15
        refine zn_aload_n (pc := 57) 1 dX9_doStep_57 rfl rfl ?_
        refine zn_iconst (pc := 58) (x := 1) dX9_doStep_58 (by decide) ?_
        obtain ⟨o16, e17, h18⟩ := zbd h15; clear h15
        refine zn_cV0 (pc := 59) (kc := 0) (ks := 0) (kc' := 0) (ks' := 0) (As := [vI 1]) (st := []) dX9_doStep_59 cs_X9_296 pc_5 rfl rfl (Nat.le_of_ble_eq_true rfl) ((c_X4_stop e17).mono (Nat.le_of_ble_eq_true rfl)) ?_
        refine zn_goto (pc := 62) (tgt := 159) dX9_doStep_62 (by decide) ?_
        have hz := Option.some.inj h18; clear h18; subst hz
        exact zn_return (pc := 159) dX9_doStep_159 rfl hp
  · replace h5 := zif_f c4 h5
    have h20 := h5; clear h5
    by_cases c19 : (zI S 5 i1 4) = 4
    · replace h20 := zif_t c19 h20
      refine zn_tsIn (pc := 4) (tgt := 159) (off := 155) dX9_doStep_4 c19 (by decide) (by decide) ?_
      have hz := Option.some.inj h20; clear h20; subst hz
      exact zn_return (pc := 159) dX9_doStep_159 rfl hp
    · replace h20 := zif_f c19 h20
      have h22 := h20; clear h20
      by_cases c21 : (zI S 5 i1 4) = 5
      · replace h22 := zif_t c21 h22
        refine zn_tsIn (pc := 4) (tgt := 65) (off := 61) dX9_doStep_4 c21 (by decide) (by decide) ?_
        refine zn_aload_n (pc := 65) 1 dX9_doStep_65 rfl rfl ?_
        refine zn_getI (pc := 66) fa_X9_414_5.1 fa_X9_414_5.2 dX9_doStep_66 ?_
        have h24 := h22; clear h22
        refine zn_if_ne (pc := 69) (tgt := 159) dX9_doStep_69 (by decide) (fun c23 => ?_) (fun c23 => ?_)
        · replace h24 := zif_f c23 h24
          have hz := Option.some.inj h24; clear h24; subst hz
          exact zn_return (pc := 159) dX9_doStep_159 rfl hp
        · replace h24 := zif_t c23 h24
          refine zn_aload_n (pc := 72) 1 dX9_doStep_72 rfl rfl ?_
          refine zn_getR (pc := 73) fa_X9_280_5.1 fa_X9_280_5.2 dX9_doStep_73 ?_
          obtain ⟨i25, hi26, h27⟩ := zbd h24; clear h24
          rw [hi26]
          refine zn_getJ (pc := 76) fa_X9_163_3.1 fa_X9_163_3.2 dX9_doStep_76 ?_
          refine zn_lconst (pc := 79) (x := 0) dX9_doStep_79 (by decide) ?_
          refine zn_lcmp (pc := 80) dX9_doStep_80 ?_
          have h29 := h27; clear h27
          refine zn_if_ge (pc := 81) (tgt := 159) dX9_doStep_81 (by decide) (fun c28 => ?_) (fun c28 => ?_)
          · replace h29 := zif_t c28 h29
            have hz := Option.some.inj h29; clear h29; subst hz
            exact zn_return (pc := 159) dX9_doStep_159 rfl hp
          · replace h29 := zif_f c28 h29
            refine zn_aload_n (pc := 84) 0 dX9_doStep_84 rfl rfl ?_
            refine zn_aload_n (pc := 85) 1 dX9_doStep_85 rfl rfl ?_
            obtain ⟨o30, e31, h32⟩ := zbd h29; clear h29
            refine zn_cVv (pc := 86) (kc := 0) (ks := 0) (kc' := 0) (ks' := 0) (As := [vR 5 (some i1)]) (st := []) dX9_doStep_86 cs_X9_417 pc_0 rfl rfl (Nat.le_of_ble_eq_true rfl) ((c_X9_refusesOverdrawn e31).mono (Nat.le_of_ble_eq_true rfl)) ?_
            have h34 := h32; clear h32
            refine zn_if_eq (pc := 89) (tgt := 159) dX9_doStep_89 (by decide) (fun c33 => ?_) (fun c33 => ?_)
            · replace h34 := zif_t c33 h34
              have hz := Option.some.inj h34; clear h34; subst hz
              exact zn_return (pc := 159) dX9_doStep_159 rfl hp
            · replace h34 := zif_f c33 h34
              refine zn_aload_n (pc := 92) 1 dX9_doStep_92 rfl rfl ?_
              refine zn_iconst (pc := 93) (x := 2) dX9_doStep_93 (by decide) ?_
              obtain ⟨o35, e36, h37⟩ := zbd h34; clear h34
              refine zn_cV0 (pc := 94) (kc := 0) (ks := 0) (kc' := 0) (ks' := 0) (As := [vI 2]) (st := []) dX9_doStep_94 cs_X9_296 pc_5 rfl rfl (Nat.le_of_ble_eq_true rfl) ((c_X4_stop e36).mono (Nat.le_of_ble_eq_true rfl)) ?_
              refine zn_goto (pc := 97) (tgt := 159) dX9_doStep_97 (by decide) ?_
              have hz := Option.some.inj h37; clear h37; subst hz
              exact zn_return (pc := 159) dX9_doStep_159 rfl hp
      · replace h22 := zif_f c21 h22
        have h39 := h22; clear h22
        by_cases c38 : (zI S 5 i1 4) = 6
        · replace h39 := zif_t c38 h39
          refine zn_tsIn (pc := 4) (tgt := 100) (off := 96) dX9_doStep_4 c38 (by decide) (by decide) ?_
          refine zn_aload_n (pc := 100) 0 dX9_doStep_100 rfl rfl ?_
          refine zn_aload_n (pc := 101) 1 dX9_doStep_101 rfl rfl ?_
          obtain ⟨o40, e41, h42⟩ := zbd h39; clear h39
          refine zn_cV0 (pc := 102) (kc := 0) (ks := 0) (kc' := 0) (ks' := 0) (As := [vR 5 (some i1)]) (st := []) dX9_doStep_102 cs_X9_421 pc_0 rfl rfl (Nat.le_of_ble_eq_true rfl) ((c_X9_moveLines e41).mono (Nat.le_of_ble_eq_true rfl)) ?_
          refine zn_goto (pc := 105) (tgt := 159) dX9_doStep_105 (by decide) ?_
          have hz := Option.some.inj h42; clear h42; subst hz
          exact zn_return (pc := 159) dX9_doStep_159 rfl hp
        · replace h39 := zif_f c38 h39
          have h44 := h39; clear h39
          by_cases c43 : (zI S 5 i1 4) = 7
          · replace h44 := zif_t c43 h44
            refine zn_tsIn (pc := 4) (tgt := 108) (off := 104) dX9_doStep_4 c43 (by decide) (by decide) ?_
            refine zn_aload_n (pc := 108) 1 dX9_doStep_108 rfl rfl ?_
            refine zn_iconst (pc := 109) (x := 0) dX9_doStep_109 (by decide) ?_
            obtain ⟨S45, hS46, h47⟩ := zltd h44; clear h44
            refine zn_putZ (pc := 110) fp_X9_290_5.1 (fp_X9_290_5 (nm := "")).2 dX9_doStep_110 (by decide) hS46 ?_
            refine zn_aload_n (pc := 113) 1 dX9_doStep_113 rfl rfl ?_
            refine zn_getI (pc := 114) fa_X9_414_5.1 fa_X9_414_5.2 dX9_doStep_114 ?_
            have h49 := h47; clear h47
            refine zn_if_ne (pc := 117) (tgt := 159) dX9_doStep_117 (by decide) (fun c48 => ?_) (fun c48 => ?_)
            · replace h49 := zif_f c48 h49
              have hz := Option.some.inj h49; clear h49; subst hz
              exact zn_return (pc := 159) dX9_doStep_159 rfl hp
            · replace h49 := zif_t c48 h49
              refine zn_aload_n (pc := 120) 1 dX9_doStep_120 rfl rfl ?_
              refine zn_getR (pc := 121) fa_X9_280_5.1 fa_X9_280_5.2 dX9_doStep_121 ?_
              refine zn_aload_n (pc := 124) 1 dX9_doStep_124 rfl rfl ?_
              refine zn_getR (pc := 125) fa_X9_299_5.1 fa_X9_299_5.2 dX9_doStep_125 ?_
              refine zn_aload_n (pc := 128) 1 dX9_doStep_128 rfl rfl ?_
              refine zn_getR (pc := 129) fa_X9_280_5.1 fa_X9_280_5.2 dX9_doStep_129 ?_
              obtain ⟨i50, hi51, h52⟩ := zbd h49; clear h49
              rw [hi51]
              refine zn_getJ (pc := 132) fa_X9_163_3.1 fa_X9_163_3.2 dX9_doStep_132 ?_
              obtain ⟨o53, e54, h55⟩ := zbd h52; clear h52
              refine zn_cS0 (pc := 135) (kc := 0) (ks := 0) (kc' := 0) (ks' := 0) (As := [vR 3 (some i50), vR 3 (zR S45 5 i1 1), vJ (zJ S45 3 i50 6)]) (st := []) dX9_doStep_135 cs_X9_424 rfl rfl (Nat.le_of_ble_eq_true rfl) ((c_X9_carry e54).mono (Nat.le_of_ble_eq_true rfl)) ?_
              refine zn_aload_n (pc := 138) 1 dX9_doStep_138 rfl rfl ?_
              refine zn_getR (pc := 139) fa_X9_280_5.1 fa_X9_280_5.2 dX9_doStep_139 ?_
              refine zn_aload_n (pc := 142) 1 dX9_doStep_142 rfl rfl ?_
              refine zn_getR (pc := 143) fa_X9_299_5.1 fa_X9_299_5.2 dX9_doStep_143 ?_
              refine zn_aload_n (pc := 146) 0 dX9_doStep_146 rfl rfl ?_
              refine zn_getR (pc := 147) fa_X9_10_0.1 fa_X9_10_0.2 dX9_doStep_147 ?_
              obtain ⟨i56, hi57, h58⟩ := zbd h55; clear h55
              rw [hi57]
              refine zn_getI (pc := 150) fa_X9_71_1.1 fa_X9_71_1.2 dX9_doStep_150 ?_
              obtain ⟨i59, hi60, h61⟩ := zbd h58; clear h58
              rw [hi60]
              obtain ⟨o62, e63, h64⟩ := zbd h61; clear h61
              refine zn_cV0 (pc := 153) (kc := 0) (ks := 0) (kc' := 0) (ks' := 0) (As := [vR 3 (zR o53 5 i1 1), vI (zI o53 1 i56 4)]) (st := []) dX9_doStep_153 cs_X9_428 pc_3 rfl rfl (Nat.le_of_ble_eq_true rfl) ((c_X0_leaveFor e63).mono (Nat.le_of_ble_eq_true rfl)) ?_
              refine zn_goto (pc := 156) (tgt := 159) dX9_doStep_156 (by decide) ?_
              have hz := Option.some.inj h64; clear h64; subst hz
              exact zn_return (pc := 159) dX9_doStep_159 rfl hp
          · replace h44 := zif_f c43 h44
            refine zn_tsOut (pc := 4) (tgt := 159) dX9_doStep_4 ?_ (by decide) ?_
            · have t0 := lv_neT c4 (show (3 : Int32).toInt = 3 by decide)
              have t1 := lv_neT c19 (show (4 : Int32).toInt = 4 by decide)
              have t2 := lv_neT c21 (show (5 : Int32).toInt = 5 by decide)
              have t3 := lv_neT c38 (show (6 : Int32).toInt = 6 by decide)
              have t4 := lv_neT c43 (show (7 : Int32).toInt = 7 by decide)
              omega
            · have hz := Option.some.inj h44; clear h44; subst hz
              exact zn_return (pc := 159) dX9_doStep_159 rfl hp
theorem c_X9_moveOn {G : zG} {i0 : Nat} {r1 : Option Nat} {S : zH} {out : zH} (h0 : f_X9_moveOn i0 r1 S = some out) : zct G M_X9_moveOn 8 0 0 [vR 0 (some i0), vR 5 r1] S (zpo none out) := by
  refine zct_of (by decide) (Nat.le_of_ble_eq_true rfl) ?_
  show zn G M_X9_moveOn 8 0 0 0 [(0, vR 0 (some i0)), (1, vR 5 r1)] [] S _
  have hp : zpo none out none out := ⟨rfl, rfl⟩
  unfold f_X9_moveOn at h0
  refine zn_aload_n (pc := 0) 1 dX9_moveOn_0 rfl rfl ?_
  obtain ⟨i1, hi2, h3⟩ := zbd h0; clear h0
  rw [hi2]
  refine zn_getR (pc := 1) fa_X9_280_5.1 fa_X9_280_5.2 dX9_moveOn_1 ?_
  obtain ⟨i4, hi5, h6⟩ := zbd h3; clear h3
  rw [hi5]
  refine zn_getR (pc := 4) fa_X9_176_3.1 fa_X9_176_3.2 dX9_moveOn_4 ?_
  refine zn_astore_n (pc := 7) (ls' := [(2, vR 2 (zR S 3 i4 1)), (0, vR 0 (some i0)), (1, vR 5 (some i1))]) dX9_moveOn_7 rfl (Nat.le_of_ble_eq_true rfl) rfl ?_
  refine zn_aload_n (pc := 8) 2 dX9_moveOn_8 rfl rfl ?_
  refine zn_getR (pc := 9) fa_X9_299_5.1 fa_X9_299_5.2 dX9_moveOn_9 ?_
  obtain ⟨i7, hi8, h9⟩ := zbd h6; clear h6
  rw [hi8]
  refine zn_getR (pc := 12) fa_X9_176_3.1 fa_X9_176_3.2 dX9_moveOn_12 ?_
  refine zn_astore_n (pc := 15) (ls' := [(3, vR 2 (zR S 3 i7 1)), (2, vR 2 (zR S 3 i4 1)), (0, vR 0 (some i0)), (1, vR 5 (some i1))]) dX9_moveOn_15 rfl (Nat.le_of_ble_eq_true rfl) rfl ?_
  refine zn_aload_n (pc := 16) 2 dX9_moveOn_16 rfl rfl ?_
  refine zn_getR (pc := 17) fa_X9_10_0.1 fa_X9_10_0.2 dX9_moveOn_17 ?_
  refine zn_aload_n (pc := 20) 1 dX9_moveOn_20 rfl rfl ?_
  obtain ⟨i10, hi11, h12⟩ := zbd h9; clear h9
  rw [hi11]
  refine zn_getI (pc := 21) fa_X9_180_2.1 fa_X9_180_2.2 dX9_moveOn_21 ?_
  refine zn_aload_n (pc := 24) 2 dX9_moveOn_24 rfl rfl ?_
  refine zn_getR (pc := 25) fa_X9_10_0.1 fa_X9_10_0.2 dX9_moveOn_25 ?_
  obtain ⟨i13, hi14, h15⟩ := zbd h12; clear h12
  rw [hi14]
  refine zn_getI (pc := 28) fa_X9_71_1.1 fa_X9_71_1.2 dX9_moveOn_28 ?_
  obtain ⟨o16, e17, h18⟩ := zbd h15; clear h15
  refine zn_cVv (pc := 31) (kc := 0) (ks := 0) (kc' := 0) (ks' := 0) (As := [vI (zI S 2 i10 0), vI (zI S 1 i13 4)]) (st := []) dX9_moveOn_31 cs_X9_120 pc_1 rfl rfl (Nat.le_of_ble_eq_true rfl) ((c_X2_isLate e17).mono (Nat.le_of_ble_eq_true rfl)) ?_
  have h20 := h18; clear h18
  refine zn_if_eq (pc := 34) (tgt := 45) dX9_moveOn_34 (by decide) (fun c19 => ?_) (fun c19 => ?_)
  · replace h20 := zif_t c19 h20
    refine zn_aload_n (pc := 45) 2 dX9_moveOn_45 rfl rfl ?_
    refine zn_getR (pc := 46) fa_X9_10_0.1 fa_X9_10_0.2 dX9_moveOn_46 ?_
    refine zn_aload_n (pc := 49) 0 dX9_moveOn_49 rfl rfl ?_
    obtain ⟨i21, hi22, h23⟩ := zbd h20; clear h20
    rw [hi22]
    refine zn_getI (pc := 50) fa_X9_180_2.1 fa_X9_180_2.2 dX9_moveOn_50 ?_
    refine zn_aload_n (pc := 53) 2 dX9_moveOn_53 rfl rfl ?_
    refine zn_getR (pc := 54) fa_X9_10_0.1 fa_X9_10_0.2 dX9_moveOn_54 ?_
    obtain ⟨i24, hi25, h26⟩ := zbd h23; clear h23
    rw [hi25]
    refine zn_getI (pc := 57) fa_X9_71_1.1 fa_X9_71_1.2 dX9_moveOn_57 ?_
    obtain ⟨o27, e28, h29⟩ := zbd h26; clear h26
    refine zn_cVv (pc := 60) (kc := 0) (ks := 0) (kc' := 0) (ks' := 0) (As := [vI (zI S 2 i21 0), vI (zI S 1 i24 4)]) (st := []) dX9_moveOn_60 cs_X9_120 pc_1 rfl rfl (Nat.le_of_ble_eq_true rfl) ((c_X2_isLate e28).mono (Nat.le_of_ble_eq_true rfl)) ?_
    have h31 := h29; clear h29
    refine zn_if_eq (pc := 63) (tgt := 74) dX9_moveOn_63 (by decide) (fun c30 => ?_) (fun c30 => ?_)
    · replace h31 := zif_t c30 h31
      refine zn_aload_n (pc := 74) 1 dX9_moveOn_74 rfl rfl ?_
      obtain ⟨o32, e33, h34⟩ := zbd h31; clear h31
      refine zn_cVv (pc := 75) (kc := 0) (ks := 0) (kc' := 0) (ks' := 0) (As := []) (st := []) dX9_moveOn_75 cs_X9_408 pc_2 rfl rfl (Nat.le_of_ble_eq_true rfl) ((c_X1_hasStepLeft e33).mono (Nat.le_of_ble_eq_true rfl)) ?_
      have h36 := h34; clear h34
      refine zn_if_eq (pc := 78) (tgt := 134) dX9_moveOn_78 (by decide) (fun c35 => ?_) (fun c35 => ?_)
      · replace h36 := zif_t c35 h36
        have hz := Option.some.inj h36; clear h36; subst hz
        exact zn_return (pc := 134) dX9_moveOn_134 rfl hp
      · replace h36 := zif_f c35 h36
        refine zn_aload_n (pc := 81) 0 dX9_moveOn_81 rfl rfl ?_
        obtain ⟨o37, e38, h39⟩ := zbd h36; clear h36
        refine zn_cVv (pc := 82) (kc := 0) (ks := 0) (kc' := 0) (ks' := 0) (As := []) (st := []) dX9_moveOn_82 cs_X9_408 pc_2 rfl rfl (Nat.le_of_ble_eq_true rfl) ((c_X1_hasStepLeft e38).mono (Nat.le_of_ble_eq_true rfl)) ?_
        have h41 := h39; clear h39
        refine zn_if_eq (pc := 85) (tgt := 134) dX9_moveOn_85 (by decide) (fun c40 => ?_) (fun c40 => ?_)
        · replace h41 := zif_t c40 h41
          have hz := Option.some.inj h41; clear h41; subst hz
          exact zn_return (pc := 134) dX9_moveOn_134 rfl hp
        · replace h41 := zif_f c40 h41
          refine zn_aload_n (pc := 88) 1 dX9_moveOn_88 rfl rfl ?_
          refine zn_dup (pc := 89) dX9_moveOn_89 rfl ?_
          refine zn_getI (pc := 90) fa_X9_396_2.1 fa_X9_396_2.2 dX9_moveOn_90 ?_
          refine zn_iconst (pc := 93) (x := 1) dX9_moveOn_93 (by decide) ?_
          refine zn_iadd (pc := 94) dX9_moveOn_94 ?_
          obtain ⟨S42, hS43, h44⟩ := zltd h41; clear h41
          refine zn_putI (pc := 95) fp_X9_396_2.1 (fp_X9_396_2 (nm := "")).2 dX9_moveOn_95 hS43 ?_
          refine zn_aload_n (pc := 98) 0 dX9_moveOn_98 rfl rfl ?_
          refine zn_dup (pc := 99) dX9_moveOn_99 rfl ?_
          refine zn_getI (pc := 100) fa_X9_396_2.1 fa_X9_396_2.2 dX9_moveOn_100 ?_
          refine zn_iconst (pc := 103) (x := 1) dX9_moveOn_103 (by decide) ?_
          refine zn_iadd (pc := 104) dX9_moveOn_104 ?_
          obtain ⟨S45, hS46, h47⟩ := zltd h44; clear h44
          refine zn_putI (pc := 105) fp_X9_396_2.1 (fp_X9_396_2 (nm := "")).2 dX9_moveOn_105 hS46 ?_
          refine zn_aload_n (pc := 108) 3 dX9_moveOn_108 rfl rfl ?_
          refine zn_dup (pc := 109) dX9_moveOn_109 rfl ?_
          refine zn_getI (pc := 110) fa_X9_293_5.1 fa_X9_293_5.2 dX9_moveOn_110 ?_
          refine zn_iconst (pc := 113) (x := 1) dX9_moveOn_113 (by decide) ?_
          refine zn_iadd (pc := 114) dX9_moveOn_114 ?_
          obtain ⟨S48, hS49, h50⟩ := zltd h47; clear h47
          refine zn_putI (pc := 115) fp_X9_293_5.1 (fp_X9_293_5 (nm := "")).2 dX9_moveOn_115 hS49 ?_
          refine zn_aload_n (pc := 118) 3 dX9_moveOn_118 rfl rfl ?_
          refine zn_aload_n (pc := 119) 2 dX9_moveOn_119 rfl rfl ?_
          refine zn_getR (pc := 120) fa_X9_10_0.1 fa_X9_10_0.2 dX9_moveOn_120 ?_
          obtain ⟨i51, hi52, h53⟩ := zbd h50; clear h50
          rw [hi52]
          refine zn_getI (pc := 123) fa_X9_71_1.1 fa_X9_71_1.2 dX9_moveOn_123 ?_
          obtain ⟨S54, hS55, h56⟩ := zltd h53; clear h53
          refine zn_putI (pc := 126) fp_X9_314_5.1 (fp_X9_314_5 (nm := "")).2 dX9_moveOn_126 hS55 ?_
          refine zn_aload_n (pc := 129) 2 dX9_moveOn_129 rfl rfl ?_
          refine zn_aload_n (pc := 130) 3 dX9_moveOn_130 rfl rfl ?_
          obtain ⟨o57, e58, h59⟩ := zbd h56; clear h56
          refine zn_cV0 (pc := 131) (kc := 0) (ks := 0) (kc' := 0) (ks' := 0) (As := [vR 5 (some i1)]) (st := []) dX9_moveOn_131 cs_X9_411 pc_0 rfl rfl (Nat.le_of_ble_eq_true rfl) ((c_X9_doStep e58).mono (Nat.le_of_ble_eq_true rfl)) ?_
          have hz := Option.some.inj h59; clear h59; subst hz
          exact zn_return (pc := 134) dX9_moveOn_134 rfl hp
    · replace h31 := zif_f c30 h31
      refine zn_aload_n (pc := 66) 3 dX9_moveOn_66 rfl rfl ?_
      refine zn_aload_n (pc := 67) 0 dX9_moveOn_67 rfl rfl ?_
      obtain ⟨o60, e61, h62⟩ := zbd h31; clear h31
      refine zn_cV0 (pc := 68) (kc := 0) (ks := 0) (kc' := 0) (ks' := 0) (As := [vR 2 (some i21)]) (st := []) dX9_moveOn_68 cs_X9_404 pc_5 rfl rfl (Nat.le_of_ble_eq_true rfl) ((c_X4_addFault e61).mono (Nat.le_of_ble_eq_true rfl)) ?_
      refine zn_goto (pc := 71) (tgt := 134) dX9_moveOn_71 (by decide) ?_
      have hz := Option.some.inj h62; clear h62; subst hz
      exact zn_return (pc := 134) dX9_moveOn_134 rfl hp
  · replace h20 := zif_f c19 h20
    refine zn_aload_n (pc := 37) 3 dX9_moveOn_37 rfl rfl ?_
    refine zn_aload_n (pc := 38) 1 dX9_moveOn_38 rfl rfl ?_
    obtain ⟨o63, e64, h65⟩ := zbd h20; clear h20
    refine zn_cV0 (pc := 39) (kc := 0) (ks := 0) (kc' := 0) (ks' := 0) (As := [vR 2 (some i10)]) (st := []) dX9_moveOn_39 cs_X9_404 pc_5 rfl rfl (Nat.le_of_ble_eq_true rfl) ((c_X4_addFault e64).mono (Nat.le_of_ble_eq_true rfl)) ?_
    refine zn_goto (pc := 42) (tgt := 134) dX9_moveOn_42 (by decide) ?_
    have hz := Option.some.inj h65; clear h65; subst hz
    exact zn_return (pc := 134) dX9_moveOn_134 rfl hp
theorem b_X9_doMoves_2 {G : zG} {Post : Option zV → zH → Prop} : ∀ (n : Nat) (i0 : Nat) (x1 : Int32) (S : zH) (out : zH), f_X9_doMoves_2 n i0 x1 S = some out → Post none out → zn G M_X9_doMoves 9 0 0 2 [(0, vR 0 (some i0)), (1, vI x1)] [] S Post := by
  intro n
  induction n with
  | zero => intro i0 x1 S out h0 hp; exact (nomatch (show (none : Option _) = some out from h0))
  | succ n ih =>
    intro i0 x1 S out h0 hp
    rw [f_X9_doMoves_2] at h0
    refine zn_iload_n (pc := 2) 1 dX9_doMoves_2 rfl rfl ?_
    refine zn_aload_n (pc := 3) 0 dX9_doMoves_3 rfl rfl ?_
    refine zn_getR (pc := 4) fa_X9_35_0.1 fa_X9_35_0.2 dX9_doMoves_4 ?_
    obtain ⟨i1, hi2, h3⟩ := zbd h0; clear h0
    rw [hi2]
    obtain ⟨o4, e5, h6⟩ := zbd h3; clear h3
    refine zn_cVv (pc := 7) (kc := 0) (ks := 0) (kc' := 0) (ks' := 0) (As := []) (st := [vI x1]) dX9_doMoves_7 cls_X9_142 pc_12 rfl rfl (Nat.le_of_ble_eq_true rfl) (zc_size (p := 12) (by decide) (Nat.le_of_ble_eq_true rfl) e5) ?_
    have h8 := h6; clear h6
    refine zn_icmp_ge (pc := 10) (tgt := 57) dX9_doMoves_10 (by decide) (fun c7 => ?_) (fun c7 => ?_)
    · replace h8 := zif_t c7 h8
      have hz := Option.some.inj h8; clear h8; subst hz
      exact zn_return (pc := 57) dX9_doMoves_57 rfl hp
    · replace h8 := zif_f c7 h8
      refine zn_aload_n (pc := 13) 0 dX9_doMoves_13 rfl rfl ?_
      refine zn_getR (pc := 14) fa_X9_35_0.1 fa_X9_35_0.2 dX9_doMoves_14 ?_
      refine zn_iload_n (pc := 17) 1 dX9_doMoves_17 rfl rfl ?_
      obtain ⟨i9, hi10, h11⟩ := zbd h8; clear h8
      rw [hi10]
      obtain ⟨o12, e13, h14⟩ := zbd h11; clear h11
      refine zn_cVv (pc := 18) (kc := 0) (ks := 0) (kc' := 0) (ks' := 0) (As := [vI x1]) (st := []) dX9_doMoves_18 clg_X9_353 pc_12 rfl rfl (Nat.le_of_ble_eq_true rfl) (zc_get (p := 12) (by decide) rfl (Nat.le_of_ble_eq_true rfl) e13) ?_
      refine zn_cast (pc := 21) cl_X9_271 pc_5 dX9_doMoves_21 ?_
      refine zn_astore_n (pc := 24) (ls' := [(2, vR 5 o12), (0, vR 0 (some i0)), (1, vI x1)]) dX9_doMoves_24 rfl (Nat.le_of_ble_eq_true rfl) rfl ?_
      refine zn_aload_n (pc := 25) 0 dX9_doMoves_25 rfl rfl ?_
      obtain ⟨i15, hi16, h17⟩ := zbd h14; clear h14
      rw [hi16]
      refine zn_getI (pc := 26) fa_X9_290_5.1 fa_X9_290_5.2 dX9_doMoves_26 ?_
      have h19 := h17; clear h17
      refine zn_if_eq (pc := 29) (tgt := 51) dX9_doMoves_29 (by decide) (fun c18 => ?_) (fun c18 => ?_)
      · replace h19 := zif_t c18 h19
        refine zn_iinc (pc := 51) 2 (y := x1 + 1) (ls' := [(1, vI (x1 + 1)), (2, vR 5 (some i15)), (0, vR 0 (some i0))]) dX9_doMoves_51 rfl rfl (Nat.le_of_ble_eq_true rfl) rfl ?_
        refine zn_goto (pc := 54) (tgt := 2) dX9_doMoves_54 (by decide) ?_
        refine zn_pick [2, 0] rfl ?_
        exact ih _ _ _ _ h19 hp
      · replace h19 := zif_f c18 h19
        refine zn_aload_n (pc := 32) 0 dX9_doMoves_32 rfl rfl ?_
        refine zn_getI (pc := 33) fa_X9_311_5.1 fa_X9_311_5.2 dX9_doMoves_33 ?_
        refine zn_aload_n (pc := 36) 1 dX9_doMoves_36 rfl rfl ?_
        refine zn_getR (pc := 37) fa_X9_10_0.1 fa_X9_10_0.2 dX9_doMoves_37 ?_
        obtain ⟨i20, hi21, h22⟩ := zbd h19; clear h19
        rw [hi21]
        refine zn_getI (pc := 40) fa_X9_71_1.1 fa_X9_71_1.2 dX9_doMoves_40 ?_
        have h24 := h22; clear h22
        refine zn_icmp_ge (pc := 43) (tgt := 51) dX9_doMoves_43 (by decide) (fun c23 => ?_) (fun c23 => ?_)
        · replace h24 := zif_t c23 h24
          refine zn_iinc (pc := 51) 2 (y := x1 + 1) (ls' := [(1, vI (x1 + 1)), (2, vR 5 (some i15)), (0, vR 0 (some i0))]) dX9_doMoves_51 rfl rfl (Nat.le_of_ble_eq_true rfl) rfl ?_
          refine zn_goto (pc := 54) (tgt := 2) dX9_doMoves_54 (by decide) ?_
          refine zn_pick [2, 0] rfl ?_
          exact ih _ _ _ _ h24 hp
        · replace h24 := zif_f c23 h24
          refine zn_aload_n (pc := 46) 1 dX9_doMoves_46 rfl rfl ?_
          refine zn_aload_n (pc := 47) 0 dX9_doMoves_47 rfl rfl ?_
          obtain ⟨o25, e26, h27⟩ := zbd h24; clear h24
          refine zn_cV0 (pc := 48) (kc := 0) (ks := 0) (kc' := 0) (ks' := 0) (As := [vR 5 (some i15)]) (st := []) dX9_doMoves_48 cs_X9_400 pc_0 rfl rfl (Nat.le_of_ble_eq_true rfl) ((c_X9_moveOn e26).mono (Nat.le_of_ble_eq_true rfl)) ?_
          refine zn_iinc (pc := 51) 2 (y := x1 + 1) (ls' := [(1, vI (x1 + 1)), (2, vR 5 (some i15)), (0, vR 0 (some i0))]) dX9_doMoves_51 rfl rfl (Nat.le_of_ble_eq_true rfl) rfl ?_
          refine zn_goto (pc := 54) (tgt := 2) dX9_doMoves_54 (by decide) ?_
          refine zn_pick [2, 0] rfl ?_
          exact ih _ _ _ _ h27 hp
theorem c_X9_doMoves {G : zG} {i0 : Nat} {S : zH} {out : zH} (h0 : f_X9_doMoves i0 S = some out) : zct G M_X9_doMoves 9 0 0 [vR 0 (some i0)] S (zpo none out) := by
  refine zct_of (by decide) (Nat.le_of_ble_eq_true rfl) ?_
  show zn G M_X9_doMoves 9 0 0 0 [(0, vR 0 (some i0))] [] S _
  have hp : zpo none out none out := ⟨rfl, rfl⟩
  unfold f_X9_doMoves at h0
  refine zn_iconst (pc := 0) (x := 0) dX9_doMoves_0 (by decide) ?_
  refine zn_istore_n (pc := 1) (ls' := [(1, vI 0), (0, vR 0 (some i0))]) dX9_doMoves_1 rfl (Nat.le_of_ble_eq_true rfl) rfl ?_
  refine zn_pick [1, 0] rfl ?_
  exact b_X9_doMoves_2  fu _ _ _ _ h0 hp
theorem c_X9_isSentOn {G : zG} {i0 : Nat} {r1 : Option Nat} {r2 : Option Nat} {x3 : Int32} {r4 : Option Nat} {S : zH} {out : (Int32 × zH)} (h0 : f_X9_isSentOn i0 r1 r2 x3 r4 S = some out) : zct G M_X9_isSentOn 2 0 0 [vR 0 (some i0), vR 3 r1, vR 3 r2, vI x3, vR 6 r4] S (zpo (some (vI out.1)) out.2) := by
  refine zct_of (by decide) (Nat.le_of_ble_eq_true rfl) ?_
  show zn G M_X9_isSentOn 2 0 0 0 [(0, vR 0 (some i0)), (1, vR 3 r1), (2, vR 3 r2), (3, vI x3), (4, vR 6 r4)] [] S _
  have hp : zpo (some (vI out.1)) out.2 (some (vI out.1)) out.2 := ⟨rfl, rfl⟩
  unfold f_X9_isSentOn at h0
  refine zn_iload_n (pc := 0) 3 dX9_isSentOn_0 rfl rfl ?_
  refine zn_aload_n (pc := 1) 1 dX9_isSentOn_1 rfl rfl ?_
  obtain ⟨i1, hi2, h3⟩ := zbd h0; clear h0
  rw [hi2]
  refine zn_getI (pc := 2) fa_X9_185_3.1 fa_X9_185_3.2 dX9_isSentOn_2 ?_
  refine zn_isub (pc := 5) dX9_isSentOn_5 ?_
  refine zn_istore (pc := 6) (ls' := [(5, vI (x3 - (zI S 3 i1 10))), (0, vR 0 (some i0)), (1, vR 3 (some i1)), (2, vR 3 r2), (3, vI x3), (4, vR 6 r4)]) dX9_isSentOn_6 (Nat.le_of_ble_eq_true rfl) rfl ?_
  refine zn_aload (pc := 8) 5 dX9_isSentOn_8 rfl ?_
  have h6 := h3; clear h3
  refine zn_ifnonnull (pc := 10) (tgt := 27) dX9_isSentOn_10 (by decide) (fun i5 hr4 => ?_) (fun hr4 => ?_)
  · replace h6 := zop_s hr4 h6
    rw [hr4]
    refine zn_aload_n (pc := 27) 1 dX9_isSentOn_27 rfl rfl ?_
    refine zn_getR (pc := 28) fa_X9_41_0.1 fa_X9_41_0.2 dX9_isSentOn_28 ?_
    obtain ⟨i9, hi10, h11⟩ := zbd h6; clear h6
    rw [hi10]
    obtain ⟨o12, e13, h14⟩ := zbd h11; clear h11
    refine zn_cVv (pc := 31) (kc := 0) (ks := 0) (kc' := 0) (ks' := 0) (As := []) (st := []) dX9_isSentOn_31 cs_X9_373 pc_7 rfl rfl (Nat.le_of_ble_eq_true rfl) ((c_X6_freshLetters e13).mono (Nat.le_of_ble_eq_true rfl)) ?_
    refine zn_astore (pc := 34) (ls' := [(6, vR 26 o12.1), (5, vI (x3 - (zI S 3 i1 10))), (0, vR 0 (some i0)), (1, vR 3 (some i1)), (2, vR 3 r2), (3, vI x3), (4, vR 6 (some i5))]) dX9_isSentOn_34 (Nat.le_of_ble_eq_true rfl) rfl ?_
    refine zn_aload (pc := 36) 0 dX9_isSentOn_36 rfl ?_
    refine zn_iconst (pc := 38) (x := 0) dX9_isSentOn_38 (by decide) ?_
    refine zn_aload_n (pc := 39) 3 dX9_isSentOn_39 rfl rfl ?_
    refine zn_getR (pc := 40) fa_X9_176_3.1 fa_X9_176_3.2 dX9_isSentOn_40 ?_
    obtain ⟨i15, hi16, h17⟩ := zbd h14; clear h14
    rw [hi16]
    refine zn_getI (pc := 43) fa_X9_180_2.1 fa_X9_180_2.2 dX9_isSentOn_43 ?_
    refine zn_i2l (pc := 46) dX9_isSentOn_46 ?_
    obtain ⟨i18, hi19, h20⟩ := zbd h17; clear h17
    rw [hi19]
    obtain ⟨hb21, h22⟩ := zgdd h20; clear h20
    obtain ⟨S23, hS24, h25⟩ := zltd h22; clear h22
    refine zn_lastore (pc := 47) zk_26 dX9_isSentOn_47 (zib_in hb21) hS24 ?_
    refine zn_aload (pc := 48) 0 dX9_isSentOn_48 rfl ?_
    refine zn_iconst (pc := 50) (x := 1) dX9_isSentOn_50 (by decide) ?_
    refine zn_aload_n (pc := 51) 4 dX9_isSentOn_51 rfl rfl ?_
    obtain ⟨i26, hi27, h28⟩ := zbd h25; clear h25
    rw [hi27]
    refine zn_getR (pc := 52) fa_X9_176_3.1 fa_X9_176_3.2 dX9_isSentOn_52 ?_
    obtain ⟨i29, hi30, h31⟩ := zbd h28; clear h28
    rw [hi30]
    refine zn_getI (pc := 55) fa_X9_180_2.1 fa_X9_180_2.2 dX9_isSentOn_55 ?_
    refine zn_i2l (pc := 58) dX9_isSentOn_58 ?_
    obtain ⟨hb32, h33⟩ := zgdd h31; clear h31
    obtain ⟨S34, hS35, h36⟩ := zltd h33; clear h33
    refine zn_lastore (pc := 59) zk_26 dX9_isSentOn_59 (zib_in hb32) hS35 ?_
    refine zn_aload (pc := 60) 0 dX9_isSentOn_60 rfl ?_
    refine zn_bipush (pc := 62) (x := 9) dX9_isSentOn_62 (by decide) ?_
    refine zn_iload (pc := 64) 1 dX9_isSentOn_64 rfl ?_
    refine zn_i2l (pc := 66) dX9_isSentOn_66 ?_
    obtain ⟨hb37, h38⟩ := zgdd h36; clear h36
    obtain ⟨S39, hS40, h41⟩ := zltd h38; clear h38
    refine zn_lastore (pc := 67) zk_26 dX9_isSentOn_67 (zib_in hb37) hS40 ?_
    refine zn_iload (pc := 68) 1 dX9_isSentOn_68 rfl ?_
    refine zn_i2l (pc := 70) dX9_isSentOn_70 ?_
    refine zn_aload (pc := 71) 6 dX9_isSentOn_71 rfl ?_
    refine zn_aload (pc := 73) 0 dX9_isSentOn_73 rfl ?_
    refine zn_aload_n (pc := 75) 2 dX9_isSentOn_75 rfl rfl ?_
    refine zn_getR (pc := 76) fa_X9_41_0.1 fa_X9_41_0.2 dX9_isSentOn_76 ?_
    obtain ⟨i42, hi43, h44⟩ := zbd h41; clear h41
    rw [hi43]
    refine zn_getR (pc := 79) fa_X9_377_7.1 fa_X9_377_7.2 dX9_isSentOn_79 ?_
    obtain ⟨o45, e46, h47⟩ := zbd h44; clear h44
    refine zn_cVv (pc := 82) (kc := 0) (ks := 0) (kc' := 0) (ks' := 0) (As := [vR 26 (some i18), vR 27 (zR S39 7 i42 2)]) (st := [vJ (Int32.toInt64 (x3 - (zI S 3 i1 10)))]) dX9_isSentOn_82 cs_X9_380 pc_6 rfl rfl (Nat.le_of_ble_eq_true rfl) ((c_X5_worth e46).mono (Nat.le_of_ble_eq_true rfl)) ?_
    refine zn_lcmp (pc := 85) dX9_isSentOn_85 ?_
    have h49 := h47; clear h47
    refine zn_if_gt (pc := 86) (tgt := 93) dX9_isSentOn_86 (by decide) (fun c48 => ?_) (fun c48 => ?_)
    · replace h49 := zif_t c48 h49
      refine zn_iconst (pc := 93) (x := 0) dX9_isSentOn_93 (by decide) ?_
      have hz := Option.some.inj h49; clear h49; subst hz
      exact zn_zreturn (pc := 94) dX9_isSentOn_94 rfl (by decide) hp
    · replace h49 := zif_f c48 h49
      refine zn_iconst (pc := 89) (x := 1) dX9_isSentOn_89 (by decide) ?_
      refine zn_goto (pc := 90) (tgt := 94) dX9_isSentOn_90 (by decide) ?_
      have hz := Option.some.inj h49; clear h49; subst hz
      exact zn_zreturn (pc := 94) dX9_isSentOn_94 rfl (by decide) hp
  · replace h6 := zop_n hr4 h6
    rw [hr4]
    refine zn_iload (pc := 13) 0 dX9_isSentOn_13 rfl ?_
    refine zn_sipush (pc := 15) (x := 1095) dX9_isSentOn_15 (by decide) ?_
    have h8 := h6; clear h6
    refine zn_icmp_gt (pc := 18) (tgt := 25) dX9_isSentOn_18 (by decide) (fun c7 => ?_) (fun c7 => ?_)
    · replace h8 := zif_t c7 h8
      refine zn_iconst (pc := 25) (x := 0) dX9_isSentOn_25 (by decide) ?_
      have hz := Option.some.inj h8; clear h8; subst hz
      exact zn_zreturn (pc := 26) dX9_isSentOn_26 rfl (by decide) hp
    · replace h8 := zif_f c7 h8
      refine zn_iconst (pc := 21) (x := 1) dX9_isSentOn_21 (by decide) ?_
      refine zn_goto (pc := 22) (tgt := 26) dX9_isSentOn_22 (by decide) ?_
      have hz := Option.some.inj h8; clear h8; subst hz
      exact zn_zreturn (pc := 26) dX9_isSentOn_26 rfl (by decide) hp
theorem b_X9_findRoutes_20 {G : zG} {Post : Option zV → zH → Prop} : ∀ (n : Nat) (i0 : Nat) (x1 : Int32) (r2 : Option Nat) (x3 : Int32) (S : zH) (out : zH), f_X9_findRoutes_20 n i0 x1 r2 x3 S = some out → Post none out → zn G M_X9_findRoutes 5 0 0 20 [(0, vR 0 (some i0)), (1, vI x1), (2, vR 6 r2), (3, vI x3)] [] S Post := by
  intro n
  induction n with
  | zero => intro i0 x1 r2 x3 S out h0 hp; exact (nomatch (show (none : Option _) = some out from h0))
  | succ n ih =>
    intro i0 x1 r2 x3 S out h0 hp
    rw [f_X9_findRoutes_20] at h0
    refine zn_iload_n (pc := 20) 3 dX9_findRoutes_20 rfl rfl ?_
    have h2 := h0; clear h0
    refine zn_if_lt (pc := 21) (tgt := 94) dX9_findRoutes_21 (by decide) (fun c1 => ?_) (fun c1 => ?_)
    · replace h2 := zif_t c1 h2
      have hz := Option.some.inj h2; clear h2; subst hz
      exact zn_return (pc := 94) dX9_findRoutes_94 rfl hp
    · replace h2 := zif_f c1 h2
      refine zn_aload_n (pc := 24) 0 dX9_findRoutes_24 rfl rfl ?_
      refine zn_getR (pc := 25) fa_X9_28_0.1 fa_X9_28_0.2 dX9_findRoutes_25 ?_
      refine zn_iload_n (pc := 28) 3 dX9_findRoutes_28 rfl rfl ?_
      obtain ⟨i3, hi4, h5⟩ := zbd h2; clear h2
      rw [hi4]
      obtain ⟨o6, e7, h8⟩ := zbd h5; clear h5
      refine zn_cVv (pc := 29) (kc := 0) (ks := 0) (kc' := 0) (ks' := 0) (As := [vI x3]) (st := []) dX9_findRoutes_29 clg_X9_353 pc_10 rfl rfl (Nat.le_of_ble_eq_true rfl) (zc_get (p := 10) (by decide) rfl (Nat.le_of_ble_eq_true rfl) e7) ?_
      refine zn_cast (pc := 32) cl_X9_151 pc_3 dX9_findRoutes_32 ?_
      refine zn_astore (pc := 35) (ls' := [(4, vR 3 o6), (0, vR 0 (some i0)), (1, vI x1), (2, vR 6 r2), (3, vI x3)]) dX9_findRoutes_35 (Nat.le_of_ble_eq_true rfl) rfl ?_
      refine zn_aload (pc := 37) 0 dX9_findRoutes_37 rfl ?_
      obtain ⟨i9, hi10, h11⟩ := zbd h8; clear h8
      rw [hi10]
      refine zn_getR (pc := 39) fa_X9_181_3.1 fa_X9_181_3.2 dX9_findRoutes_39 ?_
      have h14 := h11; clear h11
      refine zn_ifnonnull (pc := 42) (tgt := 55) dX9_findRoutes_42 (by decide) (fun i13 hr12 => ?_) (fun hr12 => ?_)
      · replace h14 := zop_s hr12 h14
        refine zn_aload (pc := 55) 0 dX9_findRoutes_55 rfl ?_
        refine zn_aload_n (pc := 57) 1 dX9_findRoutes_57 rfl rfl ?_
        refine zn_aload (pc := 58) 0 dX9_findRoutes_58 rfl ?_
        refine zn_aload (pc := 60) 0 dX9_findRoutes_60 rfl ?_
        refine zn_getR (pc := 62) fa_X9_181_3.1 fa_X9_181_3.2 dX9_findRoutes_62 ?_
        refine zn_iload_n (pc := 65) 2 dX9_findRoutes_65 rfl rfl ?_
        refine zn_aload_n (pc := 66) 3 dX9_findRoutes_66 rfl rfl ?_
        obtain ⟨o18, e19, h20⟩ := zbd h14; clear h14
        refine zn_cVv (pc := 67) (kc := 0) (ks := 0) (kc' := 0) (ks' := 0) (As := [vR 3 (some i9), vR 3 (zR S 3 i9 9), vI x1, vR 6 r2]) (st := [vR 3 (some i9)]) dX9_findRoutes_67 cs_X9_369 pc_0 rfl rfl (Nat.le_of_ble_eq_true rfl) ((c_X9_isSentOn e19).mono (Nat.le_of_ble_eq_true rfl)) ?_
        have h22 := h20; clear h20
        refine zn_if_eq (pc := 70) (tgt := 84) dX9_findRoutes_70 (by decide) (fun c21 => ?_) (fun c21 => ?_)
        · replace h22 := zif_t c21 h22
          refine zn_null (pc := 84) 3 dX9_findRoutes_84 ?_
          obtain ⟨S23, hS24, h25⟩ := zltd h22; clear h22
          refine zn_putR (pc := 85) fp_X9_195_3.1 (fp_X9_195_3 (nm := "")).2.2 (fp_X9_195_3 (nm := "")).2.1 dX9_findRoutes_85 hS24 ?_
          refine zn_iinc (pc := 88) 4 (y := x3 + (-1)) (ls' := [(3, vI (x3 + (-1))), (4, vR 3 (some i9)), (0, vR 0 (some i0)), (1, vI x1), (2, vR 6 r2)]) dX9_findRoutes_88 rfl rfl (Nat.le_of_ble_eq_true rfl) rfl ?_
          refine zn_goto (pc := 91) (tgt := 20) dX9_findRoutes_91 (by decide) ?_
          refine zn_pick [2, 3, 4, 0] rfl ?_
          exact ih _ _ _ _ _ _ h25 hp
        · replace h22 := zif_f c21 h22
          refine zn_aload (pc := 73) 0 dX9_findRoutes_73 rfl ?_
          refine zn_getR (pc := 75) fa_X9_181_3.1 fa_X9_181_3.2 dX9_findRoutes_75 ?_
          obtain ⟨i26, hi27, h28⟩ := zbd h22; clear h22
          rw [hi27]
          refine zn_getR (pc := 78) fa_X9_195_3.1 fa_X9_195_3.2 dX9_findRoutes_78 ?_
          refine zn_goto (pc := 81) (tgt := 85) dX9_findRoutes_81 (by decide) ?_
          obtain ⟨S29, hS30, h31⟩ := zltd h28; clear h28
          refine zn_putR (pc := 85) fp_X9_195_3.1 (fp_X9_195_3 (nm := "")).2.2 (fp_X9_195_3 (nm := "")).2.1 dX9_findRoutes_85 hS30 ?_
          refine zn_iinc (pc := 88) 4 (y := x3 + (-1)) (ls' := [(3, vI (x3 + (-1))), (4, vR 3 (some i9)), (0, vR 0 (some i0)), (1, vI x1), (2, vR 6 r2)]) dX9_findRoutes_88 rfl rfl (Nat.le_of_ble_eq_true rfl) rfl ?_
          refine zn_goto (pc := 91) (tgt := 20) dX9_findRoutes_91 (by decide) ?_
          refine zn_pick [2, 3, 4, 0] rfl ?_
          exact ih _ _ _ _ _ _ h31 hp
      · replace h14 := zop_n hr12 h14
        refine zn_aload (pc := 45) 0 dX9_findRoutes_45 rfl ?_
        refine zn_aload (pc := 47) 0 dX9_findRoutes_47 rfl ?_
        obtain ⟨S15, hS16, h17⟩ := zltd h14; clear h14
        refine zn_putR (pc := 49) fp_X9_195_3.1 (fp_X9_195_3 (nm := "")).2.2 (fp_X9_195_3 (nm := "")).2.1 dX9_findRoutes_49 hS16 ?_
        refine zn_goto (pc := 52) (tgt := 88) dX9_findRoutes_52 (by decide) ?_
        refine zn_iinc (pc := 88) 4 (y := x3 + (-1)) (ls' := [(3, vI (x3 + (-1))), (4, vR 3 (some i9)), (0, vR 0 (some i0)), (1, vI x1), (2, vR 6 r2)]) dX9_findRoutes_88 rfl rfl (Nat.le_of_ble_eq_true rfl) rfl ?_
        refine zn_goto (pc := 91) (tgt := 20) dX9_findRoutes_91 (by decide) ?_
        refine zn_pick [2, 3, 4, 0] rfl ?_
        exact ih _ _ _ _ _ _ h17 hp
theorem c_X9_findRoutes {G : zG} {i0 : Nat} {x1 : Int32} {S : zH} {out : zH} (h0 : f_X9_findRoutes i0 x1 S = some out) : zct G M_X9_findRoutes 5 0 0 [vR 0 (some i0), vI x1] S (zpo none out) := by
  refine zct_of (by decide) (Nat.le_of_ble_eq_true rfl) ?_
  show zn G M_X9_findRoutes 5 0 0 0 [(0, vR 0 (some i0)), (1, vI x1)] [] S _
  have hp : zpo none out none out := ⟨rfl, rfl⟩
  unfold f_X9_findRoutes at h0
  refine zn_aload_n (pc := 0) 0 dX9_findRoutes_0 rfl rfl ?_
  refine zn_getR (pc := 1) fa_X9_41_0.1 fa_X9_41_0.2 dX9_findRoutes_1 ?_
  refine zn_iconst (pc := 4) (x := 1) dX9_findRoutes_4 (by decide) ?_
  refine zn_iload_n (pc := 5) 1 dX9_findRoutes_5 rfl rfl ?_
  obtain ⟨i32, hi33, h34⟩ := zbd h0; clear h0
  rw [hi33]
  obtain ⟨o35, e36, h37⟩ := zbd h34; clear h34
  refine zn_cVv (pc := 6) (kc := 0) (ks := 0) (kc' := 0) (ks' := 0) (As := [vI 1, vI x1]) (st := []) dX9_findRoutes_6 cs_X9_365 pc_7 rfl rfl (Nat.le_of_ble_eq_true rfl) ((c_X6_inForce e36).mono (Nat.le_of_ble_eq_true rfl)) ?_
  refine zn_astore_n (pc := 9) (ls' := [(2, vR 6 o35), (0, vR 0 (some i0)), (1, vI x1)]) dX9_findRoutes_9 rfl (Nat.le_of_ble_eq_true rfl) rfl ?_
  refine zn_aload_n (pc := 10) 1 dX9_findRoutes_10 rfl rfl ?_
  refine zn_getR (pc := 11) fa_X9_28_0.1 fa_X9_28_0.2 dX9_findRoutes_11 ?_
  obtain ⟨i38, hi39, h40⟩ := zbd h37; clear h37
  rw [hi39]
  obtain ⟨o41, e42, h43⟩ := zbd h40; clear h40
  refine zn_cVv (pc := 14) (kc := 0) (ks := 0) (kc' := 0) (ks' := 0) (As := []) (st := []) dX9_findRoutes_14 cls_X9_142 pc_10 rfl rfl (Nat.le_of_ble_eq_true rfl) (zc_size (p := 10) (by decide) (Nat.le_of_ble_eq_true rfl) e42) ?_
  refine zn_iconst (pc := 17) (x := 1) dX9_findRoutes_17 (by decide) ?_
  refine zn_isub (pc := 18) dX9_findRoutes_18 ?_
  refine zn_istore_n (pc := 19) (ls' := [(3, vI (o41 - 1)), (2, vR 6 o35), (0, vR 0 (some i0)), (1, vI x1)]) dX9_findRoutes_19 rfl (Nat.le_of_ble_eq_true rfl) rfl ?_
  refine zn_pick [2, 3, 1, 0] rfl ?_
  exact b_X9_findRoutes_20  fu _ _ _ _ _ _ h43 hp
theorem c_X3_isDue {G : zG} {i0 : Nat} {x1 : Int32} {S : zH} {out : Int32} (h0 : f_X3_isDue i0 x1 S = some out) : zct G M_X3_isDue 0 0 0 [vR 4 (some i0), vI x1] S (zpo (some (vI out)) S) := by
  refine zct_of (by decide) (Nat.le_of_ble_eq_true rfl) ?_
  show zn G M_X3_isDue 0 0 0 0 [(0, vR 4 (some i0)), (1, vI x1)] [] S _
  have hp : zpo (some (vI out)) S (some (vI out)) S := ⟨rfl, rfl⟩
  unfold f_X3_isDue at h0
  refine zn_aload_n (pc := 0) 0 dX3_isDue_0 rfl rfl ?_
  refine zn_getI (pc := 1) fa_X3_35_4.1 fa_X3_35_4.2 dX3_isDue_1 ?_
  refine zn_iload_n (pc := 4) 1 dX3_isDue_4 rfl rfl ?_
  have h2 := h0; clear h0
  refine zn_icmp_ne (pc := 5) (tgt := 27) dX3_isDue_5 (by decide) (fun c1 => ?_) (fun c1 => ?_)
  · replace h2 := zif_f c1 h2
    refine zn_iconst (pc := 27) (x := 0) dX3_isDue_27 (by decide) ?_
    have hz := Option.some.inj h2; clear h2; subst hz
    exact zn_zreturn (pc := 28) dX3_isDue_28 rfl (by decide) hp
  · replace h2 := zif_t c1 h2
    refine zn_aload_n (pc := 8) 0 dX3_isDue_8 rfl rfl ?_
    refine zn_getI (pc := 9) fa_X3_38_4.1 fa_X3_38_4.2 dX3_isDue_9 ?_
    have h4 := h2; clear h2
    refine zn_if_eq (pc := 12) (tgt := 23) dX3_isDue_12 (by decide) (fun c3 => ?_) (fun c3 => ?_)
    · replace h4 := zif_t c3 h4
      refine zn_iconst (pc := 23) (x := 1) dX3_isDue_23 (by decide) ?_
      refine zn_goto (pc := 24) (tgt := 28) dX3_isDue_24 (by decide) ?_
      have hz := Option.some.inj h4; clear h4; subst hz
      exact zn_zreturn (pc := 28) dX3_isDue_28 rfl (by decide) hp
    · replace h4 := zif_f c3 h4
      refine zn_iload_n (pc := 15) 1 dX3_isDue_15 rfl rfl ?_
      refine zn_aload_n (pc := 16) 0 dX3_isDue_16 rfl rfl ?_
      refine zn_getI (pc := 17) fa_X3_42_4.1 fa_X3_42_4.2 dX3_isDue_17 ?_
      have h6 := h4; clear h4
      refine zn_icmp_ge (pc := 20) (tgt := 27) dX3_isDue_20 (by decide) (fun c5 => ?_) (fun c5 => ?_)
      · replace h6 := zif_t c5 h6
        refine zn_iconst (pc := 27) (x := 0) dX3_isDue_27 (by decide) ?_
        have hz := Option.some.inj h6; clear h6; subst hz
        exact zn_zreturn (pc := 28) dX3_isDue_28 rfl (by decide) hp
      · replace h6 := zif_f c5 h6
        refine zn_iconst (pc := 23) (x := 1) dX3_isDue_23 (by decide) ?_
        refine zn_goto (pc := 24) (tgt := 28) dX3_isDue_24 (by decide) ?_
        have hz := Option.some.inj h6; clear h6; subst hz
        exact zn_zreturn (pc := 28) dX3_isDue_28 rfl (by decide) hp
theorem c_X3_setNextDue {G : zG} {i0 : Nat} {S : zH} {out : zH} (h0 : f_X3_setNextDue i0 S = some out) : zct G M_X3_setNextDue 0 0 0 [vR 4 (some i0)] S (zpo none out) := by
  refine zct_of (by decide) (Nat.le_of_ble_eq_true rfl) ?_
  show zn G M_X3_setNextDue 0 0 0 0 [(0, vR 4 (some i0))] [] S _
  have hp : zpo none out none out := ⟨rfl, rfl⟩
  unfold f_X3_setNextDue at h0
  refine zn_aload_n (pc := 0) 0 dX3_setNextDue_0 rfl rfl ?_
  refine zn_aload_n (pc := 1) 0 dX3_setNextDue_1 rfl rfl ?_
  refine zn_getI (pc := 2) fa_X3_32_4.1 fa_X3_32_4.2 dX3_setNextDue_2 ?_
  have h2 := h0; clear h0
  refine zn_if_ne (pc := 5) (tgt := 13) dX3_setNextDue_5 (by decide) (fun c1 => ?_) (fun c1 => ?_)
  · replace h2 := zif_f c1 h2
    refine zn_aload_n (pc := 13) 0 dX3_setNextDue_13 rfl rfl ?_
    refine zn_getI (pc := 14) fa_X3_35_4.1 fa_X3_35_4.2 dX3_setNextDue_14 ?_
    refine zn_aload_n (pc := 17) 0 dX3_setNextDue_17 rfl rfl ?_
    refine zn_getI (pc := 18) fa_X3_32_4.1 fa_X3_32_4.2 dX3_setNextDue_18 ?_
    refine zn_iadd (pc := 21) dX3_setNextDue_21 ?_
    obtain ⟨S3, hS4, h5⟩ := zltd h2; clear h2
    refine zn_putI (pc := 22) fp_X3_35_4.1 (fp_X3_35_4 (nm := "")).2 dX3_setNextDue_22 hS4 ?_
    have hz := Option.some.inj h5; clear h5; subst hz
    exact zn_return (pc := 25) dX3_setNextDue_25 rfl hp
  · replace h2 := zif_t c1 h2
    refine zn_bipush (pc := 8) (x := (-9)) dX3_setNextDue_8 (by decide) ?_
    refine zn_goto (pc := 10) (tgt := 22) dX3_setNextDue_10 (by decide) ?_
    obtain ⟨S6, hS7, h8⟩ := zltd h2; clear h2
    refine zn_putI (pc := 22) fp_X3_35_4.1 (fp_X3_35_4 (nm := "")).2 dX3_setNextDue_22 hS7 ?_
    have hz := Option.some.inj h8; clear h8; subst hz
    exact zn_return (pc := 25) dX3_setNextDue_25 rfl hp
theorem b_X9_lastOf_4 {G : zG} {Post : Option zV → zH → Prop} : ∀ (n : Nat) (r1 : Option Nat) (x2 : Int32) (S : zH) (out : (Option Nat)), f_X9_lastOf_4 n r1 x2 S = some out → Post (some (vR 3 out)) S → zn G M_X9_lastOf 0 0 0 4 [(1, vR 3 r1), (2, vI x2)] [] S Post := by
  intro n
  induction n with
  | zero => intro r1 x2 S out h0 hp; exact (nomatch (show (none : Option _) = some out from h0))
  | succ n ih =>
    intro r1 x2 S out h0 hp
    rw [f_X9_lastOf_4] at h0
    refine zn_iload_n (pc := 4) 1 dX9_lastOf_4 rfl rfl ?_
    refine zn_bipush (pc := 5) (x := 40) dX9_lastOf_5 (by decide) ?_
    have h2 := h0; clear h0
    refine zn_icmp_ge (pc := 7) (tgt := 28) dX9_lastOf_7 (by decide) (fun c1 => ?_) (fun c1 => ?_)
    · replace h2 := zif_t c1 h2
      refine zn_aload_n (pc := 28) 0 dX9_lastOf_28 rfl rfl ?_
      have hz := Option.some.inj h2; clear h2; subst hz
      exact zn_areturn (pc := 29) dX9_lastOf_29 rfl (Or.inl ⟨_, rfl⟩) hp
    · replace h2 := zif_f c1 h2
      refine zn_aload_n (pc := 10) 0 dX9_lastOf_10 rfl rfl ?_
      obtain ⟨i3, hi4, h5⟩ := zbd h2; clear h2
      rw [hi4]
      refine zn_getR (pc := 11) fa_X9_181_3.1 fa_X9_181_3.2 dX9_lastOf_11 ?_
      have h8 := h5; clear h5
      refine zn_ifnull (pc := 14) (tgt := 28) dX9_lastOf_14 (by decide) (fun hr6 => ?_) (fun i7 hr6 => ?_)
      · replace h8 := zop_n hr6 h8
        refine zn_aload_n (pc := 28) 0 dX9_lastOf_28 rfl rfl ?_
        have hz := Option.some.inj h8; clear h8; subst hz
        exact zn_areturn (pc := 29) dX9_lastOf_29 rfl (Or.inl ⟨_, rfl⟩) hp
      · replace h8 := zop_s hr6 h8
        refine zn_aload_n (pc := 17) 0 dX9_lastOf_17 rfl rfl ?_
        refine zn_getR (pc := 18) fa_X9_181_3.1 fa_X9_181_3.2 dX9_lastOf_18 ?_
        refine zn_astore_n (pc := 21) (ls' := [(1, vR 3 (zR S 3 i3 9)), (2, vI x2)]) dX9_lastOf_21 rfl (Nat.le_of_ble_eq_true rfl) rfl ?_
        refine zn_iinc (pc := 22) 1 (y := x2 + 1) (ls' := [(2, vI (x2 + 1)), (1, vR 3 (zR S 3 i3 9))]) dX9_lastOf_22 rfl rfl (Nat.le_of_ble_eq_true rfl) rfl ?_
        refine zn_goto (pc := 25) (tgt := 4) dX9_lastOf_25 (by decide) ?_
        refine zn_pick [1, 0] rfl ?_
        exact ih _ _ _ _ h8 hp
theorem c_X9_lastOf {G : zG} {r0 : Option Nat} {S : zH} {out : (Option Nat)} (h0 : f_X9_lastOf r0 S = some out) : zct G M_X9_lastOf 0 0 0 [vR 3 r0] S (zpo (some (vR 3 out)) S) := by
  refine zct_of (by decide) (Nat.le_of_ble_eq_true rfl) ?_
  show zn G M_X9_lastOf 0 0 0 0 [(0, vR 3 r0)] [] S _
  have hp : zpo (some (vR 3 out)) S (some (vR 3 out)) S := ⟨rfl, rfl⟩
  unfold f_X9_lastOf at h0
  refine zn_aload_n (pc := 0) 0 dX9_lastOf_0 rfl rfl ?_
  refine zn_astore_n (pc := 1) (ls' := [(1, vR 3 r0), (0, vR 3 r0)]) dX9_lastOf_1 rfl (Nat.le_of_ble_eq_true rfl) rfl ?_
  refine zn_iconst (pc := 2) (x := 0) dX9_lastOf_2 (by decide) ?_
  refine zn_istore_n (pc := 3) (ls' := [(2, vI 0), (1, vR 3 r0), (0, vR 3 r0)]) dX9_lastOf_3 rfl (Nat.le_of_ble_eq_true rfl) rfl ?_
  refine zn_pick [1, 0] rfl ?_
  exact b_X9_lastOf_4  fu _ _ _ _ h0 hp
theorem c_X9_whyBack {G : zG} {r0 : Option Nat} {r1 : Option Nat} {x2 : Int64} {S : zH} {out : Int32} (h0 : f_X9_whyBack r0 r1 x2 S = some out) : zct G M_X9_whyBack 0 0 0 [vR 3 r0, vR 3 r1, vJ x2] S (zpo (some (vI out)) S) := by
  refine zct_of (by decide) (Nat.le_of_ble_eq_true rfl) ?_
  show zn G M_X9_whyBack 0 0 0 0 [(0, vR 3 r0), (1, vR 3 r1), (2, vJ x2)] [] S _
  have hp : zpo (some (vI out)) S (some (vI out)) S := ⟨rfl, rfl⟩
  unfold f_X9_whyBack at h0
  refine zn_aload_n (pc := 0) 0 dX9_whyBack_0 rfl rfl ?_
  obtain ⟨i1, hi2, h3⟩ := zbd h0; clear h0
  rw [hi2]
  refine zn_getI (pc := 1) fa_X9_159_3.1 fa_X9_159_3.2 dX9_whyBack_1 ?_
  refine zn_iconst (pc := 4) (x := 1) dX9_whyBack_4 (by decide) ?_
  have h5 := h3; clear h3
  refine zn_icmp_eq (pc := 5) (tgt := 16) dX9_whyBack_5 (by decide) (fun c4 => ?_) (fun c4 => ?_)
  · replace h5 := zif_t c4 h5
    refine zn_iconst (pc := 16) (x := 2) dX9_whyBack_16 (by decide) ?_
    have hz := Option.some.inj h5; clear h5; subst hz
    exact zn_ireturn (pc := 17) dX9_whyBack_17 rfl hp
  · replace h5 := zif_f c4 h5
    refine zn_aload_n (pc := 8) 1 dX9_whyBack_8 rfl rfl ?_
    obtain ⟨i6, hi7, h8⟩ := zbd h5; clear h5
    rw [hi7]
    refine zn_getI (pc := 9) fa_X9_159_3.1 fa_X9_159_3.2 dX9_whyBack_9 ?_
    refine zn_iconst (pc := 12) (x := 1) dX9_whyBack_12 (by decide) ?_
    have h10 := h8; clear h8
    refine zn_icmp_ne (pc := 13) (tgt := 18) dX9_whyBack_13 (by decide) (fun c9 => ?_) (fun c9 => ?_)
    · replace h10 := zif_f c9 h10
      refine zn_aload_n (pc := 18) 0 dX9_whyBack_18 rfl rfl ?_
      refine zn_aload_n (pc := 19) 1 dX9_whyBack_19 rfl rfl ?_
      have h12 := h10; clear h10
      refine zn_acmp_ne (pc := 20) (tgt := 25) rfl dX9_whyBack_20 (by decide) (fun c11 => ?_) (fun c11 => ?_)
      · replace h12 := zif_f c11 h12
        refine zn_aload_n (pc := 25) 0 dX9_whyBack_25 rfl rfl ?_
        refine zn_getJ (pc := 26) fa_X9_163_3.1 fa_X9_163_3.2 dX9_whyBack_26 ?_
        refine zn_lload_n (pc := 29) 2 dX9_whyBack_29 rfl rfl ?_
        refine zn_lsub (pc := 30) dX9_whyBack_30 ?_
        refine zn_aload_n (pc := 31) 0 dX9_whyBack_31 rfl rfl ?_
        refine zn_getI (pc := 32) fa_X9_166_3.1 fa_X9_166_3.2 dX9_whyBack_32 ?_
        refine zn_ineg (pc := 35) dX9_whyBack_35 ?_
        refine zn_i2l (pc := 36) dX9_whyBack_36 ?_
        refine zn_lcmp (pc := 37) dX9_whyBack_37 ?_
        have h14 := h12; clear h12
        refine zn_if_ge (pc := 38) (tgt := 45) dX9_whyBack_38 (by decide) (fun c13 => ?_) (fun c13 => ?_)
        · replace h14 := zif_t c13 h14
          refine zn_iconst (pc := 45) (x := 0) dX9_whyBack_45 (by decide) ?_
          have hz := Option.some.inj h14; clear h14; subst hz
          exact zn_ireturn (pc := 46) dX9_whyBack_46 rfl hp
        · replace h14 := zif_f c13 h14
          refine zn_iconst (pc := 41) (x := 1) dX9_whyBack_41 (by decide) ?_
          refine zn_goto (pc := 42) (tgt := 46) dX9_whyBack_42 (by decide) ?_
          have hz := Option.some.inj h14; clear h14; subst hz
          exact zn_ireturn (pc := 46) dX9_whyBack_46 rfl hp
      · replace h12 := zif_t c11 h12
        refine zn_iconst (pc := 23) (x := 4) dX9_whyBack_23 (by decide) ?_
        have hz := Option.some.inj h12; clear h12; subst hz
        exact zn_ireturn (pc := 24) dX9_whyBack_24 rfl hp
    · replace h10 := zif_t c9 h10
      refine zn_iconst (pc := 16) (x := 2) dX9_whyBack_16 (by decide) ?_
      have hz := Option.some.inj h10; clear h10; subst hz
      exact zn_ireturn (pc := 17) dX9_whyBack_17 rfl hp
theorem c_X3_addBack {G : zG} {i0 : Nat} {x1 : Int32} {S : zH} {out : zH} (h0 : f_X3_addBack i0 x1 S = some out) : zct G M_X3_addBack 0 0 0 [vR 4 (some i0), vI x1] S (zpo none out) := by
  refine zct_of (by decide) (Nat.le_of_ble_eq_true rfl) ?_
  show zn G M_X3_addBack 0 0 0 0 [(0, vR 4 (some i0)), (1, vI x1)] [] S _
  have hp : zpo none out none out := ⟨rfl, rfl⟩
  unfold f_X3_addBack at h0
  refine zn_iload_n (pc := 0) 1 dX3_addBack_0 rfl rfl ?_
  have h2 := h0; clear h0
  refine zn_if_lt (pc := 1) (tgt := 23) dX3_addBack_1 (by decide) (fun c1 => ?_) (fun c1 => ?_)
  · replace h2 := zif_t c1 h2
    have hz := Option.some.inj h2; clear h2; subst hz
    exact zn_return (pc := 23) dX3_addBack_23 rfl hp
  · replace h2 := zif_f c1 h2
    refine zn_iload_n (pc := 4) 1 dX3_addBack_4 rfl rfl ?_
    refine zn_aload_n (pc := 5) 0 dX3_addBack_5 rfl rfl ?_
    refine zn_getR (pc := 6) fa_X3_15_4.1 fa_X3_15_4.2 dX3_addBack_6 ?_
    obtain ⟨i3, hi4, h5⟩ := zbd h2; clear h2
    rw [hi4]
    refine zn_alen (pc := 9) zk_24 rfl dX3_addBack_9 ?_
    have h7 := h5; clear h5
    refine zn_icmp_ge (pc := 10) (tgt := 23) dX3_addBack_10 (by decide) (fun c6 => ?_) (fun c6 => ?_)
    · replace h7 := zif_t c6 h7
      have hz := Option.some.inj h7; clear h7; subst hz
      exact zn_return (pc := 23) dX3_addBack_23 rfl hp
    · replace h7 := zif_f c6 h7
      refine zn_aload_n (pc := 13) 0 dX3_addBack_13 rfl rfl ?_
      refine zn_getR (pc := 14) fa_X3_15_4.1 fa_X3_15_4.2 dX3_addBack_14 ?_
      refine zn_iload_n (pc := 17) 1 dX3_addBack_17 rfl rfl ?_
      refine zn_dup2 (pc := 18) dX3_addBack_18 rfl rfl ?_
      obtain ⟨i8, hi9, h10⟩ := zbd h7; clear h7
      rw [hi9]
      obtain ⟨hb11, h12⟩ := zgdd h10; clear h10
      refine zn_iaload (pc := 19) zk_24 dX3_addBack_19 (zib_in hb11) ?_
      refine zn_iconst (pc := 20) (x := 1) dX3_addBack_20 (by decide) ?_
      refine zn_iadd (pc := 21) dX3_addBack_21 ?_
      obtain ⟨hb13, h14⟩ := zgdd h12; clear h12
      obtain ⟨S15, hS16, h17⟩ := zltd h14; clear h14
      refine zn_iastore (pc := 22) zk_24 dX3_addBack_22 (zib_in hb13) hS16 ?_
      have hz := Option.some.inj h17; clear h17; subst hz
      exact zn_return (pc := 23) dX3_addBack_23 rfl hp
theorem c_X4_has {G : zG} {i0 : Nat} {r1 : Option Nat} {S : zH} {out : Int32} (h0 : f_X4_has i0 r1 S = some out) : zct G M_X4_has 0 0 0 [vR 5 (some i0), vR 3 r1] S (zpo (some (vI out)) S) := by
  refine zct_of (by decide) (Nat.le_of_ble_eq_true rfl) ?_
  show zn G M_X4_has 0 0 0 0 [(0, vR 5 (some i0)), (1, vR 3 r1)] [] S _
  have hp : zpo (some (vI out)) S (some (vI out)) S := ⟨rfl, rfl⟩
  unfold f_X4_has at h0
  refine zn_aload_n (pc := 0) 0 dX4_has_0 rfl rfl ?_
  refine zn_getR (pc := 1) fa_X4_19_5.1 fa_X4_19_5.2 dX4_has_1 ?_
  refine zn_aload_n (pc := 4) 1 dX4_has_4 rfl rfl ?_
  have h2 := h0; clear h0
  refine zn_acmp_eq (pc := 5) (tgt := 16) rfl dX4_has_5 (by decide) (fun c1 => ?_) (fun c1 => ?_)
  · replace h2 := zif_t c1 h2
    refine zn_iconst (pc := 16) (x := 1) dX4_has_16 (by decide) ?_
    refine zn_goto (pc := 17) (tgt := 21) dX4_has_17 (by decide) ?_
    have hz := Option.some.inj h2; clear h2; subst hz
    exact zn_zreturn (pc := 21) dX4_has_21 rfl (by decide) hp
  · replace h2 := zif_f c1 h2
    refine zn_aload_n (pc := 8) 0 dX4_has_8 rfl rfl ?_
    refine zn_getR (pc := 9) fa_X4_23_5.1 fa_X4_23_5.2 dX4_has_9 ?_
    refine zn_aload_n (pc := 12) 1 dX4_has_12 rfl rfl ?_
    have h4 := h2; clear h2
    refine zn_acmp_ne (pc := 13) (tgt := 20) rfl dX4_has_13 (by decide) (fun c3 => ?_) (fun c3 => ?_)
    · replace h4 := zif_f c3 h4
      refine zn_iconst (pc := 20) (x := 0) dX4_has_20 (by decide) ?_
      have hz := Option.some.inj h4; clear h4; subst hz
      exact zn_zreturn (pc := 21) dX4_has_21 rfl (by decide) hp
    · replace h4 := zif_t c3 h4
      refine zn_iconst (pc := 16) (x := 1) dX4_has_16 (by decide) ?_
      refine zn_goto (pc := 17) (tgt := 21) dX4_has_17 (by decide) ?_
      have hz := Option.some.inj h4; clear h4; subst hz
      exact zn_zreturn (pc := 21) dX4_has_21 rfl (by decide) hp
theorem b_X9_bankAtFault_2 {G : zG} {Post : Option zV → zH → Prop} : ∀ (n : Nat) (i0 : Nat) (r1 : Option Nat) (x2 : Int32) (S : zH) (out : (Option Nat)), f_X9_bankAtFault_2 n i0 r1 x2 S = some out → Post (some (vR 2 out)) S → zn G M_X9_bankAtFault 4 0 0 2 [(0, vR 0 (some i0)), (1, vR 3 r1), (2, vI x2)] [] S Post := by
  intro n
  induction n with
  | zero => intro i0 r1 x2 S out h0 hp; exact (nomatch (show (none : Option _) = some out from h0))
  | succ n ih =>
    intro i0 r1 x2 S out h0 hp
    rw [f_X9_bankAtFault_2] at h0
    refine zn_iload_n (pc := 2) 2 dX9_bankAtFault_2 rfl rfl ?_
    refine zn_aload_n (pc := 3) 0 dX9_bankAtFault_3 rfl rfl ?_
    refine zn_getR (pc := 4) fa_X9_35_0.1 fa_X9_35_0.2 dX9_bankAtFault_4 ?_
    obtain ⟨i1, hi2, h3⟩ := zbd h0; clear h0
    rw [hi2]
    obtain ⟨o4, e5, h6⟩ := zbd h3; clear h3
    refine zn_cVv (pc := 7) (kc := 0) (ks := 0) (kc' := 0) (ks' := 0) (As := []) (st := [vI x2]) dX9_bankAtFault_7 cls_X9_142 pc_12 rfl rfl (Nat.le_of_ble_eq_true rfl) (zc_size (p := 12) (by decide) (Nat.le_of_ble_eq_true rfl) e5) ?_
    have h8 := h6; clear h6
    refine zn_icmp_ge (pc := 10) (tgt := 51) dX9_bankAtFault_10 (by decide) (fun c7 => ?_) (fun c7 => ?_)
    · replace h8 := zif_t c7 h8
      refine zn_null (pc := 51) 2 dX9_bankAtFault_51 ?_
      have hz := Option.some.inj h8; clear h8; subst hz
      exact zn_areturn (pc := 52) dX9_bankAtFault_52 rfl (Or.inl ⟨_, rfl⟩) hp
    · replace h8 := zif_f c7 h8
      refine zn_aload_n (pc := 13) 0 dX9_bankAtFault_13 rfl rfl ?_
      refine zn_getR (pc := 14) fa_X9_35_0.1 fa_X9_35_0.2 dX9_bankAtFault_14 ?_
      refine zn_iload_n (pc := 17) 2 dX9_bankAtFault_17 rfl rfl ?_
      obtain ⟨i9, hi10, h11⟩ := zbd h8; clear h8
      rw [hi10]
      obtain ⟨o12, e13, h14⟩ := zbd h11; clear h11
      refine zn_cVv (pc := 18) (kc := 0) (ks := 0) (kc' := 0) (ks' := 0) (As := [vI x2]) (st := []) dX9_bankAtFault_18 clg_X9_353 pc_12 rfl rfl (Nat.le_of_ble_eq_true rfl) (zc_get (p := 12) (by decide) rfl (Nat.le_of_ble_eq_true rfl) e13) ?_
      refine zn_cast (pc := 21) cl_X9_271 pc_5 dX9_bankAtFault_21 ?_
      refine zn_astore_n (pc := 24) (ls' := [(3, vR 5 o12), (0, vR 0 (some i0)), (1, vR 3 r1), (2, vI x2)]) dX9_bankAtFault_24 rfl (Nat.le_of_ble_eq_true rfl) rfl ?_
      refine zn_aload_n (pc := 25) 0 dX9_bankAtFault_25 rfl rfl ?_
      obtain ⟨i15, hi16, h17⟩ := zbd h14; clear h14
      rw [hi16]
      refine zn_getI (pc := 26) fa_X9_305_5.1 fa_X9_305_5.2 dX9_bankAtFault_26 ?_
      have h19 := h17; clear h17
      refine zn_if_le (pc := 29) (tgt := 45) dX9_bankAtFault_29 (by decide) (fun c18 => ?_) (fun c18 => ?_)
      · replace h19 := zif_t c18 h19
        refine zn_iinc (pc := 45) 3 (y := x2 + 1) (ls' := [(2, vI (x2 + 1)), (3, vR 5 (some i15)), (0, vR 0 (some i0)), (1, vR 3 r1)]) dX9_bankAtFault_45 rfl rfl (Nat.le_of_ble_eq_true rfl) rfl ?_
        refine zn_goto (pc := 48) (tgt := 2) dX9_bankAtFault_48 (by decide) ?_
        refine zn_pick [2, 3, 0] rfl ?_
        exact ih _ _ _ _ _ h19 hp
      · replace h19 := zif_f c18 h19
        refine zn_aload_n (pc := 32) 0 dX9_bankAtFault_32 rfl rfl ?_
        refine zn_aload_n (pc := 33) 2 dX9_bankAtFault_33 rfl rfl ?_
        obtain ⟨o20, e21, h22⟩ := zbd h19; clear h19
        refine zn_cVv (pc := 34) (kc := 0) (ks := 0) (kc' := 0) (ks' := 0) (As := [vR 3 r1]) (st := []) dX9_bankAtFault_34 cs_X9_362 pc_5 rfl rfl (Nat.le_of_ble_eq_true rfl) ((c_X4_has e21).mono (Nat.le_of_ble_eq_true rfl)) ?_
        have h24 := h22; clear h22
        refine zn_if_eq (pc := 37) (tgt := 45) dX9_bankAtFault_37 (by decide) (fun c23 => ?_) (fun c23 => ?_)
        · replace h24 := zif_t c23 h24
          refine zn_iinc (pc := 45) 3 (y := x2 + 1) (ls' := [(2, vI (x2 + 1)), (3, vR 5 (some i15)), (0, vR 0 (some i0)), (1, vR 3 r1)]) dX9_bankAtFault_45 rfl rfl (Nat.le_of_ble_eq_true rfl) rfl ?_
          refine zn_goto (pc := 48) (tgt := 2) dX9_bankAtFault_48 (by decide) ?_
          refine zn_pick [2, 3, 0] rfl ?_
          exact ih _ _ _ _ _ h24 hp
        · replace h24 := zif_f c23 h24
          refine zn_aload_n (pc := 40) 0 dX9_bankAtFault_40 rfl rfl ?_
          refine zn_getR (pc := 41) fa_X9_308_5.1 fa_X9_308_5.2 dX9_bankAtFault_41 ?_
          have hz := Option.some.inj h24; clear h24; subst hz
          exact zn_areturn (pc := 44) dX9_bankAtFault_44 rfl (Or.inl ⟨_, rfl⟩) hp
theorem c_X9_bankAtFault {G : zG} {i0 : Nat} {r1 : Option Nat} {S : zH} {out : (Option Nat)} (h0 : f_X9_bankAtFault i0 r1 S = some out) : zct G M_X9_bankAtFault 4 0 0 [vR 0 (some i0), vR 3 r1] S (zpo (some (vR 2 out)) S) := by
  refine zct_of (by decide) (Nat.le_of_ble_eq_true rfl) ?_
  show zn G M_X9_bankAtFault 4 0 0 0 [(0, vR 0 (some i0)), (1, vR 3 r1)] [] S _
  have hp : zpo (some (vR 2 out)) S (some (vR 2 out)) S := ⟨rfl, rfl⟩
  unfold f_X9_bankAtFault at h0
  refine zn_iconst (pc := 0) (x := 0) dX9_bankAtFault_0 (by decide) ?_
  refine zn_istore_n (pc := 1) (ls' := [(2, vI 0), (0, vR 0 (some i0)), (1, vR 3 r1)]) dX9_bankAtFault_1 rfl (Nat.le_of_ble_eq_true rfl) rfl ?_
  refine zn_pick [1, 2, 0] rfl ?_
  exact b_X9_bankAtFault_2  fu _ _ _ _ _ h0 hp
