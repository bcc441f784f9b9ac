theorem c_X10_goesThrough {G : zG} {i0 : Nat} {x1 : Int32} {x2 : Int32} {S : zH} {out : (Int32 × zH)} (h0 : f_X10_goesThrough i0 x1 x2 S = some out) : zct G M_X10_goesThrough 61 0 0 [vR 40 (some i0), vI x1, vI x2] S (zpo (some (vI out.1)) out.2) := by
  refine zct_of (by decide) (Nat.le_of_ble_eq_true rfl) ?_
  show zn G M_X10_goesThrough 61 0 0 0 [(0, vR 40 (some i0)), (1, vI x1), (2, vI x2)] [] S _
  have hp : zpo (some (vI out.1)) out.2 (some (vI out.1)) out.2 := ⟨rfl, rfl⟩
  unfold f_X10_goesThrough at h0
  refine zn_aload_n (pc := 0) 0 dX10_goesThrough_0 rfl rfl ?_
  refine zn_iload_n (pc := 1) 1 dX10_goesThrough_1 rfl rfl ?_
  obtain ⟨S1, hS2, h3⟩ := zltd h0; clear h0
  refine zn_putI (pc := 2) fp_X10_241_40.1 (fp_X10_241_40 (nm := "")).2 dX10_goesThrough_2 hS2 ?_
  refine zn_aload_n (pc := 5) 0 dX10_goesThrough_5 rfl rfl ?_
  refine zn_iload_n (pc := 6) 2 dX10_goesThrough_6 rfl rfl ?_
  obtain ⟨S4, hS5, h6⟩ := zltd h3; clear h3
  refine zn_putI (pc := 7) fp_X10_238_40.1 (fp_X10_238_40 (nm := "")).2 dX10_goesThrough_7 hS5 ?_
  refine zn_aload_n (pc := 10) 0 dX10_goesThrough_10 rfl rfl ?_
  refine zn_iconst (pc := 11) (x := 0) dX10_goesThrough_11 (by decide) ?_
  obtain ⟨S7, hS8, h9⟩ := zltd h6; clear h6
  refine zn_putI (pc := 12) fp_X10_235_40.1 (fp_X10_235_40 (nm := "")).2 dX10_goesThrough_12 hS8 ?_
  refine zn_aload_n (pc := 15) 0 dX10_goesThrough_15 rfl rfl ?_
  refine zn_iconst (pc := 16) (x := 0) dX10_goesThrough_16 (by decide) ?_
  obtain ⟨S10, hS11, h12⟩ := zltd h9; clear h9
  refine zn_putI (pc := 17) fp_X10_269_40.1 (fp_X10_269_40 (nm := "")).2 dX10_goesThrough_17 hS11 ?_
  refine zn_aload_n (pc := 20) 0 dX10_goesThrough_20 rfl rfl ?_
  refine zn_iconst (pc := 21) (x := 1) dX10_goesThrough_21 (by decide) ?_
  obtain ⟨S13, hS14, h15⟩ := zltd h12; clear h12
  refine zn_putZ (pc := 22) fp_X10_248_40.1 (fp_X10_248_40 (nm := "")).2 dX10_goesThrough_22 (by decide) hS14 ?_
  refine zn_aload_n (pc := 25) 0 dX10_goesThrough_25 rfl rfl ?_
  obtain ⟨o16, e17, h18⟩ := zbd h15; clear h15
  refine zn_cVv (pc := 26) (kc := 0) (ks := 0) (kc' := 0) (ks' := 0) (As := []) (st := []) dX10_goesThrough_26 cs_X10_275 pc_40 rfl rfl (Nat.le_of_ble_eq_true rfl) ((c_X10_sumOf e17).mono (Nat.le_of_ble_eq_true rfl)) ?_
  have hz := Option.some.inj h18; clear h18; subst hz
  exact zn_ireturn (pc := 29) dX10_goesThrough_29 rfl hp
theorem b_X10_worth_5 {G : zG} {Post : Option zV → zH → Prop} : ∀ (n : Nat) (i0 : Nat) (x1 : Int32) (x2 : Int32) (x3 : Int32) (x4 : Int32) (S : zH) (out : (Int32 × zH)), f_X10_worth_5 n i0 x1 x2 x3 x4 S = some out → Post (some (vI out.1)) out.2 → zn G M_X10_worth 62 0 0 5 [(0, vR 40 (some i0)), (1, vI x1), (2, vI x2), (3, vI x3), (4, vI x4)] [] S Post := by
  intro n
  induction n with
  | zero => intro i0 x1 x2 x3 x4 S out h0 hp; exact (nomatch (show (none : Option _) = some out from h0))
  | succ n ih =>
    intro i0 x1 x2 x3 x4 S out h0 hp
    rw [f_X10_worth_5] at h0
    refine zn_iload (pc := 5) 4 dX10_worth_5 rfl ?_
    refine zn_aload_n (pc := 7) 0 dX10_worth_7 rfl rfl ?_
    refine zn_getI (pc := 8) fa_X10_281_40.1 fa_X10_281_40.2 dX10_worth_8 ?_
    have h2 := h0; clear h0
    refine zn_icmp_ge (pc := 11) (tgt := 65) dX10_worth_11 (by decide) (fun c1 => ?_) (fun c1 => ?_)
    · replace h2 := zif_t c1 h2
      refine zn_iload_n (pc := 65) 3 dX10_worth_65 rfl rfl ?_
      have h4 := h2; clear h2
      refine zn_if_lt (pc := 66) (tgt := 84) dX10_worth_66 (by decide) (fun c3 => ?_) (fun c3 => ?_)
      · replace h4 := zif_t c3 h4
        refine zn_iload_n (pc := 84) 1 dX10_worth_84 rfl rfl ?_
        refine zn_iconst (pc := 85) (x := 1) dX10_worth_85 (by decide) ?_
        have h6 := h4; clear h4
        refine zn_icmp_ne (pc := 86) (tgt := 95) dX10_worth_86 (by decide) (fun c5 => ?_) (fun c5 => ?_)
        · replace h6 := zif_f c5 h6
          refine zn_iload_n (pc := 95) 1 dX10_worth_95 rfl rfl ?_
          refine zn_iconst (pc := 96) (x := 3) dX10_worth_96 (by decide) ?_
          have h8 := h6; clear h6
          refine zn_icmp_ne (pc := 97) (tgt := 110) dX10_worth_97 (by decide) (fun c7 => ?_) (fun c7 => ?_)
          · replace h8 := zif_f c7 h8
            refine zn_iconst (pc := 110) (x := 1) dX10_worth_110 (by decide) ?_
            have hz := Option.some.inj h8; clear h8; subst hz
            exact zn_ireturn (pc := 111) dX10_worth_111 rfl hp
          · replace h8 := zif_t c7 h8
            refine zn_aload_n (pc := 100) 0 dX10_worth_100 rfl rfl ?_
            refine zn_getR (pc := 101) fa_X10_158_40.1 fa_X10_158_40.2 dX10_worth_101 ?_
            refine zn_bipush (pc := 104) (x := 102) dX10_worth_104 (by decide) ?_
            obtain ⟨i9, hi10, h11⟩ := zbd h8; clear h8
            rw [hi10]
            obtain ⟨hb12, h13⟩ := zgdd h11; clear h11
            refine zn_iaload (pc := 106) zk_158 dX10_worth_106 (zib_in hb12) ?_
            refine zn_goto (pc := 107) (tgt := 111) dX10_worth_107 (by decide) ?_
            have hz := Option.some.inj h13; clear h13; subst hz
            exact zn_ireturn (pc := 111) dX10_worth_111 rfl hp
        · replace h6 := zif_t c5 h6
          refine zn_sipush (pc := 89) (x := 1095) dX10_worth_89 (by decide) ?_
          refine zn_goto (pc := 92) (tgt := 111) dX10_worth_92 (by decide) ?_
          have hz := Option.some.inj h6; clear h6; subst hz
          exact zn_ireturn (pc := 111) dX10_worth_111 rfl hp
      · replace h4 := zif_f c3 h4
        refine zn_aload_n (pc := 69) 0 dX10_worth_69 rfl rfl ?_
        refine zn_bipush (pc := 70) (x := 60) dX10_worth_70 (by decide) ?_
        refine zn_iload_n (pc := 72) 3 dX10_worth_72 rfl rfl ?_
        refine zn_imul (pc := 73) dX10_worth_73 ?_
        refine zn_aload_n (pc := 74) 0 dX10_worth_74 rfl rfl ?_
        refine zn_getR (pc := 75) fa_X10_136_40.1 fa_X10_136_40.2 dX10_worth_75 ?_
        refine zn_iload_n (pc := 78) 3 dX10_worth_78 rfl rfl ?_
        obtain ⟨i14, hi15, h16⟩ := zbd h4; clear h4
        rw [hi15]
        obtain ⟨hb17, h18⟩ := zgdd h16; clear h16
        refine zn_iaload (pc := 79) zk_141 dX10_worth_79 (zib_in hb17) ?_
        obtain ⟨o19, e20, h21⟩ := zbd h18; clear h18
        refine zn_cVv (pc := 80) (kc := 0) (ks := 0) (kc' := 0) (ks' := 0) (As := [vI (60 * x3), vI (zI S 141 i14 (Int32.toNatClampNeg x3))]) (st := []) dX10_worth_80 cs_X10_284 pc_40 rfl rfl (Nat.le_of_ble_eq_true rfl) ((c_X10_goesThrough e20).mono (Nat.le_of_ble_eq_true rfl)) ?_
        have hz := Option.some.inj h21; clear h21; subst hz
        exact zn_ireturn (pc := 83) dX10_worth_83 rfl hp
    · replace h2 := zif_f c1 h2
      refine zn_aload_n (pc := 14) 0 dX10_worth_14 rfl rfl ?_
      refine zn_getR (pc := 15) fa_X10_139_40.1 fa_X10_139_40.2 dX10_worth_15 ?_
      refine zn_iload (pc := 18) 4 dX10_worth_18 rfl ?_
      obtain ⟨i22, hi23, h24⟩ := zbd h2; clear h2
      rw [hi23]
      obtain ⟨hb25, h26⟩ := zgdd h24; clear h24
      refine zn_iaload (pc := 20) zk_142 dX10_worth_20 (zib_in hb25) ?_
      refine zn_iload_n (pc := 21) 1 dX10_worth_21 rfl rfl ?_
      have h28 := h26; clear h26
      refine zn_icmp_ne (pc := 22) (tgt := 59) dX10_worth_22 (by decide) (fun c27 => ?_) (fun c27 => ?_)
      · replace h28 := zif_f c27 h28
        refine zn_iinc (pc := 59) 4 (y := x4 + 1) (ls' := [(4, vI (x4 + 1)), (0, vR 40 (some i0)), (1, vI x1), (2, vI x2), (3, vI x3)]) dX10_worth_59 rfl rfl (Nat.le_of_ble_eq_true rfl) rfl ?_
        refine zn_goto (pc := 62) (tgt := 5) dX10_worth_62 (by decide) ?_
        refine zn_pick [1, 2, 3, 4, 0] rfl ?_
        exact ih _ _ _ _ _ _ _ h28 hp
      · replace h28 := zif_t c27 h28
        refine zn_aload_n (pc := 25) 0 dX10_worth_25 rfl rfl ?_
        refine zn_getR (pc := 26) fa_X10_142_40.1 fa_X10_142_40.2 dX10_worth_26 ?_
        refine zn_iload (pc := 29) 4 dX10_worth_29 rfl ?_
        obtain ⟨i29, hi30, h31⟩ := zbd h28; clear h28
        rw [hi30]
        obtain ⟨hb32, h33⟩ := zgdd h31; clear h31
        refine zn_iaload (pc := 31) zk_143 dX10_worth_31 (zib_in hb32) ?_
        refine zn_iload_n (pc := 32) 2 dX10_worth_32 rfl rfl ?_
        have h35 := h33; clear h33
        refine zn_icmp_gt (pc := 33) (tgt := 59) dX10_worth_33 (by decide) (fun c34 => ?_) (fun c34 => ?_)
        · replace h35 := zif_t c34 h35
          refine zn_iinc (pc := 59) 4 (y := x4 + 1) (ls' := [(4, vI (x4 + 1)), (0, vR 40 (some i0)), (1, vI x1), (2, vI x2), (3, vI x3)]) dX10_worth_59 rfl rfl (Nat.le_of_ble_eq_true rfl) rfl ?_
          refine zn_goto (pc := 62) (tgt := 5) dX10_worth_62 (by decide) ?_
          refine zn_pick [1, 2, 3, 4, 0] rfl ?_
          exact ih _ _ _ _ _ _ _ h35 hp
        · replace h35 := zif_f c34 h35
          refine zn_iload_n (pc := 36) 3 dX10_worth_36 rfl rfl ?_
          have h37 := h35; clear h35
          refine zn_if_lt (pc := 37) (tgt := 56) dX10_worth_37 (by decide) (fun c36 => ?_) (fun c36 => ?_)
          · replace h37 := zif_t c36 h37
            refine zn_iload (pc := 56) 4 dX10_worth_56 rfl ?_
            refine zn_istore_n (pc := 58) (ls' := [(3, vI x4), (0, vR 40 (some i0)), (1, vI x1), (2, vI x2), (4, vI x4)]) dX10_worth_58 rfl (Nat.le_of_ble_eq_true rfl) rfl ?_
            refine zn_iinc (pc := 59) 4 (y := x4 + 1) (ls' := [(4, vI (x4 + 1)), (3, vI x4), (0, vR 40 (some i0)), (1, vI x1), (2, vI x2)]) dX10_worth_59 rfl rfl (Nat.le_of_ble_eq_true rfl) rfl ?_
            refine zn_goto (pc := 62) (tgt := 5) dX10_worth_62 (by decide) ?_
            refine zn_pick [2, 3, 4, 1, 0] rfl ?_
            exact ih _ _ _ _ _ _ _ h37 hp
          · replace h37 := zif_f c36 h37
            refine zn_aload_n (pc := 40) 0 dX10_worth_40 rfl rfl ?_
            refine zn_getR (pc := 41) fa_X10_142_40.1 fa_X10_142_40.2 dX10_worth_41 ?_
            refine zn_iload (pc := 44) 4 dX10_worth_44 rfl ?_
            obtain ⟨i38, hi39, h40⟩ := zbd h37; clear h37
            rw [hi39]
            obtain ⟨hb41, h42⟩ := zgdd h40; clear h40
            refine zn_iaload (pc := 46) zk_143 dX10_worth_46 (zib_in hb41) ?_
            refine zn_aload_n (pc := 47) 0 dX10_worth_47 rfl rfl ?_
            refine zn_getR (pc := 48) fa_X10_142_40.1 fa_X10_142_40.2 dX10_worth_48 ?_
            refine zn_iload_n (pc := 51) 3 dX10_worth_51 rfl rfl ?_
            obtain ⟨i43, hi44, h45⟩ := zbd h42; clear h42
            rw [hi44]
            obtain ⟨hb46, h47⟩ := zgdd h45; clear h45
            refine zn_iaload (pc := 52) zk_143 dX10_worth_52 (zib_in hb46) ?_
            have h49 := h47; clear h47
            refine zn_icmp_lt (pc := 53) (tgt := 59) dX10_worth_53 (by decide) (fun c48 => ?_) (fun c48 => ?_)
            · replace h49 := zif_t c48 h49
              refine zn_iinc (pc := 59) 4 (y := x4 + 1) (ls' := [(4, vI (x4 + 1)), (0, vR 40 (some i0)), (1, vI x1), (2, vI x2), (3, vI x3)]) dX10_worth_59 rfl rfl (Nat.le_of_ble_eq_true rfl) rfl ?_
              refine zn_goto (pc := 62) (tgt := 5) dX10_worth_62 (by decide) ?_
              refine zn_pick [1, 2, 3, 4, 0] rfl ?_
              exact ih _ _ _ _ _ _ _ h49 hp
            · replace h49 := zif_f c48 h49
              refine zn_iload (pc := 56) 4 dX10_worth_56 rfl ?_
              refine zn_istore_n (pc := 58) (ls' := [(3, vI x4), (0, vR 40 (some i0)), (1, vI x1), (2, vI x2), (4, vI x4)]) dX10_worth_58 rfl (Nat.le_of_ble_eq_true rfl) rfl ?_
              refine zn_iinc (pc := 59) 4 (y := x4 + 1) (ls' := [(4, vI (x4 + 1)), (3, vI x4), (0, vR 40 (some i0)), (1, vI x1), (2, vI x2)]) dX10_worth_59 rfl rfl (Nat.le_of_ble_eq_true rfl) rfl ?_
              refine zn_goto (pc := 62) (tgt := 5) dX10_worth_62 (by decide) ?_
              refine zn_pick [2, 3, 4, 1, 0] rfl ?_
              exact ih _ _ _ _ _ _ _ h49 hp
theorem c_X10_worth {G : zG} {i0 : Nat} {x1 : Int32} {x2 : Int32} {S : zH} {out : (Int32 × zH)} (h0 : f_X10_worth i0 x1 x2 S = some out) : zct G M_X10_worth 62 0 0 [vR 40 (some i0), vI x1, vI x2] S (zpo (some (vI out.1)) out.2) := by
  refine zct_of (by decide) (Nat.le_of_ble_eq_true rfl) ?_
  show zn G M_X10_worth 62 0 0 0 [(0, vR 40 (some i0)), (1, vI x1), (2, vI x2)] [] S _
  have hp : zpo (some (vI out.1)) out.2 (some (vI out.1)) out.2 := ⟨rfl, rfl⟩
  unfold f_X10_worth at h0
  refine zn_iconst (pc := 0) (x := (-1)) dX10_worth_0 (by decide) ?_
  refine zn_istore_n (pc := 1) (ls' := [(3, vI (-1)), (0, vR 40 (some i0)), (1, vI x1), (2, vI x2)]) dX10_worth_1 rfl (Nat.le_of_ble_eq_true rfl) rfl ?_
  refine zn_iconst (pc := 2) (x := 0) dX10_worth_2 (by decide) ?_
  refine zn_istore (pc := 3) (ls' := [(4, vI 0), (3, vI (-1)), (0, vR 40 (some i0)), (1, vI x1), (2, vI x2)]) dX10_worth_3 (Nat.le_of_ble_eq_true rfl) rfl ?_
  refine zn_pick [2, 3, 4, 1, 0] rfl ?_
  exact b_X10_worth_5  fu _ _ _ _ _ _ _ h0 hp
theorem b_X10_goesOn_52 {G : zG} {Post : Option zV → zH → Prop} {i0 : Nat} {x1 : Int32} {x2 : Int32} {x3 : Int32} {x4 : Int32} {S : zH} {out : zH} (h0 : f_X10_goesOn_52 i0 x1 x2 x3 x4 S = some out) (hp : Post none out) : zn G M_X10_goesOn 63 0 0 52 [(0, vR 40 (some i0)), (1, vI x1), (2, vI x2), (3, vI x3), (4, vI x4)] [] S Post := by
  unfold f_X10_goesOn_52 at h0
  refine zn_aload_n (pc := 52) 0 dX10_goesOn_52 rfl rfl ?_
  refine zn_getR (pc := 53) fa_X10_114_40.1 fa_X10_114_40.2 dX10_goesOn_53 ?_
  refine zn_iload_n (pc := 56) 1 dX10_goesOn_56 rfl rfl ?_
  refine zn_dup2 (pc := 57) dX10_goesOn_57 rfl rfl ?_
  obtain ⟨i1, hi2, h3⟩ := zbd h0; clear h0
  rw [hi2]
  obtain ⟨hb4, h5⟩ := zgdd h3; clear h3
  refine zn_iaload (pc := 58) zk_134 dX10_goesOn_58 (zib_in hb4) ?_
  refine zn_iconst (pc := 59) (x := 1) dX10_goesOn_59 (by decide) ?_
  refine zn_iadd (pc := 60) dX10_goesOn_60 ?_
  obtain ⟨hb6, h7⟩ := zgdd h5; clear h5
  obtain ⟨S8, hS9, h10⟩ := zltd h7; clear h7
  refine zn_iastore (pc := 61) zk_134 dX10_goesOn_61 (zib_in hb6) hS9 ?_
  refine zn_aload_n (pc := 62) 0 dX10_goesOn_62 rfl rfl ?_
  refine zn_getR (pc := 63) fa_X10_117_40.1 fa_X10_117_40.2 dX10_goesOn_63 ?_
  refine zn_iload_n (pc := 66) 1 dX10_goesOn_66 rfl rfl ?_
  refine zn_aload_n (pc := 67) 0 dX10_goesOn_67 rfl rfl ?_
  refine zn_getR (pc := 68) fa_X10_114_40.1 fa_X10_114_40.2 dX10_goesOn_68 ?_
  refine zn_iload_n (pc := 71) 1 dX10_goesOn_71 rfl rfl ?_
  obtain ⟨i11, hi12, h13⟩ := zbd h10; clear h10
  rw [hi12]
  obtain ⟨hb14, h15⟩ := zgdd h13; clear h13
  refine zn_iaload (pc := 72) zk_134 dX10_goesOn_72 (zib_in hb14) ?_
  refine zn_iconst (pc := 73) (x := 1) dX10_goesOn_73 (by decide) ?_
  have h17 := h15; clear h15
  refine zn_icmp_le (pc := 74) (tgt := 86) dX10_goesOn_74 (by decide) (fun c16 => ?_) (fun c16 => ?_)
  · replace h17 := zif_t c16 h17
    refine zn_iload (pc := 86) 4 dX10_goesOn_86 rfl ?_
    have h19 := h17; clear h17
    refine zn_if_eq (pc := 88) (tgt := 100) dX10_goesOn_88 (by decide) (fun c18 => ?_) (fun c18 => ?_)
    · replace h19 := zif_t c18 h19
      refine zn_aload_n (pc := 100) 0 dX10_goesOn_100 rfl rfl ?_
      refine zn_getR (pc := 101) fa_X10_41_40.1 fa_X10_41_40.2 dX10_goesOn_101 ?_
      refine zn_iload_n (pc := 104) 3 dX10_goesOn_104 rfl rfl ?_
      obtain ⟨i20, hi21, h22⟩ := zbd h19; clear h19
      rw [hi21]
      obtain ⟨hb23, h24⟩ := zgdd h22; clear h22
      refine zn_iaload (pc := 105) zk_110 dX10_goesOn_105 (zib_in hb23) ?_
      obtain ⟨i25, hi26, h27⟩ := zbd h24; clear h24
      rw [hi26]
      obtain ⟨hb28, h29⟩ := zgdd h27; clear h27
      obtain ⟨S30, hS31, h32⟩ := zltd h29; clear h29
      refine zn_iastore (pc := 106) zk_135 dX10_goesOn_106 (zib_in hb28) hS31 ?_
      have hz := Option.some.inj h32; clear h32; subst hz
      exact zn_return (pc := 107) dX10_goesOn_107 rfl hp
    · replace h19 := zif_f c18 h19
      refine zn_aload_n (pc := 91) 0 dX10_goesOn_91 rfl rfl ?_
      refine zn_getR (pc := 92) fa_X10_41_40.1 fa_X10_41_40.2 dX10_goesOn_92 ?_
      refine zn_iload_n (pc := 95) 2 dX10_goesOn_95 rfl rfl ?_
      obtain ⟨i33, hi34, h35⟩ := zbd h19; clear h19
      rw [hi34]
      obtain ⟨hb36, h37⟩ := zgdd h35; clear h35
      refine zn_iaload (pc := 96) zk_110 dX10_goesOn_96 (zib_in hb36) ?_
      refine zn_goto (pc := 97) (tgt := 106) dX10_goesOn_97 (by decide) ?_
      obtain ⟨i38, hi39, h40⟩ := zbd h37; clear h37
      rw [hi39]
      obtain ⟨hb41, h42⟩ := zgdd h40; clear h40
      obtain ⟨S43, hS44, h45⟩ := zltd h42; clear h42
      refine zn_iastore (pc := 106) zk_135 dX10_goesOn_106 (zib_in hb41) hS44 ?_
      have hz := Option.some.inj h45; clear h45; subst hz
      exact zn_return (pc := 107) dX10_goesOn_107 rfl hp
  · replace h17 := zif_f c16 h17
    refine zn_aload_n (pc := 77) 0 dX10_goesOn_77 rfl rfl ?_
    refine zn_getR (pc := 78) fa_X10_117_40.1 fa_X10_117_40.2 dX10_goesOn_78 ?_
    refine zn_iload_n (pc := 81) 1 dX10_goesOn_81 rfl rfl ?_
    obtain ⟨i46, hi47, h48⟩ := zbd h17; clear h17
    rw [hi47]
    obtain ⟨hb49, h50⟩ := zgdd h48; clear h48
    refine zn_iaload (pc := 82) zk_135 dX10_goesOn_82 (zib_in hb49) ?_
    refine zn_goto (pc := 83) (tgt := 106) dX10_goesOn_83 (by decide) ?_
    obtain ⟨hb51, h52⟩ := zgdd h50; clear h50
    obtain ⟨S53, hS54, h55⟩ := zltd h52; clear h52
    refine zn_iastore (pc := 106) zk_135 dX10_goesOn_106 (zib_in hb51) hS54 ?_
    have hz := Option.some.inj h55; clear h55; subst hz
    exact zn_return (pc := 107) dX10_goesOn_107 rfl hp
theorem b_X10_goesOn_384 {G : zG} {Post : Option zV → zH → Prop} {k344 : Nat → Int32 → Int32 → Int32 → Int32 → zH → Option zH} {i0 : Nat} {x1 : Int32} {x2 : Int32} {x3 : Int32} {x5 : Int32} {S : zH} {out : zH} (hk344 : ∀ (i0 : Nat) (x1 : Int32) (x2 : Int32) (x3 : Int32) (x5 : Int32) (S : zH) (out : zH), k344 i0 x1 x2 x3 x5 S = some out → Post none out → zn G M_X10_goesOn 63 0 0 344 [(0, vR 40 (some i0)), (1, vI x1), (2, vI x2), (3, vI x3), (5, vI x5)] [] S Post) (h0 : f_X10_goesOn_384 k344 i0 x1 x2 x3 x5 S = some out) (hp : Post none out) : zn G M_X10_goesOn 63 0 0 384 [(0, vR 40 (some i0)), (1, vI x1), (2, vI x2), (3, vI x3), (5, vI x5)] [] S Post := by
  unfold f_X10_goesOn_384 at h0
  refine zn_aload_n (pc := 384) 0 dX10_goesOn_384 rfl rfl ?_
  refine zn_getR (pc := 385) fa_X10_75_40.1 fa_X10_75_40.2 dX10_goesOn_385 ?_
  refine zn_iload (pc := 388) 4 dX10_goesOn_388 rfl ?_
  refine zn_iload_n (pc := 390) 3 dX10_goesOn_390 rfl rfl ?_
  obtain ⟨i1, hi2, h3⟩ := zbd h0; clear h0
  rw [hi2]
  obtain ⟨hb4, h5⟩ := zgdd h3; clear h3
  obtain ⟨S6, hS7, h8⟩ := zltd h5; clear h5
  refine zn_iastore (pc := 391) zk_121 dX10_goesOn_391 (zib_in hb4) hS7 ?_
  refine zn_iinc (pc := 392) 4 (y := x5 + 1) (ls' := [(5, vI (x5 + 1)), (0, vR 40 (some i0)), (1, vI x1), (2, vI x2), (3, vI x3)]) dX10_goesOn_392 rfl rfl (Nat.le_of_ble_eq_true rfl) rfl ?_
  refine zn_goto (pc := 395) (tgt := 344) dX10_goesOn_395 (by decide) ?_
  refine zn_pick [1, 2, 3, 4, 0] rfl ?_
  exact hk344 _ _ _ _ _ _ _ h8 hp
theorem b_X10_goesOn_344 {G : zG} {Post : Option zV → zH → Prop} : ∀ (n : Nat) (i0 : Nat) (x1 : Int32) (x2 : Int32) (x3 : Int32) (x5 : Int32) (S : zH) (out : zH), f_X10_goesOn_344 n i0 x1 x2 x3 x5 S = some out → Post none out → zn G M_X10_goesOn 63 0 0 344 [(0, vR 40 (some i0)), (1, vI x1), (2, vI x2), (3, vI x3), (5, vI x5)] [] S Post := by
  intro n
  induction n with
  | zero => intro i0 x1 x2 x3 x5 S out h0 hp; exact (nomatch (show (none : Option _) = some out from h0))
  | succ n ih =>
    intro i0 x1 x2 x3 x5 S out h0 hp
    rw [f_X10_goesOn_344] at h0
    refine zn_iload (pc := 344) 4 dX10_goesOn_344 rfl ?_
    refine zn_aload_n (pc := 346) 0 dX10_goesOn_346 rfl rfl ?_
    refine zn_getI (pc := 347) fa_X10_287_40.1 fa_X10_287_40.2 dX10_goesOn_347 ?_
    have h2 := h0; clear h0
    refine zn_icmp_ge (pc := 350) (tgt := 398) dX10_goesOn_350 (by decide) (fun c1 => ?_) (fun c1 => ?_)
    · replace h2 := zif_t c1 h2
      refine zn_goto (pc := 398) (tgt := 509) dX10_goesOn_398 (by decide) ?_
      have hz := Option.some.inj h2; clear h2; subst hz
      exact zn_return (pc := 509) dX10_goesOn_509 rfl hp
    · replace h2 := zif_f c1 h2
      refine zn_aload_n (pc := 353) 0 dX10_goesOn_353 rfl rfl ?_
      refine zn_getR (pc := 354) fa_X10_75_40.1 fa_X10_75_40.2 dX10_goesOn_354 ?_
      refine zn_iload (pc := 357) 4 dX10_goesOn_357 rfl ?_
      obtain ⟨i3, hi4, h5⟩ := zbd h2; clear h2
      rw [hi4]
      obtain ⟨hb6, h7⟩ := zgdd h5; clear h5
      refine zn_iaload (pc := 359) zk_121 dX10_goesOn_359 (zib_in hb6) ?_
      refine zn_iload_n (pc := 360) 2 dX10_goesOn_360 rfl rfl ?_
      have h9 := h7; clear h7
      refine zn_icmp_ne (pc := 361) (tgt := 392) dX10_goesOn_361 (by decide) (fun c8 => ?_) (fun c8 => ?_)
      · replace h9 := zif_f c8 h9
        refine zn_iinc (pc := 392) 4 (y := x5 + 1) (ls' := [(5, vI (x5 + 1)), (0, vR 40 (some i0)), (1, vI x1), (2, vI x2), (3, vI x3)]) dX10_goesOn_392 rfl rfl (Nat.le_of_ble_eq_true rfl) rfl ?_
        refine zn_goto (pc := 395) (tgt := 344) dX10_goesOn_395 (by decide) ?_
        refine zn_pick [1, 2, 3, 4, 0] rfl ?_
        exact ih _ _ _ _ _ _ _ h9 hp
      · replace h9 := zif_t c8 h9
        refine zn_aload_n (pc := 364) 0 dX10_goesOn_364 rfl rfl ?_
        refine zn_getR (pc := 365) fa_X10_133_40.1 fa_X10_133_40.2 dX10_goesOn_365 ?_
        refine zn_iload_n (pc := 368) 1 dX10_goesOn_368 rfl rfl ?_
        obtain ⟨i10, hi11, h12⟩ := zbd h9; clear h9
        rw [hi11]
        obtain ⟨hb13, h14⟩ := zgdd h12; clear h12
        refine zn_baload (pc := 369) zk_140 dX10_goesOn_369 (zib_in hb13) ?_
        have h16 := h14; clear h14
        refine zn_if_eq (pc := 370) (tgt := 384) dX10_goesOn_370 (by decide) (fun c15 => ?_) (fun c15 => ?_)
        · replace h16 := zif_t c15 h16
          exact b_X10_goesOn_384 ih h16 hp
        · replace h16 := zif_f c15 h16
          refine zn_aload_n (pc := 373) 0 dX10_goesOn_373 rfl rfl ?_
          refine zn_getR (pc := 374) fa_X10_72_40.1 fa_X10_72_40.2 dX10_goesOn_374 ?_
          refine zn_iload (pc := 377) 4 dX10_goesOn_377 rfl ?_
          obtain ⟨i17, hi18, h19⟩ := zbd h16; clear h16
          rw [hi18]
          obtain ⟨hb20, h21⟩ := zgdd h19; clear h19
          refine zn_iaload (pc := 379) zk_120 dX10_goesOn_379 (zib_in hb20) ?_
          refine zn_iconst (pc := 380) (x := 1) dX10_goesOn_380 (by decide) ?_
          have h23 := h21; clear h21
          refine zn_icmp_ne (pc := 381) (tgt := 392) dX10_goesOn_381 (by decide) (fun c22 => ?_) (fun c22 => ?_)
          · replace h23 := zif_f c22 h23
            refine zn_iinc (pc := 392) 4 (y := x5 + 1) (ls' := [(5, vI (x5 + 1)), (0, vR 40 (some i0)), (1, vI x1), (2, vI x2), (3, vI x3)]) dX10_goesOn_392 rfl rfl (Nat.le_of_ble_eq_true rfl) rfl ?_
            refine zn_goto (pc := 395) (tgt := 344) dX10_goesOn_395 (by decide) ?_
            refine zn_pick [1, 2, 3, 4, 0] rfl ?_
            exact ih _ _ _ _ _ _ _ h23 hp
          · replace h23 := zif_t c22 h23
            exact b_X10_goesOn_384 ih h23 hp
theorem c_X10_goesOn {G : zG} {i0 : Nat} {x1 : Int32} {S : zH} {out : zH} (h0 : f_X10_goesOn i0 x1 S = some out) : zct G M_X10_goesOn 63 0 0 [vR 40 (some i0), vI x1] S (zpo none out) := by
  refine zct_of (by decide) (Nat.le_of_ble_eq_true rfl) ?_
  show zn G M_X10_goesOn 63 0 0 0 [(0, vR 40 (some i0)), (1, vI x1)] [] S _
  have hp : zpo none out none out := ⟨rfl, rfl⟩
  unfold f_X10_goesOn at h0
  refine zn_aload_n (pc := 0) 0 dX10_goesOn_0 rfl rfl ?_
  refine zn_getR (pc := 1) fa_X10_102_40.1 fa_X10_102_40.2 dX10_goesOn_1 ?_
  refine zn_iload_n (pc := 4) 1 dX10_goesOn_4 rfl rfl ?_
  obtain ⟨i24, hi25, h26⟩ := zbd h0; clear h0
  rw [hi25]
  obtain ⟨hb27, h28⟩ := zgdd h26; clear h26
  refine zn_iaload (pc := 5) zk_130 dX10_goesOn_5 (zib_in hb27) ?_
  refine zn_istore_n (pc := 6) (ls' := [(2, vI (zI S 130 i24 (Int32.toNatClampNeg x1))), (0, vR 40 (some i0)), (1, vI x1)]) dX10_goesOn_6 rfl (Nat.le_of_ble_eq_true rfl) rfl ?_
  refine zn_aload_n (pc := 7) 1 dX10_goesOn_7 rfl rfl ?_
  refine zn_getR (pc := 8) fa_X10_105_40.1 fa_X10_105_40.2 dX10_goesOn_8 ?_
  refine zn_iload_n (pc := 11) 2 dX10_goesOn_11 rfl rfl ?_
  obtain ⟨i29, hi30, h31⟩ := zbd h28; clear h28
  rw [hi30]
  obtain ⟨hb32, h33⟩ := zgdd h31; clear h31
  refine zn_iaload (pc := 12) zk_131 dX10_goesOn_12 (zib_in hb32) ?_
  refine zn_istore_n (pc := 13) (ls' := [(3, vI (zI S 131 i29 (Int32.toNatClampNeg x1))), (2, vI (zI S 130 i24 (Int32.toNatClampNeg x1))), (0, vR 40 (some i0)), (1, vI x1)]) dX10_goesOn_13 rfl (Nat.le_of_ble_eq_true rfl) rfl ?_
  refine zn_aload_n (pc := 14) 2 dX10_goesOn_14 rfl rfl ?_
  refine zn_aload_n (pc := 15) 2 dX10_goesOn_15 rfl rfl ?_
  refine zn_getR (pc := 16) fa_X10_41_40.1 fa_X10_41_40.2 dX10_goesOn_16 ?_
  refine zn_iload_n (pc := 19) 1 dX10_goesOn_19 rfl rfl ?_
  obtain ⟨i34, hi35, h36⟩ := zbd h33; clear h33
  rw [hi35]
  obtain ⟨hb37, h38⟩ := zgdd h36; clear h36
  refine zn_iaload (pc := 20) zk_110 dX10_goesOn_20 (zib_in hb37) ?_
  refine zn_aload_n (pc := 21) 2 dX10_goesOn_21 rfl rfl ?_
  refine zn_getI (pc := 22) fa_X10_177_40.1 fa_X10_177_40.2 dX10_goesOn_22 ?_
  obtain ⟨o39, e40, h41⟩ := zbd h38; clear h38
  refine zn_cVv (pc := 25) (kc := 0) (ks := 0) (kc' := 0) (ks' := 0) (As := [vI (zI S 110 i34 (Int32.toNatClampNeg (zI S 130 i24 (Int32.toNatClampNeg x1)))), vI (zI S 40 i0 46)]) (st := []) dX10_goesOn_25 cs_X10_197 pc_40 rfl rfl (Nat.le_of_ble_eq_true rfl) ((c_X10_isLate e40).mono (Nat.le_of_ble_eq_true rfl)) ?_
  refine zn_istore (pc := 28) (ls' := [(4, vI o39), (3, vI (zI S 131 i29 (Int32.toNatClampNeg x1))), (2, vI (zI S 130 i24 (Int32.toNatClampNeg x1))), (0, vR 40 (some i0)), (1, vI x1)]) dX10_goesOn_28 (Nat.le_of_ble_eq_true rfl) rfl ?_
  refine zn_iload (pc := 30) 0 dX10_goesOn_30 rfl ?_
  have h43 := h41; clear h41
  refine zn_if_ne (pc := 32) (tgt := 52) dX10_goesOn_32 (by decide) (fun c42 => ?_) (fun c42 => ?_)
  · replace h43 := zif_f c42 h43
    refine zn_pick [3, 4, 2, 1, 0] rfl ?_
    exact b_X10_goesOn_52  h43 hp
  · replace h43 := zif_t c42 h43
    refine zn_aload_n (pc := 35) 3 dX10_goesOn_35 rfl rfl ?_
    refine zn_aload_n (pc := 36) 3 dX10_goesOn_36 rfl rfl ?_
    refine zn_getR (pc := 37) fa_X10_41_40.1 fa_X10_41_40.2 dX10_goesOn_37 ?_
    refine zn_iload_n (pc := 40) 1 dX10_goesOn_40 rfl rfl ?_
    obtain ⟨i44, hi45, h46⟩ := zbd h43; clear h43
    rw [hi45]
    obtain ⟨hb47, h48⟩ := zgdd h46; clear h46
    refine zn_iaload (pc := 41) zk_110 dX10_goesOn_41 (zib_in hb47) ?_
    refine zn_aload_n (pc := 42) 3 dX10_goesOn_42 rfl rfl ?_
    refine zn_getI (pc := 43) fa_X10_177_40.1 fa_X10_177_40.2 dX10_goesOn_43 ?_
    obtain ⟨o49, e50, h51⟩ := zbd h48; clear h48
    refine zn_cVv (pc := 46) (kc := 0) (ks := 0) (kc' := 0) (ks' := 0) (As := [vI (zI S 110 i44 (Int32.toNatClampNeg (zI S 131 i29 (Int32.toNatClampNeg x1)))), vI (zI S 40 i0 46)]) (st := []) dX10_goesOn_46 cs_X10_197 pc_40 rfl rfl (Nat.le_of_ble_eq_true rfl) ((c_X10_isLate e50).mono (Nat.le_of_ble_eq_true rfl)) ?_
    have h53 := h51; clear h51
    refine zn_if_eq (pc := 49) (tgt := 108) dX10_goesOn_49 (by decide) (fun c52 => ?_) (fun c52 => ?_)
    · replace h53 := zif_t c52 h53
      refine zn_aload_n (pc := 108) 3 dX10_goesOn_108 rfl rfl ?_
      refine zn_getR (pc := 109) fa_X10_31_40.1 fa_X10_31_40.2 dX10_goesOn_109 ?_
      refine zn_aload_n (pc := 112) 3 dX10_goesOn_112 rfl rfl ?_
      refine zn_getR (pc := 113) fa_X10_41_40.1 fa_X10_41_40.2 dX10_goesOn_113 ?_
      refine zn_iload_n (pc := 116) 2 dX10_goesOn_116 rfl rfl ?_
      obtain ⟨i54, hi55, h56⟩ := zbd h53; clear h53
      rw [hi55]
      obtain ⟨hb57, h58⟩ := zgdd h56; clear h56
      refine zn_iaload (pc := 117) zk_110 dX10_goesOn_117 (zib_in hb57) ?_
      obtain ⟨i59, hi60, h61⟩ := zbd h58; clear h58
      rw [hi60]
      obtain ⟨hb62, h63⟩ := zgdd h61; clear h61
      refine zn_iaload (pc := 118) zk_107 dX10_goesOn_118 (zib_in hb62) ?_
      refine zn_aload_n (pc := 119) 3 dX10_goesOn_119 rfl rfl ?_
      refine zn_getR (pc := 120) fa_X10_25_40.1 fa_X10_25_40.2 dX10_goesOn_120 ?_
      refine zn_aload_n (pc := 123) 3 dX10_goesOn_123 rfl rfl ?_
      refine zn_getR (pc := 124) fa_X10_41_40.1 fa_X10_41_40.2 dX10_goesOn_124 ?_
      refine zn_iload_n (pc := 127) 2 dX10_goesOn_127 rfl rfl ?_
      obtain ⟨i64, hi65, h66⟩ := zbd h63; clear h63
      rw [hi65]
      obtain ⟨hb67, h68⟩ := zgdd h66; clear h66
      refine zn_iaload (pc := 128) zk_110 dX10_goesOn_128 (zib_in hb67) ?_
      obtain ⟨i69, hi70, h71⟩ := zbd h68; clear h68
      rw [hi70]
      obtain ⟨hb72, h73⟩ := zgdd h71; clear h71
      refine zn_iaload (pc := 129) zk_105 dX10_goesOn_129 (zib_in hb72) ?_
      have h75 := h73; clear h73
      refine zn_icmp_ge (pc := 130) (tgt := 158) dX10_goesOn_130 (by decide) (fun c74 => ?_) (fun c74 => ?_)
      · replace h75 := zif_t c74 h75
        have hz := Option.some.inj h75; clear h75; subst hz
        exact zn_return (pc := 158) dX10_goesOn_158 rfl hp
      · replace h75 := zif_f c74 h75
        refine zn_aload_n (pc := 133) 3 dX10_goesOn_133 rfl rfl ?_
        refine zn_getR (pc := 134) fa_X10_31_40.1 fa_X10_31_40.2 dX10_goesOn_134 ?_
        refine zn_aload_n (pc := 137) 3 dX10_goesOn_137 rfl rfl ?_
        refine zn_getR (pc := 138) fa_X10_41_40.1 fa_X10_41_40.2 dX10_goesOn_138 ?_
        refine zn_iload_n (pc := 141) 1 dX10_goesOn_141 rfl rfl ?_
        obtain ⟨i76, hi77, h78⟩ := zbd h75; clear h75
        rw [hi77]
        obtain ⟨hb79, h80⟩ := zgdd h78; clear h78
        refine zn_iaload (pc := 142) zk_110 dX10_goesOn_142 (zib_in hb79) ?_
        obtain ⟨i81, hi82, h83⟩ := zbd h80; clear h80
        rw [hi82]
        obtain ⟨hb84, h85⟩ := zgdd h83; clear h83
        refine zn_iaload (pc := 143) zk_107 dX10_goesOn_143 (zib_in hb84) ?_
        refine zn_aload_n (pc := 144) 3 dX10_goesOn_144 rfl rfl ?_
        refine zn_getR (pc := 145) fa_X10_25_40.1 fa_X10_25_40.2 dX10_goesOn_145 ?_
        refine zn_aload_n (pc := 148) 3 dX10_goesOn_148 rfl rfl ?_
        refine zn_getR (pc := 149) fa_X10_41_40.1 fa_X10_41_40.2 dX10_goesOn_149 ?_
        refine zn_iload_n (pc := 152) 1 dX10_goesOn_152 rfl rfl ?_
        obtain ⟨i86, hi87, h88⟩ := zbd h85; clear h85
        rw [hi87]
        obtain ⟨hb89, h90⟩ := zgdd h88; clear h88
        refine zn_iaload (pc := 153) zk_110 dX10_goesOn_153 (zib_in hb89) ?_
        obtain ⟨i91, hi92, h93⟩ := zbd h90; clear h90
        rw [hi92]
        obtain ⟨hb94, h95⟩ := zgdd h93; clear h93
        refine zn_iaload (pc := 154) zk_105 dX10_goesOn_154 (zib_in hb94) ?_
        have h97 := h95; clear h95
        refine zn_icmp_lt (pc := 155) (tgt := 159) dX10_goesOn_155 (by decide) (fun c96 => ?_) (fun c96 => ?_)
        · replace h97 := zif_t c96 h97
          refine zn_aload_n (pc := 159) 3 dX10_goesOn_159 rfl rfl ?_
          refine zn_getR (pc := 160) fa_X10_31_40.1 fa_X10_31_40.2 dX10_goesOn_160 ?_
          refine zn_aload_n (pc := 163) 3 dX10_goesOn_163 rfl rfl ?_
          refine zn_getR (pc := 164) fa_X10_41_40.1 fa_X10_41_40.2 dX10_goesOn_164 ?_
          refine zn_iload_n (pc := 167) 2 dX10_goesOn_167 rfl rfl ?_
          obtain ⟨i98, hi99, h100⟩ := zbd h97; clear h97
          rw [hi99]
          obtain ⟨hb101, h102⟩ := zgdd h100; clear h100
          refine zn_iaload (pc := 168) zk_110 dX10_goesOn_168 (zib_in hb101) ?_
          refine zn_dup2 (pc := 169) dX10_goesOn_169 rfl rfl ?_
          obtain ⟨i103, hi104, h105⟩ := zbd h102; clear h102
          rw [hi104]
          obtain ⟨hb106, h107⟩ := zgdd h105; clear h105
          refine zn_iaload (pc := 170) zk_107 dX10_goesOn_170 (zib_in hb106) ?_
          refine zn_iconst (pc := 171) (x := 1) dX10_goesOn_171 (by decide) ?_
          refine zn_iadd (pc := 172) dX10_goesOn_172 ?_
          obtain ⟨hb108, h109⟩ := zgdd h107; clear h107
          obtain ⟨S110, hS111, h112⟩ := zltd h109; clear h109
          refine zn_iastore (pc := 173) zk_107 dX10_goesOn_173 (zib_in hb108) hS111 ?_
          refine zn_aload_n (pc := 174) 3 dX10_goesOn_174 rfl rfl ?_
          refine zn_getR (pc := 175) fa_X10_31_40.1 fa_X10_31_40.2 dX10_goesOn_175 ?_
          refine zn_aload_n (pc := 178) 3 dX10_goesOn_178 rfl rfl ?_
          refine zn_getR (pc := 179) fa_X10_41_40.1 fa_X10_41_40.2 dX10_goesOn_179 ?_
          refine zn_iload_n (pc := 182) 1 dX10_goesOn_182 rfl rfl ?_
          obtain ⟨i113, hi114, h115⟩ := zbd h112; clear h112
          rw [hi114]
          obtain ⟨hb116, h117⟩ := zgdd h115; clear h115
          refine zn_iaload (pc := 183) zk_110 dX10_goesOn_183 (zib_in hb116) ?_
          refine zn_dup2 (pc := 184) dX10_goesOn_184 rfl rfl ?_
          obtain ⟨i118, hi119, h120⟩ := zbd h117; clear h117
          rw [hi119]
          obtain ⟨hb121, h122⟩ := zgdd h120; clear h120
          refine zn_iaload (pc := 185) zk_107 dX10_goesOn_185 (zib_in hb121) ?_
          refine zn_iconst (pc := 186) (x := 1) dX10_goesOn_186 (by decide) ?_
          refine zn_iadd (pc := 187) dX10_goesOn_187 ?_
          obtain ⟨hb123, h124⟩ := zgdd h122; clear h122
          obtain ⟨S125, hS126, h127⟩ := zltd h124; clear h124
          refine zn_iastore (pc := 188) zk_107 dX10_goesOn_188 (zib_in hb123) hS126 ?_
          refine zn_aload_n (pc := 189) 3 dX10_goesOn_189 rfl rfl ?_
          refine zn_getR (pc := 190) fa_X10_108_40.1 fa_X10_108_40.2 dX10_goesOn_190 ?_
          refine zn_iload_n (pc := 193) 4 dX10_goesOn_193 rfl rfl ?_
          refine zn_dup2 (pc := 194) dX10_goesOn_194 rfl rfl ?_
          obtain ⟨i128, hi129, h130⟩ := zbd h127; clear h127
          rw [hi129]
          obtain ⟨hb131, h132⟩ := zgdd h130; clear h130
          refine zn_iaload (pc := 195) zk_132 dX10_goesOn_195 (zib_in hb131) ?_
          refine zn_iconst (pc := 196) (x := 1) dX10_goesOn_196 (by decide) ?_
          refine zn_iadd (pc := 197) dX10_goesOn_197 ?_
          obtain ⟨hb133, h134⟩ := zgdd h132; clear h132
          obtain ⟨S135, hS136, h137⟩ := zltd h134; clear h134
          refine zn_iastore (pc := 198) zk_132 dX10_goesOn_198 (zib_in hb133) hS136 ?_
          refine zn_aload_n (pc := 199) 3 dX10_goesOn_199 rfl rfl ?_
          refine zn_getR (pc := 200) fa_X10_123_40.1 fa_X10_123_40.2 dX10_goesOn_200 ?_
          refine zn_iload_n (pc := 203) 4 dX10_goesOn_203 rfl rfl ?_
          refine zn_aload_n (pc := 204) 3 dX10_goesOn_204 rfl rfl ?_
          refine zn_getI (pc := 205) fa_X10_177_40.1 fa_X10_177_40.2 dX10_goesOn_205 ?_
          obtain ⟨i138, hi139, h140⟩ := zbd h137; clear h137
          rw [hi139]
          obtain ⟨hb141, h142⟩ := zgdd h140; clear h140
          obtain ⟨S143, hS144, h145⟩ := zltd h142; clear h142
          refine zn_iastore (pc := 208) zk_137 dX10_goesOn_208 (zib_in hb141) hS144 ?_
          refine zn_aload_n (pc := 209) 3 dX10_goesOn_209 rfl rfl ?_
          refine zn_getR (pc := 210) fa_X10_108_40.1 fa_X10_108_40.2 dX10_goesOn_210 ?_
          refine zn_iload_n (pc := 213) 4 dX10_goesOn_213 rfl rfl ?_
          obtain ⟨i146, hi147, h148⟩ := zbd h145; clear h145
          rw [hi147]
          obtain ⟨hb149, h150⟩ := zgdd h148; clear h148
          refine zn_iaload (pc := 214) zk_132 dX10_goesOn_214 (zib_in hb149) ?_
          have h152 := h150; clear h150
          by_cases c151 : (zI S143 132 i146 (Int32.toNatClampNeg x1)) = 3
          · replace h152 := zif_t c151 h152
            refine zn_tsIn (pc := 215) (tgt := 248) (off := 33) dX10_goesOn_215 c151 (by decide) (by decide) ?_
            refine zn_aload_n (pc := 248) 3 dX10_goesOn_248 rfl rfl ?_
            refine zn_getR (pc := 249) fa_X10_47_40.1 fa_X10_47_40.2 dX10_goesOn_249 ?_
            refine zn_iload_n (pc := 252) 2 dX10_goesOn_252 rfl rfl ?_
            obtain ⟨i153, hi154, h155⟩ := zbd h152; clear h152
            rw [hi154]
            obtain ⟨hb156, h157⟩ := zgdd h155; clear h155
            refine zn_iaload (pc := 253) zk_112 dX10_goesOn_253 (zib_in hb156) ?_
            have h159 := h157; clear h157
            refine zn_if_lt (pc := 254) (tgt := 509) dX10_goesOn_254 (by decide) (fun c158 => ?_) (fun c158 => ?_)
            · replace h159 := zif_t c158 h159
              have hz := Option.some.inj h159; clear h159; subst hz
              exact zn_return (pc := 509) dX10_goesOn_509 rfl hp
            · replace h159 := zif_f c158 h159
              refine zn_aload_n (pc := 257) 3 dX10_goesOn_257 rfl rfl ?_
              refine zn_getR (pc := 258) fa_X10_130_40.1 fa_X10_130_40.2 dX10_goesOn_258 ?_
              refine zn_iload_n (pc := 261) 4 dX10_goesOn_261 rfl rfl ?_
              obtain ⟨i160, hi161, h162⟩ := zbd h159; clear h159
              rw [hi161]
              obtain ⟨hb163, h164⟩ := zgdd h162; clear h162
              refine zn_baload (pc := 262) zk_139 dX10_goesOn_262 (zib_in hb163) ?_
              have h166 := h164; clear h164
              refine zn_if_ne (pc := 263) (tgt := 509) dX10_goesOn_263 (by decide) (fun c165 => ?_) (fun c165 => ?_)
              · replace h166 := zif_f c165 h166
                have hz := Option.some.inj h166; clear h166; subst hz
                exact zn_return (pc := 509) dX10_goesOn_509 rfl hp
              · replace h166 := zif_t c165 h166
                refine zn_aload_n (pc := 266) 3 dX10_goesOn_266 rfl rfl ?_
                refine zn_iload_n (pc := 267) 4 dX10_goesOn_267 rfl rfl ?_
                refine zn_iconst (pc := 268) (x := 1) dX10_goesOn_268 (by decide) ?_
                obtain ⟨o167, e168, h169⟩ := zbd h166; clear h166
                refine zn_cV0 (pc := 269) (kc := 0) (ks := 0) (kc' := 0) (ks' := 0) (As := [vI x1, vI 1]) (st := []) dX10_goesOn_269 cs_X10_300 pc_40 rfl rfl (Nat.le_of_ble_eq_true rfl) ((c_X10_refuses e168).mono (Nat.le_of_ble_eq_true rfl)) ?_
                refine zn_goto (pc := 272) (tgt := 509) dX10_goesOn_272 (by decide) ?_
                have hz := Option.some.inj h169; clear h169; subst hz
                exact zn_return (pc := 509) dX10_goesOn_509 rfl hp
          · replace h152 := zif_f c151 h152
            have h171 := h152; clear h152
            by_cases c170 : (zI S143 132 i146 (Int32.toNatClampNeg x1)) = 4
            · replace h171 := zif_t c170 h171
              refine zn_tsIn (pc := 215) (tgt := 509) (off := 294) dX10_goesOn_215 c170 (by decide) (by decide) ?_
              have hz := Option.some.inj h171; clear h171; subst hz
              exact zn_return (pc := 509) dX10_goesOn_509 rfl hp
            · replace h171 := zif_f c170 h171
              have h173 := h171; clear h171
              by_cases c172 : (zI S143 132 i146 (Int32.toNatClampNeg x1)) = 5
              · replace h173 := zif_t c172 h173
                refine zn_tsIn (pc := 215) (tgt := 275) (off := 60) dX10_goesOn_215 c172 (by decide) (by decide) ?_
                refine zn_aload_n (pc := 275) 3 dX10_goesOn_275 rfl rfl ?_
                refine zn_getR (pc := 276) fa_X10_133_40.1 fa_X10_133_40.2 dX10_goesOn_276 ?_
                refine zn_iload_n (pc := 279) 4 dX10_goesOn_279 rfl rfl ?_
                obtain ⟨i174, hi175, h176⟩ := zbd h173; clear h173
                rw [hi175]
                obtain ⟨hb177, h178⟩ := zgdd h176; clear h176
                refine zn_baload (pc := 280) zk_140 dX10_goesOn_280 (zib_in hb177) ?_
                have h180 := h178; clear h178
                refine zn_if_ne (pc := 281) (tgt := 509) dX10_goesOn_281 (by decide) (fun c179 => ?_) (fun c179 => ?_)
                · replace h180 := zif_f c179 h180
                  have hz := Option.some.inj h180; clear h180; subst hz
                  exact zn_return (pc := 509) dX10_goesOn_509 rfl hp
                · replace h180 := zif_t c179 h180
                  refine zn_aload_n (pc := 284) 3 dX10_goesOn_284 rfl rfl ?_
                  refine zn_getR (pc := 285) fa_X10_65_40.1 fa_X10_65_40.2 dX10_goesOn_285 ?_
                  refine zn_iload_n (pc := 288) 2 dX10_goesOn_288 rfl rfl ?_
                  obtain ⟨i181, hi182, h183⟩ := zbd h180; clear h180
                  rw [hi182]
                  obtain ⟨hb184, h185⟩ := zgdd h183; clear h183
                  refine zn_laload (pc := 289) zk_118 dX10_goesOn_289 (zib_in hb184) ?_
                  refine zn_lconst (pc := 290) (x := 0) dX10_goesOn_290 (by decide) ?_
                  refine zn_lcmp (pc := 291) dX10_goesOn_291 ?_
                  have h187 := h185; clear h185
                  refine zn_if_lt (pc := 292) (tgt := 298) dX10_goesOn_292 (by decide) (fun c186 => ?_) (fun c186 => ?_)
                  · replace h187 := zif_t c186 h187
                    refine zn_aload_n (pc := 298) 3 dX10_goesOn_298 rfl rfl ?_
                    refine zn_iload_n (pc := 299) 2 dX10_goesOn_299 rfl rfl ?_
                    refine zn_aload_n (pc := 300) 3 dX10_goesOn_300 rfl rfl ?_
                    refine zn_getR (pc := 301) fa_X10_41_40.1 fa_X10_41_40.2 dX10_goesOn_301 ?_
                    refine zn_iload_n (pc := 304) 1 dX10_goesOn_304 rfl rfl ?_
                    obtain ⟨i188, hi189, h190⟩ := zbd h187; clear h187
                    rw [hi189]
                    obtain ⟨hb191, h192⟩ := zgdd h190; clear h190
                    refine zn_iaload (pc := 305) zk_110 dX10_goesOn_305 (zib_in hb191) ?_
                    refine zn_aload_n (pc := 306) 3 dX10_goesOn_306 rfl rfl ?_
                    refine zn_getI (pc := 307) fa_X10_177_40.1 fa_X10_177_40.2 dX10_goesOn_307 ?_
                    refine zn_aload_n (pc := 310) 3 dX10_goesOn_310 rfl rfl ?_
                    refine zn_getR (pc := 311) fa_X10_120_40.1 fa_X10_120_40.2 dX10_goesOn_311 ?_
                    refine zn_iload_n (pc := 314) 4 dX10_goesOn_314 rfl rfl ?_
                    obtain ⟨i193, hi194, h195⟩ := zbd h192; clear h192
                    rw [hi194]
                    obtain ⟨hb196, h197⟩ := zgdd h195; clear h195
                    refine zn_iaload (pc := 315) zk_136 dX10_goesOn_315 (zib_in hb196) ?_
                    refine zn_isub (pc := 316) dX10_goesOn_316 ?_
                    obtain ⟨o198, e199, h200⟩ := zbd h197; clear h197
                    refine zn_cV0 (pc := 317) (kc := 0) (ks := 0) (kc' := 0) (ks' := 0) (As := [vI (zI S 130 i24 (Int32.toNatClampNeg x1)), vI (zI S143 110 i188 (Int32.toNatClampNeg (zI S 131 i29 (Int32.toNatClampNeg x1)))), vI ((zI S143 40 i0 46) - (zI S143 136 i193 (Int32.toNatClampNeg x1)))]) (st := []) dX10_goesOn_317 cs_X10_293 pc_40 rfl rfl (Nat.le_of_ble_eq_true rfl) ((c_X10_puts e199).mono (Nat.le_of_ble_eq_true rfl)) ?_
                    refine zn_aload_n (pc := 320) 3 dX10_goesOn_320 rfl rfl ?_
                    refine zn_iconst (pc := 321) (x := 2) dX10_goesOn_321 (by decide) ?_
                    refine zn_aload_n (pc := 322) 3 dX10_goesOn_322 rfl rfl ?_
                    refine zn_getI (pc := 323) fa_X10_177_40.1 fa_X10_177_40.2 dX10_goesOn_323 ?_
                    obtain ⟨o201, e202, h203⟩ := zbd h200; clear h200
                    refine zn_cVv (pc := 326) (kc := 0) (ks := 0) (kc' := 0) (ks' := 0) (As := [vI 2, vI (zI o198 40 i0 46)]) (st := []) dX10_goesOn_326 cs_X10_223 pc_40 rfl rfl (Nat.le_of_ble_eq_true rfl) ((c_X10_worth e202).mono (Nat.le_of_ble_eq_true rfl)) ?_
                    have h205 := h203; clear h203
                    refine zn_if_le (pc := 329) (tgt := 509) dX10_goesOn_329 (by decide) (fun c204 => ?_) (fun c204 => ?_)
                    · replace h205 := zif_t c204 h205
                      have hz := Option.some.inj h205; clear h205; subst hz
                      exact zn_return (pc := 509) dX10_goesOn_509 rfl hp
                    · replace h205 := zif_f c204 h205
                      refine zn_aload_n (pc := 332) 3 dX10_goesOn_332 rfl rfl ?_
                      refine zn_iload_n (pc := 333) 4 dX10_goesOn_333 rfl rfl ?_
                      refine zn_iconst (pc := 334) (x := 2) dX10_goesOn_334 (by decide) ?_
                      obtain ⟨o206, e207, h208⟩ := zbd h205; clear h205
                      refine zn_cV0 (pc := 335) (kc := 0) (ks := 0) (kc' := 0) (ks' := 0) (As := [vI x1, vI 2]) (st := []) dX10_goesOn_335 cs_X10_300 pc_40 rfl rfl (Nat.le_of_ble_eq_true rfl) ((c_X10_refuses e207).mono (Nat.le_of_ble_eq_true rfl)) ?_
                      refine zn_goto (pc := 338) (tgt := 509) dX10_goesOn_338 (by decide) ?_
                      have hz := Option.some.inj h208; clear h208; subst hz
                      exact zn_return (pc := 509) dX10_goesOn_509 rfl hp
                  · replace h187 := zif_f c186 h187
                    refine zn_goto (pc := 295) (tgt := 509) dX10_goesOn_295 (by decide) ?_
                    have hz := Option.some.inj h187; clear h187; subst hz
                    exact zn_return (pc := 509) dX10_goesOn_509 rfl hp
              · replace h173 := zif_f c172 h173
                have h210 := h173; clear h173
                by_cases c209 : (zI S143 132 i146 (Int32.toNatClampNeg x1)) = 6
                · replace h210 := zif_t c209 h210
                  refine zn_tsIn (pc := 215) (tgt := 341) (off := 126) dX10_goesOn_215 c209 (by decide) (by decide) ?_
                  refine zn_iconst (pc := 341) (x := 0) dX10_goesOn_341 (by decide) ?_
                  refine zn_istore (pc := 342) (ls' := [(5, vI 0), (4, vI o39), (3, vI (zI S 131 i29 (Int32.toNatClampNeg x1))), (2, vI (zI S 130 i24 (Int32.toNatClampNeg x1))), (0, vR 40 (some i0)), (1, vI x1)]) dX10_goesOn_342 (Nat.le_of_ble_eq_true rfl) rfl ?_
                  refine zn_pick [4, 5, 3, 2, 0] rfl ?_
                  exact b_X10_goesOn_344  fu _ _ _ _ _ _ _ h210 hp
                · replace h210 := zif_f c209 h210
                  have h212 := h210; clear h210
                  by_cases c211 : (zI S143 132 i146 (Int32.toNatClampNeg x1)) = 7
                  · replace h212 := zif_t c211 h212
                    refine zn_tsIn (pc := 215) (tgt := 401) (off := 186) dX10_goesOn_215 c211 (by decide) (by decide) ?_
                    refine zn_aload_n (pc := 401) 3 dX10_goesOn_401 rfl rfl ?_
                    refine zn_getR (pc := 402) fa_X10_126_40.1 fa_X10_126_40.2 dX10_goesOn_402 ?_
                    refine zn_iload_n (pc := 405) 4 dX10_goesOn_405 rfl rfl ?_
                    refine zn_iconst (pc := 406) (x := 0) dX10_goesOn_406 (by decide) ?_
                    obtain ⟨i213, hi214, h215⟩ := zbd h212; clear h212
                    rw [hi214]
                    obtain ⟨hb216, h217⟩ := zgdd h215; clear h215
                    obtain ⟨S218, hS219, h220⟩ := zltd h217; clear h217
                    refine zn_bastore (pc := 407) zk_138 dX10_goesOn_407 (zib_in hb216) hS219 ?_
                    refine zn_aload_n (pc := 408) 3 dX10_goesOn_408 rfl rfl ?_
                    refine zn_getR (pc := 409) fa_X10_133_40.1 fa_X10_133_40.2 dX10_goesOn_409 ?_
                    refine zn_iload_n (pc := 412) 4 dX10_goesOn_412 rfl rfl ?_
                    obtain ⟨i221, hi222, h223⟩ := zbd h220; clear h220
                    rw [hi222]
                    obtain ⟨hb224, h225⟩ := zgdd h223; clear h223
                    refine zn_baload (pc := 413) zk_140 dX10_goesOn_413 (zib_in hb224) ?_
                    have h227 := h225; clear h225
                    refine zn_if_eq (pc := 414) (tgt := 420) dX10_goesOn_414 (by decide) (fun c226 => ?_) (fun c226 => ?_)
                    · replace h227 := zif_t c226 h227
                      refine zn_aload_n (pc := 420) 3 dX10_goesOn_420 rfl rfl ?_
                      refine zn_getR (pc := 421) fa_X10_34_40.1 fa_X10_34_40.2 dX10_goesOn_421 ?_
                      refine zn_aload_n (pc := 424) 3 dX10_goesOn_424 rfl rfl ?_
                      refine zn_getR (pc := 425) fa_X10_41_40.1 fa_X10_41_40.2 dX10_goesOn_425 ?_
                      refine zn_iload_n (pc := 428) 2 dX10_goesOn_428 rfl rfl ?_
                      obtain ⟨i228, hi229, h230⟩ := zbd h227; clear h227
                      rw [hi229]
                      obtain ⟨hb231, h232⟩ := zgdd h230; clear h230
                      refine zn_iaload (pc := 429) zk_110 dX10_goesOn_429 (zib_in hb231) ?_
                      refine zn_dup2 (pc := 430) dX10_goesOn_430 rfl rfl ?_
                      obtain ⟨i233, hi234, h235⟩ := zbd h232; clear h232
                      rw [hi234]
                      obtain ⟨hb236, h237⟩ := zgdd h235; clear h235
                      refine zn_laload (pc := 431) zk_108 dX10_goesOn_431 (zib_in hb236) ?_
                      refine zn_aload_n (pc := 432) 3 dX10_goesOn_432 rfl rfl ?_
                      refine zn_getR (pc := 433) fa_X10_65_40.1 fa_X10_65_40.2 dX10_goesOn_433 ?_
                      refine zn_iload_n (pc := 436) 2 dX10_goesOn_436 rfl rfl ?_
                      obtain ⟨i238, hi239, h240⟩ := zbd h237; clear h237
                      rw [hi239]
                      obtain ⟨hb241, h242⟩ := zgdd h240; clear h240
                      refine zn_laload (pc := 437) zk_118 dX10_goesOn_437 (zib_in hb241) ?_
                      refine zn_lsub (pc := 438) dX10_goesOn_438 ?_
                      obtain ⟨hb243, h244⟩ := zgdd h242; clear h242
                      obtain ⟨S245, hS246, h247⟩ := zltd h244; clear h244
                      refine zn_lastore (pc := 439) zk_108 dX10_goesOn_439 (zib_in hb243) hS246 ?_
                      refine zn_aload_n (pc := 440) 3 dX10_goesOn_440 rfl rfl ?_
                      refine zn_getR (pc := 441) fa_X10_34_40.1 fa_X10_34_40.2 dX10_goesOn_441 ?_
                      refine zn_aload_n (pc := 444) 3 dX10_goesOn_444 rfl rfl ?_
                      refine zn_getR (pc := 445) fa_X10_41_40.1 fa_X10_41_40.2 dX10_goesOn_445 ?_
                      refine zn_iload_n (pc := 448) 1 dX10_goesOn_448 rfl rfl ?_
                      obtain ⟨i248, hi249, h250⟩ := zbd h247; clear h247
                      rw [hi249]
                      obtain ⟨hb251, h252⟩ := zgdd h250; clear h250
                      refine zn_iaload (pc := 449) zk_110 dX10_goesOn_449 (zib_in hb251) ?_
                      refine zn_dup2 (pc := 450) dX10_goesOn_450 rfl rfl ?_
                      obtain ⟨i253, hi254, h255⟩ := zbd h252; clear h252
                      rw [hi254]
                      obtain ⟨hb256, h257⟩ := zgdd h255; clear h255
                      refine zn_laload (pc := 451) zk_108 dX10_goesOn_451 (zib_in hb256) ?_
                      refine zn_aload_n (pc := 452) 3 dX10_goesOn_452 rfl rfl ?_
                      refine zn_getR (pc := 453) fa_X10_65_40.1 fa_X10_65_40.2 dX10_goesOn_453 ?_
                      refine zn_iload_n (pc := 456) 2 dX10_goesOn_456 rfl rfl ?_
                      obtain ⟨i258, hi259, h260⟩ := zbd h257; clear h257
                      rw [hi259]
                      obtain ⟨hb261, h262⟩ := zgdd h260; clear h260
                      refine zn_laload (pc := 457) zk_118 dX10_goesOn_457 (zib_in hb261) ?_
                      refine zn_ladd (pc := 458) dX10_goesOn_458 ?_
                      obtain ⟨hb263, h264⟩ := zgdd h262; clear h262
                      obtain ⟨S265, hS266, h267⟩ := zltd h264; clear h264
                      refine zn_lastore (pc := 459) zk_108 dX10_goesOn_459 (zib_in hb263) hS266 ?_
                      refine zn_aload_n (pc := 460) 3 dX10_goesOn_460 rfl rfl ?_
                      refine zn_getR (pc := 461) fa_X10_65_40.1 fa_X10_65_40.2 dX10_goesOn_461 ?_
                      refine zn_iload_n (pc := 464) 1 dX10_goesOn_464 rfl rfl ?_
                      refine zn_dup2 (pc := 465) dX10_goesOn_465 rfl rfl ?_
                      obtain ⟨i268, hi269, h270⟩ := zbd h267; clear h267
                      rw [hi269]
                      obtain ⟨hb271, h272⟩ := zgdd h270; clear h270
                      refine zn_laload (pc := 466) zk_118 dX10_goesOn_466 (zib_in hb271) ?_
                      refine zn_aload_n (pc := 467) 3 dX10_goesOn_467 rfl rfl ?_
                      refine zn_getR (pc := 468) fa_X10_65_40.1 fa_X10_65_40.2 dX10_goesOn_468 ?_
                      refine zn_iload_n (pc := 471) 2 dX10_goesOn_471 rfl rfl ?_
                      obtain ⟨i273, hi274, h275⟩ := zbd h272; clear h272
                      rw [hi274]
                      obtain ⟨hb276, h277⟩ := zgdd h275; clear h275
                      refine zn_laload (pc := 472) zk_118 dX10_goesOn_472 (zib_in hb276) ?_
                      refine zn_ladd (pc := 473) dX10_goesOn_473 ?_
                      obtain ⟨hb278, h279⟩ := zgdd h277; clear h277
                      obtain ⟨S280, hS281, h282⟩ := zltd h279; clear h279
                      refine zn_lastore (pc := 474) zk_118 dX10_goesOn_474 (zib_in hb278) hS281 ?_
                      refine zn_aload_n (pc := 475) 3 dX10_goesOn_475 rfl rfl ?_
                      refine zn_getR (pc := 476) fa_X10_65_40.1 fa_X10_65_40.2 dX10_goesOn_476 ?_
                      refine zn_iload_n (pc := 479) 2 dX10_goesOn_479 rfl rfl ?_
                      refine zn_lconst (pc := 480) (x := 0) dX10_goesOn_480 (by decide) ?_
                      obtain ⟨i283, hi284, h285⟩ := zbd h282; clear h282
                      rw [hi284]
                      obtain ⟨hb286, h287⟩ := zgdd h285; clear h285
                      obtain ⟨S288, hS289, h290⟩ := zltd h287; clear h287
                      refine zn_lastore (pc := 481) zk_118 dX10_goesOn_481 (zib_in hb286) hS289 ?_
                      refine zn_aload_n (pc := 482) 3 dX10_goesOn_482 rfl rfl ?_
                      refine zn_getR (pc := 483) fa_X10_53_40.1 fa_X10_53_40.2 dX10_goesOn_483 ?_
                      refine zn_iload_n (pc := 486) 2 dX10_goesOn_486 rfl rfl ?_
                      refine zn_iconst (pc := 487) (x := 2) dX10_goesOn_487 (by decide) ?_
                      obtain ⟨i291, hi292, h293⟩ := zbd h290; clear h290
                      rw [hi292]
                      obtain ⟨hb294, h295⟩ := zgdd h293; clear h293
                      obtain ⟨S296, hS297, h298⟩ := zltd h295; clear h295
                      refine zn_iastore (pc := 488) zk_114 dX10_goesOn_488 (zib_in hb294) hS297 ?_
                      refine zn_aload_n (pc := 489) 3 dX10_goesOn_489 rfl rfl ?_
                      refine zn_getR (pc := 490) fa_X10_56_40.1 fa_X10_56_40.2 dX10_goesOn_490 ?_
                      refine zn_iload_n (pc := 493) 2 dX10_goesOn_493 rfl rfl ?_
                      refine zn_iload_n (pc := 494) 1 dX10_goesOn_494 rfl rfl ?_
                      obtain ⟨i299, hi300, h301⟩ := zbd h298; clear h298
                      rw [hi300]
                      obtain ⟨hb302, h303⟩ := zgdd h301; clear h301
                      obtain ⟨S304, hS305, h306⟩ := zltd h303; clear h303
                      refine zn_iastore (pc := 495) zk_115 dX10_goesOn_495 (zib_in hb302) hS305 ?_
                      refine zn_aload_n (pc := 496) 3 dX10_goesOn_496 rfl rfl ?_
                      refine zn_getR (pc := 497) fa_X10_59_40.1 fa_X10_59_40.2 dX10_goesOn_497 ?_
                      refine zn_iload_n (pc := 500) 2 dX10_goesOn_500 rfl rfl ?_
                      refine zn_aload_n (pc := 501) 3 dX10_goesOn_501 rfl rfl ?_
                      refine zn_getI (pc := 502) fa_X10_177_40.1 fa_X10_177_40.2 dX10_goesOn_502 ?_
                      obtain ⟨i307, hi308, h309⟩ := zbd h306; clear h306
                      rw [hi308]
                      obtain ⟨hb310, h311⟩ := zgdd h309; clear h309
                      obtain ⟨S312, hS313, h314⟩ := zltd h311; clear h311
                      refine zn_iastore (pc := 505) zk_116 dX10_goesOn_505 (zib_in hb310) hS313 ?_
                      refine zn_goto (pc := 506) (tgt := 509) dX10_goesOn_506 (by decide) ?_
                      have hz := Option.some.inj h314; clear h314; subst hz
                      exact zn_return (pc := 509) dX10_goesOn_509 rfl hp
                    · replace h227 := zif_f c226 h227
                      refine zn_goto (pc := 417) (tgt := 509) dX10_goesOn_417 (by decide) ?_
                      have hz := Option.some.inj h227; clear h227; subst hz
                      exact zn_return (pc := 509) dX10_goesOn_509 rfl hp
                  · replace h212 := zif_f c211 h212
                    refine zn_tsOut (pc := 215) (tgt := 509) dX10_goesOn_215 ?_ (by decide) ?_
                    · have t0 := lv_neT c151 (show (3 : Int32).toInt = 3 by decide)
                      have t1 := lv_neT c170 (show (4 : Int32).toInt = 4 by decide)
                      have t2 := lv_neT c172 (show (5 : Int32).toInt = 5 by decide)
                      have t3 := lv_neT c209 (show (6 : Int32).toInt = 6 by decide)
                      have t4 := lv_neT c211 (show (7 : Int32).toInt = 7 by decide)
                      omega
                    · have hz := Option.some.inj h212; clear h212; subst hz
                      exact zn_return (pc := 509) dX10_goesOn_509 rfl hp
        · replace h97 := zif_f c96 h97
          have hz := Option.some.inj h97; clear h97; subst hz
          exact zn_return (pc := 158) dX10_goesOn_158 rfl hp
    · replace h53 := zif_f c52 h53
      refine zn_pick [3, 4, 2, 1, 0] rfl ?_
      exact b_X10_goesOn_52  h53 hp
theorem b_X10_isDue_31 {G : zG} {Post : Option zV → zH → Prop} {i0 : Nat} {x1 : Int32} {x2 : Int32} {S : zH} {out : Int32} (h0 : f_X10_isDue_31 i0 x1 x2 S = some out) (hp : Post (some (vI out)) S) : zn G M_X10_isDue 0 0 0 31 [(0, vR 40 (some i0)), (1, vI x1), (2, vI x2)] [] S Post := by
  unfold f_X10_isDue_31 at h0
  refine zn_aload_n (pc := 31) 0 dX10_isDue_31 rfl rfl ?_
  refine zn_getR (pc := 32) fa_X10_72_40.1 fa_X10_72_40.2 dX10_isDue_32 ?_
  refine zn_iload_n (pc := 35) 1 dX10_isDue_35 rfl rfl ?_
  obtain ⟨i1, hi2, h3⟩ := zbd h0; clear h0
  rw [hi2]
  obtain ⟨hb4, h5⟩ := zgdd h3; clear h3
  refine zn_iaload (pc := 36) zk_120 dX10_isDue_36 (zib_in hb4) ?_
  have h7 := h5; clear h5
  refine zn_if_ne (pc := 37) (tgt := 58) dX10_isDue_37 (by decide) (fun c6 => ?_) (fun c6 => ?_)
  · replace h7 := zif_f c6 h7
    refine zn_iload_n (pc := 58) 2 dX10_isDue_58 rfl rfl ?_
    refine zn_aload_n (pc := 59) 0 dX10_isDue_59 rfl rfl ?_
    refine zn_getR (pc := 60) fa_X10_84_40.1 fa_X10_84_40.2 dX10_isDue_60 ?_
    refine zn_iload_n (pc := 63) 1 dX10_isDue_63 rfl rfl ?_
    obtain ⟨i8, hi9, h10⟩ := zbd h7; clear h7
    rw [hi9]
    obtain ⟨hb11, h12⟩ := zgdd h10; clear h10
    refine zn_iaload (pc := 64) zk_124 dX10_isDue_64 (zib_in hb11) ?_
    refine zn_isub (pc := 65) dX10_isDue_65 ?_
    refine zn_aload_n (pc := 66) 0 dX10_isDue_66 rfl rfl ?_
    refine zn_getR (pc := 67) fa_X10_87_40.1 fa_X10_87_40.2 dX10_isDue_67 ?_
    refine zn_iload_n (pc := 70) 1 dX10_isDue_70 rfl rfl ?_
    obtain ⟨i13, hi14, h15⟩ := zbd h12; clear h12
    rw [hi14]
    obtain ⟨hb16, h17⟩ := zgdd h15; clear h15
    refine zn_iaload (pc := 71) zk_125 dX10_isDue_71 (zib_in hb16) ?_
    obtain ⟨hb18, h19⟩ := zgdd h17; clear h17
    refine zn_irem (pc := 72) dX10_isDue_72 (zne_of hb18) ?_
    have h21 := h19; clear h19
    refine zn_if_ne (pc := 73) (tgt := 80) dX10_isDue_73 (by decide) (fun c20 => ?_) (fun c20 => ?_)
    · replace h21 := zif_f c20 h21
      refine zn_iconst (pc := 80) (x := 0) dX10_isDue_80 (by decide) ?_
      have hz := Option.some.inj h21; clear h21; subst hz
      exact zn_zreturn (pc := 81) dX10_isDue_81 rfl (by decide) hp
    · replace h21 := zif_t c20 h21
      refine zn_iconst (pc := 76) (x := 1) dX10_isDue_76 (by decide) ?_
      refine zn_goto (pc := 77) (tgt := 81) dX10_isDue_77 (by decide) ?_
      have hz := Option.some.inj h21; clear h21; subst hz
      exact zn_zreturn (pc := 81) dX10_isDue_81 rfl (by decide) hp
  · replace h7 := zif_t c6 h7
    refine zn_iload_n (pc := 40) 2 dX10_isDue_40 rfl rfl ?_
    refine zn_aload_n (pc := 41) 0 dX10_isDue_41 rfl rfl ?_
    refine zn_getR (pc := 42) fa_X10_84_40.1 fa_X10_84_40.2 dX10_isDue_42 ?_
    refine zn_iload_n (pc := 45) 1 dX10_isDue_45 rfl rfl ?_
    obtain ⟨i22, hi23, h24⟩ := zbd h7; clear h7
    rw [hi23]
    obtain ⟨hb25, h26⟩ := zgdd h24; clear h24
    refine zn_iaload (pc := 46) zk_124 dX10_isDue_46 (zib_in hb25) ?_
    have h28 := h26; clear h26
    refine zn_icmp_ne (pc := 47) (tgt := 54) dX10_isDue_47 (by decide) (fun c27 => ?_) (fun c27 => ?_)
    · replace h28 := zif_f c27 h28
      refine zn_iconst (pc := 54) (x := 0) dX10_isDue_54 (by decide) ?_
      refine zn_goto (pc := 55) (tgt := 81) dX10_isDue_55 (by decide) ?_
      have hz := Option.some.inj h28; clear h28; subst hz
      exact zn_zreturn (pc := 81) dX10_isDue_81 rfl (by decide) hp
    · replace h28 := zif_t c27 h28
      refine zn_iconst (pc := 50) (x := 1) dX10_isDue_50 (by decide) ?_
      refine zn_goto (pc := 51) (tgt := 81) dX10_isDue_51 (by decide) ?_
      have hz := Option.some.inj h28; clear h28; subst hz
      exact zn_zreturn (pc := 81) dX10_isDue_81 rfl (by decide) hp
theorem c_X10_isDue {G : zG} {i0 : Nat} {x1 : Int32} {x2 : Int32} {S : zH} {out : Int32} (h0 : f_X10_isDue i0 x1 x2 S = some out) : zct G M_X10_isDue 0 0 0 [vR 40 (some i0), vI x1, vI x2] S (zpo (some (vI out)) S) := by
  refine zct_of (by decide) (Nat.le_of_ble_eq_true rfl) ?_
  show zn G M_X10_isDue 0 0 0 0 [(0, vR 40 (some i0)), (1, vI x1), (2, vI x2)] [] S _
  have hp : zpo (some (vI out)) S (some (vI out)) S := ⟨rfl, rfl⟩
  unfold f_X10_isDue at h0
  refine zn_iload_n (pc := 0) 2 dX10_isDue_0 rfl rfl ?_
  refine zn_aload_n (pc := 1) 0 dX10_isDue_1 rfl rfl ?_
  refine zn_getR (pc := 2) fa_X10_84_40.1 fa_X10_84_40.2 dX10_isDue_2 ?_
  refine zn_iload_n (pc := 5) 1 dX10_isDue_5 rfl rfl ?_
  obtain ⟨i29, hi30, h31⟩ := zbd h0; clear h0
  rw [hi30]
  obtain ⟨hb32, h33⟩ := zgdd h31; clear h31
  refine zn_iaload (pc := 6) zk_124 dX10_isDue_6 (zib_in hb32) ?_
  have h35 := h33; clear h33
  refine zn_icmp_lt (pc := 7) (tgt := 29) dX10_isDue_7 (by decide) (fun c34 => ?_) (fun c34 => ?_)
  · replace h35 := zif_t c34 h35
    refine zn_iconst (pc := 29) (x := 0) dX10_isDue_29 (by decide) ?_
    have hz := Option.some.inj h35; clear h35; subst hz
    exact zn_zreturn (pc := 30) dX10_isDue_30 rfl (by decide) hp
  · replace h35 := zif_f c34 h35
    refine zn_aload_n (pc := 10) 0 dX10_isDue_10 rfl rfl ?_
    refine zn_getR (pc := 11) fa_X10_90_40.1 fa_X10_90_40.2 dX10_isDue_11 ?_
    refine zn_iload_n (pc := 14) 1 dX10_isDue_14 rfl rfl ?_
    obtain ⟨i36, hi37, h38⟩ := zbd h35; clear h35
    rw [hi37]
    obtain ⟨hb39, h40⟩ := zgdd h38; clear h38
    refine zn_iaload (pc := 15) zk_126 dX10_isDue_15 (zib_in hb39) ?_
    have h42 := h40; clear h40
    refine zn_if_lt (pc := 16) (tgt := 31) dX10_isDue_16 (by decide) (fun c41 => ?_) (fun c41 => ?_)
    · replace h42 := zif_t c41 h42
      exact b_X10_isDue_31  h42 hp
    · replace h42 := zif_f c41 h42
      refine zn_iload_n (pc := 19) 2 dX10_isDue_19 rfl rfl ?_
      refine zn_aload_n (pc := 20) 0 dX10_isDue_20 rfl rfl ?_
      refine zn_getR (pc := 21) fa_X10_90_40.1 fa_X10_90_40.2 dX10_isDue_21 ?_
      refine zn_iload_n (pc := 24) 1 dX10_isDue_24 rfl rfl ?_
      obtain ⟨i43, hi44, h45⟩ := zbd h42; clear h42
      rw [hi44]
      obtain ⟨hb46, h47⟩ := zgdd h45; clear h45
      refine zn_iaload (pc := 25) zk_126 dX10_isDue_25 (zib_in hb46) ?_
      have h49 := h47; clear h47
      refine zn_icmp_lt (pc := 26) (tgt := 31) dX10_isDue_26 (by decide) (fun c48 => ?_) (fun c48 => ?_)
      · replace h49 := zif_t c48 h49
        exact b_X10_isDue_31  h49 hp
      · replace h49 := zif_f c48 h49
        refine zn_iconst (pc := 29) (x := 0) dX10_isDue_29 (by decide) ?_
        have hz := Option.some.inj h49; clear h49; subst hz
        exact zn_zreturn (pc := 30) dX10_isDue_30 rfl (by decide) hp
theorem b_X10_sentOn_2 {G : zG} {Post : Option zV → zH → Prop} : ∀ (n : Nat) (i0 : Nat) (x2 : Int32) (x3 : Int32) (S : zH) (out : (Int32 × zH)), f_X10_sentOn_2 n i0 x2 x3 S = some out → Post (some (vI out.1)) out.2 → zn G M_X10_sentOn 63 0 0 2 [(0, vR 40 (some i0)), (2, vI x2), (3, vI x3)] [] S Post := by
  intro n
  induction n with
  | zero => intro i0 x2 x3 S out h0 hp; exact (nomatch (show (none : Option _) = some out from h0))
  | succ n ih =>
    intro i0 x2 x3 S out h0 hp
    rw [f_X10_sentOn_2] at h0
    refine zn_aload_n (pc := 2) 0 dX10_sentOn_2 rfl rfl ?_
    refine zn_getR (pc := 3) fa_X10_53_40.1 fa_X10_53_40.2 dX10_sentOn_3 ?_
    refine zn_iload_n (pc := 6) 2 dX10_sentOn_6 rfl rfl ?_
    obtain ⟨i1, hi2, h3⟩ := zbd h0; clear h0
    rw [hi2]
    obtain ⟨hb4, h5⟩ := zgdd h3; clear h3
    refine zn_iaload (pc := 7) zk_114 dX10_sentOn_7 (zib_in hb4) ?_
    refine zn_iconst (pc := 8) (x := 2) dX10_sentOn_8 (by decide) ?_
    have h7 := h5; clear h5
    refine zn_icmp_ne (pc := 9) (tgt := 92) dX10_sentOn_9 (by decide) (fun c6 => ?_) (fun c6 => ?_)
    · replace h7 := zif_f c6 h7
      refine zn_iload_n (pc := 92) 2 dX10_sentOn_92 rfl rfl ?_
      have hz := Option.some.inj h7; clear h7; subst hz
      exact zn_ireturn (pc := 93) dX10_sentOn_93 rfl hp
    · replace h7 := zif_t c6 h7
      refine zn_aload_n (pc := 12) 0 dX10_sentOn_12 rfl rfl ?_
      obtain ⟨o8, e9, h10⟩ := zbd h7; clear h7
      refine zn_cV0 (pc := 13) (kc := 0) (ks := 0) (kc' := 0) (ks' := 0) (As := []) (st := []) dX10_sentOn_13 cs_X10_220 pc_40 rfl rfl (Nat.le_of_ble_eq_true rfl) ((c_X10_bare e9).mono (Nat.le_of_ble_eq_true rfl)) ?_
      refine zn_aload_n (pc := 16) 0 dX10_sentOn_16 rfl rfl ?_
      refine zn_getR (pc := 17) fa_X10_158_40.1 fa_X10_158_40.2 dX10_sentOn_17 ?_
      refine zn_bipush (pc := 20) (x := 98) dX10_sentOn_20 (by decide) ?_
      refine zn_aload_n (pc := 22) 0 dX10_sentOn_22 rfl rfl ?_
      refine zn_getR (pc := 23) fa_X10_41_40.1 fa_X10_41_40.2 dX10_sentOn_23 ?_
      refine zn_iload_n (pc := 26) 2 dX10_sentOn_26 rfl rfl ?_
      obtain ⟨i11, hi12, h13⟩ := zbd h10; clear h10
      rw [hi12]
      obtain ⟨hb14, h15⟩ := zgdd h13; clear h13
      refine zn_iaload (pc := 27) zk_110 dX10_sentOn_27 (zib_in hb14) ?_
      obtain ⟨i16, hi17, h18⟩ := zbd h15; clear h15
      rw [hi17]
      obtain ⟨hb19, h20⟩ := zgdd h18; clear h18
      obtain ⟨S21, hS22, h23⟩ := zltd h20; clear h20
      refine zn_iastore (pc := 28) zk_158 dX10_sentOn_28 (zib_in hb19) hS22 ?_
      refine zn_aload_n (pc := 29) 0 dX10_sentOn_29 rfl rfl ?_
      refine zn_getR (pc := 30) fa_X10_158_40.1 fa_X10_158_40.2 dX10_sentOn_30 ?_
      refine zn_bipush (pc := 33) (x := 116) dX10_sentOn_33 (by decide) ?_
      refine zn_aload_n (pc := 35) 0 dX10_sentOn_35 rfl rfl ?_
      refine zn_getR (pc := 36) fa_X10_41_40.1 fa_X10_41_40.2 dX10_sentOn_36 ?_
      refine zn_aload_n (pc := 39) 0 dX10_sentOn_39 rfl rfl ?_
      refine zn_getR (pc := 40) fa_X10_56_40.1 fa_X10_56_40.2 dX10_sentOn_40 ?_
      refine zn_iload_n (pc := 43) 2 dX10_sentOn_43 rfl rfl ?_
      obtain ⟨i24, hi25, h26⟩ := zbd h23; clear h23
      rw [hi25]
      obtain ⟨hb27, h28⟩ := zgdd h26; clear h26
      refine zn_iaload (pc := 44) zk_115 dX10_sentOn_44 (zib_in hb27) ?_
      obtain ⟨i29, hi30, h31⟩ := zbd h28; clear h28
      rw [hi30]
      obtain ⟨hb32, h33⟩ := zgdd h31; clear h31
      refine zn_iaload (pc := 45) zk_110 dX10_sentOn_45 (zib_in hb32) ?_
      obtain ⟨i34, hi35, h36⟩ := zbd h33; clear h33
      rw [hi35]
      obtain ⟨hb37, h38⟩ := zgdd h36; clear h36
      obtain ⟨S39, hS40, h41⟩ := zltd h38; clear h38
      refine zn_iastore (pc := 46) zk_158 dX10_sentOn_46 (zib_in hb37) hS40 ?_
      refine zn_aload_n (pc := 47) 0 dX10_sentOn_47 rfl rfl ?_
      refine zn_getR (pc := 48) fa_X10_158_40.1 fa_X10_158_40.2 dX10_sentOn_48 ?_
      refine zn_bipush (pc := 51) (x := 100) dX10_sentOn_51 (by decide) ?_
      refine zn_iload_n (pc := 53) 1 dX10_sentOn_53 rfl rfl ?_
      refine zn_aload_n (pc := 54) 0 dX10_sentOn_54 rfl rfl ?_
      refine zn_getR (pc := 55) fa_X10_59_40.1 fa_X10_59_40.2 dX10_sentOn_55 ?_
      refine zn_iload_n (pc := 58) 2 dX10_sentOn_58 rfl rfl ?_
      obtain ⟨i42, hi43, h44⟩ := zbd h41; clear h41
      rw [hi43]
      obtain ⟨hb45, h46⟩ := zgdd h44; clear h44
      refine zn_iaload (pc := 59) zk_116 dX10_sentOn_59 (zib_in hb45) ?_
      refine zn_isub (pc := 60) dX10_sentOn_60 ?_
      obtain ⟨i47, hi48, h49⟩ := zbd h46; clear h46
      rw [hi48]
      obtain ⟨hb50, h51⟩ := zgdd h49; clear h49
      obtain ⟨S52, hS53, h54⟩ := zltd h51; clear h51
      refine zn_iastore (pc := 61) zk_158 dX10_sentOn_61 (zib_in hb50) hS53 ?_
      refine zn_iload_n (pc := 62) 1 dX10_sentOn_62 rfl rfl ?_
      refine zn_aload_n (pc := 63) 0 dX10_sentOn_63 rfl rfl ?_
      refine zn_getR (pc := 64) fa_X10_59_40.1 fa_X10_59_40.2 dX10_sentOn_64 ?_
      refine zn_iload_n (pc := 67) 2 dX10_sentOn_67 rfl rfl ?_
      obtain ⟨i55, hi56, h57⟩ := zbd h54; clear h54
      rw [hi56]
      obtain ⟨hb58, h59⟩ := zgdd h57; clear h57
      refine zn_iaload (pc := 68) zk_116 dX10_sentOn_68 (zib_in hb58) ?_
      refine zn_isub (pc := 69) dX10_sentOn_69 ?_
      refine zn_aload_n (pc := 70) 0 dX10_sentOn_70 rfl rfl ?_
      refine zn_iconst (pc := 71) (x := 1) dX10_sentOn_71 (by decide) ?_
      refine zn_iload_n (pc := 72) 1 dX10_sentOn_72 rfl rfl ?_
      obtain ⟨o60, e61, h62⟩ := zbd h59; clear h59
      refine zn_cVv (pc := 73) (kc := 0) (ks := 0) (kc' := 0) (ks' := 0) (As := [vI 1, vI x2]) (st := [vI (x2 - (zI S52 116 i55 (Int32.toNatClampNeg x3)))]) dX10_sentOn_73 cs_X10_223 pc_40 rfl rfl (Nat.le_of_ble_eq_true rfl) ((c_X10_worth e61).mono (Nat.le_of_ble_eq_true rfl)) ?_
      have h64 := h62; clear h62
      refine zn_icmp_le (pc := 76) (tgt := 82) dX10_sentOn_76 (by decide) (fun c63 => ?_) (fun c63 => ?_)
      · replace h64 := zif_t c63 h64
        refine zn_aload_n (pc := 82) 0 dX10_sentOn_82 rfl rfl ?_
        refine zn_getR (pc := 83) fa_X10_56_40.1 fa_X10_56_40.2 dX10_sentOn_83 ?_
        refine zn_iload_n (pc := 86) 2 dX10_sentOn_86 rfl rfl ?_
        obtain ⟨i65, hi66, h67⟩ := zbd h64; clear h64
        rw [hi66]
        obtain ⟨hb68, h69⟩ := zgdd h67; clear h67
        refine zn_iaload (pc := 87) zk_115 dX10_sentOn_87 (zib_in hb68) ?_
        refine zn_istore_n (pc := 88) (ls' := [(3, vI (zI o60.2 115 i65 (Int32.toNatClampNeg x3))), (0, vR 40 (some i0)), (2, vI x2)]) dX10_sentOn_88 rfl (Nat.le_of_ble_eq_true rfl) rfl ?_
        refine zn_goto (pc := 89) (tgt := 2) dX10_sentOn_89 (by decide) ?_
        refine zn_pick [1, 2, 0] rfl ?_
        exact ih _ _ _ _ _ h69 hp
      · replace h64 := zif_f c63 h64
        refine zn_bipush (pc := 79) (x := (-9)) dX10_sentOn_79 (by decide) ?_
        have hz := Option.some.inj h64; clear h64; subst hz
        exact zn_ireturn (pc := 81) dX10_sentOn_81 rfl hp
theorem c_X10_sentOn {G : zG} {i0 : Nat} {x1 : Int32} {x2 : Int32} {S : zH} {out : (Int32 × zH)} (h0 : f_X10_sentOn i0 x1 x2 S = some out) : zct G M_X10_sentOn 63 0 0 [vR 40 (some i0), vI x1, vI x2] S (zpo (some (vI out.1)) out.2) := by
  refine zct_of (by decide) (Nat.le_of_ble_eq_true rfl) ?_
  show zn G M_X10_sentOn 63 0 0 0 [(0, vR 40 (some i0)), (1, vI x1), (2, vI x2)] [] S _
  have hp : zpo (some (vI out.1)) out.2 (some (vI out.1)) out.2 := ⟨rfl, rfl⟩
  unfold f_X10_sentOn at h0
  refine zn_iload_n (pc := 0) 1 dX10_sentOn_0 rfl rfl ?_
  refine zn_istore_n (pc := 1) (ls' := [(3, vI x1), (0, vR 40 (some i0)), (1, vI x1), (2, vI x2)]) dX10_sentOn_1 rfl (Nat.le_of_ble_eq_true rfl) rfl ?_
  refine zn_pick [1, 3, 0] rfl ?_
  exact b_X10_sentOn_2  fu _ _ _ _ _ h0 hp
theorem b_X10_lastOf_2 {G : zG} {Post : Option zV → zH → Prop} : ∀ (n : Nat) (i0 : Nat) (x2 : Int32) (S : zH) (out : Int32), f_X10_lastOf_2 n i0 x2 S = some out → Post (some (vI out)) S → zn G M_X10_lastOf 0 0 0 2 [(0, vR 40 (some i0)), (2, vI x2)] [] S Post := by
  intro n
  induction n with
  | zero => intro i0 x2 S out h0 hp; exact (nomatch (show (none : Option _) = some out from h0))
  | succ n ih =>
    intro i0 x2 S out h0 hp
    rw [f_X10_lastOf_2] at h0
    refine zn_aload_n (pc := 2) 0 dX10_lastOf_2 rfl rfl ?_
    refine zn_getR (pc := 3) fa_X10_53_40.1 fa_X10_53_40.2 dX10_lastOf_3 ?_
    refine zn_iload_n (pc := 6) 1 dX10_lastOf_6 rfl rfl ?_
    obtain ⟨i1, hi2, h3⟩ := zbd h0; clear h0
    rw [hi2]
    obtain ⟨hb4, h5⟩ := zgdd h3; clear h3
    refine zn_iaload (pc := 7) zk_114 dX10_lastOf_7 (zib_in hb4) ?_
    refine zn_iconst (pc := 8) (x := 2) dX10_lastOf_8 (by decide) ?_
    have h7 := h5; clear h5
    refine zn_icmp_ne (pc := 9) (tgt := 22) dX10_lastOf_9 (by decide) (fun c6 => ?_) (fun c6 => ?_)
    · replace h7 := zif_f c6 h7
      refine zn_iload_n (pc := 22) 1 dX10_lastOf_22 rfl rfl ?_
      have hz := Option.some.inj h7; clear h7; subst hz
      exact zn_ireturn (pc := 23) dX10_lastOf_23 rfl hp
    · replace h7 := zif_t c6 h7
      refine zn_aload_n (pc := 12) 0 dX10_lastOf_12 rfl rfl ?_
      refine zn_getR (pc := 13) fa_X10_56_40.1 fa_X10_56_40.2 dX10_lastOf_13 ?_
      refine zn_iload_n (pc := 16) 1 dX10_lastOf_16 rfl rfl ?_
      obtain ⟨i8, hi9, h10⟩ := zbd h7; clear h7
      rw [hi9]
      obtain ⟨hb11, h12⟩ := zgdd h10; clear h10
      refine zn_iaload (pc := 17) zk_115 dX10_lastOf_17 (zib_in hb11) ?_
      refine zn_istore_n (pc := 18) (ls' := [(2, vI (zI S 115 i8 (Int32.toNatClampNeg x2))), (0, vR 40 (some i0))]) dX10_lastOf_18 rfl (Nat.le_of_ble_eq_true rfl) rfl ?_
      refine zn_goto (pc := 19) (tgt := 2) dX10_lastOf_19 (by decide) ?_
      refine zn_pick [1, 0] rfl ?_
      exact ih _ _ _ _ h12 hp
theorem c_X10_lastOf {G : zG} {i0 : Nat} {x1 : Int32} {S : zH} {out : Int32} (h0 : f_X10_lastOf i0 x1 S = some out) : zct G M_X10_lastOf 0 0 0 [vR 40 (some i0), vI x1] S (zpo (some (vI out)) S) := by
  refine zct_of (by decide) (Nat.le_of_ble_eq_true rfl) ?_
  show zn G M_X10_lastOf 0 0 0 0 [(0, vR 40 (some i0)), (1, vI x1)] [] S _
  have hp : zpo (some (vI out)) S (some (vI out)) S := ⟨rfl, rfl⟩
  unfold f_X10_lastOf at h0
  refine zn_iload_n (pc := 0) 1 dX10_lastOf_0 rfl rfl ?_
  refine zn_istore_n (pc := 1) (ls' := [(2, vI x1), (0, vR 40 (some i0)), (1, vI x1)]) dX10_lastOf_1 rfl (Nat.le_of_ble_eq_true rfl) rfl ?_
  refine zn_pick [1, 0] rfl ?_
  exact b_X10_lastOf_2  fu _ _ _ _ h0 hp
theorem b_X10_goesOut_342 {G : zG} {Post : Option zV → zH → Prop} {i0 : Nat} {x1 : Int32} {x4 : Int32} {x5 : Int32} {x6 : Int32} {S : zH} {out : zH} (h0 : f_X10_goesOut_342 i0 x1 x4 x5 x6 S = some out) (hp : Post none out) : zn G M_X10_goesOut 64 0 0 342 [(0, vR 40 (some i0)), (1, vI x1), (4, vI x4), (5, vI x5), (6, vI x6)] [] S Post := by
  unfold f_X10_goesOut_342 at h0
  refine zn_aload_n (pc := 342) 0 dX10_goesOut_342 rfl rfl ?_
  obtain ⟨o1, e2, h3⟩ := zbd h0; clear h0
  refine zn_cV0 (pc := 343) (kc := 0) (ks := 0) (kc' := 0) (ks' := 0) (As := []) (st := []) dX10_goesOut_343 cs_X10_220 pc_40 rfl rfl (Nat.le_of_ble_eq_true rfl) ((c_X10_bare e2).mono (Nat.le_of_ble_eq_true rfl)) ?_
  refine zn_aload_n (pc := 346) 0 dX10_goesOut_346 rfl rfl ?_
  refine zn_getR (pc := 347) fa_X10_158_40.1 fa_X10_158_40.2 dX10_goesOut_347 ?_
  refine zn_bipush (pc := 350) (x := 98) dX10_goesOut_350 (by decide) ?_
  refine zn_aload_n (pc := 352) 0 dX10_goesOut_352 rfl rfl ?_
  refine zn_getR (pc := 353) fa_X10_41_40.1 fa_X10_41_40.2 dX10_goesOut_353 ?_
  refine zn_iload (pc := 356) 3 dX10_goesOut_356 rfl ?_
  obtain ⟨i4, hi5, h6⟩ := zbd h3; clear h3
  rw [hi5]
  obtain ⟨hb7, h8⟩ := zgdd h6; clear h6
  refine zn_iaload (pc := 358) zk_110 dX10_goesOut_358 (zib_in hb7) ?_
  obtain ⟨i9, hi10, h11⟩ := zbd h8; clear h8
  rw [hi10]
  obtain ⟨hb12, h13⟩ := zgdd h11; clear h11
  obtain ⟨S14, hS15, h16⟩ := zltd h13; clear h13
  refine zn_iastore (pc := 359) zk_158 dX10_goesOut_359 (zib_in hb12) hS15 ?_
  refine zn_aload_n (pc := 360) 0 dX10_goesOut_360 rfl rfl ?_
  refine zn_getR (pc := 361) fa_X10_158_40.1 fa_X10_158_40.2 dX10_goesOut_361 ?_
  refine zn_bipush (pc := 364) (x := 110) dX10_goesOut_364 (by decide) ?_
  refine zn_aload_n (pc := 366) 0 dX10_goesOut_366 rfl rfl ?_
  refine zn_getR (pc := 367) fa_X10_81_40.1 fa_X10_81_40.2 dX10_goesOut_367 ?_
  refine zn_iload_n (pc := 370) 1 dX10_goesOut_370 rfl rfl ?_
  obtain ⟨i17, hi18, h19⟩ := zbd h16; clear h16
  rw [hi18]
  obtain ⟨hb20, h21⟩ := zgdd h19; clear h19
  refine zn_iaload (pc := 371) zk_123 dX10_goesOut_371 (zib_in hb20) ?_
  obtain ⟨i22, hi23, h24⟩ := zbd h21; clear h21
  rw [hi23]
  obtain ⟨hb25, h26⟩ := zgdd h24; clear h24
  obtain ⟨S27, hS28, h29⟩ := zltd h26; clear h26
  refine zn_iastore (pc := 372) zk_158 dX10_goesOut_372 (zib_in hb25) hS28 ?_
  refine zn_aload_n (pc := 373) 0 dX10_goesOut_373 rfl rfl ?_
  refine zn_getR (pc := 374) fa_X10_158_40.1 fa_X10_158_40.2 dX10_goesOut_374 ?_
  refine zn_bipush (pc := 377) (x := 102) dX10_goesOut_377 (by decide) ?_
  refine zn_aload_n (pc := 379) 0 dX10_goesOut_379 rfl rfl ?_
  refine zn_getR (pc := 380) fa_X10_22_40.1 fa_X10_22_40.2 dX10_goesOut_380 ?_
  refine zn_aload_n (pc := 383) 0 dX10_goesOut_383 rfl rfl ?_
  refine zn_getR (pc := 384) fa_X10_41_40.1 fa_X10_41_40.2 dX10_goesOut_384 ?_
  refine zn_iload (pc := 387) 3 dX10_goesOut_387 rfl ?_
  obtain ⟨i30, hi31, h32⟩ := zbd h29; clear h29
  rw [hi31]
  obtain ⟨hb33, h34⟩ := zgdd h32; clear h32
  refine zn_iaload (pc := 389) zk_110 dX10_goesOut_389 (zib_in hb33) ?_
  obtain ⟨i35, hi36, h37⟩ := zbd h34; clear h34
  rw [hi36]
  obtain ⟨hb38, h39⟩ := zgdd h37; clear h37
  refine zn_iaload (pc := 390) zk_104 dX10_goesOut_390 (zib_in hb38) ?_
  obtain ⟨i40, hi41, h42⟩ := zbd h39; clear h39
  rw [hi41]
  obtain ⟨hb43, h44⟩ := zgdd h42; clear h42
  obtain ⟨S45, hS46, h47⟩ := zltd h44; clear h44
  refine zn_iastore (pc := 391) zk_158 dX10_goesOut_391 (zib_in hb43) hS46 ?_
  refine zn_aload_n (pc := 392) 0 dX10_goesOut_392 rfl rfl ?_
  refine zn_getR (pc := 393) fa_X10_158_40.1 fa_X10_158_40.2 dX10_goesOut_393 ?_
  refine zn_bipush (pc := 396) (x := 119) dX10_goesOut_396 (by decide) ?_
  refine zn_iload (pc := 398) 2 dX10_goesOut_398 rfl ?_
  obtain ⟨i48, hi49, h50⟩ := zbd h47; clear h47
  rw [hi49]
  obtain ⟨hb51, h52⟩ := zgdd h50; clear h50
  obtain ⟨S53, hS54, h55⟩ := zltd h52; clear h52
  refine zn_iastore (pc := 400) zk_158 dX10_goesOut_400 (zib_in hb51) hS54 ?_
  refine zn_aload_n (pc := 401) 0 dX10_goesOut_401 rfl rfl ?_
  refine zn_iconst (pc := 402) (x := 3) dX10_goesOut_402 (by decide) ?_
  refine zn_aload_n (pc := 403) 0 dX10_goesOut_403 rfl rfl ?_
  refine zn_getI (pc := 404) fa_X10_177_40.1 fa_X10_177_40.2 dX10_goesOut_404 ?_
  obtain ⟨o56, e57, h58⟩ := zbd h55; clear h55
  refine zn_cVv (pc := 407) (kc := 0) (ks := 0) (kc' := 0) (ks' := 0) (As := [vI 3, vI (zI S53 40 i0 46)]) (st := []) dX10_goesOut_407 cs_X10_223 pc_40 rfl rfl (Nat.le_of_ble_eq_true rfl) ((c_X10_worth e57).mono (Nat.le_of_ble_eq_true rfl)) ?_
  refine zn_istore (pc := 410) (ls' := [(7, vI o56.1), (0, vR 40 (some i0)), (1, vI x1), (4, vI x4), (5, vI x5), (6, vI x6)]) dX10_goesOut_410 (Nat.le_of_ble_eq_true rfl) rfl ?_
  refine zn_iload (pc := 412) 0 dX10_goesOut_412 rfl ?_
  have h60 := h58; clear h58
  refine zn_if_le (pc := 414) (tgt := 484) dX10_goesOut_414 (by decide) (fun c59 => ?_) (fun c59 => ?_)
  · replace h60 := zif_t c59 h60
    have hz := Option.some.inj h60; clear h60; subst hz
    exact zn_return (pc := 484) dX10_goesOut_484 rfl hp
  · replace h60 := zif_f c59 h60
    refine zn_aload_n (pc := 417) 1 dX10_goesOut_417 rfl rfl ?_
    refine zn_getR (pc := 418) fa_X10_65_40.1 fa_X10_65_40.2 dX10_goesOut_418 ?_
    refine zn_iload (pc := 421) 4 dX10_goesOut_421 rfl ?_
    refine zn_dup2 (pc := 423) dX10_goesOut_423 rfl rfl ?_
    obtain ⟨i61, hi62, h63⟩ := zbd h60; clear h60
    rw [hi62]
    obtain ⟨hb64, h65⟩ := zgdd h63; clear h63
    refine zn_laload (pc := 424) zk_118 dX10_goesOut_424 (zib_in hb64) ?_
    refine zn_iload (pc := 425) 0 dX10_goesOut_425 rfl ?_
    refine zn_i2l (pc := 427) dX10_goesOut_427 ?_
    refine zn_ladd (pc := 428) dX10_goesOut_428 ?_
    obtain ⟨hb66, h67⟩ := zgdd h65; clear h65
    obtain ⟨S68, hS69, h70⟩ := zltd h67; clear h67
    refine zn_lastore (pc := 429) zk_118 dX10_goesOut_429 (zib_in hb66) hS69 ?_
    refine zn_aload_n (pc := 430) 1 dX10_goesOut_430 rfl rfl ?_
    refine zn_getR (pc := 431) fa_X10_62_40.1 fa_X10_62_40.2 dX10_goesOut_431 ?_
    refine zn_iload (pc := 434) 4 dX10_goesOut_434 rfl ?_
    refine zn_aload_n (pc := 436) 1 dX10_goesOut_436 rfl rfl ?_
    refine zn_getR (pc := 437) fa_X10_62_40.1 fa_X10_62_40.2 dX10_goesOut_437 ?_
    refine zn_iload (pc := 440) 4 dX10_goesOut_440 rfl ?_
    obtain ⟨i71, hi72, h73⟩ := zbd h70; clear h70
    rw [hi72]
    obtain ⟨hb74, h75⟩ := zgdd h73; clear h73
    refine zn_iaload (pc := 442) zk_117 dX10_goesOut_442 (zib_in hb74) ?_
    refine zn_i2l (pc := 443) dX10_goesOut_443 ?_
    refine zn_iload (pc := 444) 0 dX10_goesOut_444 rfl ?_
    refine zn_i2l (pc := 446) dX10_goesOut_446 ?_
    refine zn_ladd (pc := 447) dX10_goesOut_447 ?_
    obtain ⟨o76, e77, h78⟩ := zbd h75; clear h75
    refine zn_cSv (pc := 448) (kc := 0) (ks := 0) (kc' := 0) (ks' := 0) (As := [vJ ((Int32.toInt64 (zI S68 117 i71 (Int32.toNatClampNeg x5))) + (Int32.toInt64 o56.1))]) (st := [vI x5, vR 117 (some i71)]) dX10_goesOut_448 cs_X10_259 rfl rfl (Nat.le_of_ble_eq_true rfl) ((c_X10_held e77).mono (Nat.le_of_ble_eq_true rfl)) ?_
    obtain ⟨hb79, h80⟩ := zgdd h78; clear h78
    obtain ⟨S81, hS82, h83⟩ := zltd h80; clear h80
    refine zn_iastore (pc := 451) zk_117 dX10_goesOut_451 (zib_in hb79) hS82 ?_
    refine zn_aload_n (pc := 452) 1 dX10_goesOut_452 rfl rfl ?_
    refine zn_getR (pc := 453) fa_X10_28_40.1 fa_X10_28_40.2 dX10_goesOut_453 ?_
    refine zn_aload_n (pc := 456) 1 dX10_goesOut_456 rfl rfl ?_
    refine zn_getR (pc := 457) fa_X10_117_40.1 fa_X10_117_40.2 dX10_goesOut_457 ?_
    refine zn_iload (pc := 460) 5 dX10_goesOut_460 rfl ?_
    obtain ⟨i84, hi85, h86⟩ := zbd h83; clear h83
    rw [hi85]
    obtain ⟨hb87, h88⟩ := zgdd h86; clear h86
    refine zn_iaload (pc := 462) zk_135 dX10_goesOut_462 (zib_in hb87) ?_
    refine zn_aload_n (pc := 463) 1 dX10_goesOut_463 rfl rfl ?_
    refine zn_getR (pc := 464) fa_X10_28_40.1 fa_X10_28_40.2 dX10_goesOut_464 ?_
    refine zn_aload_n (pc := 467) 1 dX10_goesOut_467 rfl rfl ?_
    refine zn_getR (pc := 468) fa_X10_117_40.1 fa_X10_117_40.2 dX10_goesOut_468 ?_
    refine zn_iload (pc := 471) 5 dX10_goesOut_471 rfl ?_
    obtain ⟨i89, hi90, h91⟩ := zbd h88; clear h88
    rw [hi90]
    obtain ⟨hb92, h93⟩ := zgdd h91; clear h91
    refine zn_iaload (pc := 473) zk_135 dX10_goesOut_473 (zib_in hb92) ?_
    obtain ⟨i94, hi95, h96⟩ := zbd h93; clear h93
    rw [hi95]
    obtain ⟨hb97, h98⟩ := zgdd h96; clear h96
    refine zn_iaload (pc := 474) zk_106 dX10_goesOut_474 (zib_in hb97) ?_
    refine zn_i2l (pc := 475) dX10_goesOut_475 ?_
    refine zn_iload (pc := 476) 0 dX10_goesOut_476 rfl ?_
    refine zn_i2l (pc := 478) dX10_goesOut_478 ?_
    refine zn_ladd (pc := 479) dX10_goesOut_479 ?_
    obtain ⟨o99, e100, h101⟩ := zbd h98; clear h98
    refine zn_cSv (pc := 480) (kc := 0) (ks := 0) (kc' := 0) (ks' := 0) (As := [vJ ((Int32.toInt64 (zI S81 106 i94 (Int32.toNatClampNeg (zI S81 135 i89 (Int32.toNatClampNeg x6))))) + (Int32.toInt64 o56.1))]) (st := [vI (zI S81 135 i84 (Int32.toNatClampNeg x6)), vR 106 (some i94)]) dX10_goesOut_480 cs_X10_259 rfl rfl (Nat.le_of_ble_eq_true rfl) ((c_X10_held e100).mono (Nat.le_of_ble_eq_true rfl)) ?_
    obtain ⟨hb102, h103⟩ := zgdd h101; clear h101
    obtain ⟨S104, hS105, h106⟩ := zltd h103; clear h103
    refine zn_iastore (pc := 483) zk_106 dX10_goesOut_483 (zib_in hb102) hS105 ?_
    have hz := Option.some.inj h106; clear h106; subst hz
    exact zn_return (pc := 484) dX10_goesOut_484 rfl hp
theorem b_X10_goesOut_296 {G : zG} {Post : Option zV → zH → Prop} : ∀ (n : Nat) (i0 : Nat) (x1 : Int32) (x4 : Int32) (x5 : Int32) (x6 : Int32) (S : zH) (out : zH), f_X10_goesOut_296 n i0 x1 x4 x5 x6 S = some out → Post none out → zn G M_X10_goesOut 64 0 0 296 [(0, vR 40 (some i0)), (1, vI x1), (4, vI x4), (5, vI x5), (6, vI x6)] [] S Post := by
  intro n
  induction n with
  | zero => intro i0 x1 x4 x5 x6 S out h0 hp; exact (nomatch (show (none : Option _) = some out from h0))
  | succ n ih =>
    intro i0 x1 x4 x5 x6 S out h0 hp
    rw [f_X10_goesOut_296] at h0
    refine zn_iload (pc := 296) 4 dX10_goesOut_296 rfl ?_
    refine zn_aload_n (pc := 298) 0 dX10_goesOut_298 rfl rfl ?_
    refine zn_getI (pc := 299) fa_X10_211_40.1 fa_X10_211_40.2 dX10_goesOut_299 ?_
    have h2 := h0; clear h0
    refine zn_icmp_ge (pc := 302) (tgt := 491) dX10_goesOut_302 (by decide) (fun c1 => ?_) (fun c1 => ?_)
    · replace h2 := zif_t c1 h2
      have hz := Option.some.inj h2; clear h2; subst hz
      exact zn_return (pc := 491) dX10_goesOut_491 rfl hp
    · replace h2 := zif_f c1 h2
      refine zn_aload_n (pc := 305) 0 dX10_goesOut_305 rfl rfl ?_
      refine zn_getR (pc := 306) fa_X10_114_40.1 fa_X10_114_40.2 dX10_goesOut_306 ?_
      refine zn_iload (pc := 309) 4 dX10_goesOut_309 rfl ?_
      obtain ⟨i3, hi4, h5⟩ := zbd h2; clear h2
      rw [hi4]
      obtain ⟨hb6, h7⟩ := zgdd h5; clear h5
      refine zn_iaload (pc := 311) zk_134 dX10_goesOut_311 (zib_in hb6) ?_
      have h9 := h7; clear h7
      refine zn_if_eq (pc := 312) (tgt := 485) dX10_goesOut_312 (by decide) (fun c8 => ?_) (fun c8 => ?_)
      · replace h9 := zif_t c8 h9
        refine zn_iinc (pc := 485) 4 (y := x6 + 1) (ls' := [(6, vI (x6 + 1)), (0, vR 40 (some i0)), (1, vI x1), (4, vI x4), (5, vI x5)]) dX10_goesOut_485 rfl rfl (Nat.le_of_ble_eq_true rfl) rfl ?_
        refine zn_goto (pc := 488) (tgt := 296) dX10_goesOut_488 (by decide) ?_
        refine zn_pick [1, 2, 3, 4, 0] rfl ?_
        exact ih _ _ _ _ _ _ _ h9 hp
      · replace h9 := zif_f c8 h9
        refine zn_aload_n (pc := 315) 0 dX10_goesOut_315 rfl rfl ?_
        refine zn_getR (pc := 316) fa_X10_102_40.1 fa_X10_102_40.2 dX10_goesOut_316 ?_
        refine zn_iload (pc := 319) 4 dX10_goesOut_319 rfl ?_
        obtain ⟨i10, hi11, h12⟩ := zbd h9; clear h9
        rw [hi11]
        obtain ⟨hb13, h14⟩ := zgdd h12; clear h12
        refine zn_iaload (pc := 321) zk_130 dX10_goesOut_321 (zib_in hb13) ?_
        refine zn_iload (pc := 322) 3 dX10_goesOut_322 rfl ?_
        have h16 := h14; clear h14
        refine zn_icmp_eq (pc := 324) (tgt := 342) dX10_goesOut_324 (by decide) (fun c15 => ?_) (fun c15 => ?_)
        · replace h16 := zif_t c15 h16
          exact b_X10_goesOut_342  h16 hp
        · replace h16 := zif_f c15 h16
          refine zn_aload_n (pc := 327) 0 dX10_goesOut_327 rfl rfl ?_
          refine zn_getR (pc := 328) fa_X10_105_40.1 fa_X10_105_40.2 dX10_goesOut_328 ?_
          refine zn_iload (pc := 331) 4 dX10_goesOut_331 rfl ?_
          obtain ⟨i17, hi18, h19⟩ := zbd h16; clear h16
          rw [hi18]
          obtain ⟨hb20, h21⟩ := zgdd h19; clear h19
          refine zn_iaload (pc := 333) zk_131 dX10_goesOut_333 (zib_in hb20) ?_
          refine zn_iload (pc := 334) 3 dX10_goesOut_334 rfl ?_
          have h23 := h21; clear h21
          refine zn_icmp_eq (pc := 336) (tgt := 342) dX10_goesOut_336 (by decide) (fun c22 => ?_) (fun c22 => ?_)
          · replace h23 := zif_t c22 h23
            exact b_X10_goesOut_342  h23 hp
          · replace h23 := zif_f c22 h23
            refine zn_goto (pc := 339) (tgt := 485) dX10_goesOut_339 (by decide) ?_
            refine zn_iinc (pc := 485) 4 (y := x6 + 1) (ls' := [(6, vI (x6 + 1)), (0, vR 40 (some i0)), (1, vI x1), (4, vI x4), (5, vI x5)]) dX10_goesOut_485 rfl rfl (Nat.le_of_ble_eq_true rfl) rfl ?_
            refine zn_goto (pc := 488) (tgt := 296) dX10_goesOut_488 (by decide) ?_
            refine zn_pick [1, 2, 3, 4, 0] rfl ?_
            exact ih _ _ _ _ _ _ _ h23 hp
theorem b_X10_goesOut_262 {G : zG} {Post : Option zV → zH → Prop} {i0 : Nat} {x1 : Int32} {x4 : Int32} {xs0 : Int32} {S : zH} {out : zH} (h0 : f_X10_goesOut_262 i0 x1 x4 xs0 S = some out) (hp : Post none out) : zn G M_X10_goesOut 64 0 0 262 [(0, vR 40 (some i0)), (1, vI x1), (4, vI x4)] [vI xs0] S Post := by
  unfold f_X10_goesOut_262 at h0
  refine zn_istore (pc := 262) (ls' := [(5, vI xs0), (0, vR 40 (some i0)), (1, vI x1), (4, vI x4)]) dX10_goesOut_262 (Nat.le_of_ble_eq_true rfl) rfl ?_
  refine zn_iload (pc := 264) 3 dX10_goesOut_264 rfl ?_
  refine zn_iconst (pc := 266) (x := 1) dX10_goesOut_266 (by decide) ?_
  have h2 := h0; clear h0
  refine zn_icmp_ne (pc := 267) (tgt := 293) dX10_goesOut_267 (by decide) (fun c1 => ?_) (fun c1 => ?_)
  · replace h2 := zif_f c1 h2
    refine zn_iconst (pc := 293) (x := 0) dX10_goesOut_293 (by decide) ?_
    refine zn_istore (pc := 294) (ls' := [(6, vI 0), (5, vI xs0), (0, vR 40 (some i0)), (1, vI x1), (4, vI x4)]) dX10_goesOut_294 (Nat.le_of_ble_eq_true rfl) rfl ?_
    refine zn_pick [2, 3, 4, 1, 0] rfl ?_
    exact b_X10_goesOut_296  fu _ _ _ _ _ _ _ h2 hp
  · replace h2 := zif_t c1 h2
    refine zn_aload_n (pc := 270) 1 dX10_goesOut_270 rfl rfl ?_
    refine zn_getR (pc := 271) fa_X10_65_40.1 fa_X10_65_40.2 dX10_goesOut_271 ?_
    refine zn_iload (pc := 274) 0 dX10_goesOut_274 rfl ?_
    refine zn_dup2 (pc := 276) dX10_goesOut_276 rfl rfl ?_
    obtain ⟨i3, hi4, h5⟩ := zbd h2; clear h2
    rw [hi4]
    obtain ⟨hb6, h7⟩ := zgdd h5; clear h5
    refine zn_laload (pc := 277) zk_118 dX10_goesOut_277 (zib_in hb6) ?_
    refine zn_aload_n (pc := 278) 1 dX10_goesOut_278 rfl rfl ?_
    refine zn_getR (pc := 279) fa_X10_22_40.1 fa_X10_22_40.2 dX10_goesOut_279 ?_
    refine zn_aload_n (pc := 282) 1 dX10_goesOut_282 rfl rfl ?_
    refine zn_getR (pc := 283) fa_X10_41_40.1 fa_X10_41_40.2 dX10_goesOut_283 ?_
    refine zn_iload (pc := 286) 0 dX10_goesOut_286 rfl ?_
    obtain ⟨i8, hi9, h10⟩ := zbd h7; clear h7
    rw [hi9]
    obtain ⟨hb11, h12⟩ := zgdd h10; clear h10
    refine zn_iaload (pc := 288) zk_110 dX10_goesOut_288 (zib_in hb11) ?_
    obtain ⟨i13, hi14, h15⟩ := zbd h12; clear h12
    rw [hi14]
    obtain ⟨hb16, h17⟩ := zgdd h15; clear h15
    refine zn_iaload (pc := 289) zk_104 dX10_goesOut_289 (zib_in hb16) ?_
    refine zn_i2l (pc := 290) dX10_goesOut_290 ?_
    refine zn_lsub (pc := 291) dX10_goesOut_291 ?_
    obtain ⟨hb18, h19⟩ := zgdd h17; clear h17
    obtain ⟨S20, hS21, h22⟩ := zltd h19; clear h19
    refine zn_lastore (pc := 292) zk_118 dX10_goesOut_292 (zib_in hb18) hS21 ?_
    refine zn_iconst (pc := 293) (x := 0) dX10_goesOut_293 (by decide) ?_
    refine zn_istore (pc := 294) (ls' := [(6, vI 0), (5, vI xs0), (0, vR 40 (some i0)), (1, vI x1), (4, vI x4)]) dX10_goesOut_294 (Nat.le_of_ble_eq_true rfl) rfl ?_
    refine zn_pick [2, 3, 4, 1, 0] rfl ?_
    exact b_X10_goesOut_296  fu _ _ _ _ _ _ _ h22 hp
theorem b_X10_goesOut_129 {G : zG} {Post : Option zV → zH → Prop} {i0 : Nat} {x1 : Int32} {x2 : Int32} {x3 : Int32} {xs0 : Int32} {S : zH} {out : zH} (h0 : f_X10_goesOut_129 i0 x1 x2 x3 xs0 S = some out) (hp : Post none out) : zn G M_X10_goesOut 64 0 0 129 [(0, vR 40 (some i0)), (1, vI x1), (2, vI x2), (3, vI x3)] [vI xs0] S Post := by
  unfold f_X10_goesOut_129 at h0
  refine zn_istore (pc := 129) (ls' := [(4, vI xs0), (0, vR 40 (some i0)), (1, vI x1), (2, vI x2), (3, vI x3)]) dX10_goesOut_129 (Nat.le_of_ble_eq_true rfl) rfl ?_
  refine zn_iload (pc := 131) 0 dX10_goesOut_131 rfl ?_
  have h2 := h0; clear h0
  refine zn_if_ne (pc := 133) (tgt := 231) dX10_goesOut_133 (by decide) (fun c1 => ?_) (fun c1 => ?_)
  · replace h2 := zif_f c1 h2
    refine zn_aload_n (pc := 231) 1 dX10_goesOut_231 rfl rfl ?_
    refine zn_getR (pc := 232) fa_X10_96_40.1 fa_X10_96_40.2 dX10_goesOut_232 ?_
    refine zn_iconst (pc := 235) (x := 4) dX10_goesOut_235 (by decide) ?_
    refine zn_iload_n (pc := 236) 2 dX10_goesOut_236 rfl rfl ?_
    refine zn_imul (pc := 237) dX10_goesOut_237 ?_
    refine zn_iload (pc := 238) 0 dX10_goesOut_238 rfl ?_
    refine zn_iadd (pc := 240) dX10_goesOut_240 ?_
    refine zn_iconst (pc := 241) (x := 1) dX10_goesOut_241 (by decide) ?_
    refine zn_isub (pc := 242) dX10_goesOut_242 ?_
    refine zn_dup2 (pc := 243) dX10_goesOut_243 rfl rfl ?_
    obtain ⟨i3, hi4, h5⟩ := zbd h2; clear h2
    rw [hi4]
    obtain ⟨hb6, h7⟩ := zgdd h5; clear h5
    refine zn_iaload (pc := 244) zk_128 dX10_goesOut_244 (zib_in hb6) ?_
    refine zn_iconst (pc := 245) (x := 1) dX10_goesOut_245 (by decide) ?_
    refine zn_iadd (pc := 246) dX10_goesOut_246 ?_
    obtain ⟨hb8, h9⟩ := zgdd h7; clear h7
    obtain ⟨S10, hS11, h12⟩ := zltd h9; clear h9
    refine zn_iastore (pc := 247) zk_128 dX10_goesOut_247 (zib_in hb8) hS11 ?_
    refine zn_iload_n (pc := 248) 3 dX10_goesOut_248 rfl rfl ?_
    have h14 := h12; clear h12
    refine zn_if_ge (pc := 249) (tgt := 261) dX10_goesOut_249 (by decide) (fun c13 => ?_) (fun c13 => ?_)
    · replace h14 := zif_t c13 h14
      refine zn_iload_n (pc := 261) 3 dX10_goesOut_261 rfl rfl ?_
      refine zn_pick [1, 2, 0] rfl ?_
      exact b_X10_goesOut_262  h14 hp
    · replace h14 := zif_f c13 h14
      refine zn_aload_n (pc := 252) 1 dX10_goesOut_252 rfl rfl ?_
      refine zn_getR (pc := 253) fa_X10_75_40.1 fa_X10_75_40.2 dX10_goesOut_253 ?_
      refine zn_iload_n (pc := 256) 2 dX10_goesOut_256 rfl rfl ?_
      obtain ⟨i15, hi16, h17⟩ := zbd h14; clear h14
      rw [hi16]
      obtain ⟨hb18, h19⟩ := zgdd h17; clear h17
      refine zn_iaload (pc := 257) zk_121 dX10_goesOut_257 (zib_in hb18) ?_
      refine zn_goto (pc := 258) (tgt := 262) dX10_goesOut_258 (by decide) ?_
      refine zn_pick [1, 2, 0] rfl ?_
      exact b_X10_goesOut_262  h19 hp
  · replace h2 := zif_t c1 h2
    refine zn_aload_n (pc := 136) 1 dX10_goesOut_136 rfl rfl ?_
    refine zn_getR (pc := 137) fa_X10_65_40.1 fa_X10_65_40.2 dX10_goesOut_137 ?_
    refine zn_iload_n (pc := 140) 3 dX10_goesOut_140 rfl rfl ?_
    refine zn_dup2 (pc := 141) dX10_goesOut_141 rfl rfl ?_
    obtain ⟨i20, hi21, h22⟩ := zbd h2; clear h2
    rw [hi21]
    obtain ⟨hb23, h24⟩ := zgdd h22; clear h22
    refine zn_laload (pc := 142) zk_118 dX10_goesOut_142 (zib_in hb23) ?_
    refine zn_aload_n (pc := 143) 1 dX10_goesOut_143 rfl rfl ?_
    refine zn_getR (pc := 144) fa_X10_81_40.1 fa_X10_81_40.2 dX10_goesOut_144 ?_
    refine zn_iload_n (pc := 147) 2 dX10_goesOut_147 rfl rfl ?_
    obtain ⟨i25, hi26, h27⟩ := zbd h24; clear h24
    rw [hi26]
    obtain ⟨hb28, h29⟩ := zgdd h27; clear h27
    refine zn_iaload (pc := 148) zk_123 dX10_goesOut_148 (zib_in hb28) ?_
    refine zn_i2l (pc := 149) dX10_goesOut_149 ?_
    refine zn_lsub (pc := 150) dX10_goesOut_150 ?_
    obtain ⟨hb30, h31⟩ := zgdd h29; clear h29
    obtain ⟨S32, hS33, h34⟩ := zltd h31; clear h31
    refine zn_lastore (pc := 151) zk_118 dX10_goesOut_151 (zib_in hb30) hS33 ?_
    refine zn_aload_n (pc := 152) 1 dX10_goesOut_152 rfl rfl ?_
    refine zn_getR (pc := 153) fa_X10_65_40.1 fa_X10_65_40.2 dX10_goesOut_153 ?_
    refine zn_iload_n (pc := 156) 4 dX10_goesOut_156 rfl rfl ?_
    refine zn_dup2 (pc := 157) dX10_goesOut_157 rfl rfl ?_
    obtain ⟨i35, hi36, h37⟩ := zbd h34; clear h34
    rw [hi36]
    obtain ⟨hb38, h39⟩ := zgdd h37; clear h37
    refine zn_laload (pc := 158) zk_118 dX10_goesOut_158 (zib_in hb38) ?_
    refine zn_aload_n (pc := 159) 1 dX10_goesOut_159 rfl rfl ?_
    refine zn_getR (pc := 160) fa_X10_81_40.1 fa_X10_81_40.2 dX10_goesOut_160 ?_
    refine zn_iload_n (pc := 163) 2 dX10_goesOut_163 rfl rfl ?_
    obtain ⟨i40, hi41, h42⟩ := zbd h39; clear h39
    rw [hi41]
    obtain ⟨hb43, h44⟩ := zgdd h42; clear h42
    refine zn_iaload (pc := 164) zk_123 dX10_goesOut_164 (zib_in hb43) ?_
    refine zn_i2l (pc := 165) dX10_goesOut_165 ?_
    refine zn_ladd (pc := 166) dX10_goesOut_166 ?_
    obtain ⟨hb45, h46⟩ := zgdd h44; clear h44
    obtain ⟨S47, hS48, h49⟩ := zltd h46; clear h46
    refine zn_lastore (pc := 167) zk_118 dX10_goesOut_167 (zib_in hb45) hS48 ?_
    refine zn_aload_n (pc := 168) 1 dX10_goesOut_168 rfl rfl ?_
    refine zn_getR (pc := 169) fa_X10_34_40.1 fa_X10_34_40.2 dX10_goesOut_169 ?_
    refine zn_aload_n (pc := 172) 1 dX10_goesOut_172 rfl rfl ?_
    refine zn_getR (pc := 173) fa_X10_41_40.1 fa_X10_41_40.2 dX10_goesOut_173 ?_
    refine zn_iload_n (pc := 176) 3 dX10_goesOut_176 rfl rfl ?_
    obtain ⟨i50, hi51, h52⟩ := zbd h49; clear h49
    rw [hi51]
    obtain ⟨hb53, h54⟩ := zgdd h52; clear h52
    refine zn_iaload (pc := 177) zk_110 dX10_goesOut_177 (zib_in hb53) ?_
    refine zn_dup2 (pc := 178) dX10_goesOut_178 rfl rfl ?_
    obtain ⟨i55, hi56, h57⟩ := zbd h54; clear h54
    rw [hi56]
    obtain ⟨hb58, h59⟩ := zgdd h57; clear h57
    refine zn_laload (pc := 179) zk_108 dX10_goesOut_179 (zib_in hb58) ?_
    refine zn_aload_n (pc := 180) 1 dX10_goesOut_180 rfl rfl ?_
    refine zn_getR (pc := 181) fa_X10_81_40.1 fa_X10_81_40.2 dX10_goesOut_181 ?_
    refine zn_iload_n (pc := 184) 2 dX10_goesOut_184 rfl rfl ?_
    obtain ⟨i60, hi61, h62⟩ := zbd h59; clear h59
    rw [hi61]
    obtain ⟨hb63, h64⟩ := zgdd h62; clear h62
    refine zn_iaload (pc := 185) zk_123 dX10_goesOut_185 (zib_in hb63) ?_
    refine zn_i2l (pc := 186) dX10_goesOut_186 ?_
    refine zn_lsub (pc := 187) dX10_goesOut_187 ?_
    obtain ⟨hb65, h66⟩ := zgdd h64; clear h64
    obtain ⟨S67, hS68, h69⟩ := zltd h66; clear h66
    refine zn_lastore (pc := 188) zk_108 dX10_goesOut_188 (zib_in hb65) hS68 ?_
    refine zn_aload_n (pc := 189) 1 dX10_goesOut_189 rfl rfl ?_
    refine zn_getR (pc := 190) fa_X10_34_40.1 fa_X10_34_40.2 dX10_goesOut_190 ?_
    refine zn_aload_n (pc := 193) 1 dX10_goesOut_193 rfl rfl ?_
    refine zn_getR (pc := 194) fa_X10_41_40.1 fa_X10_41_40.2 dX10_goesOut_194 ?_
    refine zn_iload_n (pc := 197) 4 dX10_goesOut_197 rfl rfl ?_
    obtain ⟨i70, hi71, h72⟩ := zbd h69; clear h69
    rw [hi71]
    obtain ⟨hb73, h74⟩ := zgdd h72; clear h72
    refine zn_iaload (pc := 198) zk_110 dX10_goesOut_198 (zib_in hb73) ?_
    refine zn_dup2 (pc := 199) dX10_goesOut_199 rfl rfl ?_
    obtain ⟨i75, hi76, h77⟩ := zbd h74; clear h74
    rw [hi76]
    obtain ⟨hb78, h79⟩ := zgdd h77; clear h77
    refine zn_laload (pc := 200) zk_108 dX10_goesOut_200 (zib_in hb78) ?_
    refine zn_aload_n (pc := 201) 1 dX10_goesOut_201 rfl rfl ?_
    refine zn_getR (pc := 202) fa_X10_81_40.1 fa_X10_81_40.2 dX10_goesOut_202 ?_
    refine zn_iload_n (pc := 205) 2 dX10_goesOut_205 rfl rfl ?_
    obtain ⟨i80, hi81, h82⟩ := zbd h79; clear h79
    rw [hi81]
    obtain ⟨hb83, h84⟩ := zgdd h82; clear h82
    refine zn_iaload (pc := 206) zk_123 dX10_goesOut_206 (zib_in hb83) ?_
    refine zn_i2l (pc := 207) dX10_goesOut_207 ?_
    refine zn_ladd (pc := 208) dX10_goesOut_208 ?_
    obtain ⟨hb85, h86⟩ := zgdd h84; clear h84
    obtain ⟨S87, hS88, h89⟩ := zltd h86; clear h86
    refine zn_lastore (pc := 209) zk_108 dX10_goesOut_209 (zib_in hb85) hS88 ?_
    refine zn_aload_n (pc := 210) 1 dX10_goesOut_210 rfl rfl ?_
    refine zn_getR (pc := 211) fa_X10_93_40.1 fa_X10_93_40.2 dX10_goesOut_211 ?_
    refine zn_iload_n (pc := 214) 2 dX10_goesOut_214 rfl rfl ?_
    refine zn_dup2 (pc := 215) dX10_goesOut_215 rfl rfl ?_
    obtain ⟨i90, hi91, h92⟩ := zbd h89; clear h89
    rw [hi91]
    obtain ⟨hb93, h94⟩ := zgdd h92; clear h92
    refine zn_iaload (pc := 216) zk_127 dX10_goesOut_216 (zib_in hb93) ?_
    refine zn_iconst (pc := 217) (x := 1) dX10_goesOut_217 (by decide) ?_
    refine zn_iadd (pc := 218) dX10_goesOut_218 ?_
    obtain ⟨hb95, h96⟩ := zgdd h94; clear h94
    obtain ⟨S97, hS98, h99⟩ := zltd h96; clear h96
    refine zn_iastore (pc := 219) zk_127 dX10_goesOut_219 (zib_in hb95) hS98 ?_
    refine zn_aload_n (pc := 220) 1 dX10_goesOut_220 rfl rfl ?_
    refine zn_getR (pc := 221) fa_X10_99_40.1 fa_X10_99_40.2 dX10_goesOut_221 ?_
    refine zn_iload_n (pc := 224) 2 dX10_goesOut_224 rfl rfl ?_
    refine zn_aload_n (pc := 225) 1 dX10_goesOut_225 rfl rfl ?_
    refine zn_getI (pc := 226) fa_X10_177_40.1 fa_X10_177_40.2 dX10_goesOut_226 ?_
    obtain ⟨i100, hi101, h102⟩ := zbd h99; clear h99
    rw [hi101]
    obtain ⟨hb103, h104⟩ := zgdd h102; clear h102
    obtain ⟨S105, hS106, h107⟩ := zltd h104; clear h104
    refine zn_iastore (pc := 229) zk_129 dX10_goesOut_229 (zib_in hb103) hS106 ?_
    have hz := Option.some.inj h107; clear h107; subst hz
    exact zn_return (pc := 230) dX10_goesOut_230 rfl hp
theorem b_X10_goesOut_37 {G : zG} {Post : Option zV → zH → Prop} {i0 : Nat} {x1 : Int32} {xs0 : Int32} {S : zH} {out : zH} (h0 : f_X10_goesOut_37 i0 x1 xs0 S = some out) (hp : Post none out) : zn G M_X10_goesOut 64 0 0 37 [(0, vR 40 (some i0)), (1, vI x1)] [vI xs0] S Post := by
  unfold f_X10_goesOut_37 at h0
  refine zn_istore_n (pc := 37) (ls' := [(2, vI xs0), (0, vR 40 (some i0)), (1, vI x1)]) dX10_goesOut_37 rfl (Nat.le_of_ble_eq_true rfl) rfl ?_
  refine zn_aload_n (pc := 38) 1 dX10_goesOut_38 rfl rfl ?_
  refine zn_aload_n (pc := 39) 1 dX10_goesOut_39 rfl rfl ?_
  refine zn_getR (pc := 40) fa_X10_78_40.1 fa_X10_78_40.2 dX10_goesOut_40 ?_
  refine zn_iload_n (pc := 43) 2 dX10_goesOut_43 rfl rfl ?_
  obtain ⟨i1, hi2, h3⟩ := zbd h0; clear h0
  rw [hi2]
  obtain ⟨hb4, h5⟩ := zgdd h3; clear h3
  refine zn_iaload (pc := 44) zk_122 dX10_goesOut_44 (zib_in hb4) ?_
  refine zn_aload_n (pc := 45) 1 dX10_goesOut_45 rfl rfl ?_
  refine zn_getI (pc := 46) fa_X10_177_40.1 fa_X10_177_40.2 dX10_goesOut_46 ?_
  obtain ⟨o6, e7, h8⟩ := zbd h5; clear h5
  refine zn_cVv (pc := 49) (kc := 0) (ks := 0) (kc' := 0) (ks' := 0) (As := [vI (zI S 122 i1 (Int32.toNatClampNeg x1)), vI (zI S 40 i0 46)]) (st := []) dX10_goesOut_49 cs_X10_227 pc_40 rfl rfl (Nat.le_of_ble_eq_true rfl) ((c_X10_sentOn e7).mono (Nat.le_of_ble_eq_true rfl)) ?_
  refine zn_istore_n (pc := 52) (ls' := [(3, vI o6.1), (2, vI xs0), (0, vR 40 (some i0)), (1, vI x1)]) dX10_goesOut_52 rfl (Nat.le_of_ble_eq_true rfl) rfl ?_
  refine zn_iload_n (pc := 53) 1 dX10_goesOut_53 rfl rfl ?_
  have h10 := h8; clear h8
  refine zn_if_lt (pc := 54) (tgt := 61) dX10_goesOut_54 (by decide) (fun c9 => ?_) (fun c9 => ?_)
  · replace h10 := zif_t c9 h10
    refine zn_iconst (pc := 61) (x := 3) dX10_goesOut_61 (by decide) ?_
    refine zn_goto (pc := 62) (tgt := 129) dX10_goesOut_62 (by decide) ?_
    refine zn_pick [2, 3, 1, 0] rfl ?_
    exact b_X10_goesOut_129  h10 hp
  · replace h10 := zif_f c9 h10
    refine zn_iload_n (pc := 57) 0 dX10_goesOut_57 rfl rfl ?_
    have h12 := h10; clear h10
    refine zn_if_ge (pc := 58) (tgt := 65) dX10_goesOut_58 (by decide) (fun c11 => ?_) (fun c11 => ?_)
    · replace h12 := zif_t c11 h12
      refine zn_aload_n (pc := 65) 2 dX10_goesOut_65 rfl rfl ?_
      refine zn_getR (pc := 66) fa_X10_53_40.1 fa_X10_53_40.2 dX10_goesOut_66 ?_
      refine zn_iload_n (pc := 69) 1 dX10_goesOut_69 rfl rfl ?_
      obtain ⟨i13, hi14, h15⟩ := zbd h12; clear h12
      rw [hi14]
      obtain ⟨hb16, h17⟩ := zgdd h15; clear h15
      refine zn_iaload (pc := 70) zk_114 dX10_goesOut_70 (zib_in hb16) ?_
      refine zn_iconst (pc := 71) (x := 1) dX10_goesOut_71 (by decide) ?_
      have h19 := h17; clear h17
      refine zn_icmp_eq (pc := 72) (tgt := 85) dX10_goesOut_72 (by decide) (fun c18 => ?_) (fun c18 => ?_)
      · replace h19 := zif_t c18 h19
        refine zn_iconst (pc := 85) (x := 2) dX10_goesOut_85 (by decide) ?_
        refine zn_goto (pc := 86) (tgt := 129) dX10_goesOut_86 (by decide) ?_
        refine zn_pick [2, 3, 1, 0] rfl ?_
        exact b_X10_goesOut_129  h19 hp
      · replace h19 := zif_f c18 h19
        refine zn_aload_n (pc := 75) 2 dX10_goesOut_75 rfl rfl ?_
        refine zn_getR (pc := 76) fa_X10_53_40.1 fa_X10_53_40.2 dX10_goesOut_76 ?_
        refine zn_iload_n (pc := 79) 0 dX10_goesOut_79 rfl rfl ?_
        obtain ⟨i20, hi21, h22⟩ := zbd h19; clear h19
        rw [hi21]
        obtain ⟨hb23, h24⟩ := zgdd h22; clear h22
        refine zn_iaload (pc := 80) zk_114 dX10_goesOut_80 (zib_in hb23) ?_
        refine zn_iconst (pc := 81) (x := 1) dX10_goesOut_81 (by decide) ?_
        have h26 := h24; clear h24
        refine zn_icmp_ne (pc := 82) (tgt := 89) dX10_goesOut_82 (by decide) (fun c25 => ?_) (fun c25 => ?_)
        · replace h26 := zif_f c25 h26
          refine zn_iload_n (pc := 89) 1 dX10_goesOut_89 rfl rfl ?_
          refine zn_iload_n (pc := 90) 0 dX10_goesOut_90 rfl rfl ?_
          have h28 := h26; clear h26
          refine zn_icmp_ne (pc := 91) (tgt := 98) dX10_goesOut_91 (by decide) (fun c27 => ?_) (fun c27 => ?_)
          · replace h28 := zif_f c27 h28
            refine zn_aload_n (pc := 98) 2 dX10_goesOut_98 rfl rfl ?_
            refine zn_getR (pc := 99) fa_X10_65_40.1 fa_X10_65_40.2 dX10_goesOut_99 ?_
            refine zn_iload_n (pc := 102) 1 dX10_goesOut_102 rfl rfl ?_
            obtain ⟨i29, hi30, h31⟩ := zbd h28; clear h28
            rw [hi30]
            obtain ⟨hb32, h33⟩ := zgdd h31; clear h31
            refine zn_laload (pc := 103) zk_118 dX10_goesOut_103 (zib_in hb32) ?_
            refine zn_aload_n (pc := 104) 2 dX10_goesOut_104 rfl rfl ?_
            refine zn_getR (pc := 105) fa_X10_81_40.1 fa_X10_81_40.2 dX10_goesOut_105 ?_
            refine zn_iload_n (pc := 108) 3 dX10_goesOut_108 rfl rfl ?_
            obtain ⟨i34, hi35, h36⟩ := zbd h33; clear h33
            rw [hi35]
            obtain ⟨hb37, h38⟩ := zgdd h36; clear h36
            refine zn_iaload (pc := 109) zk_123 dX10_goesOut_109 (zib_in hb37) ?_
            refine zn_i2l (pc := 110) dX10_goesOut_110 ?_
            refine zn_lsub (pc := 111) dX10_goesOut_111 ?_
            refine zn_aload_n (pc := 112) 2 dX10_goesOut_112 rfl rfl ?_
            refine zn_getR (pc := 113) fa_X10_50_40.1 fa_X10_50_40.2 dX10_goesOut_113 ?_
            refine zn_iload_n (pc := 116) 1 dX10_goesOut_116 rfl rfl ?_
            obtain ⟨i39, hi40, h41⟩ := zbd h38; clear h38
            rw [hi40]
            obtain ⟨hb42, h43⟩ := zgdd h41; clear h41
            refine zn_iaload (pc := 117) zk_113 dX10_goesOut_117 (zib_in hb42) ?_
            refine zn_ineg (pc := 118) dX10_goesOut_118 ?_
            refine zn_i2l (pc := 119) dX10_goesOut_119 ?_
            refine zn_lcmp (pc := 120) dX10_goesOut_120 ?_
            have h45 := h43; clear h43
            refine zn_if_ge (pc := 121) (tgt := 128) dX10_goesOut_121 (by decide) (fun c44 => ?_) (fun c44 => ?_)
            · replace h45 := zif_t c44 h45
              refine zn_iconst (pc := 128) (x := 0) dX10_goesOut_128 (by decide) ?_
              refine zn_pick [2, 3, 1, 0] rfl ?_
              exact b_X10_goesOut_129  h45 hp
            · replace h45 := zif_f c44 h45
              refine zn_iconst (pc := 124) (x := 1) dX10_goesOut_124 (by decide) ?_
              refine zn_goto (pc := 125) (tgt := 129) dX10_goesOut_125 (by decide) ?_
              refine zn_pick [2, 3, 1, 0] rfl ?_
              exact b_X10_goesOut_129  h45 hp
          · replace h28 := zif_t c27 h28
            refine zn_iconst (pc := 94) (x := 4) dX10_goesOut_94 (by decide) ?_
            refine zn_goto (pc := 95) (tgt := 129) dX10_goesOut_95 (by decide) ?_
            refine zn_pick [2, 3, 1, 0] rfl ?_
            exact b_X10_goesOut_129  h28 hp
        · replace h26 := zif_t c25 h26
          refine zn_iconst (pc := 85) (x := 2) dX10_goesOut_85 (by decide) ?_
          refine zn_goto (pc := 86) (tgt := 129) dX10_goesOut_86 (by decide) ?_
          refine zn_pick [2, 3, 1, 0] rfl ?_
          exact b_X10_goesOut_129  h26 hp
    · replace h12 := zif_f c11 h12
      refine zn_iconst (pc := 61) (x := 3) dX10_goesOut_61 (by decide) ?_
      refine zn_goto (pc := 62) (tgt := 129) dX10_goesOut_62 (by decide) ?_
      refine zn_pick [2, 3, 1, 0] rfl ?_
      exact b_X10_goesOut_129  h12 hp
theorem c_X10_goesOut {G : zG} {i0 : Nat} {x1 : Int32} {S : zH} {out : zH} (h0 : f_X10_goesOut i0 x1 S = some out) : zct G M_X10_goesOut 64 0 0 [vR 40 (some i0), vI x1] S (zpo none out) := by
  refine zct_of (by decide) (Nat.le_of_ble_eq_true rfl) ?_
  show zn G M_X10_goesOut 64 0 0 0 [(0, vR 40 (some i0)), (1, vI x1)] [] S _
  have hp : zpo none out none out := ⟨rfl, rfl⟩
  unfold f_X10_goesOut at h0
  refine zn_aload_n (pc := 0) 0 dX10_goesOut_0 rfl rfl ?_
  refine zn_getR (pc := 1) fa_X10_72_40.1 fa_X10_72_40.2 dX10_goesOut_1 ?_
  refine zn_iload_n (pc := 4) 1 dX10_goesOut_4 rfl rfl ?_
  obtain ⟨i46, hi47, h48⟩ := zbd h0; clear h0
  rw [hi47]
  obtain ⟨hb49, h50⟩ := zgdd h48; clear h48
  refine zn_iaload (pc := 5) zk_120 dX10_goesOut_5 (zib_in hb49) ?_
  refine zn_iconst (pc := 6) (x := 2) dX10_goesOut_6 (by decide) ?_
  have h52 := h50; clear h50
  refine zn_icmp_ne (pc := 7) (tgt := 27) dX10_goesOut_7 (by decide) (fun c51 => ?_) (fun c51 => ?_)
  · replace h52 := zif_f c51 h52
    refine zn_aload_n (pc := 27) 0 dX10_goesOut_27 rfl rfl ?_
    refine zn_aload_n (pc := 28) 0 dX10_goesOut_28 rfl rfl ?_
    refine zn_getR (pc := 29) fa_X10_75_40.1 fa_X10_75_40.2 dX10_goesOut_29 ?_
    refine zn_iload_n (pc := 32) 1 dX10_goesOut_32 rfl rfl ?_
    obtain ⟨i53, hi54, h55⟩ := zbd h52; clear h52
    rw [hi54]
    obtain ⟨hb56, h57⟩ := zgdd h55; clear h55
    refine zn_iaload (pc := 33) zk_121 dX10_goesOut_33 (zib_in hb56) ?_
    obtain ⟨o58, e59, h60⟩ := zbd h57; clear h57
    refine zn_cVv (pc := 34) (kc := 0) (ks := 0) (kc' := 0) (ks' := 0) (As := [vI (zI S 121 i53 (Int32.toNatClampNeg x1))]) (st := []) dX10_goesOut_34 cs_X10_217 pc_40 rfl rfl (Nat.le_of_ble_eq_true rfl) ((c_X10_lastOf e59).mono (Nat.le_of_ble_eq_true rfl)) ?_
    exact b_X10_goesOut_37  h60 hp
  · replace h52 := zif_t c51 h52
    refine zn_aload_n (pc := 10) 0 dX10_goesOut_10 rfl rfl ?_
    refine zn_aload_n (pc := 11) 0 dX10_goesOut_11 rfl rfl ?_
    refine zn_getR (pc := 12) fa_X10_75_40.1 fa_X10_75_40.2 dX10_goesOut_12 ?_
    refine zn_iload_n (pc := 15) 1 dX10_goesOut_15 rfl rfl ?_
    obtain ⟨i61, hi62, h63⟩ := zbd h52; clear h52
    rw [hi62]
    obtain ⟨hb64, h65⟩ := zgdd h63; clear h63
    refine zn_iaload (pc := 16) zk_121 dX10_goesOut_16 (zib_in hb64) ?_
    refine zn_aload_n (pc := 17) 0 dX10_goesOut_17 rfl rfl ?_
    refine zn_getI (pc := 18) fa_X10_177_40.1 fa_X10_177_40.2 dX10_goesOut_18 ?_
    obtain ⟨o66, e67, h68⟩ := zbd h65; clear h65
    refine zn_cVv (pc := 21) (kc := 0) (ks := 0) (kc' := 0) (ks' := 0) (As := [vI (zI S 121 i61 (Int32.toNatClampNeg x1)), vI (zI S 40 i0 46)]) (st := []) dX10_goesOut_21 cs_X10_227 pc_40 rfl rfl (Nat.le_of_ble_eq_true rfl) ((c_X10_sentOn e67).mono (Nat.le_of_ble_eq_true rfl)) ?_
    refine zn_goto (pc := 24) (tgt := 37) dX10_goesOut_24 (by decide) ?_
    exact b_X10_goesOut_37  h68 hp
