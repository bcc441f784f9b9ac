theorem b_X10_night_88 {G : zG} {Post : Option zV → zH → Prop} {k78 : Nat → Int32 → zH → Option zH} (hk78 : ∀ (i0 : Nat) (x1 : Int32) (S : zH) (out : zH), k78 i0 x1 S = some out → Post none out → zn G M_X10_night 65 0 0 78 [(0, vR 40 (some i0)), (1, vI x1)] [] S Post) : ∀ (n : Nat) (i0 : Nat) (x1 : Int32) (x2 : Int32) (S : zH) (out : zH), f_X10_night_88 k78 n i0 x1 x2 S = some out → Post none out → zn G M_X10_night 65 0 0 88 [(0, vR 40 (some i0)), (1, vI x1), (2, vI x2)] [] S Post := by
  intro n
  induction n with
  | zero => intro i0 x1 x2 S out h0 hp; exact (nomatch (show (none : Option _) = some out from h0))
  | succ n ih =>
    intro i0 x1 x2 S out h0 hp
    rw [f_X10_night_88] at h0
    refine zn_iload_n (pc := 88) 2 dX10_night_88 rfl rfl ?_
    refine zn_aload_n (pc := 89) 0 dX10_night_89 rfl rfl ?_
    refine zn_getI (pc := 90) fa_X10_287_40.1 fa_X10_287_40.2 dX10_night_90 ?_
    have h2 := h0; clear h0
    refine zn_icmp_ge (pc := 93) (tgt := 116) dX10_night_93 (by decide) (fun c1 => ?_) (fun c1 => ?_)
    · replace h2 := zif_t c1 h2
      refine zn_iinc (pc := 116) 1 (y := x1 + 1) (ls' := [(1, vI (x1 + 1)), (0, vR 40 (some i0)), (2, vI x2)]) dX10_night_116 rfl rfl (Nat.le_of_ble_eq_true rfl) rfl ?_
      refine zn_goto (pc := 119) (tgt := 78) dX10_night_119 (by decide) ?_
      refine zn_pick [1, 0] rfl ?_
      exact hk78 _ _ _ _ h2 hp
    · replace h2 := zif_f c1 h2
      refine zn_aload_n (pc := 96) 0 dX10_night_96 rfl rfl ?_
      refine zn_iload_n (pc := 97) 2 dX10_night_97 rfl rfl ?_
      refine zn_iload_n (pc := 98) 1 dX10_night_98 rfl rfl ?_
      obtain ⟨o3, e4, h5⟩ := zbd h2; clear h2
      refine zn_cVv (pc := 99) (kc := 0) (ks := 0) (kc' := 0) (ks' := 0) (As := [vI x2, vI x1]) (st := []) dX10_night_99 cs_X10_308 pc_40 rfl rfl (Nat.le_of_ble_eq_true rfl) ((c_X10_isDue e4).mono (Nat.le_of_ble_eq_true rfl)) ?_
      have h7 := h5; clear h5
      refine zn_if_eq (pc := 102) (tgt := 110) dX10_night_102 (by decide) (fun c6 => ?_) (fun c6 => ?_)
      · replace h7 := zif_t c6 h7
        refine zn_iinc (pc := 110) 2 (y := x2 + 1) (ls' := [(2, vI (x2 + 1)), (0, vR 40 (some i0)), (1, vI x1)]) dX10_night_110 rfl rfl (Nat.le_of_ble_eq_true rfl) rfl ?_
        refine zn_goto (pc := 113) (tgt := 88) dX10_night_113 (by decide) ?_
        refine zn_pick [1, 2, 0] rfl ?_
        exact ih _ _ _ _ _ h7 hp
      · replace h7 := zif_f c6 h7
        refine zn_aload_n (pc := 105) 0 dX10_night_105 rfl rfl ?_
        refine zn_iload_n (pc := 106) 2 dX10_night_106 rfl rfl ?_
        obtain ⟨o8, e9, h10⟩ := zbd h7; clear h7
        refine zn_cV0 (pc := 107) (kc := 0) (ks := 0) (kc' := 0) (ks' := 0) (As := [vI x2]) (st := []) dX10_night_107 cs_X10_311 pc_40 rfl rfl (Nat.le_of_ble_eq_true rfl) ((c_X10_goesOut e9).mono (Nat.le_of_ble_eq_true rfl)) ?_
        refine zn_iinc (pc := 110) 2 (y := x2 + 1) (ls' := [(2, vI (x2 + 1)), (0, vR 40 (some i0)), (1, vI x1)]) dX10_night_110 rfl rfl (Nat.le_of_ble_eq_true rfl) rfl ?_
        refine zn_goto (pc := 113) (tgt := 88) dX10_night_113 (by decide) ?_
        refine zn_pick [1, 2, 0] rfl ?_
        exact ih _ _ _ _ _ h10 hp
theorem b_X10_night_78 {G : zG} {Post : Option zV → zH → Prop} : ∀ (n : Nat) (i0 : Nat) (x1 : Int32) (S : zH) (out : zH), f_X10_night_78 n i0 x1 S = some out → Post none out → zn G M_X10_night 65 0 0 78 [(0, vR 40 (some i0)), (1, vI x1)] [] S Post := by
  intro n
  induction n with
  | zero => intro i0 x1 S out h0 hp; exact (nomatch (show (none : Option _) = some out from h0))
  | succ n ih =>
    intro i0 x1 S out h0 hp
    rw [f_X10_night_78] at h0
    refine zn_iload_n (pc := 78) 1 dX10_night_78 rfl rfl ?_
    refine zn_aload_n (pc := 79) 0 dX10_night_79 rfl rfl ?_
    refine zn_getI (pc := 80) fa_X10_177_40.1 fa_X10_177_40.2 dX10_night_80 ?_
    have h2 := h0; clear h0
    refine zn_icmp_gt (pc := 83) (tgt := 122) dX10_night_83 (by decide) (fun c1 => ?_) (fun c1 => ?_)
    · replace h2 := zif_t c1 h2
      refine zn_aload_n (pc := 122) 0 dX10_night_122 rfl rfl ?_
      refine zn_aload_n (pc := 123) 0 dX10_night_123 rfl rfl ?_
      refine zn_getI (pc := 124) fa_X10_177_40.1 fa_X10_177_40.2 dX10_night_124 ?_
      obtain ⟨S3, hS4, h5⟩ := zltd h2; clear h2
      refine zn_putI (pc := 127) fp_X10_151_40.1 (fp_X10_151_40 (nm := "")).2 dX10_night_127 hS4 ?_
      refine zn_aload_n (pc := 130) 0 dX10_night_130 rfl rfl ?_
      refine zn_dup (pc := 131) dX10_night_131 rfl ?_
      refine zn_getI (pc := 132) fa_X10_314_40.1 fa_X10_314_40.2 dX10_night_132 ?_
      refine zn_iconst (pc := 135) (x := 1) dX10_night_135 (by decide) ?_
      refine zn_iadd (pc := 136) dX10_night_136 ?_
      obtain ⟨S6, hS7, h8⟩ := zltd h5; clear h5
      refine zn_putI (pc := 137) fp_X10_314_40.1 (fp_X10_314_40 (nm := "")).2 dX10_night_137 hS7 ?_
      have hz := Option.some.inj h8; clear h8; subst hz
      exact zn_return (pc := 140) dX10_night_140 rfl hp
    · replace h2 := zif_f c1 h2
      refine zn_iconst (pc := 86) (x := 0) dX10_night_86 (by decide) ?_
      refine zn_istore_n (pc := 87) (ls' := [(2, vI 0), (0, vR 40 (some i0)), (1, vI x1)]) dX10_night_87 rfl (Nat.le_of_ble_eq_true rfl) rfl ?_
      refine zn_pick [1, 2, 0] rfl ?_
      exact b_X10_night_88 ih fu _ _ _ _ _ h2 hp
theorem b_X10_night_30 {G : zG} {Post : Option zV → zH → Prop} : ∀ (n : Nat) (i0 : Nat) (x1 : Int32) (S : zH) (out : zH), f_X10_night_30 n i0 x1 S = some out → Post none out → zn G M_X10_night 65 0 0 30 [(0, vR 40 (some i0)), (1, vI x1)] [] S Post := by
  intro n
  induction n with
  | zero => intro i0 x1 S out h0 hp; exact (nomatch (show (none : Option _) = some out from h0))
  | succ n ih =>
    intro i0 x1 S out h0 hp
    rw [f_X10_night_30] at h0
    refine zn_iload_n (pc := 30) 1 dX10_night_30 rfl rfl ?_
    refine zn_aload_n (pc := 31) 0 dX10_night_31 rfl rfl ?_
    refine zn_getI (pc := 32) fa_X10_211_40.1 fa_X10_211_40.2 dX10_night_32 ?_
    have h2 := h0; clear h0
    refine zn_icmp_ge (pc := 35) (tgt := 71) dX10_night_35 (by decide) (fun c1 => ?_) (fun c1 => ?_)
    · replace h2 := zif_t c1 h2
      refine zn_aload_n (pc := 71) 0 dX10_night_71 rfl rfl ?_
      refine zn_getI (pc := 72) fa_X10_151_40.1 fa_X10_151_40.2 dX10_night_72 ?_
      refine zn_iconst (pc := 75) (x := 1) dX10_night_75 (by decide) ?_
      refine zn_iadd (pc := 76) dX10_night_76 ?_
      refine zn_istore_n (pc := 77) (ls' := [(1, vI ((zI S 40 i0 54) + 1)), (0, vR 40 (some i0))]) dX10_night_77 rfl (Nat.le_of_ble_eq_true rfl) rfl ?_
      refine zn_pick [1, 0] rfl ?_
      exact b_X10_night_78  fu _ _ _ _ h2 hp
    · replace h2 := zif_f c1 h2
      refine zn_aload_n (pc := 38) 0 dX10_night_38 rfl rfl ?_
      refine zn_getR (pc := 39) fa_X10_126_40.1 fa_X10_126_40.2 dX10_night_39 ?_
      refine zn_iload_n (pc := 42) 1 dX10_night_42 rfl rfl ?_
      obtain ⟨i3, hi4, h5⟩ := zbd h2; clear h2
      rw [hi4]
      obtain ⟨hb6, h7⟩ := zgdd h5; clear h5
      refine zn_baload (pc := 43) zk_138 dX10_night_43 (zib_in hb6) ?_
      have h9 := h7; clear h7
      refine zn_if_eq (pc := 44) (tgt := 65) dX10_night_44 (by decide) (fun c8 => ?_) (fun c8 => ?_)
      · replace h9 := zif_t c8 h9
        refine zn_iinc (pc := 65) 1 (y := x1 + 1) (ls' := [(1, vI (x1 + 1)), (0, vR 40 (some i0))]) dX10_night_65 rfl rfl (Nat.le_of_ble_eq_true rfl) rfl ?_
        refine zn_goto (pc := 68) (tgt := 30) dX10_night_68 (by decide) ?_
        refine zn_pick [1, 0] rfl ?_
        exact ih _ _ _ _ h9 hp
      · replace h9 := zif_f c8 h9
        refine zn_aload_n (pc := 47) 0 dX10_night_47 rfl rfl ?_
        refine zn_getR (pc := 48) fa_X10_120_40.1 fa_X10_120_40.2 dX10_night_48 ?_
        refine zn_iload_n (pc := 51) 1 dX10_night_51 rfl rfl ?_
        obtain ⟨i10, hi11, h12⟩ := zbd h9; clear h9
        rw [hi11]
        obtain ⟨hb13, h14⟩ := zgdd h12; clear h12
        refine zn_iaload (pc := 52) zk_136 dX10_night_52 (zib_in hb13) ?_
        refine zn_aload_n (pc := 53) 0 dX10_night_53 rfl rfl ?_
        refine zn_getI (pc := 54) fa_X10_177_40.1 fa_X10_177_40.2 dX10_night_54 ?_
        have h16 := h14; clear h14
        refine zn_icmp_ge (pc := 57) (tgt := 65) dX10_night_57 (by decide) (fun c15 => ?_) (fun c15 => ?_)
        · replace h16 := zif_t c15 h16
          refine zn_iinc (pc := 65) 1 (y := x1 + 1) (ls' := [(1, vI (x1 + 1)), (0, vR 40 (some i0))]) dX10_night_65 rfl rfl (Nat.le_of_ble_eq_true rfl) rfl ?_
          refine zn_goto (pc := 68) (tgt := 30) dX10_night_68 (by decide) ?_
          refine zn_pick [1, 0] rfl ?_
          exact ih _ _ _ _ h16 hp
        · replace h16 := zif_f c15 h16
          refine zn_aload_n (pc := 60) 0 dX10_night_60 rfl rfl ?_
          refine zn_iload_n (pc := 61) 1 dX10_night_61 rfl rfl ?_
          obtain ⟨o17, e18, h19⟩ := zbd h16; clear h16
          refine zn_cV0 (pc := 62) (kc := 0) (ks := 0) (kc' := 0) (ks' := 0) (As := [vI x1]) (st := []) dX10_night_62 cs_X10_304 pc_40 rfl rfl (Nat.le_of_ble_eq_true rfl) ((c_X10_goesOn e18).mono (Nat.le_of_ble_eq_true rfl)) ?_
          refine zn_iinc (pc := 65) 1 (y := x1 + 1) (ls' := [(1, vI (x1 + 1)), (0, vR 40 (some i0))]) dX10_night_65 rfl rfl (Nat.le_of_ble_eq_true rfl) rfl ?_
          refine zn_goto (pc := 68) (tgt := 30) dX10_night_68 (by decide) ?_
          refine zn_pick [1, 0] rfl ?_
          exact ih _ _ _ _ h19 hp
theorem b_X10_night_2 {G : zG} {Post : Option zV → zH → Prop} : ∀ (n : Nat) (i0 : Nat) (x1 : Int32) (S : zH) (out : zH), f_X10_night_2 n i0 x1 S = some out → Post none out → zn G M_X10_night 65 0 0 2 [(0, vR 40 (some i0)), (1, vI x1)] [] S Post := by
  intro n
  induction n with
  | zero => intro i0 x1 S out h0 hp; exact (nomatch (show (none : Option _) = some out from h0))
  | succ n ih =>
    intro i0 x1 S out h0 hp
    rw [f_X10_night_2] at h0
    refine zn_iload_n (pc := 2) 1 dX10_night_2 rfl rfl ?_
    refine zn_bipush (pc := 3) (x := 8) dX10_night_3 (by decide) ?_
    have h2 := h0; clear h0
    refine zn_icmp_ge (pc := 5) (tgt := 28) dX10_night_5 (by decide) (fun c1 => ?_) (fun c1 => ?_)
    · replace h2 := zif_t c1 h2
      refine zn_iconst (pc := 28) (x := 0) dX10_night_28 (by decide) ?_
      refine zn_istore_n (pc := 29) (ls' := [(1, vI 0), (0, vR 40 (some i0))]) dX10_night_29 rfl (Nat.le_of_ble_eq_true rfl) rfl ?_
      refine zn_pick [1, 0] rfl ?_
      exact b_X10_night_30  fu _ _ _ _ h2 hp
    · replace h2 := zif_f c1 h2
      refine zn_aload_n (pc := 8) 0 dX10_night_8 rfl rfl ?_
      refine zn_getR (pc := 9) fa_X10_34_40.1 fa_X10_34_40.2 dX10_night_9 ?_
      refine zn_iload_n (pc := 12) 1 dX10_night_12 rfl rfl ?_
      refine zn_lconst (pc := 13) (x := 0) dX10_night_13 (by decide) ?_
      obtain ⟨i3, hi4, h5⟩ := zbd h2; clear h2
      rw [hi4]
      obtain ⟨hb6, h7⟩ := zgdd h5; clear h5
      obtain ⟨S8, hS9, h10⟩ := zltd h7; clear h7
      refine zn_lastore (pc := 14) zk_108 dX10_night_14 (zib_in hb6) hS9 ?_
      refine zn_aload_n (pc := 15) 0 dX10_night_15 rfl rfl ?_
      refine zn_getR (pc := 16) fa_X10_31_40.1 fa_X10_31_40.2 dX10_night_16 ?_
      refine zn_iload_n (pc := 19) 1 dX10_night_19 rfl rfl ?_
      refine zn_iconst (pc := 20) (x := 0) dX10_night_20 (by decide) ?_
      obtain ⟨i11, hi12, h13⟩ := zbd h10; clear h10
      rw [hi12]
      obtain ⟨hb14, h15⟩ := zgdd h13; clear h13
      obtain ⟨S16, hS17, h18⟩ := zltd h15; clear h15
      refine zn_iastore (pc := 21) zk_107 dX10_night_21 (zib_in hb14) hS17 ?_
      refine zn_iinc (pc := 22) 1 (y := x1 + 1) (ls' := [(1, vI (x1 + 1)), (0, vR 40 (some i0))]) dX10_night_22 rfl rfl (Nat.le_of_ble_eq_true rfl) rfl ?_
      refine zn_goto (pc := 25) (tgt := 2) dX10_night_25 (by decide) ?_
      refine zn_pick [1, 0] rfl ?_
      exact ih _ _ _ _ h18 hp
theorem c_X10_night {G : zG} {i0 : Nat} {S : zH} {out : zH} (h0 : f_X10_night i0 S = some out) : zct G M_X10_night 65 0 0 [vR 40 (some i0)] S (zpo none out) := by
  refine zct_of (by decide) (Nat.le_of_ble_eq_true rfl) ?_
  show zn G M_X10_night 65 0 0 0 [(0, vR 40 (some i0))] [] S _
  have hp : zpo none out none out := ⟨rfl, rfl⟩
  unfold f_X10_night at h0
  refine zn_iconst (pc := 0) (x := 0) dX10_night_0 (by decide) ?_
  refine zn_istore_n (pc := 1) (ls' := [(1, vI 0), (0, vR 40 (some i0))]) dX10_night_1 rfl (Nat.le_of_ble_eq_true rfl) rfl ?_
  refine zn_pick [1, 0] rfl ?_
  exact b_X10_night_2  fu _ _ _ _ h0 hp
theorem b_X10_days_55 {G : zG} {Post : Option zV → zH → Prop} {k33 : Nat → Int32 → Int32 → zH → Option (Int32 × zH)} (hk33 : ∀ (i0 : Nat) (x1 : Int32) (x2 : Int32) (S : zH) (out : (Int32 × zH)), k33 i0 x1 x2 S = some out → Post (some (vI out.1)) out.2 → zn G M_X10_days 66 0 0 33 [(0, vR 40 (some i0)), (1, vI x1), (2, vI x2)] [] S Post) : ∀ (n : Nat) (i0 : Nat) (x1 : Int32) (x2 : Int32) (x3 : Int32) (S : zH) (out : (Int32 × zH)), f_X10_days_55 k33 n i0 x1 x2 x3 S = some out → Post (some (vI out.1)) out.2 → zn G M_X10_days 66 0 0 55 [(0, vR 40 (some i0)), (1, vI x1), (2, vI x2), (3, vI x3)] [] S Post := by
  intro n
  induction n with
  | zero => intro i0 x1 x2 x3 S out h0 hp; exact (nomatch (show (none : Option _) = some out from h0))
  | succ n ih =>
    intro i0 x1 x2 x3 S out h0 hp
    rw [f_X10_days_55] at h0
    refine zn_iload_n (pc := 55) 3 dX10_days_55 rfl rfl ?_
    refine zn_aload_n (pc := 56) 0 dX10_days_56 rfl rfl ?_
    refine zn_getI (pc := 57) fa_X10_171_40.1 fa_X10_171_40.2 dX10_days_57 ?_
    have h2 := h0; clear h0
    refine zn_icmp_ge (pc := 60) (tgt := 90) dX10_days_60 (by decide) (fun c1 => ?_) (fun c1 => ?_)
    · replace h2 := zif_t c1 h2
      refine zn_aload_n (pc := 90) 0 dX10_days_90 rfl rfl ?_
      refine zn_dup (pc := 91) dX10_days_91 rfl ?_
      refine zn_getI (pc := 92) fa_X10_177_40.1 fa_X10_177_40.2 dX10_days_92 ?_
      refine zn_iconst (pc := 95) (x := 1) dX10_days_95 (by decide) ?_
      refine zn_iadd (pc := 96) dX10_days_96 ?_
      obtain ⟨S3, hS4, h5⟩ := zltd h2; clear h2
      refine zn_putI (pc := 97) fp_X10_177_40.1 (fp_X10_177_40 (nm := "")).2 dX10_days_97 hS4 ?_
      refine zn_iinc (pc := 100) 2 (y := x2 + 1) (ls' := [(2, vI (x2 + 1)), (0, vR 40 (some i0)), (1, vI x1), (3, vI x3)]) dX10_days_100 rfl rfl (Nat.le_of_ble_eq_true rfl) rfl ?_
      refine zn_goto (pc := 103) (tgt := 33) dX10_days_103 (by decide) ?_
      refine zn_pick [1, 2, 0] rfl ?_
      exact hk33 _ _ _ _ _ h5 hp
    · replace h2 := zif_f c1 h2
      refine zn_aload_n (pc := 63) 0 dX10_days_63 rfl rfl ?_
      refine zn_getR (pc := 64) fa_X10_69_40.1 fa_X10_69_40.2 dX10_days_64 ?_
      refine zn_sipush (pc := 67) (x := 1501) dX10_days_67 (by decide) ?_
      refine zn_iload_n (pc := 70) 3 dX10_days_70 rfl rfl ?_
      refine zn_imul (pc := 71) dX10_days_71 ?_
      refine zn_aload_n (pc := 72) 0 dX10_days_72 rfl rfl ?_
      refine zn_getI (pc := 73) fa_X10_177_40.1 fa_X10_177_40.2 dX10_days_73 ?_
      refine zn_iadd (pc := 76) dX10_days_76 ?_
      refine zn_aload_n (pc := 77) 0 dX10_days_77 rfl rfl ?_
      refine zn_getR (pc := 78) fa_X10_65_40.1 fa_X10_65_40.2 dX10_days_78 ?_
      refine zn_iload_n (pc := 81) 3 dX10_days_81 rfl rfl ?_
      obtain ⟨i6, hi7, h8⟩ := zbd h2; clear h2
      rw [hi7]
      obtain ⟨hb9, h10⟩ := zgdd h8; clear h8
      refine zn_laload (pc := 82) zk_118 dX10_days_82 (zib_in hb9) ?_
      obtain ⟨i11, hi12, h13⟩ := zbd h10; clear h10
      rw [hi12]
      obtain ⟨hb14, h15⟩ := zgdd h13; clear h13
      obtain ⟨S16, hS17, h18⟩ := zltd h15; clear h15
      refine zn_lastore (pc := 83) zk_119 dX10_days_83 (zib_in hb14) hS17 ?_
      refine zn_iinc (pc := 84) 3 (y := x3 + 1) (ls' := [(3, vI (x3 + 1)), (0, vR 40 (some i0)), (1, vI x1), (2, vI x2)]) dX10_days_84 rfl rfl (Nat.le_of_ble_eq_true rfl) rfl ?_
      refine zn_goto (pc := 87) (tgt := 55) dX10_days_87 (by decide) ?_
      refine zn_pick [1, 2, 3, 0] rfl ?_
      exact ih _ _ _ _ _ _ h18 hp
theorem b_X10_days_33 {G : zG} {Post : Option zV → zH → Prop} : ∀ (n : Nat) (i0 : Nat) (x1 : Int32) (x2 : Int32) (S : zH) (out : (Int32 × zH)), f_X10_days_33 n i0 x1 x2 S = some out → Post (some (vI out.1)) out.2 → zn G M_X10_days 66 0 0 33 [(0, vR 40 (some i0)), (1, vI x1), (2, vI x2)] [] S Post := by
  intro n
  induction n with
  | zero => intro i0 x1 x2 S out h0 hp; exact (nomatch (show (none : Option _) = some out from h0))
  | succ n ih =>
    intro i0 x1 x2 S out h0 hp
    rw [f_X10_days_33] at h0
    refine zn_iload_n (pc := 33) 2 dX10_days_33 rfl rfl ?_
    refine zn_iload_n (pc := 34) 1 dX10_days_34 rfl rfl ?_
    have h2 := h0; clear h0
    refine zn_icmp_ge (pc := 35) (tgt := 106) dX10_days_35 (by decide) (fun c1 => ?_) (fun c1 => ?_)
    · replace h2 := zif_t c1 h2
      refine zn_aload_n (pc := 106) 0 dX10_days_106 rfl rfl ?_
      refine zn_getI (pc := 107) fa_X10_177_40.1 fa_X10_177_40.2 dX10_days_107 ?_
      have hz := Option.some.inj h2; clear h2; subst hz
      exact zn_ireturn (pc := 110) dX10_days_110 rfl hp
    · replace h2 := zif_f c1 h2
      refine zn_aload_n (pc := 38) 0 dX10_days_38 rfl rfl ?_
      refine zn_aload_n (pc := 39) 0 dX10_days_39 rfl rfl ?_
      refine zn_getI (pc := 40) fa_X10_177_40.1 fa_X10_177_40.2 dX10_days_40 ?_
      obtain ⟨o3, e4, h5⟩ := zbd h2; clear h2
      refine zn_cVv (pc := 43) (kc := 0) (ks := 0) (kc' := 0) (ks' := 0) (As := [vI (zI S 40 i0 46)]) (st := []) dX10_days_43 cs_X10_180 pc_40 rfl rfl (Nat.le_of_ble_eq_true rfl) ((c_X10_works e4).mono (Nat.le_of_ble_eq_true rfl)) ?_
      have h7 := h5; clear h5
      refine zn_if_eq (pc := 46) (tgt := 53) dX10_days_46 (by decide) (fun c6 => ?_) (fun c6 => ?_)
      · replace h7 := zif_t c6 h7
        refine zn_iconst (pc := 53) (x := 0) dX10_days_53 (by decide) ?_
        refine zn_istore_n (pc := 54) (ls' := [(3, vI 0), (0, vR 40 (some i0)), (1, vI x1), (2, vI x2)]) dX10_days_54 rfl (Nat.le_of_ble_eq_true rfl) rfl ?_
        refine zn_pick [1, 2, 3, 0] rfl ?_
        exact b_X10_days_55 ih fu _ _ _ _ _ _ h7 hp
      · replace h7 := zif_f c6 h7
        refine zn_aload_n (pc := 49) 0 dX10_days_49 rfl rfl ?_
        obtain ⟨o8, e9, h10⟩ := zbd h7; clear h7
        refine zn_cV0 (pc := 50) (kc := 0) (ks := 0) (kc' := 0) (ks' := 0) (As := []) (st := []) dX10_days_50 cs_X10_184 pc_40 rfl rfl (Nat.le_of_ble_eq_true rfl) ((c_X10_night e9).mono (Nat.le_of_ble_eq_true rfl)) ?_
        refine zn_iconst (pc := 53) (x := 0) dX10_days_53 (by decide) ?_
        refine zn_istore_n (pc := 54) (ls' := [(3, vI 0), (0, vR 40 (some i0)), (1, vI x1), (2, vI x2)]) dX10_days_54 rfl (Nat.le_of_ble_eq_true rfl) rfl ?_
        refine zn_pick [1, 2, 3, 0] rfl ?_
        exact b_X10_days_55 ih fu _ _ _ _ _ _ h10 hp
theorem c_X10_days {G : zG} {i0 : Nat} {x1 : Int32} {S : zH} {out : (Int32 × zH)} (h0 : f_X10_days i0 x1 S = some out) : zct G M_X10_days 66 0 0 [vR 40 (some i0), vI x1] S (zpo (some (vI out.1)) out.2) := by
  refine zct_of (by decide) (Nat.le_of_ble_eq_true rfl) ?_
  show zn G M_X10_days 66 0 0 0 [(0, vR 40 (some i0)), (1, vI x1)] [] S _
  have hp : zpo (some (vI out.1)) out.2 (some (vI out.1)) out.2 := ⟨rfl, rfl⟩
  unfold f_X10_days at h0
  refine zn_iload_n (pc := 0) 1 dX10_days_0 rfl rfl ?_
  refine zn_iconst (pc := 1) (x := 1) dX10_days_1 (by decide) ?_
  have h12 := h0; clear h0
  refine zn_icmp_ge (pc := 2) (tgt := 12) dX10_days_2 (by decide) (fun c11 => ?_) (fun c11 => ?_)
  · replace h12 := zif_t c11 h12
    refine zn_iload_n (pc := 12) 1 dX10_days_12 rfl rfl ?_
    refine zn_sipush (pc := 13) (x := 1500) dX10_days_13 (by decide) ?_
    refine zn_aload_n (pc := 16) 0 dX10_days_16 rfl rfl ?_
    refine zn_getI (pc := 17) fa_X10_177_40.1 fa_X10_177_40.2 dX10_days_17 ?_
    refine zn_isub (pc := 20) dX10_days_20 ?_
    have h14 := h12; clear h12
    refine zn_icmp_le (pc := 21) (tgt := 31) dX10_days_21 (by decide) (fun c13 => ?_) (fun c13 => ?_)
    · replace h14 := zif_t c13 h14
      refine zn_iconst (pc := 31) (x := 0) dX10_days_31 (by decide) ?_
      refine zn_istore_n (pc := 32) (ls' := [(2, vI 0), (0, vR 40 (some i0)), (1, vI x1)]) dX10_days_32 rfl (Nat.le_of_ble_eq_true rfl) rfl ?_
      refine zn_pick [1, 2, 0] rfl ?_
      exact b_X10_days_33  fu _ _ _ _ _ h14 hp
    · replace h14 := zif_f c13 h14
      refine zn_aload_n (pc := 24) 0 dX10_days_24 rfl rfl ?_
      refine zn_bipush (pc := 25) (x := (-6)) dX10_days_25 (by decide) ?_
      obtain ⟨o15, e16, h17⟩ := zbd h14; clear h14
      refine zn_cVv (pc := 27) (kc := 0) (ks := 0) (kc' := 0) (ks' := 0) (As := [vI (-6)]) (st := []) dX10_days_27 cs_X10_163 pc_40 rfl rfl (Nat.le_of_ble_eq_true rfl) ((c_X10_refuse e16).mono (Nat.le_of_ble_eq_true rfl)) ?_
      have hz := Option.some.inj h17; clear h17; subst hz
      exact zn_ireturn (pc := 30) dX10_days_30 rfl hp
  · replace h12 := zif_f c11 h12
    refine zn_aload_n (pc := 5) 0 dX10_days_5 rfl rfl ?_
    refine zn_bipush (pc := 6) (x := (-4)) dX10_days_6 (by decide) ?_
    obtain ⟨o18, e19, h20⟩ := zbd h12; clear h12
    refine zn_cVv (pc := 8) (kc := 0) (ks := 0) (kc' := 0) (ks' := 0) (As := [vI (-4)]) (st := []) dX10_days_8 cs_X10_163 pc_40 rfl rfl (Nat.le_of_ble_eq_true rfl) ((c_X10_refuse e19).mono (Nat.le_of_ble_eq_true rfl)) ?_
    have hz := Option.some.inj h20; clear h20; subst hz
    exact zn_ireturn (pc := 11) dX10_days_11 rfl hp
theorem b_X10_holiday_65 {G : zG} {Post : Option zV → zH → Prop} {i0 : Nat} {x1 : Int32} {x2 : Int32} {S : zH} {out : (Int32 × zH)} (h0 : f_X10_holiday_65 i0 x1 x2 S = some out) (hp : Post (some (vI out.1)) out.2) : zn G M_X10_holiday 1 0 0 65 [(0, vR 40 (some i0)), (1, vI x1), (2, vI x2)] [] S Post := by
  unfold f_X10_holiday_65 at h0
  refine zn_iload_n (pc := 65) 2 dX10_holiday_65 rfl rfl ?_
  have h2 := h0; clear h0
  refine zn_if_eq (pc := 66) (tgt := 75) dX10_holiday_66 (by decide) (fun c1 => ?_) (fun c1 => ?_)
  · replace h2 := zif_t c1 h2
    refine zn_aload_n (pc := 75) 0 dX10_holiday_75 rfl rfl ?_
    refine zn_getR (pc := 76) fa_X10_13_40.1 fa_X10_13_40.2 dX10_holiday_76 ?_
    refine zn_aload_n (pc := 79) 0 dX10_holiday_79 rfl rfl ?_
    refine zn_getI (pc := 80) fa_X10_174_40.1 fa_X10_174_40.2 dX10_holiday_80 ?_
    refine zn_iload_n (pc := 83) 1 dX10_holiday_83 rfl rfl ?_
    obtain ⟨i3, hi4, h5⟩ := zbd h2; clear h2
    rw [hi4]
    obtain ⟨hb6, h7⟩ := zgdd h5; clear h5
    obtain ⟨S8, hS9, h10⟩ := zltd h7; clear h7
    refine zn_iastore (pc := 84) zk_101 dX10_holiday_84 (zib_in hb6) hS9 ?_
    refine zn_aload_n (pc := 85) 0 dX10_holiday_85 rfl rfl ?_
    refine zn_dup (pc := 86) dX10_holiday_86 rfl ?_
    refine zn_getI (pc := 87) fa_X10_174_40.1 fa_X10_174_40.2 dX10_holiday_87 ?_
    refine zn_iconst (pc := 90) (x := 1) dX10_holiday_90 (by decide) ?_
    refine zn_iadd (pc := 91) dX10_holiday_91 ?_
    obtain ⟨S11, hS12, h13⟩ := zltd h10; clear h10
    refine zn_putI (pc := 92) fp_X10_174_40.1 (fp_X10_174_40 (nm := "")).2 dX10_holiday_92 hS12 ?_
    refine zn_aload_n (pc := 95) 0 dX10_holiday_95 rfl rfl ?_
    refine zn_getI (pc := 96) fa_X10_174_40.1 fa_X10_174_40.2 dX10_holiday_96 ?_
    have hz := Option.some.inj h13; clear h13; subst hz
    exact zn_ireturn (pc := 99) dX10_holiday_99 rfl hp
  · replace h2 := zif_f c1 h2
    refine zn_aload_n (pc := 69) 0 dX10_holiday_69 rfl rfl ?_
    refine zn_iload_n (pc := 70) 2 dX10_holiday_70 rfl rfl ?_
    obtain ⟨o14, e15, h16⟩ := zbd h2; clear h2
    refine zn_cVv (pc := 71) (kc := 0) (ks := 0) (kc' := 0) (ks' := 0) (As := [vI x2]) (st := []) dX10_holiday_71 cs_X10_163 pc_40 rfl rfl (Nat.le_of_ble_eq_true rfl) ((c_X10_refuse e15).mono (Nat.le_of_ble_eq_true rfl)) ?_
    have hz := Option.some.inj h16; clear h16; subst hz
    exact zn_ireturn (pc := 74) dX10_holiday_74 rfl hp
theorem b_X10_holiday_30 {G : zG} {Post : Option zV → zH → Prop} : ∀ (n : Nat) (i0 : Nat) (x1 : Int32) (x2 : Int32) (x3 : Int32) (S : zH) (out : (Int32 × zH)), f_X10_holiday_30 n i0 x1 x2 x3 S = some out → Post (some (vI out.1)) out.2 → zn G M_X10_holiday 1 0 0 30 [(0, vR 40 (some i0)), (1, vI x1), (2, vI x2), (3, vI x3)] [] S Post := by
  intro n
  induction n with
  | zero => intro i0 x1 x2 x3 S out h0 hp; exact (nomatch (show (none : Option _) = some out from h0))
  | succ n ih =>
    intro i0 x1 x2 x3 S out h0 hp
    rw [f_X10_holiday_30] at h0
    refine zn_iload_n (pc := 30) 3 dX10_holiday_30 rfl rfl ?_
    refine zn_aload_n (pc := 31) 0 dX10_holiday_31 rfl rfl ?_
    refine zn_getI (pc := 32) fa_X10_174_40.1 fa_X10_174_40.2 dX10_holiday_32 ?_
    have h2 := h0; clear h0
    refine zn_icmp_ge (pc := 35) (tgt := 65) dX10_holiday_35 (by decide) (fun c1 => ?_) (fun c1 => ?_)
    · replace h2 := zif_t c1 h2
      refine zn_pick [0, 1, 2] rfl ?_
      exact b_X10_holiday_65  h2 hp
    · replace h2 := zif_f c1 h2
      refine zn_iload_n (pc := 38) 2 dX10_holiday_38 rfl rfl ?_
      have h4 := h2; clear h2
      refine zn_if_ne (pc := 39) (tgt := 65) dX10_holiday_39 (by decide) (fun c3 => ?_) (fun c3 => ?_)
      · replace h4 := zif_f c3 h4
        refine zn_pick [0, 1, 2] rfl ?_
        exact b_X10_holiday_65  h4 hp
      · replace h4 := zif_t c3 h4
        refine zn_aload_n (pc := 42) 0 dX10_holiday_42 rfl rfl ?_
        refine zn_getR (pc := 43) fa_X10_13_40.1 fa_X10_13_40.2 dX10_holiday_43 ?_
        refine zn_iload_n (pc := 46) 3 dX10_holiday_46 rfl rfl ?_
        obtain ⟨i5, hi6, h7⟩ := zbd h4; clear h4
        rw [hi6]
        obtain ⟨hb8, h9⟩ := zgdd h7; clear h7
        refine zn_iaload (pc := 47) zk_101 dX10_holiday_47 (zib_in hb8) ?_
        refine zn_iload_n (pc := 48) 1 dX10_holiday_48 rfl rfl ?_
        have h11 := h9; clear h9
        refine zn_icmp_ne (pc := 49) (tgt := 57) dX10_holiday_49 (by decide) (fun c10 => ?_) (fun c10 => ?_)
        · replace h11 := zif_f c10 h11
          refine zn_iconst (pc := 57) (x := 0) dX10_holiday_57 (by decide) ?_
          refine zn_istore_n (pc := 58) (ls' := [(2, vI 0), (0, vR 40 (some i0)), (1, vI x1), (3, vI x3)]) dX10_holiday_58 rfl (Nat.le_of_ble_eq_true rfl) rfl ?_
          refine zn_iinc (pc := 59) 3 (y := x3 + 1) (ls' := [(3, vI (x3 + 1)), (2, vI 0), (0, vR 40 (some i0)), (1, vI x1)]) dX10_holiday_59 rfl rfl (Nat.le_of_ble_eq_true rfl) rfl ?_
          refine zn_goto (pc := 62) (tgt := 30) dX10_holiday_62 (by decide) ?_
          refine zn_pick [2, 3, 1, 0] rfl ?_
          exact ih _ _ _ _ _ _ h11 hp
        · replace h11 := zif_t c10 h11
          refine zn_bipush (pc := 52) (x := (-3)) dX10_holiday_52 (by decide) ?_
          refine zn_goto (pc := 54) (tgt := 58) dX10_holiday_54 (by decide) ?_
          refine zn_istore_n (pc := 58) (ls' := [(2, vI (-3)), (0, vR 40 (some i0)), (1, vI x1), (3, vI x3)]) dX10_holiday_58 rfl (Nat.le_of_ble_eq_true rfl) rfl ?_
          refine zn_iinc (pc := 59) 3 (y := x3 + 1) (ls' := [(3, vI (x3 + 1)), (2, vI (-3)), (0, vR 40 (some i0)), (1, vI x1)]) dX10_holiday_59 rfl rfl (Nat.le_of_ble_eq_true rfl) rfl ?_
          refine zn_goto (pc := 62) (tgt := 30) dX10_holiday_62 (by decide) ?_
          refine zn_pick [2, 3, 1, 0] rfl ?_
          exact ih _ _ _ _ _ _ h11 hp
theorem c_X10_holiday {G : zG} {i0 : Nat} {x1 : Int32} {S : zH} {out : (Int32 × zH)} (h0 : f_X10_holiday i0 x1 S = some out) : zct G M_X10_holiday 1 0 0 [vR 40 (some i0), vI x1] S (zpo (some (vI out.1)) out.2) := by
  refine zct_of (by decide) (Nat.le_of_ble_eq_true rfl) ?_
  show zn G M_X10_holiday 1 0 0 0 [(0, vR 40 (some i0)), (1, vI x1)] [] S _
  have hp : zpo (some (vI out.1)) out.2 (some (vI out.1)) out.2 := ⟨rfl, rfl⟩
  unfold f_X10_holiday at h0
  refine zn_iload_n (pc := 0) 1 dX10_holiday_0 rfl rfl ?_
  refine zn_aload_n (pc := 1) 0 dX10_holiday_1 rfl rfl ?_
  refine zn_getI (pc := 2) fa_X10_177_40.1 fa_X10_177_40.2 dX10_holiday_2 ?_
  refine zn_sipush (pc := 5) (x := 1500) dX10_holiday_5 (by decide) ?_
  obtain ⟨o12, e13, h14⟩ := zbd h0; clear h0
  refine zn_cSv (pc := 8) (kc := 0) (ks := 0) (kc' := 0) (ks' := 0) (As := [vI x1, vI (zI S 40 i0 46), vI 1500]) (st := []) dX10_holiday_8 cs_X10_187 rfl rfl (Nat.le_of_ble_eq_true rfl) ((c_X10_within e13).mono (Nat.le_of_ble_eq_true rfl)) ?_
  refine zn_istore_n (pc := 11) (ls' := [(2, vI o12), (0, vR 40 (some i0)), (1, vI x1)]) dX10_holiday_11 rfl (Nat.le_of_ble_eq_true rfl) rfl ?_
  refine zn_iload_n (pc := 12) 0 dX10_holiday_12 rfl rfl ?_
  have h16 := h14; clear h14
  refine zn_if_ne (pc := 13) (tgt := 28) dX10_holiday_13 (by decide) (fun c15 => ?_) (fun c15 => ?_)
  · replace h16 := zif_f c15 h16
    refine zn_iconst (pc := 28) (x := 0) dX10_holiday_28 (by decide) ?_
    refine zn_istore_n (pc := 29) (ls' := [(3, vI 0), (2, vI o12), (0, vR 40 (some i0)), (1, vI x1)]) dX10_holiday_29 rfl (Nat.le_of_ble_eq_true rfl) rfl ?_
    refine zn_pick [2, 3, 1, 0] rfl ?_
    exact b_X10_holiday_30  fu _ _ _ _ _ _ h16 hp
  · replace h16 := zif_t c15 h16
    refine zn_aload_n (pc := 16) 1 dX10_holiday_16 rfl rfl ?_
    refine zn_getI (pc := 17) fa_X10_174_40.1 fa_X10_174_40.2 dX10_holiday_17 ?_
    refine zn_bipush (pc := 20) (x := 20) dX10_holiday_20 (by decide) ?_
    have h18 := h16; clear h16
    refine zn_icmp_ne (pc := 22) (tgt := 28) dX10_holiday_22 (by decide) (fun c17 => ?_) (fun c17 => ?_)
    · replace h18 := zif_f c17 h18
      refine zn_iconst (pc := 28) (x := 0) dX10_holiday_28 (by decide) ?_
      refine zn_istore_n (pc := 29) (ls' := [(3, vI 0), (2, vI o12), (0, vR 40 (some i0)), (1, vI x1)]) dX10_holiday_29 rfl (Nat.le_of_ble_eq_true rfl) rfl ?_
      refine zn_pick [2, 3, 1, 0] rfl ?_
      exact b_X10_holiday_30  fu _ _ _ _ _ _ h18 hp
    · replace h18 := zif_t c17 h18
      refine zn_bipush (pc := 25) (x := (-6)) dX10_holiday_25 (by decide) ?_
      refine zn_istore_n (pc := 27) (ls' := [(2, vI (-6)), (0, vR 40 (some i0)), (1, vI x1)]) dX10_holiday_27 rfl (Nat.le_of_ble_eq_true rfl) rfl ?_
      refine zn_iconst (pc := 28) (x := 0) dX10_holiday_28 (by decide) ?_
      refine zn_istore_n (pc := 29) (ls' := [(3, vI 0), (2, vI (-6)), (0, vR 40 (some i0)), (1, vI x1)]) dX10_holiday_29 rfl (Nat.le_of_ble_eq_true rfl) rfl ?_
      refine zn_pick [2, 3, 1, 0] rfl ?_
      exact b_X10_holiday_30  fu _ _ _ _ _ _ h18 hp
theorem c_X10_isWorking {G : zG} {i0 : Nat} {x1 : Int32} {S : zH} {out : (Int32 × zH)} (h0 : f_X10_isWorking i0 x1 S = some out) : zct G M_X10_isWorking 1 0 0 [vR 40 (some i0), vI x1] S (zpo (some (vI out.1)) out.2) := by
  refine zct_of (by decide) (Nat.le_of_ble_eq_true rfl) ?_
  show zn G M_X10_isWorking 1 0 0 0 [(0, vR 40 (some i0)), (1, vI x1)] [] S _
  have hp : zpo (some (vI out.1)) out.2 (some (vI out.1)) out.2 := ⟨rfl, rfl⟩
  unfold f_X10_isWorking at h0
  refine zn_iload_n (pc := 0) 1 dX10_isWorking_0 rfl rfl ?_
  refine zn_iconst (pc := 1) (x := 0) dX10_isWorking_1 (by decide) ?_
  refine zn_sipush (pc := 2) (x := 1500) dX10_isWorking_2 (by decide) ?_
  obtain ⟨o1, e2, h3⟩ := zbd h0; clear h0
  refine zn_cSv (pc := 5) (kc := 0) (ks := 0) (kc' := 0) (ks' := 0) (As := [vI x1, vI 0, vI 1500]) (st := []) dX10_isWorking_5 cs_X10_187 rfl rfl (Nat.le_of_ble_eq_true rfl) ((c_X10_within e2).mono (Nat.le_of_ble_eq_true rfl)) ?_
  refine zn_istore_n (pc := 8) (ls' := [(2, vI o1), (0, vR 40 (some i0)), (1, vI x1)]) dX10_isWorking_8 rfl (Nat.le_of_ble_eq_true rfl) rfl ?_
  refine zn_iload_n (pc := 9) 0 dX10_isWorking_9 rfl rfl ?_
  have h5 := h3; clear h3
  refine zn_if_eq (pc := 10) (tgt := 21) dX10_isWorking_10 (by decide) (fun c4 => ?_) (fun c4 => ?_)
  · replace h5 := zif_t c4 h5
    refine zn_aload_n (pc := 21) 1 dX10_isWorking_21 rfl rfl ?_
    refine zn_iload_n (pc := 22) 2 dX10_isWorking_22 rfl rfl ?_
    obtain ⟨o6, e7, h8⟩ := zbd h5; clear h5
    refine zn_cVv (pc := 23) (kc := 0) (ks := 0) (kc' := 0) (ks' := 0) (As := [vI x1]) (st := []) dX10_isWorking_23 cs_X10_180 pc_40 rfl rfl (Nat.le_of_ble_eq_true rfl) ((c_X10_works e7).mono (Nat.le_of_ble_eq_true rfl)) ?_
    have h10 := h8; clear h8
    refine zn_if_eq (pc := 26) (tgt := 33) dX10_isWorking_26 (by decide) (fun c9 => ?_) (fun c9 => ?_)
    · replace h10 := zif_t c9 h10
      refine zn_iconst (pc := 33) (x := 0) dX10_isWorking_33 (by decide) ?_
      have hz := Option.some.inj h10; clear h10; subst hz
      exact zn_ireturn (pc := 34) dX10_isWorking_34 rfl hp
    · replace h10 := zif_f c9 h10
      refine zn_iconst (pc := 29) (x := 1) dX10_isWorking_29 (by decide) ?_
      refine zn_goto (pc := 30) (tgt := 34) dX10_isWorking_30 (by decide) ?_
      have hz := Option.some.inj h10; clear h10; subst hz
      exact zn_ireturn (pc := 34) dX10_isWorking_34 rfl hp
  · replace h5 := zif_f c4 h5
    refine zn_aload_n (pc := 13) 1 dX10_isWorking_13 rfl rfl ?_
    refine zn_iload_n (pc := 14) 0 dX10_isWorking_14 rfl rfl ?_
    obtain ⟨o11, e12, h13⟩ := zbd h5; clear h5
    refine zn_cVv (pc := 15) (kc := 0) (ks := 0) (kc' := 0) (ks' := 0) (As := [vI o1]) (st := []) dX10_isWorking_15 cs_X10_163 pc_40 rfl rfl (Nat.le_of_ble_eq_true rfl) ((c_X10_refuse e12).mono (Nat.le_of_ble_eq_true rfl)) ?_
    refine zn_goto (pc := 18) (tgt := 34) dX10_isWorking_18 (by decide) ?_
    have hz := Option.some.inj h13; clear h13; subst hz
    exact zn_ireturn (pc := 34) dX10_isWorking_34 rfl hp
theorem b_X10_bank_78 {G : zG} {Post : Option zV → zH → Prop} {i0 : Nat} {x1 : Int32} {x2 : Int32} {x3 : Int32} {xs0 : Int32} {S : zH} {out : (Int32 × zH)} (h0 : f_X10_bank_78 i0 x1 x2 x3 xs0 S = some out) (hp : Post (some (vI out.1)) out.2) : zn G M_X10_bank 2 0 0 78 [(0, vR 40 (some i0)), (1, vI x1), (2, vI x2), (3, vI x3)] [vI xs0] S Post := by
  unfold f_X10_bank_78 at h0
  refine zn_istore (pc := 78) (ls' := [(5, vI xs0), (0, vR 40 (some i0)), (1, vI x1), (2, vI x2), (3, vI x3)]) dX10_bank_78 (Nat.le_of_ble_eq_true rfl) rfl ?_
  refine zn_iload_n (pc := 80) 3 dX10_bank_80 rfl rfl ?_
  have h2 := h0; clear h0
  refine zn_if_ne (pc := 81) (tgt := 94) dX10_bank_81 (by decide) (fun c1 => ?_) (fun c1 => ?_)
  · replace h2 := zif_f c1 h2
    refine zn_aload_n (pc := 94) 1 dX10_bank_94 rfl rfl ?_
    refine zn_getR (pc := 95) fa_X10_25_40.1 fa_X10_25_40.2 dX10_bank_95 ?_
    refine zn_iload_n (pc := 98) 2 dX10_bank_98 rfl rfl ?_
    refine zn_iload_n (pc := 99) 4 dX10_bank_99 rfl rfl ?_
    obtain ⟨i3, hi4, h5⟩ := zbd h2; clear h2
    rw [hi4]
    obtain ⟨hb6, h7⟩ := zgdd h5; clear h5
    obtain ⟨S8, hS9, h10⟩ := zltd h7; clear h7
    refine zn_iastore (pc := 100) zk_105 dX10_bank_100 (zib_in hb6) hS9 ?_
    refine zn_iload (pc := 101) 0 dX10_bank_101 rfl ?_
    have hz := Option.some.inj h10; clear h10; subst hz
    exact zn_ireturn (pc := 103) dX10_bank_103 rfl hp
  · replace h2 := zif_t c1 h2
    refine zn_aload_n (pc := 84) 1 dX10_bank_84 rfl rfl ?_
    refine zn_getR (pc := 85) fa_X10_22_40.1 fa_X10_22_40.2 dX10_bank_85 ?_
    refine zn_iload_n (pc := 88) 2 dX10_bank_88 rfl rfl ?_
    refine zn_iload_n (pc := 89) 4 dX10_bank_89 rfl rfl ?_
    obtain ⟨i11, hi12, h13⟩ := zbd h2; clear h2
    rw [hi12]
    obtain ⟨hb14, h15⟩ := zgdd h13; clear h13
    obtain ⟨S16, hS17, h18⟩ := zltd h15; clear h15
    refine zn_iastore (pc := 90) zk_104 dX10_bank_90 (zib_in hb14) hS17 ?_
    refine zn_goto (pc := 91) (tgt := 101) dX10_bank_91 (by decide) ?_
    refine zn_iload (pc := 101) 0 dX10_bank_101 rfl ?_
    have hz := Option.some.inj h18; clear h18; subst hz
    exact zn_ireturn (pc := 103) dX10_bank_103 rfl hp
theorem b_X10_bank_42 {G : zG} {Post : Option zV → zH → Prop} {i0 : Nat} {x1 : Int32} {x2 : Int32} {x3 : Int32} {xs0 : Int32} {xs1 : Int32} {xs2 : Int32} {S : zH} {out : (Int32 × zH)} (h0 : f_X10_bank_42 i0 x1 x2 x3 xs0 xs1 xs2 S = some out) (hp : Post (some (vI out.1)) out.2) : zn G M_X10_bank 2 0 0 42 [(0, vR 40 (some i0)), (1, vI x1), (2, vI x2), (3, vI x3)] [vI xs0, vI xs1, vI xs2] S Post := by
  unfold f_X10_bank_42 at h0
  obtain ⟨o1, e2, h3⟩ := zbd h0; clear h0
  refine zn_cSv (pc := 42) (kc := 0) (ks := 0) (kc' := 0) (ks' := 0) (As := [vI xs2, vI xs1, vI xs0]) (st := []) dX10_bank_42 cs_X10_187 rfl rfl (Nat.le_of_ble_eq_true rfl) ((c_X10_within e2).mono (Nat.le_of_ble_eq_true rfl)) ?_
  refine zn_istore (pc := 45) (ls' := [(4, vI o1), (0, vR 40 (some i0)), (1, vI x1), (2, vI x2), (3, vI x3)]) dX10_bank_45 (Nat.le_of_ble_eq_true rfl) rfl ?_
  refine zn_iload (pc := 47) 0 dX10_bank_47 rfl ?_
  have h5 := h3; clear h3
  refine zn_if_eq (pc := 49) (tgt := 59) dX10_bank_49 (by decide) (fun c4 => ?_) (fun c4 => ?_)
  · replace h5 := zif_t c4 h5
    refine zn_iload_n (pc := 59) 3 dX10_bank_59 rfl rfl ?_
    have h7 := h5; clear h5
    refine zn_if_ne (pc := 60) (tgt := 72) dX10_bank_60 (by decide) (fun c6 => ?_) (fun c6 => ?_)
    · replace h7 := zif_f c6 h7
      refine zn_aload_n (pc := 72) 1 dX10_bank_72 rfl rfl ?_
      refine zn_getR (pc := 73) fa_X10_25_40.1 fa_X10_25_40.2 dX10_bank_73 ?_
      refine zn_iload_n (pc := 76) 2 dX10_bank_76 rfl rfl ?_
      obtain ⟨i8, hi9, h10⟩ := zbd h7; clear h7
      rw [hi9]
      obtain ⟨hb11, h12⟩ := zgdd h10; clear h10
      refine zn_iaload (pc := 77) zk_105 dX10_bank_77 (zib_in hb11) ?_
      refine zn_pick [1, 2, 3, 4] rfl ?_
      exact b_X10_bank_78  h12 hp
    · replace h7 := zif_t c6 h7
      refine zn_aload_n (pc := 63) 1 dX10_bank_63 rfl rfl ?_
      refine zn_getR (pc := 64) fa_X10_22_40.1 fa_X10_22_40.2 dX10_bank_64 ?_
      refine zn_iload_n (pc := 67) 2 dX10_bank_67 rfl rfl ?_
      obtain ⟨i13, hi14, h15⟩ := zbd h7; clear h7
      rw [hi14]
      obtain ⟨hb16, h17⟩ := zgdd h15; clear h15
      refine zn_iaload (pc := 68) zk_104 dX10_bank_68 (zib_in hb16) ?_
      refine zn_goto (pc := 69) (tgt := 78) dX10_bank_69 (by decide) ?_
      refine zn_pick [1, 2, 3, 4] rfl ?_
      exact b_X10_bank_78  h17 hp
  · replace h5 := zif_f c4 h5
    refine zn_aload_n (pc := 52) 1 dX10_bank_52 rfl rfl ?_
    refine zn_iload (pc := 53) 0 dX10_bank_53 rfl ?_
    obtain ⟨o18, e19, h20⟩ := zbd h5; clear h5
    refine zn_cVv (pc := 55) (kc := 0) (ks := 0) (kc' := 0) (ks' := 0) (As := [vI o1]) (st := []) dX10_bank_55 cs_X10_163 pc_40 rfl rfl (Nat.le_of_ble_eq_true rfl) ((c_X10_refuse e19).mono (Nat.le_of_ble_eq_true rfl)) ?_
    have hz := Option.some.inj h20; clear h20; subst hz
    exact zn_ireturn (pc := 58) dX10_bank_58 rfl hp
theorem c_X10_bank {G : zG} {i0 : Nat} {x1 : Int32} {x2 : Int32} {x3 : Int32} {S : zH} {out : (Int32 × zH)} (h0 : f_X10_bank i0 x1 x2 x3 S = some out) : zct G M_X10_bank 2 0 0 [vR 40 (some i0), vI x1, vI x2, vI x3] S (zpo (some (vI out.1)) out.2) := by
  refine zct_of (by decide) (Nat.le_of_ble_eq_true rfl) ?_
  show zn G M_X10_bank 2 0 0 0 [(0, vR 40 (some i0)), (1, vI x1), (2, vI x2), (3, vI x3)] [] S _
  have hp : zpo (some (vI out.1)) out.2 (some (vI out.1)) out.2 := ⟨rfl, rfl⟩
  unfold f_X10_bank at h0
  refine zn_iload_n (pc := 0) 1 dX10_bank_0 rfl rfl ?_
  obtain ⟨o21, e22, h23⟩ := zbd h0; clear h0
  refine zn_cSv (pc := 1) (kc := 0) (ks := 0) (kc' := 0) (ks' := 0) (As := [vI x1]) (st := []) dX10_bank_1 cs_X10_191 rfl rfl (Nat.le_of_ble_eq_true rfl) ((c_X10_isBank e22).mono (Nat.le_of_ble_eq_true rfl)) ?_
  have h25 := h23; clear h23
  refine zn_if_ne (pc := 4) (tgt := 13) dX10_bank_4 (by decide) (fun c24 => ?_) (fun c24 => ?_)
  · replace h25 := zif_f c24 h25
    refine zn_iload_n (pc := 13) 2 dX10_bank_13 rfl rfl ?_
    refine zn_iconst (pc := 14) (x := 2) dX10_bank_14 (by decide) ?_
    obtain ⟨o26, e27, h28⟩ := zbd h25; clear h25
    refine zn_cSv (pc := 15) (kc := 0) (ks := 0) (kc' := 0) (ks' := 0) (As := [vI x2, vI 2]) (st := []) dX10_bank_15 cs_X10_167 rfl rfl (Nat.le_of_ble_eq_true rfl) ((c_X10_isIn e27).mono (Nat.le_of_ble_eq_true rfl)) ?_
    have h30 := h28; clear h28
    refine zn_if_ne (pc := 18) (tgt := 28) dX10_bank_18 (by decide) (fun c29 => ?_) (fun c29 => ?_)
    · replace h30 := zif_f c29 h30
      refine zn_iload_n (pc := 28) 3 dX10_bank_28 rfl rfl ?_
      refine zn_iconst (pc := 29) (x := 0) dX10_bank_29 (by decide) ?_
      refine zn_iload_n (pc := 30) 2 dX10_bank_30 rfl rfl ?_
      have h32 := h30; clear h30
      refine zn_if_ne (pc := 31) (tgt := 40) dX10_bank_31 (by decide) (fun c31 => ?_) (fun c31 => ?_)
      · replace h32 := zif_f c31 h32
        refine zn_bipush (pc := 40) (x := 99) dX10_bank_40 (by decide) ?_
        exact b_X10_bank_42  h32 hp
      · replace h32 := zif_t c31 h32
        refine zn_sipush (pc := 34) (x := 999) dX10_bank_34 (by decide) ?_
        refine zn_goto (pc := 37) (tgt := 42) dX10_bank_37 (by decide) ?_
        exact b_X10_bank_42  h32 hp
    · replace h30 := zif_t c29 h30
      refine zn_aload_n (pc := 21) 0 dX10_bank_21 rfl rfl ?_
      refine zn_bipush (pc := 22) (x := (-2)) dX10_bank_22 (by decide) ?_
      obtain ⟨o33, e34, h35⟩ := zbd h30; clear h30
      refine zn_cVv (pc := 24) (kc := 0) (ks := 0) (kc' := 0) (ks' := 0) (As := [vI (-2)]) (st := []) dX10_bank_24 cs_X10_163 pc_40 rfl rfl (Nat.le_of_ble_eq_true rfl) ((c_X10_refuse e34).mono (Nat.le_of_ble_eq_true rfl)) ?_
      have hz := Option.some.inj h35; clear h35; subst hz
      exact zn_ireturn (pc := 27) dX10_bank_27 rfl hp
  · replace h25 := zif_t c24 h25
    refine zn_aload_n (pc := 7) 0 dX10_bank_7 rfl rfl ?_
    refine zn_iconst (pc := 8) (x := (-1)) dX10_bank_8 (by decide) ?_
    obtain ⟨o36, e37, h38⟩ := zbd h25; clear h25
    refine zn_cVv (pc := 9) (kc := 0) (ks := 0) (kc' := 0) (ks' := 0) (As := [vI (-1)]) (st := []) dX10_bank_9 cs_X10_163 pc_40 rfl rfl (Nat.le_of_ble_eq_true rfl) ((c_X10_refuse e37).mono (Nat.le_of_ble_eq_true rfl)) ?_
    have hz := Option.some.inj h38; clear h38; subst hz
    exact zn_ireturn (pc := 12) dX10_bank_12 rfl hp
theorem b_X10_late_57 {G : zG} {Post : Option zV → zH → Prop} {i0 : Nat} {x1 : Int32} {x2 : Int32} {x3 : Int32} {S : zH} {out : (Int32 × zH)} (h0 : f_X10_late_57 i0 x1 x2 x3 S = some out) (hp : Post (some (vI out.1)) out.2) : zn G M_X10_late 2 0 0 57 [(0, vR 40 (some i0)), (1, vI x1), (2, vI x2), (3, vI x3)] [] S Post := by
  unfold f_X10_late_57 at h0
  refine zn_iload_n (pc := 57) 3 dX10_late_57 rfl rfl ?_
  have h2 := h0; clear h0
  refine zn_if_eq (pc := 58) (tgt := 67) dX10_late_58 (by decide) (fun c1 => ?_) (fun c1 => ?_)
  · replace h2 := zif_t c1 h2
    refine zn_aload_n (pc := 67) 0 dX10_late_67 rfl rfl ?_
    refine zn_getR (pc := 68) fa_X10_16_40.1 fa_X10_16_40.2 dX10_late_68 ?_
    refine zn_aload_n (pc := 71) 0 dX10_late_71 rfl rfl ?_
    refine zn_getI (pc := 72) fa_X10_194_40.1 fa_X10_194_40.2 dX10_late_72 ?_
    refine zn_iload_n (pc := 75) 1 dX10_late_75 rfl rfl ?_
    obtain ⟨i3, hi4, h5⟩ := zbd h2; clear h2
    rw [hi4]
    obtain ⟨hb6, h7⟩ := zgdd h5; clear h5
    obtain ⟨S8, hS9, h10⟩ := zltd h7; clear h7
    refine zn_iastore (pc := 76) zk_102 dX10_late_76 (zib_in hb6) hS9 ?_
    refine zn_aload_n (pc := 77) 0 dX10_late_77 rfl rfl ?_
    refine zn_getR (pc := 78) fa_X10_19_40.1 fa_X10_19_40.2 dX10_late_78 ?_
    refine zn_aload_n (pc := 81) 0 dX10_late_81 rfl rfl ?_
    refine zn_getI (pc := 82) fa_X10_194_40.1 fa_X10_194_40.2 dX10_late_82 ?_
    refine zn_iload_n (pc := 85) 2 dX10_late_85 rfl rfl ?_
    obtain ⟨i11, hi12, h13⟩ := zbd h10; clear h10
    rw [hi12]
    obtain ⟨hb14, h15⟩ := zgdd h13; clear h13
    obtain ⟨S16, hS17, h18⟩ := zltd h15; clear h15
    refine zn_iastore (pc := 86) zk_103 dX10_late_86 (zib_in hb14) hS17 ?_
    refine zn_aload_n (pc := 87) 0 dX10_late_87 rfl rfl ?_
    refine zn_dup (pc := 88) dX10_late_88 rfl ?_
    refine zn_getI (pc := 89) fa_X10_194_40.1 fa_X10_194_40.2 dX10_late_89 ?_
    refine zn_iconst (pc := 92) (x := 1) dX10_late_92 (by decide) ?_
    refine zn_iadd (pc := 93) dX10_late_93 ?_
    obtain ⟨S19, hS20, h21⟩ := zltd h18; clear h18
    refine zn_putI (pc := 94) fp_X10_194_40.1 (fp_X10_194_40 (nm := "")).2 dX10_late_94 hS20 ?_
    refine zn_aload_n (pc := 97) 0 dX10_late_97 rfl rfl ?_
    refine zn_getI (pc := 98) fa_X10_194_40.1 fa_X10_194_40.2 dX10_late_98 ?_
    have hz := Option.some.inj h21; clear h21; subst hz
    exact zn_ireturn (pc := 101) dX10_late_101 rfl hp
  · replace h2 := zif_f c1 h2
    refine zn_aload_n (pc := 61) 0 dX10_late_61 rfl rfl ?_
    refine zn_iload_n (pc := 62) 3 dX10_late_62 rfl rfl ?_
    obtain ⟨o22, e23, h24⟩ := zbd h2; clear h2
    refine zn_cVv (pc := 63) (kc := 0) (ks := 0) (kc' := 0) (ks' := 0) (As := [vI x3]) (st := []) dX10_late_63 cs_X10_163 pc_40 rfl rfl (Nat.le_of_ble_eq_true rfl) ((c_X10_refuse e23).mono (Nat.le_of_ble_eq_true rfl)) ?_
    have hz := Option.some.inj h24; clear h24; subst hz
    exact zn_ireturn (pc := 66) dX10_late_66 rfl hp
theorem c_X10_late {G : zG} {i0 : Nat} {x1 : Int32} {x2 : Int32} {S : zH} {out : (Int32 × zH)} (h0 : f_X10_late i0 x1 x2 S = some out) : zct G M_X10_late 2 0 0 [vR 40 (some i0), vI x1, vI x2] S (zpo (some (vI out.1)) out.2) := by
  refine zct_of (by decide) (Nat.le_of_ble_eq_true rfl) ?_
  show zn G M_X10_late 2 0 0 0 [(0, vR 40 (some i0)), (1, vI x1), (2, vI x2)] [] S _
  have hp : zpo (some (vI out.1)) out.2 (some (vI out.1)) out.2 := ⟨rfl, rfl⟩
  unfold f_X10_late at h0
  refine zn_iload_n (pc := 0) 1 dX10_late_0 rfl rfl ?_
  obtain ⟨o25, e26, h27⟩ := zbd h0; clear h0
  refine zn_cSv (pc := 1) (kc := 0) (ks := 0) (kc' := 0) (ks' := 0) (As := [vI x1]) (st := []) dX10_late_1 cs_X10_191 rfl rfl (Nat.le_of_ble_eq_true rfl) ((c_X10_isBank e26).mono (Nat.le_of_ble_eq_true rfl)) ?_
  have h29 := h27; clear h27
  refine zn_if_ne (pc := 4) (tgt := 13) dX10_late_4 (by decide) (fun c28 => ?_) (fun c28 => ?_)
  · replace h29 := zif_f c28 h29
    refine zn_aload_n (pc := 13) 0 dX10_late_13 rfl rfl ?_
    refine zn_iload_n (pc := 14) 1 dX10_late_14 rfl rfl ?_
    refine zn_iload_n (pc := 15) 2 dX10_late_15 rfl rfl ?_
    obtain ⟨o30, e31, h32⟩ := zbd h29; clear h29
    refine zn_cVv (pc := 16) (kc := 0) (ks := 0) (kc' := 0) (ks' := 0) (As := [vI x1, vI x2]) (st := []) dX10_late_16 cs_X10_197 pc_40 rfl rfl (Nat.le_of_ble_eq_true rfl) ((c_X10_isLate e31).mono (Nat.le_of_ble_eq_true rfl)) ?_
    have h34 := h32; clear h32
    refine zn_if_eq (pc := 19) (tgt := 29) dX10_late_19 (by decide) (fun c33 => ?_) (fun c33 => ?_)
    · replace h34 := zif_t c33 h34
      refine zn_iload_n (pc := 29) 2 dX10_late_29 rfl rfl ?_
      refine zn_aload_n (pc := 30) 0 dX10_late_30 rfl rfl ?_
      refine zn_getI (pc := 31) fa_X10_177_40.1 fa_X10_177_40.2 dX10_late_31 ?_
      refine zn_sipush (pc := 34) (x := 1500) dX10_late_34 (by decide) ?_
      obtain ⟨o35, e36, h37⟩ := zbd h34; clear h34
      refine zn_cSv (pc := 37) (kc := 0) (ks := 0) (kc' := 0) (ks' := 0) (As := [vI x2, vI (zI S 40 i0 46), vI 1500]) (st := []) dX10_late_37 cs_X10_187 rfl rfl (Nat.le_of_ble_eq_true rfl) ((c_X10_within e36).mono (Nat.le_of_ble_eq_true rfl)) ?_
      refine zn_istore_n (pc := 40) (ls' := [(3, vI o35), (0, vR 40 (some i0)), (1, vI x1), (2, vI x2)]) dX10_late_40 rfl (Nat.le_of_ble_eq_true rfl) rfl ?_
      refine zn_iload_n (pc := 41) 0 dX10_late_41 rfl rfl ?_
      have h39 := h37; clear h37
      refine zn_if_ne (pc := 42) (tgt := 57) dX10_late_42 (by decide) (fun c38 => ?_) (fun c38 => ?_)
      · replace h39 := zif_f c38 h39
        refine zn_pick [1, 2, 3, 0] rfl ?_
        exact b_X10_late_57  h39 hp
      · replace h39 := zif_t c38 h39
        refine zn_aload_n (pc := 45) 1 dX10_late_45 rfl rfl ?_
        refine zn_getI (pc := 46) fa_X10_194_40.1 fa_X10_194_40.2 dX10_late_46 ?_
        refine zn_bipush (pc := 49) (x := 60) dX10_late_49 (by decide) ?_
        have h41 := h39; clear h39
        refine zn_icmp_ne (pc := 51) (tgt := 57) dX10_late_51 (by decide) (fun c40 => ?_) (fun c40 => ?_)
        · replace h41 := zif_f c40 h41
          refine zn_pick [1, 2, 3, 0] rfl ?_
          exact b_X10_late_57  h41 hp
        · replace h41 := zif_t c40 h41
          refine zn_bipush (pc := 54) (x := (-6)) dX10_late_54 (by decide) ?_
          refine zn_istore_n (pc := 56) (ls' := [(3, vI (-6)), (0, vR 40 (some i0)), (1, vI x1), (2, vI x2)]) dX10_late_56 rfl (Nat.le_of_ble_eq_true rfl) rfl ?_
          refine zn_pick [1, 2, 3, 0] rfl ?_
          exact b_X10_late_57  h41 hp
    · replace h34 := zif_f c33 h34
      refine zn_aload_n (pc := 22) 0 dX10_late_22 rfl rfl ?_
      refine zn_bipush (pc := 23) (x := (-3)) dX10_late_23 (by decide) ?_
      obtain ⟨o42, e43, h44⟩ := zbd h34; clear h34
      refine zn_cVv (pc := 25) (kc := 0) (ks := 0) (kc' := 0) (ks' := 0) (As := [vI (-3)]) (st := []) dX10_late_25 cs_X10_163 pc_40 rfl rfl (Nat.le_of_ble_eq_true rfl) ((c_X10_refuse e43).mono (Nat.le_of_ble_eq_true rfl)) ?_
      have hz := Option.some.inj h44; clear h44; subst hz
      exact zn_ireturn (pc := 28) dX10_late_28 rfl hp
  · replace h29 := zif_t c28 h29
    refine zn_aload_n (pc := 7) 0 dX10_late_7 rfl rfl ?_
    refine zn_iconst (pc := 8) (x := (-1)) dX10_late_8 (by decide) ?_
    obtain ⟨o45, e46, h47⟩ := zbd h29; clear h29
    refine zn_cVv (pc := 9) (kc := 0) (ks := 0) (kc' := 0) (ks' := 0) (As := [vI (-1)]) (st := []) dX10_late_9 cs_X10_163 pc_40 rfl rfl (Nat.le_of_ble_eq_true rfl) ((c_X10_refuse e46).mono (Nat.le_of_ble_eq_true rfl)) ?_
    have hz := Option.some.inj h47; clear h47; subst hz
    exact zn_ireturn (pc := 12) dX10_late_12 rfl hp
theorem c_X10_opens {G : zG} {i0 : Nat} {x1 : Int32} {x2 : Int32} {x3 : Int32} {S : zH} {out : (Int32 × zH)} (h0 : f_X10_opens i0 x1 x2 x3 S = some out) : zct G M_X10_opens 0 0 0 [vR 40 (some i0), vI x1, vI x2, vI x3] S (zpo (some (vI out.1)) out.2) := by
  refine zct_of (by decide) (Nat.le_of_ble_eq_true rfl) ?_
  show zn G M_X10_opens 0 0 0 0 [(0, vR 40 (some i0)), (1, vI x1), (2, vI x2), (3, vI x3)] [] S _
  have hp : zpo (some (vI out.1)) out.2 (some (vI out.1)) out.2 := ⟨rfl, rfl⟩
  unfold f_X10_opens at h0
  refine zn_aload_n (pc := 0) 0 dX10_opens_0 rfl rfl ?_
  refine zn_getI (pc := 1) fa_X10_171_40.1 fa_X10_171_40.2 dX10_opens_1 ?_
  refine zn_istore (pc := 4) (ls' := [(4, vI (zI S 40 i0 49)), (0, vR 40 (some i0)), (1, vI x1), (2, vI x2), (3, vI x3)]) dX10_opens_4 (Nat.le_of_ble_eq_true rfl) rfl ?_
  refine zn_aload_n (pc := 6) 1 dX10_opens_6 rfl rfl ?_
  refine zn_getR (pc := 7) fa_X10_41_40.1 fa_X10_41_40.2 dX10_opens_7 ?_
  refine zn_iload (pc := 10) 0 dX10_opens_10 rfl ?_
  refine zn_iload_n (pc := 12) 2 dX10_opens_12 rfl rfl ?_
  obtain ⟨i1, hi2, h3⟩ := zbd h0; clear h0
  rw [hi2]
  obtain ⟨hb4, h5⟩ := zgdd h3; clear h3
  obtain ⟨S6, hS7, h8⟩ := zltd h5; clear h5
  refine zn_iastore (pc := 13) zk_110 dX10_opens_13 (zib_in hb4) hS7 ?_
  refine zn_aload_n (pc := 14) 1 dX10_opens_14 rfl rfl ?_
  refine zn_getR (pc := 15) fa_X10_44_40.1 fa_X10_44_40.2 dX10_opens_15 ?_
  refine zn_iload (pc := 18) 0 dX10_opens_18 rfl ?_
  refine zn_iload_n (pc := 20) 3 dX10_opens_20 rfl rfl ?_
  obtain ⟨i9, hi10, h11⟩ := zbd h8; clear h8
  rw [hi10]
  obtain ⟨hb12, h13⟩ := zgdd h11; clear h11
  obtain ⟨S14, hS15, h16⟩ := zltd h13; clear h13
  refine zn_iastore (pc := 21) zk_111 dX10_opens_21 (zib_in hb12) hS15 ?_
  refine zn_aload_n (pc := 22) 1 dX10_opens_22 rfl rfl ?_
  refine zn_getR (pc := 23) fa_X10_47_40.1 fa_X10_47_40.2 dX10_opens_23 ?_
  refine zn_iload (pc := 26) 0 dX10_opens_26 rfl ?_
  refine zn_iload_n (pc := 28) 4 dX10_opens_28 rfl rfl ?_
  obtain ⟨i17, hi18, h19⟩ := zbd h16; clear h16
  rw [hi18]
  obtain ⟨hb20, h21⟩ := zgdd h19; clear h19
  obtain ⟨S22, hS23, h24⟩ := zltd h21; clear h21
  refine zn_iastore (pc := 29) zk_112 dX10_opens_29 (zib_in hb20) hS23 ?_
  refine zn_aload_n (pc := 30) 1 dX10_opens_30 rfl rfl ?_
  refine zn_getR (pc := 31) fa_X10_56_40.1 fa_X10_56_40.2 dX10_opens_31 ?_
  refine zn_iload (pc := 34) 0 dX10_opens_34 rfl ?_
  refine zn_bipush (pc := 36) (x := (-9)) dX10_opens_36 (by decide) ?_
  obtain ⟨i25, hi26, h27⟩ := zbd h24; clear h24
  rw [hi26]
  obtain ⟨hb28, h29⟩ := zgdd h27; clear h27
  obtain ⟨S30, hS31, h32⟩ := zltd h29; clear h29
  refine zn_iastore (pc := 38) zk_115 dX10_opens_38 (zib_in hb28) hS31 ?_
  refine zn_aload_n (pc := 39) 1 dX10_opens_39 rfl rfl ?_
  refine zn_getR (pc := 40) fa_X10_59_40.1 fa_X10_59_40.2 dX10_opens_40 ?_
  refine zn_iload (pc := 43) 0 dX10_opens_43 rfl ?_
  refine zn_bipush (pc := 45) (x := (-9)) dX10_opens_45 (by decide) ?_
  obtain ⟨i33, hi34, h35⟩ := zbd h32; clear h32
  rw [hi34]
  obtain ⟨hb36, h37⟩ := zgdd h35; clear h35
  obtain ⟨S38, hS39, h40⟩ := zltd h37; clear h37
  refine zn_iastore (pc := 47) zk_116 dX10_opens_47 (zib_in hb36) hS39 ?_
  refine zn_aload_n (pc := 48) 1 dX10_opens_48 rfl rfl ?_
  refine zn_dup (pc := 49) dX10_opens_49 rfl ?_
  refine zn_getI (pc := 50) fa_X10_171_40.1 fa_X10_171_40.2 dX10_opens_50 ?_
  refine zn_iconst (pc := 53) (x := 1) dX10_opens_53 (by decide) ?_
  refine zn_iadd (pc := 54) dX10_opens_54 ?_
  obtain ⟨S41, hS42, h43⟩ := zltd h40; clear h40
  refine zn_putI (pc := 55) fp_X10_171_40.1 (fp_X10_171_40 (nm := "")).2 dX10_opens_55 hS42 ?_
  refine zn_iload (pc := 58) 0 dX10_opens_58 rfl ?_
  have hz := Option.some.inj h43; clear h43; subst hz
  exact zn_ireturn (pc := 60) dX10_opens_60 rfl hp
theorem b_X10_account_22 {G : zG} {Post : Option zV → zH → Prop} {i0 : Nat} {S : zH} {out : (Int32 × zH)} (h0 : f_X10_account_22 i0 S = some out) (hp : Post (some (vI out.1)) out.2) : zn G M_X10_account 2 0 0 22 [(0, vR 40 (some i0))] [] S Post := by
  unfold f_X10_account_22 at h0
  refine zn_aload_n (pc := 22) 0 dX10_account_22 rfl rfl ?_
  refine zn_bipush (pc := 23) (x := (-4)) dX10_account_23 (by decide) ?_
  obtain ⟨o1, e2, h3⟩ := zbd h0; clear h0
  refine zn_cVv (pc := 25) (kc := 0) (ks := 0) (kc' := 0) (ks' := 0) (As := [vI (-4)]) (st := []) dX10_account_25 cs_X10_163 pc_40 rfl rfl (Nat.le_of_ble_eq_true rfl) ((c_X10_refuse e2).mono (Nat.le_of_ble_eq_true rfl)) ?_
  have hz := Option.some.inj h3; clear h3; subst hz
  exact zn_ireturn (pc := 28) dX10_account_28 rfl hp
theorem b_X10_account_52 {G : zG} {Post : Option zV → zH → Prop} {i0 : Nat} {S : zH} {out : (Int32 × zH)} (h0 : f_X10_account_52 i0 S = some out) (hp : Post (some (vI out.1)) out.2) : zn G M_X10_account 2 0 0 52 [(0, vR 40 (some i0))] [] S Post := by
  unfold f_X10_account_52 at h0
  refine zn_aload_n (pc := 52) 0 dX10_account_52 rfl rfl ?_
  refine zn_bipush (pc := 53) (x := (-6)) dX10_account_53 (by decide) ?_
  obtain ⟨o1, e2, h3⟩ := zbd h0; clear h0
  refine zn_cVv (pc := 55) (kc := 0) (ks := 0) (kc' := 0) (ks' := 0) (As := [vI (-6)]) (st := []) dX10_account_55 cs_X10_163 pc_40 rfl rfl (Nat.le_of_ble_eq_true rfl) ((c_X10_refuse e2).mono (Nat.le_of_ble_eq_true rfl)) ?_
  have hz := Option.some.inj h3; clear h3; subst hz
  exact zn_ireturn (pc := 58) dX10_account_58 rfl hp
theorem c_X10_account {G : zG} {i0 : Nat} {x1 : Int32} {x2 : Int32} {x3 : Int32} {S : zH} {out : (Int32 × zH)} (h0 : f_X10_account i0 x1 x2 x3 S = some out) : zct G M_X10_account 2 0 0 [vR 40 (some i0), vI x1, vI x2, vI x3] S (zpo (some (vI out.1)) out.2) := by
  refine zct_of (by decide) (Nat.le_of_ble_eq_true rfl) ?_
  show zn G M_X10_account 2 0 0 0 [(0, vR 40 (some i0)), (1, vI x1), (2, vI x2), (3, vI x3)] [] S _
  have hp : zpo (some (vI out.1)) out.2 (some (vI out.1)) out.2 := ⟨rfl, rfl⟩
  unfold f_X10_account at h0
  refine zn_iload_n (pc := 0) 1 dX10_account_0 rfl rfl ?_
  obtain ⟨o4, e5, h6⟩ := zbd h0; clear h0
  refine zn_cSv (pc := 1) (kc := 0) (ks := 0) (kc' := 0) (ks' := 0) (As := [vI x1]) (st := []) dX10_account_1 cs_X10_191 rfl rfl (Nat.le_of_ble_eq_true rfl) ((c_X10_isBank e5).mono (Nat.le_of_ble_eq_true rfl)) ?_
  have h8 := h6; clear h6
  refine zn_if_ne (pc := 4) (tgt := 13) dX10_account_4 (by decide) (fun c7 => ?_) (fun c7 => ?_)
  · replace h8 := zif_f c7 h8
    refine zn_iload_n (pc := 13) 2 dX10_account_13 rfl rfl ?_
    have h10 := h8; clear h8
    refine zn_if_lt (pc := 14) (tgt := 22) dX10_account_14 (by decide) (fun c9 => ?_) (fun c9 => ?_)
    · replace h10 := zif_t c9 h10
      refine zn_pick [0] rfl ?_
      exact b_X10_account_22  h10 hp
    · replace h10 := zif_f c9 h10
      refine zn_iload_n (pc := 17) 3 dX10_account_17 rfl rfl ?_
      refine zn_iconst (pc := 18) (x := (-1)) dX10_account_18 (by decide) ?_
      have h12 := h10; clear h10
      refine zn_icmp_ge (pc := 19) (tgt := 29) dX10_account_19 (by decide) (fun c11 => ?_) (fun c11 => ?_)
      · replace h12 := zif_t c11 h12
        refine zn_iload_n (pc := 29) 2 dX10_account_29 rfl rfl ?_
        refine zn_sipush (pc := 30) (x := 9999) dX10_account_30 (by decide) ?_
        have h14 := h12; clear h12
        refine zn_icmp_gt (pc := 33) (tgt := 52) dX10_account_33 (by decide) (fun c13 => ?_) (fun c13 => ?_)
        · replace h14 := zif_t c13 h14
          refine zn_pick [0] rfl ?_
          exact b_X10_account_52  h14 hp
        · replace h14 := zif_f c13 h14
          refine zn_iload_n (pc := 36) 3 dX10_account_36 rfl rfl ?_
          refine zn_sipush (pc := 37) (x := 9999) dX10_account_37 (by decide) ?_
          have h16 := h14; clear h14
          refine zn_icmp_gt (pc := 40) (tgt := 52) dX10_account_40 (by decide) (fun c15 => ?_) (fun c15 => ?_)
          · replace h16 := zif_t c15 h16
            refine zn_pick [0] rfl ?_
            exact b_X10_account_52  h16 hp
          · replace h16 := zif_f c15 h16
            refine zn_aload_n (pc := 43) 0 dX10_account_43 rfl rfl ?_
            refine zn_getI (pc := 44) fa_X10_171_40.1 fa_X10_171_40.2 dX10_account_44 ?_
            refine zn_bipush (pc := 47) (x := 40) dX10_account_47 (by decide) ?_
            have h18 := h16; clear h16
            refine zn_icmp_ne (pc := 49) (tgt := 59) dX10_account_49 (by decide) (fun c17 => ?_) (fun c17 => ?_)
            · replace h18 := zif_f c17 h18
              refine zn_aload_n (pc := 59) 0 dX10_account_59 rfl rfl ?_
              refine zn_iload_n (pc := 60) 1 dX10_account_60 rfl rfl ?_
              refine zn_iload_n (pc := 61) 2 dX10_account_61 rfl rfl ?_
              refine zn_iload_n (pc := 62) 3 dX10_account_62 rfl rfl ?_
              obtain ⟨o19, e20, h21⟩ := zbd h18; clear h18
              refine zn_cVv (pc := 63) (kc := 0) (ks := 0) (kc' := 0) (ks' := 0) (As := [vI x1, vI x2, vI x3]) (st := []) dX10_account_63 cs_X10_200 pc_40 rfl rfl (Nat.le_of_ble_eq_true rfl) ((c_X10_opens e20).mono (Nat.le_of_ble_eq_true rfl)) ?_
              have hz := Option.some.inj h21; clear h21; subst hz
              exact zn_ireturn (pc := 66) dX10_account_66 rfl hp
            · replace h18 := zif_t c17 h18
              refine zn_pick [0] rfl ?_
              exact b_X10_account_52  h18 hp
      · replace h12 := zif_f c11 h12
        refine zn_pick [0] rfl ?_
        exact b_X10_account_22  h12 hp
  · replace h8 := zif_t c7 h8
    refine zn_aload_n (pc := 7) 0 dX10_account_7 rfl rfl ?_
    refine zn_iconst (pc := 8) (x := (-1)) dX10_account_8 (by decide) ?_
    obtain ⟨o22, e23, h24⟩ := zbd h8; clear h8
    refine zn_cVv (pc := 9) (kc := 0) (ks := 0) (kc' := 0) (ks' := 0) (As := [vI (-1)]) (st := []) dX10_account_9 cs_X10_163 pc_40 rfl rfl (Nat.le_of_ble_eq_true rfl) ((c_X10_refuse e23).mono (Nat.le_of_ble_eq_true rfl)) ?_
    have hz := Option.some.inj h24; clear h24; subst hz
    exact zn_ireturn (pc := 12) dX10_account_12 rfl hp
theorem b_X10_put_33 {G : zG} {Post : Option zV → zH → Prop} {i0 : Nat} {x1 : Int32} {x2 : Int32} {xs0 : Int32} {S : zH} {out : (Int64 × zH)} (h0 : f_X10_put_33 i0 x1 x2 xs0 S = some out) (hp : Post (some (vJ out.1)) out.2) : zn G M_X10_put 2 0 0 33 [(0, vR 40 (some i0)), (1, vI x1), (2, vI x2)] [vI xs0] S Post := by
  unfold f_X10_put_33 at h0
  refine zn_istore_n (pc := 33) (ls' := [(3, vI xs0), (0, vR 40 (some i0)), (1, vI x1), (2, vI x2)]) dX10_put_33 rfl (Nat.le_of_ble_eq_true rfl) rfl ?_
  refine zn_iload_n (pc := 34) 0 dX10_put_34 rfl rfl ?_
  have h2 := h0; clear h0
  refine zn_if_eq (pc := 35) (tgt := 44) dX10_put_35 (by decide) (fun c1 => ?_) (fun c1 => ?_)
  · replace h2 := zif_t c1 h2
    refine zn_aload_n (pc := 44) 1 dX10_put_44 rfl rfl ?_
    refine zn_getR (pc := 45) fa_X10_65_40.1 fa_X10_65_40.2 dX10_put_45 ?_
    refine zn_iload_n (pc := 48) 2 dX10_put_48 rfl rfl ?_
    refine zn_dup2 (pc := 49) dX10_put_49 rfl rfl ?_
    obtain ⟨i3, hi4, h5⟩ := zbd h2; clear h2
    rw [hi4]
    obtain ⟨hb6, h7⟩ := zgdd h5; clear h5
    refine zn_laload (pc := 50) zk_118 dX10_put_50 (zib_in hb6) ?_
    refine zn_iload_n (pc := 51) 3 dX10_put_51 rfl rfl ?_
    refine zn_i2l (pc := 52) dX10_put_52 ?_
    refine zn_ladd (pc := 53) dX10_put_53 ?_
    obtain ⟨hb8, h9⟩ := zgdd h7; clear h7
    obtain ⟨S10, hS11, h12⟩ := zltd h9; clear h9
    refine zn_lastore (pc := 54) zk_118 dX10_put_54 (zib_in hb8) hS11 ?_
    refine zn_aload_n (pc := 55) 1 dX10_put_55 rfl rfl ?_
    refine zn_getR (pc := 56) fa_X10_65_40.1 fa_X10_65_40.2 dX10_put_56 ?_
    refine zn_iload_n (pc := 59) 2 dX10_put_59 rfl rfl ?_
    obtain ⟨i13, hi14, h15⟩ := zbd h12; clear h12
    rw [hi14]
    obtain ⟨hb16, h17⟩ := zgdd h15; clear h15
    refine zn_laload (pc := 60) zk_118 dX10_put_60 (zib_in hb16) ?_
    have hz := Option.some.inj h17; clear h17; subst hz
    exact zn_lreturn (pc := 61) dX10_put_61 rfl hp
  · replace h2 := zif_f c1 h2
    refine zn_aload_n (pc := 38) 1 dX10_put_38 rfl rfl ?_
    refine zn_iload_n (pc := 39) 0 dX10_put_39 rfl rfl ?_
    obtain ⟨o18, e19, h20⟩ := zbd h2; clear h2
    refine zn_cVv (pc := 40) (kc := 0) (ks := 0) (kc' := 0) (ks' := 0) (As := [vI xs0]) (st := []) dX10_put_40 cs_X10_207 pc_40 rfl rfl (Nat.le_of_ble_eq_true rfl) ((c_X10_refuseFar e19).mono (Nat.le_of_ble_eq_true rfl)) ?_
    have hz := Option.some.inj h20; clear h20; subst hz
    exact zn_lreturn (pc := 43) dX10_put_43 rfl hp
theorem c_X10_put {G : zG} {i0 : Nat} {x1 : Int32} {x2 : Int32} {S : zH} {out : (Int64 × zH)} (h0 : f_X10_put i0 x1 x2 S = some out) : zct G M_X10_put 2 0 0 [vR 40 (some i0), vI x1, vI x2] S (zpo (some (vJ out.1)) out.2) := by
  refine zct_of (by decide) (Nat.le_of_ble_eq_true rfl) ?_
  show zn G M_X10_put 2 0 0 0 [(0, vR 40 (some i0)), (1, vI x1), (2, vI x2)] [] S _
  have hp : zpo (some (vJ out.1)) out.2 (some (vJ out.1)) out.2 := ⟨rfl, rfl⟩
  unfold f_X10_put at h0
  refine zn_aload_n (pc := 0) 0 dX10_put_0 rfl rfl ?_
  refine zn_iload_n (pc := 1) 1 dX10_put_1 rfl rfl ?_
  obtain ⟨o21, e22, h23⟩ := zbd h0; clear h0
  refine zn_cVv (pc := 2) (kc := 0) (ks := 0) (kc' := 0) (ks' := 0) (As := [vI x1]) (st := []) dX10_put_2 cs_X10_203 pc_40 rfl rfl (Nat.le_of_ble_eq_true rfl) ((c_X10_isAccount e22).mono (Nat.le_of_ble_eq_true rfl)) ?_
  have h25 := h23; clear h23
  refine zn_if_ne (pc := 5) (tgt := 12) dX10_put_5 (by decide) (fun c24 => ?_) (fun c24 => ?_)
  · replace h25 := zif_f c24 h25
    refine zn_aload_n (pc := 12) 0 dX10_put_12 rfl rfl ?_
    refine zn_getR (pc := 13) fa_X10_53_40.1 fa_X10_53_40.2 dX10_put_13 ?_
    refine zn_iload_n (pc := 16) 1 dX10_put_16 rfl rfl ?_
    obtain ⟨i26, hi27, h28⟩ := zbd h25; clear h25
    rw [hi27]
    obtain ⟨hb29, h30⟩ := zgdd h28; clear h28
    refine zn_iaload (pc := 17) zk_114 dX10_put_17 (zib_in hb29) ?_
    have h32 := h30; clear h30
    refine zn_if_eq (pc := 18) (tgt := 26) dX10_put_18 (by decide) (fun c31 => ?_) (fun c31 => ?_)
    · replace h32 := zif_t c31 h32
      refine zn_iload_n (pc := 26) 2 dX10_put_26 rfl rfl ?_
      refine zn_iconst (pc := 27) (x := 1) dX10_put_27 (by decide) ?_
      refine zn_ldc (pc := 28) dX10_put_28 w1_X10_206 ?_
      obtain ⟨o33, e34, h35⟩ := zbd h32; clear h32
      refine zn_cSv (pc := 30) (kc := 0) (ks := 0) (kc' := 0) (ks' := 0) (As := [vI x2, vI 1, vI 99999]) (st := []) dX10_put_30 cs_X10_187 rfl rfl (Nat.le_of_ble_eq_true rfl) ((c_X10_within e34).mono (Nat.le_of_ble_eq_true rfl)) ?_
      exact b_X10_put_33  h35 hp
    · replace h32 := zif_f c31 h32
      refine zn_bipush (pc := 21) (x := (-3)) dX10_put_21 (by decide) ?_
      refine zn_goto (pc := 23) (tgt := 33) dX10_put_23 (by decide) ?_
      exact b_X10_put_33  h32 hp
  · replace h25 := zif_t c24 h25
    refine zn_iconst (pc := 8) (x := (-1)) dX10_put_8 (by decide) ?_
    refine zn_goto (pc := 9) (tgt := 33) dX10_put_9 (by decide) ?_
    exact b_X10_put_33  h25 hp
theorem b_X10_over_19 {G : zG} {Post : Option zV → zH → Prop} {i0 : Nat} {x1 : Int32} {x2 : Int32} {xs0 : Int32} {S : zH} {out : (Int32 × zH)} (h0 : f_X10_over_19 i0 x1 x2 xs0 S = some out) (hp : Post (some (vI out.1)) out.2) : zn G M_X10_over 2 0 0 19 [(0, vR 40 (some i0)), (1, vI x1), (2, vI x2)] [vI xs0] S Post := by
  unfold f_X10_over_19 at h0
  refine zn_istore_n (pc := 19) (ls' := [(3, vI xs0), (0, vR 40 (some i0)), (1, vI x1), (2, vI x2)]) dX10_over_19 rfl (Nat.le_of_ble_eq_true rfl) rfl ?_
  refine zn_iload_n (pc := 20) 0 dX10_over_20 rfl rfl ?_
  have h2 := h0; clear h0
  refine zn_if_eq (pc := 21) (tgt := 30) dX10_over_21 (by decide) (fun c1 => ?_) (fun c1 => ?_)
  · replace h2 := zif_t c1 h2
    refine zn_aload_n (pc := 30) 1 dX10_over_30 rfl rfl ?_
    refine zn_getR (pc := 31) fa_X10_50_40.1 fa_X10_50_40.2 dX10_over_31 ?_
    refine zn_iload_n (pc := 34) 2 dX10_over_34 rfl rfl ?_
    obtain ⟨i3, hi4, h5⟩ := zbd h2; clear h2
    rw [hi4]
    obtain ⟨hb6, h7⟩ := zgdd h5; clear h5
    refine zn_iaload (pc := 35) zk_113 dX10_over_35 (zib_in hb6) ?_
    refine zn_istore (pc := 36) (ls' := [(4, vI (zI S 113 i3 (Int32.toNatClampNeg x1))), (3, vI xs0), (0, vR 40 (some i0)), (1, vI x1), (2, vI x2)]) dX10_over_36 (Nat.le_of_ble_eq_true rfl) rfl ?_
    refine zn_aload_n (pc := 38) 2 dX10_over_38 rfl rfl ?_
    refine zn_getR (pc := 39) fa_X10_50_40.1 fa_X10_50_40.2 dX10_over_39 ?_
    refine zn_iload_n (pc := 42) 3 dX10_over_42 rfl rfl ?_
    refine zn_iload_n (pc := 43) 4 dX10_over_43 rfl rfl ?_
    obtain ⟨i8, hi9, h10⟩ := zbd h7; clear h7
    rw [hi9]
    obtain ⟨hb11, h12⟩ := zgdd h10; clear h10
    obtain ⟨S13, hS14, h15⟩ := zltd h12; clear h12
    refine zn_iastore (pc := 44) zk_113 dX10_over_44 (zib_in hb11) hS14 ?_
    refine zn_iload (pc := 45) 0 dX10_over_45 rfl ?_
    have hz := Option.some.inj h15; clear h15; subst hz
    exact zn_ireturn (pc := 47) dX10_over_47 rfl hp
  · replace h2 := zif_f c1 h2
    refine zn_aload_n (pc := 24) 1 dX10_over_24 rfl rfl ?_
    refine zn_iload_n (pc := 25) 0 dX10_over_25 rfl rfl ?_
    obtain ⟨o16, e17, h18⟩ := zbd h2; clear h2
    refine zn_cVv (pc := 26) (kc := 0) (ks := 0) (kc' := 0) (ks' := 0) (As := [vI xs0]) (st := []) dX10_over_26 cs_X10_163 pc_40 rfl rfl (Nat.le_of_ble_eq_true rfl) ((c_X10_refuse e17).mono (Nat.le_of_ble_eq_true rfl)) ?_
    have hz := Option.some.inj h18; clear h18; subst hz
    exact zn_ireturn (pc := 29) dX10_over_29 rfl hp
theorem c_X10_over {G : zG} {i0 : Nat} {x1 : Int32} {x2 : Int32} {S : zH} {out : (Int32 × zH)} (h0 : f_X10_over i0 x1 x2 S = some out) : zct G M_X10_over 2 0 0 [vR 40 (some i0), vI x1, vI x2] S (zpo (some (vI out.1)) out.2) := by
  refine zct_of (by decide) (Nat.le_of_ble_eq_true rfl) ?_
  show zn G M_X10_over 2 0 0 0 [(0, vR 40 (some i0)), (1, vI x1), (2, vI x2)] [] S _
  have hp : zpo (some (vI out.1)) out.2 (some (vI out.1)) out.2 := ⟨rfl, rfl⟩
  unfold f_X10_over at h0
  refine zn_aload_n (pc := 0) 0 dX10_over_0 rfl rfl ?_
  refine zn_iload_n (pc := 1) 1 dX10_over_1 rfl rfl ?_
  obtain ⟨o19, e20, h21⟩ := zbd h0; clear h0
  refine zn_cVv (pc := 2) (kc := 0) (ks := 0) (kc' := 0) (ks' := 0) (As := [vI x1]) (st := []) dX10_over_2 cs_X10_203 pc_40 rfl rfl (Nat.le_of_ble_eq_true rfl) ((c_X10_isAccount e20).mono (Nat.le_of_ble_eq_true rfl)) ?_
  have h23 := h21; clear h21
  refine zn_if_eq (pc := 5) (tgt := 18) dX10_over_5 (by decide) (fun c22 => ?_) (fun c22 => ?_)
  · replace h23 := zif_t c22 h23
    refine zn_iconst (pc := 18) (x := (-1)) dX10_over_18 (by decide) ?_
    exact b_X10_over_19  h23 hp
  · replace h23 := zif_f c22 h23
    refine zn_iload_n (pc := 8) 2 dX10_over_8 rfl rfl ?_
    refine zn_iconst (pc := 9) (x := 0) dX10_over_9 (by decide) ?_
    refine zn_ldc (pc := 10) dX10_over_10 w1_X10_206 ?_
    obtain ⟨o24, e25, h26⟩ := zbd h23; clear h23
    refine zn_cSv (pc := 12) (kc := 0) (ks := 0) (kc' := 0) (ks' := 0) (As := [vI x2, vI 0, vI 99999]) (st := []) dX10_over_12 cs_X10_187 rfl rfl (Nat.le_of_ble_eq_true rfl) ((c_X10_within e25).mono (Nat.le_of_ble_eq_true rfl)) ?_
    refine zn_goto (pc := 15) (tgt := 19) dX10_over_15 (by decide) ?_
    exact b_X10_over_19  h26 hp
theorem b_X10_isMoving_2 {G : zG} {Post : Option zV → zH → Prop} : ∀ (n : Nat) (i0 : Nat) (x1 : Int32) (x2 : Int32) (S : zH) (out : Int32), f_X10_isMoving_2 n i0 x1 x2 S = some out → Post (some (vI out)) S → zn G M_X10_isMoving 0 0 0 2 [(0, vR 40 (some i0)), (1, vI x1), (2, vI x2)] [] S Post := by
  intro n
  induction n with
  | zero => intro i0 x1 x2 S out h0 hp; exact (nomatch (show (none : Option _) = some out from h0))
  | succ n ih =>
    intro i0 x1 x2 S out h0 hp
    rw [f_X10_isMoving_2] at h0
    refine zn_iload_n (pc := 2) 2 dX10_isMoving_2 rfl rfl ?_
    refine zn_aload_n (pc := 3) 0 dX10_isMoving_3 rfl rfl ?_
    refine zn_getI (pc := 4) fa_X10_211_40.1 fa_X10_211_40.2 dX10_isMoving_4 ?_
    have h2 := h0; clear h0
    refine zn_icmp_ge (pc := 7) (tgt := 47) dX10_isMoving_7 (by decide) (fun c1 => ?_) (fun c1 => ?_)
    · replace h2 := zif_t c1 h2
      refine zn_iconst (pc := 47) (x := 0) dX10_isMoving_47 (by decide) ?_
      have hz := Option.some.inj h2; clear h2; subst hz
      exact zn_zreturn (pc := 48) dX10_isMoving_48 rfl (by decide) hp
    · replace h2 := zif_f c1 h2
      refine zn_aload_n (pc := 10) 0 dX10_isMoving_10 rfl rfl ?_
      refine zn_getR (pc := 11) fa_X10_126_40.1 fa_X10_126_40.2 dX10_isMoving_11 ?_
      refine zn_iload_n (pc := 14) 2 dX10_isMoving_14 rfl rfl ?_
      obtain ⟨i3, hi4, h5⟩ := zbd h2; clear h2
      rw [hi4]
      obtain ⟨hb6, h7⟩ := zgdd h5; clear h5
      refine zn_baload (pc := 15) zk_138 dX10_isMoving_15 (zib_in hb6) ?_
      have h9 := h7; clear h7
      refine zn_if_eq (pc := 16) (tgt := 41) dX10_isMoving_16 (by decide) (fun c8 => ?_) (fun c8 => ?_)
      · replace h9 := zif_t c8 h9
        refine zn_iinc (pc := 41) 2 (y := x2 + 1) (ls' := [(2, vI (x2 + 1)), (0, vR 40 (some i0)), (1, vI x1)]) dX10_isMoving_41 rfl rfl (Nat.le_of_ble_eq_true rfl) rfl ?_
        refine zn_goto (pc := 44) (tgt := 2) dX10_isMoving_44 (by decide) ?_
        refine zn_pick [1, 2, 0] rfl ?_
        exact ih _ _ _ _ _ h9 hp
      · replace h9 := zif_f c8 h9
        refine zn_aload_n (pc := 19) 0 dX10_isMoving_19 rfl rfl ?_
        refine zn_getR (pc := 20) fa_X10_102_40.1 fa_X10_102_40.2 dX10_isMoving_20 ?_
        refine zn_iload_n (pc := 23) 2 dX10_isMoving_23 rfl rfl ?_
        obtain ⟨i10, hi11, h12⟩ := zbd h9; clear h9
        rw [hi11]
        obtain ⟨hb13, h14⟩ := zgdd h12; clear h12
        refine zn_iaload (pc := 24) zk_130 dX10_isMoving_24 (zib_in hb13) ?_
        refine zn_iload_n (pc := 25) 1 dX10_isMoving_25 rfl rfl ?_
        have h16 := h14; clear h14
        refine zn_icmp_eq (pc := 26) (tgt := 39) dX10_isMoving_26 (by decide) (fun c15 => ?_) (fun c15 => ?_)
        · replace h16 := zif_t c15 h16
          refine zn_iconst (pc := 39) (x := 1) dX10_isMoving_39 (by decide) ?_
          have hz := Option.some.inj h16; clear h16; subst hz
          exact zn_zreturn (pc := 40) dX10_isMoving_40 rfl (by decide) hp
        · replace h16 := zif_f c15 h16
          refine zn_aload_n (pc := 29) 0 dX10_isMoving_29 rfl rfl ?_
          refine zn_getR (pc := 30) fa_X10_105_40.1 fa_X10_105_40.2 dX10_isMoving_30 ?_
          refine zn_iload_n (pc := 33) 2 dX10_isMoving_33 rfl rfl ?_
          obtain ⟨i17, hi18, h19⟩ := zbd h16; clear h16
          rw [hi18]
          obtain ⟨hb20, h21⟩ := zgdd h19; clear h19
          refine zn_iaload (pc := 34) zk_131 dX10_isMoving_34 (zib_in hb20) ?_
          refine zn_iload_n (pc := 35) 1 dX10_isMoving_35 rfl rfl ?_
          have h23 := h21; clear h21
          refine zn_icmp_ne (pc := 36) (tgt := 41) dX10_isMoving_36 (by decide) (fun c22 => ?_) (fun c22 => ?_)
          · replace h23 := zif_f c22 h23
            refine zn_iinc (pc := 41) 2 (y := x2 + 1) (ls' := [(2, vI (x2 + 1)), (0, vR 40 (some i0)), (1, vI x1)]) dX10_isMoving_41 rfl rfl (Nat.le_of_ble_eq_true rfl) rfl ?_
            refine zn_goto (pc := 44) (tgt := 2) dX10_isMoving_44 (by decide) ?_
            refine zn_pick [1, 2, 0] rfl ?_
            exact ih _ _ _ _ _ h23 hp
          · replace h23 := zif_t c22 h23
            refine zn_iconst (pc := 39) (x := 1) dX10_isMoving_39 (by decide) ?_
            have hz := Option.some.inj h23; clear h23; subst hz
            exact zn_zreturn (pc := 40) dX10_isMoving_40 rfl (by decide) hp
theorem c_X10_isMoving {G : zG} {i0 : Nat} {x1 : Int32} {S : zH} {out : Int32} (h0 : f_X10_isMoving i0 x1 S = some out) : zct G M_X10_isMoving 0 0 0 [vR 40 (some i0), vI x1] S (zpo (some (vI out)) S) := by
  refine zct_of (by decide) (Nat.le_of_ble_eq_true rfl) ?_
  show zn G M_X10_isMoving 0 0 0 0 [(0, vR 40 (some i0)), (1, vI x1)] [] S _
  have hp : zpo (some (vI out)) S (some (vI out)) S := ⟨rfl, rfl⟩
  unfold f_X10_isMoving at h0
  refine zn_iconst (pc := 0) (x := 0) dX10_isMoving_0 (by decide) ?_
  refine zn_istore_n (pc := 1) (ls' := [(2, vI 0), (0, vR 40 (some i0)), (1, vI x1)]) dX10_isMoving_1 rfl (Nat.le_of_ble_eq_true rfl) rfl ?_
  refine zn_pick [1, 2, 0] rfl ?_
  exact b_X10_isMoving_2  fu _ _ _ _ _ h0 hp
theorem b_X10_close_42 {G : zG} {Post : Option zV → zH → Prop} {i0 : Nat} {S : zH} {out : (Int32 × zH)} (h0 : f_X10_close_42 i0 S = some out) (hp : Post (some (vI out.1)) out.2) : zn G M_X10_close 2 0 0 42 [(0, vR 40 (some i0))] [] S Post := by
  unfold f_X10_close_42 at h0
  refine zn_aload_n (pc := 42) 0 dX10_close_42 rfl rfl ?_
  refine zn_bipush (pc := 43) (x := (-3)) dX10_close_43 (by decide) ?_
  obtain ⟨o1, e2, h3⟩ := zbd h0; clear h0
  refine zn_cVv (pc := 45) (kc := 0) (ks := 0) (kc' := 0) (ks' := 0) (As := [vI (-3)]) (st := []) dX10_close_45 cs_X10_163 pc_40 rfl rfl (Nat.le_of_ble_eq_true rfl) ((c_X10_refuse e2).mono (Nat.le_of_ble_eq_true rfl)) ?_
  have hz := Option.some.inj h3; clear h3; subst hz
  exact zn_ireturn (pc := 48) dX10_close_48 rfl hp
theorem c_X10_close {G : zG} {i0 : Nat} {x1 : Int32} {S : zH} {out : (Int32 × zH)} (h0 : f_X10_close i0 x1 S = some out) : zct G M_X10_close 2 0 0 [vR 40 (some i0), vI x1] S (zpo (some (vI out.1)) out.2) := by
  refine zct_of (by decide) (Nat.le_of_ble_eq_true rfl) ?_
  show zn G M_X10_close 2 0 0 0 [(0, vR 40 (some i0)), (1, vI x1)] [] S _
  have hp : zpo (some (vI out.1)) out.2 (some (vI out.1)) out.2 := ⟨rfl, rfl⟩
  unfold f_X10_close at h0
  refine zn_aload_n (pc := 0) 0 dX10_close_0 rfl rfl ?_
  refine zn_iload_n (pc := 1) 1 dX10_close_1 rfl rfl ?_
  obtain ⟨o4, e5, h6⟩ := zbd h0; clear h0
  refine zn_cVv (pc := 2) (kc := 0) (ks := 0) (kc' := 0) (ks' := 0) (As := [vI x1]) (st := []) dX10_close_2 cs_X10_203 pc_40 rfl rfl (Nat.le_of_ble_eq_true rfl) ((c_X10_isAccount e5).mono (Nat.le_of_ble_eq_true rfl)) ?_
  have h8 := h6; clear h6
  refine zn_if_ne (pc := 5) (tgt := 14) dX10_close_5 (by decide) (fun c7 => ?_) (fun c7 => ?_)
  · replace h8 := zif_f c7 h8
    refine zn_aload_n (pc := 14) 0 dX10_close_14 rfl rfl ?_
    refine zn_getR (pc := 15) fa_X10_53_40.1 fa_X10_53_40.2 dX10_close_15 ?_
    refine zn_iload_n (pc := 18) 1 dX10_close_18 rfl rfl ?_
    obtain ⟨i9, hi10, h11⟩ := zbd h8; clear h8
    rw [hi10]
    obtain ⟨hb12, h13⟩ := zgdd h11; clear h11
    refine zn_iaload (pc := 19) zk_114 dX10_close_19 (zib_in hb12) ?_
    have h15 := h13; clear h13
    refine zn_if_ne (pc := 20) (tgt := 42) dX10_close_20 (by decide) (fun c14 => ?_) (fun c14 => ?_)
    · replace h15 := zif_f c14 h15
      refine zn_pick [0] rfl ?_
      exact b_X10_close_42  h15 hp
    · replace h15 := zif_t c14 h15
      refine zn_aload_n (pc := 23) 0 dX10_close_23 rfl rfl ?_
      refine zn_getR (pc := 24) fa_X10_65_40.1 fa_X10_65_40.2 dX10_close_24 ?_
      refine zn_iload_n (pc := 27) 1 dX10_close_27 rfl rfl ?_
      obtain ⟨i16, hi17, h18⟩ := zbd h15; clear h15
      rw [hi17]
      obtain ⟨hb19, h20⟩ := zgdd h18; clear h18
      refine zn_laload (pc := 28) zk_118 dX10_close_28 (zib_in hb19) ?_
      refine zn_lconst (pc := 29) (x := 0) dX10_close_29 (by decide) ?_
      refine zn_lcmp (pc := 30) dX10_close_30 ?_
      have h22 := h20; clear h20
      refine zn_if_ne (pc := 31) (tgt := 42) dX10_close_31 (by decide) (fun c21 => ?_) (fun c21 => ?_)
      · replace h22 := zif_f c21 h22
        refine zn_pick [0] rfl ?_
        exact b_X10_close_42  h22 hp
      · replace h22 := zif_t c21 h22
        refine zn_aload_n (pc := 34) 0 dX10_close_34 rfl rfl ?_
        refine zn_iload_n (pc := 35) 1 dX10_close_35 rfl rfl ?_
        obtain ⟨o23, e24, h25⟩ := zbd h22; clear h22
        refine zn_cVv (pc := 36) (kc := 0) (ks := 0) (kc' := 0) (ks' := 0) (As := [vI x1]) (st := []) dX10_close_36 cs_X10_214 pc_40 rfl rfl (Nat.le_of_ble_eq_true rfl) ((c_X10_isMoving e24).mono (Nat.le_of_ble_eq_true rfl)) ?_
        have h27 := h25; clear h25
        refine zn_if_eq (pc := 39) (tgt := 49) dX10_close_39 (by decide) (fun c26 => ?_) (fun c26 => ?_)
        · replace h27 := zif_t c26 h27
          refine zn_aload_n (pc := 49) 0 dX10_close_49 rfl rfl ?_
          refine zn_getR (pc := 50) fa_X10_53_40.1 fa_X10_53_40.2 dX10_close_50 ?_
          refine zn_iload_n (pc := 53) 1 dX10_close_53 rfl rfl ?_
          refine zn_iconst (pc := 54) (x := 1) dX10_close_54 (by decide) ?_
          obtain ⟨i28, hi29, h30⟩ := zbd h27; clear h27
          rw [hi29]
          obtain ⟨hb31, h32⟩ := zgdd h30; clear h30
          obtain ⟨S33, hS34, h35⟩ := zltd h32; clear h32
          refine zn_iastore (pc := 55) zk_114 dX10_close_55 (zib_in hb31) hS34 ?_
          refine zn_iconst (pc := 56) (x := 1) dX10_close_56 (by decide) ?_
          have hz := Option.some.inj h35; clear h35; subst hz
          exact zn_ireturn (pc := 57) dX10_close_57 rfl hp
        · replace h27 := zif_f c26 h27
          refine zn_pick [0] rfl ?_
          exact b_X10_close_42  h27 hp
  · replace h8 := zif_t c7 h8
    refine zn_aload_n (pc := 8) 0 dX10_close_8 rfl rfl ?_
    refine zn_iconst (pc := 9) (x := (-1)) dX10_close_9 (by decide) ?_
    obtain ⟨o36, e37, h38⟩ := zbd h8; clear h8
    refine zn_cVv (pc := 10) (kc := 0) (ks := 0) (kc' := 0) (ks' := 0) (As := [vI (-1)]) (st := []) dX10_close_10 cs_X10_163 pc_40 rfl rfl (Nat.le_of_ble_eq_true rfl) ((c_X10_refuse e37).mono (Nat.le_of_ble_eq_true rfl)) ?_
    have hz := Option.some.inj h38; clear h38; subst hz
    exact zn_ireturn (pc := 13) dX10_close_13 rfl hp
theorem c_X10_sum {G : zG} {i0 : Nat} {x1 : Int32} {S : zH} {out : (Int64 × zH)} (h0 : f_X10_sum i0 x1 S = some out) : zct G M_X10_sum 2 0 0 [vR 40 (some i0), vI x1] S (zpo (some (vJ out.1)) out.2) := by
  refine zct_of (by decide) (Nat.le_of_ble_eq_true rfl) ?_
  show zn G M_X10_sum 2 0 0 0 [(0, vR 40 (some i0)), (1, vI x1)] [] S _
  have hp : zpo (some (vJ out.1)) out.2 (some (vJ out.1)) out.2 := ⟨rfl, rfl⟩
  unfold f_X10_sum at h0
  refine zn_aload_n (pc := 0) 0 dX10_sum_0 rfl rfl ?_
  refine zn_iload_n (pc := 1) 1 dX10_sum_1 rfl rfl ?_
  obtain ⟨o1, e2, h3⟩ := zbd h0; clear h0
  refine zn_cVv (pc := 2) (kc := 0) (ks := 0) (kc' := 0) (ks' := 0) (As := [vI x1]) (st := []) dX10_sum_2 cs_X10_203 pc_40 rfl rfl (Nat.le_of_ble_eq_true rfl) ((c_X10_isAccount e2).mono (Nat.le_of_ble_eq_true rfl)) ?_
  have h5 := h3; clear h3
  refine zn_if_eq (pc := 5) (tgt := 17) dX10_sum_5 (by decide) (fun c4 => ?_) (fun c4 => ?_)
  · replace h5 := zif_t c4 h5
    refine zn_aload_n (pc := 17) 0 dX10_sum_17 rfl rfl ?_
    refine zn_iconst (pc := 18) (x := (-1)) dX10_sum_18 (by decide) ?_
    obtain ⟨o6, e7, h8⟩ := zbd h5; clear h5
    refine zn_cVv (pc := 19) (kc := 0) (ks := 0) (kc' := 0) (ks' := 0) (As := [vI (-1)]) (st := []) dX10_sum_19 cs_X10_207 pc_40 rfl rfl (Nat.le_of_ble_eq_true rfl) ((c_X10_refuseFar e7).mono (Nat.le_of_ble_eq_true rfl)) ?_
    have hz := Option.some.inj h8; clear h8; subst hz
    exact zn_lreturn (pc := 22) dX10_sum_22 rfl hp
  · replace h5 := zif_f c4 h5
    refine zn_aload_n (pc := 8) 0 dX10_sum_8 rfl rfl ?_
    refine zn_getR (pc := 9) fa_X10_65_40.1 fa_X10_65_40.2 dX10_sum_9 ?_
    refine zn_iload_n (pc := 12) 1 dX10_sum_12 rfl rfl ?_
    obtain ⟨i9, hi10, h11⟩ := zbd h5; clear h5
    rw [hi10]
    obtain ⟨hb12, h13⟩ := zgdd h11; clear h11
    refine zn_laload (pc := 13) zk_118 dX10_sum_13 (zib_in hb12) ?_
    refine zn_goto (pc := 14) (tgt := 22) dX10_sum_14 (by decide) ?_
    have hz := Option.some.inj h13; clear h13; subst hz
    exact zn_lreturn (pc := 22) dX10_sum_22 rfl hp
theorem b_X10_was_23 {G : zG} {Post : Option zV → zH → Prop} {i0 : Nat} {x1 : Int32} {x2 : Int32} {xs0 : Int32} {S : zH} {out : (Int64 × zH)} (h0 : f_X10_was_23 i0 x1 x2 xs0 S = some out) (hp : Post (some (vJ out.1)) out.2) : zn G M_X10_was 2 0 0 23 [(0, vR 40 (some i0)), (1, vI x1), (2, vI x2)] [vI xs0] S Post := by
  unfold f_X10_was_23 at h0
  refine zn_istore_n (pc := 23) (ls' := [(3, vI xs0), (0, vR 40 (some i0)), (1, vI x1), (2, vI x2)]) dX10_was_23 rfl (Nat.le_of_ble_eq_true rfl) rfl ?_
  refine zn_iload_n (pc := 24) 0 dX10_was_24 rfl rfl ?_
  have h2 := h0; clear h0
  refine zn_if_eq (pc := 25) (tgt := 36) dX10_was_25 (by decide) (fun c1 => ?_) (fun c1 => ?_)
  · replace h2 := zif_t c1 h2
    refine zn_aload_n (pc := 36) 1 dX10_was_36 rfl rfl ?_
    refine zn_getR (pc := 37) fa_X10_69_40.1 fa_X10_69_40.2 dX10_was_37 ?_
    refine zn_sipush (pc := 40) (x := 1501) dX10_was_40 (by decide) ?_
    refine zn_iload_n (pc := 43) 2 dX10_was_43 rfl rfl ?_
    refine zn_imul (pc := 44) dX10_was_44 ?_
    refine zn_iload_n (pc := 45) 3 dX10_was_45 rfl rfl ?_
    refine zn_iadd (pc := 46) dX10_was_46 ?_
    obtain ⟨i3, hi4, h5⟩ := zbd h2; clear h2
    rw [hi4]
    obtain ⟨hb6, h7⟩ := zgdd h5; clear h5
    refine zn_laload (pc := 47) zk_119 dX10_was_47 (zib_in hb6) ?_
    have hz := Option.some.inj h7; clear h7; subst hz
    exact zn_lreturn (pc := 48) dX10_was_48 rfl hp
  · replace h2 := zif_f c1 h2
    refine zn_aload_n (pc := 28) 1 dX10_was_28 rfl rfl ?_
    refine zn_iload_n (pc := 29) 0 dX10_was_29 rfl rfl ?_
    obtain ⟨o8, e9, h10⟩ := zbd h2; clear h2
    refine zn_cVv (pc := 30) (kc := 0) (ks := 0) (kc' := 0) (ks' := 0) (As := [vI xs0]) (st := []) dX10_was_30 cs_X10_207 pc_40 rfl rfl (Nat.le_of_ble_eq_true rfl) ((c_X10_refuseFar e9).mono (Nat.le_of_ble_eq_true rfl)) ?_
    refine zn_goto (pc := 33) (tgt := 48) dX10_was_33 (by decide) ?_
    have hz := Option.some.inj h10; clear h10; subst hz
    exact zn_lreturn (pc := 48) dX10_was_48 rfl hp
theorem c_X10_was {G : zG} {i0 : Nat} {x1 : Int32} {x2 : Int32} {S : zH} {out : (Int64 × zH)} (h0 : f_X10_was i0 x1 x2 S = some out) : zct G M_X10_was 2 0 0 [vR 40 (some i0), vI x1, vI x2] S (zpo (some (vJ out.1)) out.2) := by
  refine zct_of (by decide) (Nat.le_of_ble_eq_true rfl) ?_
  show zn G M_X10_was 2 0 0 0 [(0, vR 40 (some i0)), (1, vI x1), (2, vI x2)] [] S _
  have hp : zpo (some (vJ out.1)) out.2 (some (vJ out.1)) out.2 := ⟨rfl, rfl⟩
  unfold f_X10_was at h0
  refine zn_aload_n (pc := 0) 0 dX10_was_0 rfl rfl ?_
  refine zn_iload_n (pc := 1) 1 dX10_was_1 rfl rfl ?_
  obtain ⟨o11, e12, h13⟩ := zbd h0; clear h0
  refine zn_cVv (pc := 2) (kc := 0) (ks := 0) (kc' := 0) (ks' := 0) (As := [vI x1]) (st := []) dX10_was_2 cs_X10_203 pc_40 rfl rfl (Nat.le_of_ble_eq_true rfl) ((c_X10_isAccount e12).mono (Nat.le_of_ble_eq_true rfl)) ?_
  have h15 := h13; clear h13
  refine zn_if_eq (pc := 5) (tgt := 22) dX10_was_5 (by decide) (fun c14 => ?_) (fun c14 => ?_)
  · replace h15 := zif_t c14 h15
    refine zn_iconst (pc := 22) (x := (-1)) dX10_was_22 (by decide) ?_
    exact b_X10_was_23  h15 hp
  · replace h15 := zif_f c14 h15
    refine zn_iload_n (pc := 8) 2 dX10_was_8 rfl rfl ?_
    refine zn_iconst (pc := 9) (x := 0) dX10_was_9 (by decide) ?_
    refine zn_aload_n (pc := 10) 0 dX10_was_10 rfl rfl ?_
    refine zn_getI (pc := 11) fa_X10_177_40.1 fa_X10_177_40.2 dX10_was_11 ?_
    refine zn_iconst (pc := 14) (x := 1) dX10_was_14 (by decide) ?_
    refine zn_isub (pc := 15) dX10_was_15 ?_
    obtain ⟨o16, e17, h18⟩ := zbd h15; clear h15
    refine zn_cSv (pc := 16) (kc := 0) (ks := 0) (kc' := 0) (ks' := 0) (As := [vI x2, vI 0, vI ((zI S 40 i0 46) - 1)]) (st := []) dX10_was_16 cs_X10_187 rfl rfl (Nat.le_of_ble_eq_true rfl) ((c_X10_within e17).mono (Nat.le_of_ble_eq_true rfl)) ?_
    refine zn_goto (pc := 19) (tgt := 23) dX10_was_19 (by decide) ?_
    exact b_X10_was_23  h18 hp
theorem c_X10_accountOf {G : zG} {i0 : Nat} {x1 : Int32} {x2 : Int32} {S : zH} {out : (Int32 × zH)} (h0 : f_X10_accountOf i0 x1 x2 S = some out) : zct G M_X10_accountOf 2 0 0 [vR 40 (some i0), vI x1, vI x2] S (zpo (some (vI out.1)) out.2) := by
  refine zct_of (by decide) (Nat.le_of_ble_eq_true rfl) ?_
  show zn G M_X10_accountOf 2 0 0 0 [(0, vR 40 (some i0)), (1, vI x1), (2, vI x2)] [] S _
  have hp : zpo (some (vI out.1)) out.2 (some (vI out.1)) out.2 := ⟨rfl, rfl⟩
  unfold f_X10_accountOf at h0
  refine zn_aload_n (pc := 0) 0 dX10_accountOf_0 rfl rfl ?_
  refine zn_iload_n (pc := 1) 1 dX10_accountOf_1 rfl rfl ?_
  obtain ⟨o1, e2, h3⟩ := zbd h0; clear h0
  refine zn_cVv (pc := 2) (kc := 0) (ks := 0) (kc' := 0) (ks' := 0) (As := [vI x1]) (st := []) dX10_accountOf_2 cs_X10_203 pc_40 rfl rfl (Nat.le_of_ble_eq_true rfl) ((c_X10_isAccount e2).mono (Nat.le_of_ble_eq_true rfl)) ?_
  have h5 := h3; clear h3
  refine zn_if_ne (pc := 5) (tgt := 14) dX10_accountOf_5 (by decide) (fun c4 => ?_) (fun c4 => ?_)
  · replace h5 := zif_f c4 h5
    refine zn_iload_n (pc := 14) 2 dX10_accountOf_14 rfl rfl ?_
    have h7 := h5; clear h5
    by_cases c6 : x2 = 0
    · replace h7 := zif_t c6 h7
      refine zn_tsIn (pc := 15) (tgt := 56) (off := 41) dX10_accountOf_15 c6 (by decide) (by decide) ?_
      refine zn_aload_n (pc := 56) 0 dX10_accountOf_56 rfl rfl ?_
      refine zn_getR (pc := 57) fa_X10_41_40.1 fa_X10_41_40.2 dX10_accountOf_57 ?_
      refine zn_iload_n (pc := 60) 1 dX10_accountOf_60 rfl rfl ?_
      obtain ⟨i8, hi9, h10⟩ := zbd h7; clear h7
      rw [hi9]
      obtain ⟨hb11, h12⟩ := zgdd h10; clear h10
      refine zn_iaload (pc := 61) zk_110 dX10_accountOf_61 (zib_in hb11) ?_
      have hz := Option.some.inj h12; clear h12; subst hz
      exact zn_ireturn (pc := 62) dX10_accountOf_62 rfl hp
    · replace h7 := zif_f c6 h7
      have h14 := h7; clear h7
      by_cases c13 : x2 = 1
      · replace h14 := zif_t c13 h14
        refine zn_tsIn (pc := 15) (tgt := 63) (off := 48) dX10_accountOf_15 c13 (by decide) (by decide) ?_
        refine zn_aload_n (pc := 63) 0 dX10_accountOf_63 rfl rfl ?_
        refine zn_getR (pc := 64) fa_X10_53_40.1 fa_X10_53_40.2 dX10_accountOf_64 ?_
        refine zn_iload_n (pc := 67) 1 dX10_accountOf_67 rfl rfl ?_
        obtain ⟨i15, hi16, h17⟩ := zbd h14; clear h14
        rw [hi16]
        obtain ⟨hb18, h19⟩ := zgdd h17; clear h17
        refine zn_iaload (pc := 68) zk_114 dX10_accountOf_68 (zib_in hb18) ?_
        have hz := Option.some.inj h19; clear h19; subst hz
        exact zn_ireturn (pc := 69) dX10_accountOf_69 rfl hp
      · replace h14 := zif_f c13 h14
        have h21 := h14; clear h14
        by_cases c20 : x2 = 2
        · replace h21 := zif_t c20 h21
          refine zn_tsIn (pc := 15) (tgt := 70) (off := 55) dX10_accountOf_15 c20 (by decide) (by decide) ?_
          refine zn_aload_n (pc := 70) 0 dX10_accountOf_70 rfl rfl ?_
          refine zn_getR (pc := 71) fa_X10_56_40.1 fa_X10_56_40.2 dX10_accountOf_71 ?_
          refine zn_iload_n (pc := 74) 1 dX10_accountOf_74 rfl rfl ?_
          obtain ⟨i22, hi23, h24⟩ := zbd h21; clear h21
          rw [hi23]
          obtain ⟨hb25, h26⟩ := zgdd h24; clear h24
          refine zn_iaload (pc := 75) zk_115 dX10_accountOf_75 (zib_in hb25) ?_
          have hz := Option.some.inj h26; clear h26; subst hz
          exact zn_ireturn (pc := 76) dX10_accountOf_76 rfl hp
        · replace h21 := zif_f c20 h21
          have h28 := h21; clear h21
          by_cases c27 : x2 = 3
          · replace h28 := zif_t c27 h28
            refine zn_tsIn (pc := 15) (tgt := 77) (off := 62) dX10_accountOf_15 c27 (by decide) (by decide) ?_
            refine zn_aload_n (pc := 77) 0 dX10_accountOf_77 rfl rfl ?_
            refine zn_getR (pc := 78) fa_X10_59_40.1 fa_X10_59_40.2 dX10_accountOf_78 ?_
            refine zn_iload_n (pc := 81) 1 dX10_accountOf_81 rfl rfl ?_
            obtain ⟨i29, hi30, h31⟩ := zbd h28; clear h28
            rw [hi30]
            obtain ⟨hb32, h33⟩ := zgdd h31; clear h31
            refine zn_iaload (pc := 82) zk_116 dX10_accountOf_82 (zib_in hb32) ?_
            have hz := Option.some.inj h33; clear h33; subst hz
            exact zn_ireturn (pc := 83) dX10_accountOf_83 rfl hp
          · replace h28 := zif_f c27 h28
            have h35 := h28; clear h28
            by_cases c34 : x2 = 4
            · replace h35 := zif_t c34 h35
              refine zn_tsIn (pc := 15) (tgt := 84) (off := 69) dX10_accountOf_15 c34 (by decide) (by decide) ?_
              refine zn_aload_n (pc := 84) 0 dX10_accountOf_84 rfl rfl ?_
              refine zn_iload_n (pc := 85) 1 dX10_accountOf_85 rfl rfl ?_
              obtain ⟨o36, e37, h38⟩ := zbd h35; clear h35
              refine zn_cVv (pc := 86) (kc := 0) (ks := 0) (kc' := 0) (ks' := 0) (As := [vI x1]) (st := []) dX10_accountOf_86 cs_X10_217 pc_40 rfl rfl (Nat.le_of_ble_eq_true rfl) ((c_X10_lastOf e37).mono (Nat.le_of_ble_eq_true rfl)) ?_
              have hz := Option.some.inj h38; clear h38; subst hz
              exact zn_ireturn (pc := 89) dX10_accountOf_89 rfl hp
            · replace h35 := zif_f c34 h35
              have h40 := h35; clear h35
              by_cases c39 : x2 = 5
              · replace h40 := zif_t c39 h40
                refine zn_tsIn (pc := 15) (tgt := 90) (off := 75) dX10_accountOf_15 c39 (by decide) (by decide) ?_
                refine zn_aload_n (pc := 90) 0 dX10_accountOf_90 rfl rfl ?_
                refine zn_getR (pc := 91) fa_X10_50_40.1 fa_X10_50_40.2 dX10_accountOf_91 ?_
                refine zn_iload_n (pc := 94) 1 dX10_accountOf_94 rfl rfl ?_
                obtain ⟨i41, hi42, h43⟩ := zbd h40; clear h40
                rw [hi42]
                obtain ⟨hb44, h45⟩ := zgdd h43; clear h43
                refine zn_iaload (pc := 95) zk_113 dX10_accountOf_95 (zib_in hb44) ?_
                have hz := Option.some.inj h45; clear h45; subst hz
                exact zn_ireturn (pc := 96) dX10_accountOf_96 rfl hp
              · replace h40 := zif_f c39 h40
                have h47 := h40; clear h40
                by_cases c46 : x2 = 6
                · replace h47 := zif_t c46 h47
                  refine zn_tsIn (pc := 15) (tgt := 97) (off := 82) dX10_accountOf_15 c46 (by decide) (by decide) ?_
                  refine zn_aload_n (pc := 97) 0 dX10_accountOf_97 rfl rfl ?_
                  refine zn_getR (pc := 98) fa_X10_62_40.1 fa_X10_62_40.2 dX10_accountOf_98 ?_
                  refine zn_iload_n (pc := 101) 1 dX10_accountOf_101 rfl rfl ?_
                  obtain ⟨i48, hi49, h50⟩ := zbd h47; clear h47
                  rw [hi49]
                  obtain ⟨hb51, h52⟩ := zgdd h50; clear h50
                  refine zn_iaload (pc := 102) zk_117 dX10_accountOf_102 (zib_in hb51) ?_
                  have hz := Option.some.inj h52; clear h52; subst hz
                  exact zn_ireturn (pc := 103) dX10_accountOf_103 rfl hp
                · replace h47 := zif_f c46 h47
                  refine zn_tsOut (pc := 15) (tgt := 104) dX10_accountOf_15 ?_ (by decide) ?_
                  · have t0 := lv_neT c6 (show (0 : Int32).toInt = 0 by decide)
                    have t1 := lv_neT c13 (show (1 : Int32).toInt = 1 by decide)
                    have t2 := lv_neT c20 (show (2 : Int32).toInt = 2 by decide)
                    have t3 := lv_neT c27 (show (3 : Int32).toInt = 3 by decide)
                    have t4 := lv_neT c34 (show (4 : Int32).toInt = 4 by decide)
                    have t5 := lv_neT c39 (show (5 : Int32).toInt = 5 by decide)
                    have t6 := lv_neT c46 (show (6 : Int32).toInt = 6 by decide)
                    omega
                  · refine zn_aload_n (pc := 104) 0 dX10_accountOf_104 rfl rfl ?_
                    refine zn_bipush (pc := 105) (x := (-2)) dX10_accountOf_105 (by decide) ?_
                    obtain ⟨o53, e54, h55⟩ := zbd h47; clear h47
                    refine zn_cVv (pc := 107) (kc := 0) (ks := 0) (kc' := 0) (ks' := 0) (As := [vI (-2)]) (st := []) dX10_accountOf_107 cs_X10_163 pc_40 rfl rfl (Nat.le_of_ble_eq_true rfl) ((c_X10_refuse e54).mono (Nat.le_of_ble_eq_true rfl)) ?_
                    have hz := Option.some.inj h55; clear h55; subst hz
                    exact zn_ireturn (pc := 110) dX10_accountOf_110 rfl hp
  · replace h5 := zif_t c4 h5
    refine zn_aload_n (pc := 8) 0 dX10_accountOf_8 rfl rfl ?_
    refine zn_iconst (pc := 9) (x := (-1)) dX10_accountOf_9 (by decide) ?_
    obtain ⟨o56, e57, h58⟩ := zbd h5; clear h5
    refine zn_cVv (pc := 10) (kc := 0) (ks := 0) (kc' := 0) (ks' := 0) (As := [vI (-1)]) (st := []) dX10_accountOf_10 cs_X10_163 pc_40 rfl rfl (Nat.le_of_ble_eq_true rfl) ((c_X10_refuse e57).mono (Nat.le_of_ble_eq_true rfl)) ?_
    have hz := Option.some.inj h58; clear h58; subst hz
    exact zn_ireturn (pc := 13) dX10_accountOf_13 rfl hp
