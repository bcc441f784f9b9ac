theorem b_X10_init_398 {G : zG} {Post : Option zV → zH → Prop} : ∀ (n : Nat) (i0 : Nat) (x1 : Int32) (S : zH) (out : zH), f_X10_init_398 n i0 x1 S = some out → Post none out → zn G M_X10_init 1 0 0 398 [(0, vR 40 (some i0)), (1, vI x1)] [] S Post := by
  intro n
  induction n with
  | zero => intro i0 x1 S out h0 hp; exact (nomatch (show (none : Option _) = some out from h0))
  | succ n ih =>
    intro i0 x1 S out h0 hp
    rw [f_X10_init_398] at h0
    refine zn_iload_n (pc := 398) 1 dX10_init_398 rfl rfl ?_
    refine zn_bipush (pc := 399) (x := 8) dX10_init_399 (by decide) ?_
    have h2 := h0; clear h0
    refine zn_icmp_ge (pc := 401) (tgt := 418) dX10_init_401 (by decide) (fun c1 => ?_) (fun c1 => ?_)
    · replace h2 := zif_t c1 h2
      have hz := Option.some.inj h2; clear h2; subst hz
      exact zn_return (pc := 418) dX10_init_418 rfl hp
    · replace h2 := zif_f c1 h2
      refine zn_aload_n (pc := 404) 0 dX10_init_404 rfl rfl ?_
      refine zn_getR (pc := 405) fa_X10_25_40.1 fa_X10_25_40.2 dX10_init_405 ?_
      refine zn_iload_n (pc := 408) 1 dX10_init_408 rfl rfl ?_
      refine zn_bipush (pc := 409) (x := 99) dX10_init_409 (by decide) ?_
      obtain ⟨i3, hi4, h5⟩ := zbd h2; clear h2
      rw [hi4]
      obtain ⟨hb6, h7⟩ := zgdd h5; clear h5
      obtain ⟨S8, hS9, h10⟩ := zltd h7; clear h7
      refine zn_iastore (pc := 411) zk_105 dX10_init_411 (zib_in hb6) hS9 ?_
      refine zn_iinc (pc := 412) 1 (y := x1 + 1) (ls' := [(1, vI (x1 + 1)), (0, vR 40 (some i0))]) dX10_init_412 rfl rfl (Nat.le_of_ble_eq_true rfl) rfl ?_
      refine zn_goto (pc := 415) (tgt := 398) dX10_init_415 (by decide) ?_
      refine zn_pick [1, 0] rfl ?_
      exact ih _ _ _ _ h10 hp
theorem c_X10_init {G : zG} {i0 : Nat} {S : zH} {out : zH} (h0 : f_X10_init i0 S = some out) : zct G M_X10_init 1 48 63792 [vR 40 (some i0)] S (zpo none out) := by
  refine zct_of (by decide) (Nat.le_of_ble_eq_true rfl) ?_
  show zn G M_X10_init 1 48 63792 0 [(0, vR 40 (some i0))] [] S _
  have hp : zpo none out none out := ⟨rfl, rfl⟩
  unfold f_X10_init at h0
  refine zn_aload_n (pc := 0) 0 dX10_init_0 rfl rfl ?_
  refine zn_objInit (pc := 1) dX10_init_1 ol_X10_1 ws_obj.1 ws_obj.2 (Nat.le_of_ble_eq_true rfl) ?_
  refine zn_aload_n (pc := 4) 0 dX10_init_4 rfl rfl ?_
  refine zn_bipush (pc := 5) (x := 7) dX10_init_5 (by decide) ?_
  obtain ⟨S11, hS12, h13⟩ := zltd h0; clear h0
  refine zn_newI (pc := 7) (M := M_X10_init) (kc := 47) (ks := 63785) zk_100 w_arrI dX10_init_7 (by decide) (by decide) (Nat.le_of_ble_eq_true rfl) hS12 (ks0 := 7) (Nat.le_of_ble_eq_true rfl) ?_
  obtain ⟨S14, hS15, h16⟩ := zltd h13; clear h13
  refine zn_putR (pc := 9) fp_X10_7_40.1 fp_X10_7_40.2.2 fp_X10_7_40.2.1 dX10_init_9 hS15 ?_
  refine zn_aload_n (pc := 12) 0 dX10_init_12 rfl rfl ?_
  refine zn_bipush (pc := 13) (x := 20) dX10_init_13 (by decide) ?_
  obtain ⟨S17, hS18, h19⟩ := zltd h16; clear h16
  refine zn_newI (pc := 15) (M := M_X10_init) (kc := 46) (ks := 63765) zk_101 w_arrI dX10_init_15 (by decide) (by decide) (Nat.le_of_ble_eq_true rfl) hS18 (ks0 := 20) (Nat.le_of_ble_eq_true rfl) ?_
  obtain ⟨S20, hS21, h22⟩ := zltd h19; clear h19
  refine zn_putR (pc := 17) fp_X10_13_40.1 fp_X10_13_40.2.2 fp_X10_13_40.2.1 dX10_init_17 hS21 ?_
  refine zn_aload_n (pc := 20) 0 dX10_init_20 rfl rfl ?_
  refine zn_bipush (pc := 21) (x := 60) dX10_init_21 (by decide) ?_
  obtain ⟨S23, hS24, h25⟩ := zltd h22; clear h22
  refine zn_newI (pc := 23) (M := M_X10_init) (kc := 45) (ks := 63705) zk_102 w_arrI dX10_init_23 (by decide) (by decide) (Nat.le_of_ble_eq_true rfl) hS24 (ks0 := 60) (Nat.le_of_ble_eq_true rfl) ?_
  obtain ⟨S26, hS27, h28⟩ := zltd h25; clear h25
  refine zn_putR (pc := 25) fp_X10_16_40.1 fp_X10_16_40.2.2 fp_X10_16_40.2.1 dX10_init_25 hS27 ?_
  refine zn_aload_n (pc := 28) 0 dX10_init_28 rfl rfl ?_
  refine zn_bipush (pc := 29) (x := 60) dX10_init_29 (by decide) ?_
  obtain ⟨S29, hS30, h31⟩ := zltd h28; clear h28
  refine zn_newI (pc := 31) (M := M_X10_init) (kc := 44) (ks := 63645) zk_103 w_arrI dX10_init_31 (by decide) (by decide) (Nat.le_of_ble_eq_true rfl) hS30 (ks0 := 60) (Nat.le_of_ble_eq_true rfl) ?_
  obtain ⟨S32, hS33, h34⟩ := zltd h31; clear h31
  refine zn_putR (pc := 33) fp_X10_19_40.1 fp_X10_19_40.2.2 fp_X10_19_40.2.1 dX10_init_33 hS33 ?_
  refine zn_aload_n (pc := 36) 0 dX10_init_36 rfl rfl ?_
  refine zn_bipush (pc := 37) (x := 8) dX10_init_37 (by decide) ?_
  obtain ⟨S35, hS36, h37⟩ := zltd h34; clear h34
  refine zn_newI (pc := 39) (M := M_X10_init) (kc := 43) (ks := 63637) zk_104 w_arrI dX10_init_39 (by decide) (by decide) (Nat.le_of_ble_eq_true rfl) hS36 (ks0 := 8) (Nat.le_of_ble_eq_true rfl) ?_
  obtain ⟨S38, hS39, h40⟩ := zltd h37; clear h37
  refine zn_putR (pc := 41) fp_X10_22_40.1 fp_X10_22_40.2.2 fp_X10_22_40.2.1 dX10_init_41 hS39 ?_
  refine zn_aload_n (pc := 44) 0 dX10_init_44 rfl rfl ?_
  refine zn_bipush (pc := 45) (x := 8) dX10_init_45 (by decide) ?_
  obtain ⟨S41, hS42, h43⟩ := zltd h40; clear h40
  refine zn_newI (pc := 47) (M := M_X10_init) (kc := 42) (ks := 63629) zk_105 w_arrI dX10_init_47 (by decide) (by decide) (Nat.le_of_ble_eq_true rfl) hS42 (ks0 := 8) (Nat.le_of_ble_eq_true rfl) ?_
  obtain ⟨S44, hS45, h46⟩ := zltd h43; clear h43
  refine zn_putR (pc := 49) fp_X10_25_40.1 fp_X10_25_40.2.2 fp_X10_25_40.2.1 dX10_init_49 hS45 ?_
  refine zn_aload_n (pc := 52) 0 dX10_init_52 rfl rfl ?_
  refine zn_bipush (pc := 53) (x := 8) dX10_init_53 (by decide) ?_
  obtain ⟨S47, hS48, h49⟩ := zltd h46; clear h46
  refine zn_newI (pc := 55) (M := M_X10_init) (kc := 41) (ks := 63621) zk_106 w_arrI dX10_init_55 (by decide) (by decide) (Nat.le_of_ble_eq_true rfl) hS48 (ks0 := 8) (Nat.le_of_ble_eq_true rfl) ?_
  obtain ⟨S50, hS51, h52⟩ := zltd h49; clear h49
  refine zn_putR (pc := 57) fp_X10_28_40.1 fp_X10_28_40.2.2 fp_X10_28_40.2.1 dX10_init_57 hS51 ?_
  refine zn_aload_n (pc := 60) 0 dX10_init_60 rfl rfl ?_
  refine zn_bipush (pc := 61) (x := 8) dX10_init_61 (by decide) ?_
  obtain ⟨S53, hS54, h55⟩ := zltd h52; clear h52
  refine zn_newI (pc := 63) (M := M_X10_init) (kc := 40) (ks := 63613) zk_107 w_arrI dX10_init_63 (by decide) (by decide) (Nat.le_of_ble_eq_true rfl) hS54 (ks0 := 8) (Nat.le_of_ble_eq_true rfl) ?_
  obtain ⟨S56, hS57, h58⟩ := zltd h55; clear h55
  refine zn_putR (pc := 65) fp_X10_31_40.1 fp_X10_31_40.2.2 fp_X10_31_40.2.1 dX10_init_65 hS57 ?_
  refine zn_aload_n (pc := 68) 0 dX10_init_68 rfl rfl ?_
  refine zn_bipush (pc := 69) (x := 8) dX10_init_69 (by decide) ?_
  obtain ⟨S59, hS60, h61⟩ := zltd h58; clear h58
  refine zn_newJ (pc := 71) (M := M_X10_init) (kc := 39) (ks := 63605) zk_108 w_arrJ dX10_init_71 (by decide) (by decide) (Nat.le_of_ble_eq_true rfl) hS60 (ks0 := 8) (Nat.le_of_ble_eq_true rfl) ?_
  obtain ⟨S62, hS63, h64⟩ := zltd h61; clear h61
  refine zn_putR (pc := 73) fp_X10_34_40.1 fp_X10_34_40.2.2 fp_X10_34_40.2.1 dX10_init_73 hS63 ?_
  refine zn_aload_n (pc := 76) 0 dX10_init_76 rfl rfl ?_
  refine zn_bipush (pc := 77) (x := 8) dX10_init_77 (by decide) ?_
  obtain ⟨S65, hS66, h67⟩ := zltd h64; clear h64
  refine zn_newJ (pc := 79) (M := M_X10_init) (kc := 38) (ks := 63597) zk_109 w_arrJ dX10_init_79 (by decide) (by decide) (Nat.le_of_ble_eq_true rfl) hS66 (ks0 := 8) (Nat.le_of_ble_eq_true rfl) ?_
  obtain ⟨S68, hS69, h70⟩ := zltd h67; clear h67
  refine zn_putR (pc := 81) fp_X10_38_40.1 fp_X10_38_40.2.2 fp_X10_38_40.2.1 dX10_init_81 hS69 ?_
  refine zn_aload_n (pc := 84) 0 dX10_init_84 rfl rfl ?_
  refine zn_bipush (pc := 85) (x := 40) dX10_init_85 (by decide) ?_
  obtain ⟨S71, hS72, h73⟩ := zltd h70; clear h70
  refine zn_newI (pc := 87) (M := M_X10_init) (kc := 37) (ks := 63557) zk_110 w_arrI dX10_init_87 (by decide) (by decide) (Nat.le_of_ble_eq_true rfl) hS72 (ks0 := 40) (Nat.le_of_ble_eq_true rfl) ?_
  obtain ⟨S74, hS75, h76⟩ := zltd h73; clear h73
  refine zn_putR (pc := 89) fp_X10_41_40.1 fp_X10_41_40.2.2 fp_X10_41_40.2.1 dX10_init_89 hS75 ?_
  refine zn_aload_n (pc := 92) 0 dX10_init_92 rfl rfl ?_
  refine zn_bipush (pc := 93) (x := 40) dX10_init_93 (by decide) ?_
  obtain ⟨S77, hS78, h79⟩ := zltd h76; clear h76
  refine zn_newI (pc := 95) (M := M_X10_init) (kc := 36) (ks := 63517) zk_111 w_arrI dX10_init_95 (by decide) (by decide) (Nat.le_of_ble_eq_true rfl) hS78 (ks0 := 40) (Nat.le_of_ble_eq_true rfl) ?_
  obtain ⟨S80, hS81, h82⟩ := zltd h79; clear h79
  refine zn_putR (pc := 97) fp_X10_44_40.1 fp_X10_44_40.2.2 fp_X10_44_40.2.1 dX10_init_97 hS81 ?_
  refine zn_aload_n (pc := 100) 0 dX10_init_100 rfl rfl ?_
  refine zn_bipush (pc := 101) (x := 40) dX10_init_101 (by decide) ?_
  obtain ⟨S83, hS84, h85⟩ := zltd h82; clear h82
  refine zn_newI (pc := 103) (M := M_X10_init) (kc := 35) (ks := 63477) zk_112 w_arrI dX10_init_103 (by decide) (by decide) (Nat.le_of_ble_eq_true rfl) hS84 (ks0 := 40) (Nat.le_of_ble_eq_true rfl) ?_
  obtain ⟨S86, hS87, h88⟩ := zltd h85; clear h85
  refine zn_putR (pc := 105) fp_X10_47_40.1 fp_X10_47_40.2.2 fp_X10_47_40.2.1 dX10_init_105 hS87 ?_
  refine zn_aload_n (pc := 108) 0 dX10_init_108 rfl rfl ?_
  refine zn_bipush (pc := 109) (x := 40) dX10_init_109 (by decide) ?_
  obtain ⟨S89, hS90, h91⟩ := zltd h88; clear h88
  refine zn_newI (pc := 111) (M := M_X10_init) (kc := 34) (ks := 63437) zk_113 w_arrI dX10_init_111 (by decide) (by decide) (Nat.le_of_ble_eq_true rfl) hS90 (ks0 := 40) (Nat.le_of_ble_eq_true rfl) ?_
  obtain ⟨S92, hS93, h94⟩ := zltd h91; clear h91
  refine zn_putR (pc := 113) fp_X10_50_40.1 fp_X10_50_40.2.2 fp_X10_50_40.2.1 dX10_init_113 hS93 ?_
  refine zn_aload_n (pc := 116) 0 dX10_init_116 rfl rfl ?_
  refine zn_bipush (pc := 117) (x := 40) dX10_init_117 (by decide) ?_
  obtain ⟨S95, hS96, h97⟩ := zltd h94; clear h94
  refine zn_newI (pc := 119) (M := M_X10_init) (kc := 33) (ks := 63397) zk_114 w_arrI dX10_init_119 (by decide) (by decide) (Nat.le_of_ble_eq_true rfl) hS96 (ks0 := 40) (Nat.le_of_ble_eq_true rfl) ?_
  obtain ⟨S98, hS99, h100⟩ := zltd h97; clear h97
  refine zn_putR (pc := 121) fp_X10_53_40.1 fp_X10_53_40.2.2 fp_X10_53_40.2.1 dX10_init_121 hS99 ?_
  refine zn_aload_n (pc := 124) 0 dX10_init_124 rfl rfl ?_
  refine zn_bipush (pc := 125) (x := 40) dX10_init_125 (by decide) ?_
  obtain ⟨S101, hS102, h103⟩ := zltd h100; clear h100
  refine zn_newI (pc := 127) (M := M_X10_init) (kc := 32) (ks := 63357) zk_115 w_arrI dX10_init_127 (by decide) (by decide) (Nat.le_of_ble_eq_true rfl) hS102 (ks0 := 40) (Nat.le_of_ble_eq_true rfl) ?_
  obtain ⟨S104, hS105, h106⟩ := zltd h103; clear h103
  refine zn_putR (pc := 129) fp_X10_56_40.1 fp_X10_56_40.2.2 fp_X10_56_40.2.1 dX10_init_129 hS105 ?_
  refine zn_aload_n (pc := 132) 0 dX10_init_132 rfl rfl ?_
  refine zn_bipush (pc := 133) (x := 40) dX10_init_133 (by decide) ?_
  obtain ⟨S107, hS108, h109⟩ := zltd h106; clear h106
  refine zn_newI (pc := 135) (M := M_X10_init) (kc := 31) (ks := 63317) zk_116 w_arrI dX10_init_135 (by decide) (by decide) (Nat.le_of_ble_eq_true rfl) hS108 (ks0 := 40) (Nat.le_of_ble_eq_true rfl) ?_
  obtain ⟨S110, hS111, h112⟩ := zltd h109; clear h109
  refine zn_putR (pc := 137) fp_X10_59_40.1 fp_X10_59_40.2.2 fp_X10_59_40.2.1 dX10_init_137 hS111 ?_
  refine zn_aload_n (pc := 140) 0 dX10_init_140 rfl rfl ?_
  refine zn_bipush (pc := 141) (x := 40) dX10_init_141 (by decide) ?_
  obtain ⟨S113, hS114, h115⟩ := zltd h112; clear h112
  refine zn_newI (pc := 143) (M := M_X10_init) (kc := 30) (ks := 63277) zk_117 w_arrI dX10_init_143 (by decide) (by decide) (Nat.le_of_ble_eq_true rfl) hS114 (ks0 := 40) (Nat.le_of_ble_eq_true rfl) ?_
  obtain ⟨S116, hS117, h118⟩ := zltd h115; clear h115
  refine zn_putR (pc := 145) fp_X10_62_40.1 fp_X10_62_40.2.2 fp_X10_62_40.2.1 dX10_init_145 hS117 ?_
  refine zn_aload_n (pc := 148) 0 dX10_init_148 rfl rfl ?_
  refine zn_bipush (pc := 149) (x := 40) dX10_init_149 (by decide) ?_
  obtain ⟨S119, hS120, h121⟩ := zltd h118; clear h118
  refine zn_newJ (pc := 151) (M := M_X10_init) (kc := 29) (ks := 63237) zk_118 w_arrJ dX10_init_151 (by decide) (by decide) (Nat.le_of_ble_eq_true rfl) hS120 (ks0 := 40) (Nat.le_of_ble_eq_true rfl) ?_
  obtain ⟨S122, hS123, h124⟩ := zltd h121; clear h121
  refine zn_putR (pc := 153) fp_X10_65_40.1 fp_X10_65_40.2.2 fp_X10_65_40.2.1 dX10_init_153 hS123 ?_
  refine zn_aload_n (pc := 156) 0 dX10_init_156 rfl rfl ?_
  refine zn_ldc (pc := 157) dX10_init_157 w1_X10_68 ?_
  obtain ⟨S125, hS126, h127⟩ := zltd h124; clear h124
  refine zn_newJ (pc := 159) (M := M_X10_init) (kc := 28) (ks := 3197) zk_119 w_arrJ dX10_init_159 (by decide) (by decide) (Nat.le_of_ble_eq_true rfl) hS126 (ks0 := 60040) (Nat.le_of_ble_eq_true rfl) ?_
  obtain ⟨S128, hS129, h130⟩ := zltd h127; clear h127
  refine zn_putR (pc := 161) fp_X10_69_40.1 fp_X10_69_40.2.2 fp_X10_69_40.2.1 dX10_init_161 hS129 ?_
  refine zn_aload_n (pc := 164) 0 dX10_init_164 rfl rfl ?_
  refine zn_bipush (pc := 165) (x := 60) dX10_init_165 (by decide) ?_
  obtain ⟨S131, hS132, h133⟩ := zltd h130; clear h130
  refine zn_newI (pc := 167) (M := M_X10_init) (kc := 27) (ks := 3137) zk_120 w_arrI dX10_init_167 (by decide) (by decide) (Nat.le_of_ble_eq_true rfl) hS132 (ks0 := 60) (Nat.le_of_ble_eq_true rfl) ?_
  obtain ⟨S134, hS135, h136⟩ := zltd h133; clear h133
  refine zn_putR (pc := 169) fp_X10_72_40.1 fp_X10_72_40.2.2 fp_X10_72_40.2.1 dX10_init_169 hS135 ?_
  refine zn_aload_n (pc := 172) 0 dX10_init_172 rfl rfl ?_
  refine zn_bipush (pc := 173) (x := 60) dX10_init_173 (by decide) ?_
  obtain ⟨S137, hS138, h139⟩ := zltd h136; clear h136
  refine zn_newI (pc := 175) (M := M_X10_init) (kc := 26) (ks := 3077) zk_121 w_arrI dX10_init_175 (by decide) (by decide) (Nat.le_of_ble_eq_true rfl) hS138 (ks0 := 60) (Nat.le_of_ble_eq_true rfl) ?_
  obtain ⟨S140, hS141, h142⟩ := zltd h139; clear h139
  refine zn_putR (pc := 177) fp_X10_75_40.1 fp_X10_75_40.2.2 fp_X10_75_40.2.1 dX10_init_177 hS141 ?_
  refine zn_aload_n (pc := 180) 0 dX10_init_180 rfl rfl ?_
  refine zn_bipush (pc := 181) (x := 60) dX10_init_181 (by decide) ?_
  obtain ⟨S143, hS144, h145⟩ := zltd h142; clear h142
  refine zn_newI (pc := 183) (M := M_X10_init) (kc := 25) (ks := 3017) zk_122 w_arrI dX10_init_183 (by decide) (by decide) (Nat.le_of_ble_eq_true rfl) hS144 (ks0 := 60) (Nat.le_of_ble_eq_true rfl) ?_
  obtain ⟨S146, hS147, h148⟩ := zltd h145; clear h145
  refine zn_putR (pc := 185) fp_X10_78_40.1 fp_X10_78_40.2.2 fp_X10_78_40.2.1 dX10_init_185 hS147 ?_
  refine zn_aload_n (pc := 188) 0 dX10_init_188 rfl rfl ?_
  refine zn_bipush (pc := 189) (x := 60) dX10_init_189 (by decide) ?_
  obtain ⟨S149, hS150, h151⟩ := zltd h148; clear h148
  refine zn_newI (pc := 191) (M := M_X10_init) (kc := 24) (ks := 2957) zk_123 w_arrI dX10_init_191 (by decide) (by decide) (Nat.le_of_ble_eq_true rfl) hS150 (ks0 := 60) (Nat.le_of_ble_eq_true rfl) ?_
  obtain ⟨S152, hS153, h154⟩ := zltd h151; clear h151
  refine zn_putR (pc := 193) fp_X10_81_40.1 fp_X10_81_40.2.2 fp_X10_81_40.2.1 dX10_init_193 hS153 ?_
  refine zn_aload_n (pc := 196) 0 dX10_init_196 rfl rfl ?_
  refine zn_bipush (pc := 197) (x := 60) dX10_init_197 (by decide) ?_
  obtain ⟨S155, hS156, h157⟩ := zltd h154; clear h154
  refine zn_newI (pc := 199) (M := M_X10_init) (kc := 23) (ks := 2897) zk_124 w_arrI dX10_init_199 (by decide) (by decide) (Nat.le_of_ble_eq_true rfl) hS156 (ks0 := 60) (Nat.le_of_ble_eq_true rfl) ?_
  obtain ⟨S158, hS159, h160⟩ := zltd h157; clear h157
  refine zn_putR (pc := 201) fp_X10_84_40.1 fp_X10_84_40.2.2 fp_X10_84_40.2.1 dX10_init_201 hS159 ?_
  refine zn_aload_n (pc := 204) 0 dX10_init_204 rfl rfl ?_
  refine zn_bipush (pc := 205) (x := 60) dX10_init_205 (by decide) ?_
  obtain ⟨S161, hS162, h163⟩ := zltd h160; clear h160
  refine zn_newI (pc := 207) (M := M_X10_init) (kc := 22) (ks := 2837) zk_125 w_arrI dX10_init_207 (by decide) (by decide) (Nat.le_of_ble_eq_true rfl) hS162 (ks0 := 60) (Nat.le_of_ble_eq_true rfl) ?_
  obtain ⟨S164, hS165, h166⟩ := zltd h163; clear h163
  refine zn_putR (pc := 209) fp_X10_87_40.1 fp_X10_87_40.2.2 fp_X10_87_40.2.1 dX10_init_209 hS165 ?_
  refine zn_aload_n (pc := 212) 0 dX10_init_212 rfl rfl ?_
  refine zn_bipush (pc := 213) (x := 60) dX10_init_213 (by decide) ?_
  obtain ⟨S167, hS168, h169⟩ := zltd h166; clear h166
  refine zn_newI (pc := 215) (M := M_X10_init) (kc := 21) (ks := 2777) zk_126 w_arrI dX10_init_215 (by decide) (by decide) (Nat.le_of_ble_eq_true rfl) hS168 (ks0 := 60) (Nat.le_of_ble_eq_true rfl) ?_
  obtain ⟨S170, hS171, h172⟩ := zltd h169; clear h169
  refine zn_putR (pc := 217) fp_X10_90_40.1 fp_X10_90_40.2.2 fp_X10_90_40.2.1 dX10_init_217 hS171 ?_
  refine zn_aload_n (pc := 220) 0 dX10_init_220 rfl rfl ?_
  refine zn_bipush (pc := 221) (x := 60) dX10_init_221 (by decide) ?_
  obtain ⟨S173, hS174, h175⟩ := zltd h172; clear h172
  refine zn_newI (pc := 223) (M := M_X10_init) (kc := 20) (ks := 2717) zk_127 w_arrI dX10_init_223 (by decide) (by decide) (Nat.le_of_ble_eq_true rfl) hS174 (ks0 := 60) (Nat.le_of_ble_eq_true rfl) ?_
  obtain ⟨S176, hS177, h178⟩ := zltd h175; clear h175
  refine zn_putR (pc := 225) fp_X10_93_40.1 fp_X10_93_40.2.2 fp_X10_93_40.2.1 dX10_init_225 hS177 ?_
  refine zn_aload_n (pc := 228) 0 dX10_init_228 rfl rfl ?_
  refine zn_sipush (pc := 229) (x := 240) dX10_init_229 (by decide) ?_
  obtain ⟨S179, hS180, h181⟩ := zltd h178; clear h178
  refine zn_newI (pc := 232) (M := M_X10_init) (kc := 19) (ks := 2477) zk_128 w_arrI dX10_init_232 (by decide) (by decide) (Nat.le_of_ble_eq_true rfl) hS180 (ks0 := 240) (Nat.le_of_ble_eq_true rfl) ?_
  obtain ⟨S182, hS183, h184⟩ := zltd h181; clear h181
  refine zn_putR (pc := 234) fp_X10_96_40.1 fp_X10_96_40.2.2 fp_X10_96_40.2.1 dX10_init_234 hS183 ?_
  refine zn_aload_n (pc := 237) 0 dX10_init_237 rfl rfl ?_
  refine zn_bipush (pc := 238) (x := 60) dX10_init_238 (by decide) ?_
  obtain ⟨S185, hS186, h187⟩ := zltd h184; clear h184
  refine zn_newI (pc := 240) (M := M_X10_init) (kc := 18) (ks := 2417) zk_129 w_arrI dX10_init_240 (by decide) (by decide) (Nat.le_of_ble_eq_true rfl) hS186 (ks0 := 60) (Nat.le_of_ble_eq_true rfl) ?_
  obtain ⟨S188, hS189, h190⟩ := zltd h187; clear h187
  refine zn_putR (pc := 242) fp_X10_99_40.1 fp_X10_99_40.2.2 fp_X10_99_40.2.1 dX10_init_242 hS189 ?_
  refine zn_aload_n (pc := 245) 0 dX10_init_245 rfl rfl ?_
  refine zn_bipush (pc := 246) (x := 30) dX10_init_246 (by decide) ?_
  obtain ⟨S191, hS192, h193⟩ := zltd h190; clear h190
  refine zn_newI (pc := 248) (M := M_X10_init) (kc := 17) (ks := 2387) zk_130 w_arrI dX10_init_248 (by decide) (by decide) (Nat.le_of_ble_eq_true rfl) hS192 (ks0 := 30) (Nat.le_of_ble_eq_true rfl) ?_
  obtain ⟨S194, hS195, h196⟩ := zltd h193; clear h193
  refine zn_putR (pc := 250) fp_X10_102_40.1 fp_X10_102_40.2.2 fp_X10_102_40.2.1 dX10_init_250 hS195 ?_
  refine zn_aload_n (pc := 253) 0 dX10_init_253 rfl rfl ?_
  refine zn_bipush (pc := 254) (x := 30) dX10_init_254 (by decide) ?_
  obtain ⟨S197, hS198, h199⟩ := zltd h196; clear h196
  refine zn_newI (pc := 256) (M := M_X10_init) (kc := 16) (ks := 2357) zk_131 w_arrI dX10_init_256 (by decide) (by decide) (Nat.le_of_ble_eq_true rfl) hS198 (ks0 := 30) (Nat.le_of_ble_eq_true rfl) ?_
  obtain ⟨S200, hS201, h202⟩ := zltd h199; clear h199
  refine zn_putR (pc := 258) fp_X10_105_40.1 fp_X10_105_40.2.2 fp_X10_105_40.2.1 dX10_init_258 hS201 ?_
  refine zn_aload_n (pc := 261) 0 dX10_init_261 rfl rfl ?_
  refine zn_bipush (pc := 262) (x := 30) dX10_init_262 (by decide) ?_
  obtain ⟨S203, hS204, h205⟩ := zltd h202; clear h202
  refine zn_newI (pc := 264) (M := M_X10_init) (kc := 15) (ks := 2327) zk_132 w_arrI dX10_init_264 (by decide) (by decide) (Nat.le_of_ble_eq_true rfl) hS204 (ks0 := 30) (Nat.le_of_ble_eq_true rfl) ?_
  obtain ⟨S206, hS207, h208⟩ := zltd h205; clear h205
  refine zn_putR (pc := 266) fp_X10_108_40.1 fp_X10_108_40.2.2 fp_X10_108_40.2.1 dX10_init_266 hS207 ?_
  refine zn_aload_n (pc := 269) 0 dX10_init_269 rfl rfl ?_
  refine zn_bipush (pc := 270) (x := 30) dX10_init_270 (by decide) ?_
  obtain ⟨S209, hS210, h211⟩ := zltd h208; clear h208
  refine zn_newI (pc := 272) (M := M_X10_init) (kc := 14) (ks := 2297) zk_133 w_arrI dX10_init_272 (by decide) (by decide) (Nat.le_of_ble_eq_true rfl) hS210 (ks0 := 30) (Nat.le_of_ble_eq_true rfl) ?_
  obtain ⟨S212, hS213, h214⟩ := zltd h211; clear h211
  refine zn_putR (pc := 274) fp_X10_111_40.1 fp_X10_111_40.2.2 fp_X10_111_40.2.1 dX10_init_274 hS213 ?_
  refine zn_aload_n (pc := 277) 0 dX10_init_277 rfl rfl ?_
  refine zn_bipush (pc := 278) (x := 30) dX10_init_278 (by decide) ?_
  obtain ⟨S215, hS216, h217⟩ := zltd h214; clear h214
  refine zn_newI (pc := 280) (M := M_X10_init) (kc := 13) (ks := 2267) zk_134 w_arrI dX10_init_280 (by decide) (by decide) (Nat.le_of_ble_eq_true rfl) hS216 (ks0 := 30) (Nat.le_of_ble_eq_true rfl) ?_
  obtain ⟨S218, hS219, h220⟩ := zltd h217; clear h217
  refine zn_putR (pc := 282) fp_X10_114_40.1 fp_X10_114_40.2.2 fp_X10_114_40.2.1 dX10_init_282 hS219 ?_
  refine zn_aload_n (pc := 285) 0 dX10_init_285 rfl rfl ?_
  refine zn_bipush (pc := 286) (x := 30) dX10_init_286 (by decide) ?_
  obtain ⟨S221, hS222, h223⟩ := zltd h220; clear h220
  refine zn_newI (pc := 288) (M := M_X10_init) (kc := 12) (ks := 2237) zk_135 w_arrI dX10_init_288 (by decide) (by decide) (Nat.le_of_ble_eq_true rfl) hS222 (ks0 := 30) (Nat.le_of_ble_eq_true rfl) ?_
  obtain ⟨S224, hS225, h226⟩ := zltd h223; clear h223
  refine zn_putR (pc := 290) fp_X10_117_40.1 fp_X10_117_40.2.2 fp_X10_117_40.2.1 dX10_init_290 hS225 ?_
  refine zn_aload_n (pc := 293) 0 dX10_init_293 rfl rfl ?_
  refine zn_bipush (pc := 294) (x := 30) dX10_init_294 (by decide) ?_
  obtain ⟨S227, hS228, h229⟩ := zltd h226; clear h226
  refine zn_newI (pc := 296) (M := M_X10_init) (kc := 11) (ks := 2207) zk_136 w_arrI dX10_init_296 (by decide) (by decide) (Nat.le_of_ble_eq_true rfl) hS228 (ks0 := 30) (Nat.le_of_ble_eq_true rfl) ?_
  obtain ⟨S230, hS231, h232⟩ := zltd h229; clear h229
  refine zn_putR (pc := 298) fp_X10_120_40.1 fp_X10_120_40.2.2 fp_X10_120_40.2.1 dX10_init_298 hS231 ?_
  refine zn_aload_n (pc := 301) 0 dX10_init_301 rfl rfl ?_
  refine zn_bipush (pc := 302) (x := 30) dX10_init_302 (by decide) ?_
  obtain ⟨S233, hS234, h235⟩ := zltd h232; clear h232
  refine zn_newI (pc := 304) (M := M_X10_init) (kc := 10) (ks := 2177) zk_137 w_arrI dX10_init_304 (by decide) (by decide) (Nat.le_of_ble_eq_true rfl) hS234 (ks0 := 30) (Nat.le_of_ble_eq_true rfl) ?_
  obtain ⟨S236, hS237, h238⟩ := zltd h235; clear h235
  refine zn_putR (pc := 306) fp_X10_123_40.1 fp_X10_123_40.2.2 fp_X10_123_40.2.1 dX10_init_306 hS237 ?_
  refine zn_aload_n (pc := 309) 0 dX10_init_309 rfl rfl ?_
  refine zn_bipush (pc := 310) (x := 30) dX10_init_310 (by decide) ?_
  obtain ⟨S239, hS240, h241⟩ := zltd h238; clear h238
  refine zn_newZ (pc := 312) (M := M_X10_init) (kc := 9) (ks := 2147) zk_138 w_arrZ dX10_init_312 (by decide) (by decide) (Nat.le_of_ble_eq_true rfl) hS240 (ks0 := 30) (Nat.le_of_ble_eq_true rfl) ?_
  obtain ⟨S242, hS243, h244⟩ := zltd h241; clear h241
  refine zn_putR (pc := 314) fp_X10_126_40.1 fp_X10_126_40.2.2 fp_X10_126_40.2.1 dX10_init_314 hS243 ?_
  refine zn_aload_n (pc := 317) 0 dX10_init_317 rfl rfl ?_
  refine zn_bipush (pc := 318) (x := 30) dX10_init_318 (by decide) ?_
  obtain ⟨S245, hS246, h247⟩ := zltd h244; clear h244
  refine zn_newZ (pc := 320) (M := M_X10_init) (kc := 8) (ks := 2117) zk_139 w_arrZ dX10_init_320 (by decide) (by decide) (Nat.le_of_ble_eq_true rfl) hS246 (ks0 := 30) (Nat.le_of_ble_eq_true rfl) ?_
  obtain ⟨S248, hS249, h250⟩ := zltd h247; clear h247
  refine zn_putR (pc := 322) fp_X10_130_40.1 fp_X10_130_40.2.2 fp_X10_130_40.2.1 dX10_init_322 hS249 ?_
  refine zn_aload_n (pc := 325) 0 dX10_init_325 rfl rfl ?_
  refine zn_bipush (pc := 326) (x := 30) dX10_init_326 (by decide) ?_
  obtain ⟨S251, hS252, h253⟩ := zltd h250; clear h250
  refine zn_newZ (pc := 328) (M := M_X10_init) (kc := 7) (ks := 2087) zk_140 w_arrZ dX10_init_328 (by decide) (by decide) (Nat.le_of_ble_eq_true rfl) hS252 (ks0 := 30) (Nat.le_of_ble_eq_true rfl) ?_
  obtain ⟨S254, hS255, h256⟩ := zltd h253; clear h253
  refine zn_putR (pc := 330) fp_X10_133_40.1 fp_X10_133_40.2.2 fp_X10_133_40.2.1 dX10_init_330 hS255 ?_
  refine zn_aload_n (pc := 333) 0 dX10_init_333 rfl rfl ?_
  refine zn_bipush (pc := 334) (x := 30) dX10_init_334 (by decide) ?_
  obtain ⟨S257, hS258, h259⟩ := zltd h256; clear h256
  refine zn_newI (pc := 336) (M := M_X10_init) (kc := 6) (ks := 2057) zk_141 w_arrI dX10_init_336 (by decide) (by decide) (Nat.le_of_ble_eq_true rfl) hS258 (ks0 := 30) (Nat.le_of_ble_eq_true rfl) ?_
  obtain ⟨S260, hS261, h262⟩ := zltd h259; clear h259
  refine zn_putR (pc := 338) fp_X10_136_40.1 fp_X10_136_40.2.2 fp_X10_136_40.2.1 dX10_init_338 hS261 ?_
  refine zn_aload_n (pc := 341) 0 dX10_init_341 rfl rfl ?_
  refine zn_bipush (pc := 342) (x := 30) dX10_init_342 (by decide) ?_
  obtain ⟨S263, hS264, h265⟩ := zltd h262; clear h262
  refine zn_newI (pc := 344) (M := M_X10_init) (kc := 5) (ks := 2027) zk_142 w_arrI dX10_init_344 (by decide) (by decide) (Nat.le_of_ble_eq_true rfl) hS264 (ks0 := 30) (Nat.le_of_ble_eq_true rfl) ?_
  obtain ⟨S266, hS267, h268⟩ := zltd h265; clear h265
  refine zn_putR (pc := 346) fp_X10_139_40.1 fp_X10_139_40.2.2 fp_X10_139_40.2.1 dX10_init_346 hS267 ?_
  refine zn_aload_n (pc := 349) 0 dX10_init_349 rfl rfl ?_
  refine zn_bipush (pc := 350) (x := 30) dX10_init_350 (by decide) ?_
  obtain ⟨S269, hS270, h271⟩ := zltd h268; clear h268
  refine zn_newI (pc := 352) (M := M_X10_init) (kc := 4) (ks := 1997) zk_143 w_arrI dX10_init_352 (by decide) (by decide) (Nat.le_of_ble_eq_true rfl) hS270 (ks0 := 30) (Nat.le_of_ble_eq_true rfl) ?_
  obtain ⟨S272, hS273, h274⟩ := zltd h271; clear h271
  refine zn_putR (pc := 354) fp_X10_142_40.1 fp_X10_142_40.2.2 fp_X10_142_40.2.1 dX10_init_354 hS273 ?_
  refine zn_aload_n (pc := 357) 0 dX10_init_357 rfl rfl ?_
  refine zn_sipush (pc := 358) (x := 1800) dX10_init_358 (by decide) ?_
  obtain ⟨S275, hS276, h277⟩ := zltd h274; clear h274
  refine zn_newI (pc := 361) (M := M_X10_init) (kc := 3) (ks := 197) zk_144 w_arrI dX10_init_361 (by decide) (by decide) (Nat.le_of_ble_eq_true rfl) hS276 (ks0 := 1800) (Nat.le_of_ble_eq_true rfl) ?_
  obtain ⟨S278, hS279, h280⟩ := zltd h277; clear h277
  refine zn_putR (pc := 363) fp_X10_145_40.1 fp_X10_145_40.2.2 fp_X10_145_40.2.1 dX10_init_363 hS279 ?_
  refine zn_aload_n (pc := 366) 0 dX10_init_366 rfl rfl ?_
  refine zn_bipush (pc := 367) (x := 9) dX10_init_367 (by decide) ?_
  obtain ⟨S281, hS282, h283⟩ := zltd h280; clear h280
  refine zn_newI (pc := 369) (M := M_X10_init) (kc := 2) (ks := 188) zk_145 w_arrI dX10_init_369 (by decide) (by decide) (Nat.le_of_ble_eq_true rfl) hS282 (ks0 := 9) (Nat.le_of_ble_eq_true rfl) ?_
  obtain ⟨S284, hS285, h286⟩ := zltd h283; clear h283
  refine zn_putR (pc := 371) fp_X10_148_40.1 fp_X10_148_40.2.2 fp_X10_148_40.2.1 dX10_init_371 hS285 ?_
  refine zn_aload_n (pc := 374) 0 dX10_init_374 rfl rfl ?_
  refine zn_iconst (pc := 375) (x := (-1)) dX10_init_375 (by decide) ?_
  obtain ⟨S287, hS288, h289⟩ := zltd h286; clear h286
  refine zn_putI (pc := 376) fp_X10_151_40.1 (fp_X10_151_40 (nm := "")).2 dX10_init_376 hS288 ?_
  refine zn_aload_n (pc := 379) 0 dX10_init_379 rfl rfl ?_
  refine zn_bipush (pc := 380) (x := 60) dX10_init_380 (by decide) ?_
  obtain ⟨S290, hS291, h292⟩ := zltd h289; clear h289
  refine zn_newI (pc := 382) (M := M_X10_init) (kc := 1) (ks := 128) zk_157 w_arrI dX10_init_382 (by decide) (by decide) (Nat.le_of_ble_eq_true rfl) hS291 (ks0 := 60) (Nat.le_of_ble_eq_true rfl) ?_
  obtain ⟨S293, hS294, h295⟩ := zltd h292; clear h292
  refine zn_putR (pc := 384) fp_X10_155_40.1 fp_X10_155_40.2.2 fp_X10_155_40.2.1 dX10_init_384 hS294 ?_
  refine zn_aload_n (pc := 387) 0 dX10_init_387 rfl rfl ?_
  refine zn_sipush (pc := 388) (x := 128) dX10_init_388 (by decide) ?_
  obtain ⟨S296, hS297, h298⟩ := zltd h295; clear h295
  refine zn_newI (pc := 391) (M := M_X10_init) (kc := 0) (ks := 0) zk_158 w_arrI dX10_init_391 (by decide) (by decide) (Nat.le_of_ble_eq_true rfl) hS297 (ks0 := 128) (Nat.le_of_ble_eq_true rfl) ?_
  obtain ⟨S299, hS300, h301⟩ := zltd h298; clear h298
  refine zn_putR (pc := 393) fp_X10_158_40.1 fp_X10_158_40.2.2 fp_X10_158_40.2.1 dX10_init_393 hS300 ?_
  refine zn_iconst (pc := 396) (x := 0) dX10_init_396 (by decide) ?_
  refine zn_istore_n (pc := 397) (ls' := [(1, vI 0), (0, vR 40 (some i0))]) dX10_init_397 rfl (Nat.le_of_ble_eq_true rfl) rfl ?_
  refine zn_pick [1, 0] rfl ?_
  exact b_X10_init_398  fu _ _ _ _ h301 hp
theorem c_X10_refuse {G : zG} {i0 : Nat} {x1 : Int32} {S : zH} {out : (Int32 × zH)} (h0 : f_X10_refuse i0 x1 S = some out) : zct G M_X10_refuse 0 0 0 [vR 40 (some i0), vI x1] S (zpo (some (vI out.1)) out.2) := by
  refine zct_of (by decide) (Nat.le_of_ble_eq_true rfl) ?_
  show zn G M_X10_refuse 0 0 0 0 [(0, vR 40 (some i0)), (1, vI x1)] [] S _
  have hp : zpo (some (vI out.1)) out.2 (some (vI out.1)) out.2 := ⟨rfl, rfl⟩
  unfold f_X10_refuse at h0
  refine zn_aload_n (pc := 0) 0 dX10_refuse_0 rfl rfl ?_
  refine zn_getR (pc := 1) fa_X10_7_40.1 fa_X10_7_40.2 dX10_refuse_1 ?_
  refine zn_iload_n (pc := 4) 1 dX10_refuse_4 rfl rfl ?_
  refine zn_ineg (pc := 5) dX10_refuse_5 ?_
  refine zn_dup2 (pc := 6) dX10_refuse_6 rfl rfl ?_
  obtain ⟨i1, hi2, h3⟩ := zbd h0; clear h0
  rw [hi2]
  obtain ⟨hb4, h5⟩ := zgdd h3; clear h3
  refine zn_iaload (pc := 7) zk_100 dX10_refuse_7 (zib_in hb4) ?_
  refine zn_iconst (pc := 8) (x := 1) dX10_refuse_8 (by decide) ?_
  refine zn_iadd (pc := 9) dX10_refuse_9 ?_
  obtain ⟨hb6, h7⟩ := zgdd h5; clear h5
  obtain ⟨S8, hS9, h10⟩ := zltd h7; clear h7
  refine zn_iastore (pc := 10) zk_100 dX10_refuse_10 (zib_in hb6) hS9 ?_
  refine zn_iload_n (pc := 11) 1 dX10_refuse_11 rfl rfl ?_
  have hz := Option.some.inj h10; clear h10; subst hz
  exact zn_ireturn (pc := 12) dX10_refuse_12 rfl hp
theorem c_X10_refuseFar {G : zG} {i0 : Nat} {x1 : Int32} {S : zH} {out : (Int64 × zH)} (h0 : f_X10_refuseFar i0 x1 S = some out) : zct G M_X10_refuseFar 1 0 0 [vR 40 (some i0), vI x1] S (zpo (some (vJ out.1)) out.2) := by
  refine zct_of (by decide) (Nat.le_of_ble_eq_true rfl) ?_
  show zn G M_X10_refuseFar 1 0 0 0 [(0, vR 40 (some i0)), (1, vI x1)] [] S _
  have hp : zpo (some (vJ out.1)) out.2 (some (vJ out.1)) out.2 := ⟨rfl, rfl⟩
  unfold f_X10_refuseFar at h0
  refine zn_ldc2 (pc := 0) dX10_refuseFar_0 w2_X10_161 ?_
  refine zn_aload_n (pc := 3) 0 dX10_refuseFar_3 rfl rfl ?_
  refine zn_iload_n (pc := 4) 1 dX10_refuseFar_4 rfl rfl ?_
  obtain ⟨o1, e2, h3⟩ := zbd h0; clear h0
  refine zn_cVv (pc := 5) (kc := 0) (ks := 0) (kc' := 0) (ks' := 0) (As := [vI x1]) (st := [vJ 4000000000000000000]) dX10_refuseFar_5 cs_X10_163 pc_40 rfl rfl (Nat.le_of_ble_eq_true rfl) ((c_X10_refuse e2).mono (Nat.le_of_ble_eq_true rfl)) ?_
  refine zn_i2l (pc := 8) dX10_refuseFar_8 ?_
  refine zn_lsub (pc := 9) dX10_refuseFar_9 ?_
  have hz := Option.some.inj h3; clear h3; subst hz
  exact zn_lreturn (pc := 10) dX10_refuseFar_10 rfl hp
theorem c_X10_isIn {G : zG} {x0 : Int32} {x1 : Int32} {S : zH} {out : Int32} (h0 : f_X10_isIn x0 x1 S = some out) : zct G M_X10_isIn 0 0 0 [vI x0, vI x1] S (zpo (some (vI out)) S) := by
  refine zct_of (by decide) (Nat.le_of_ble_eq_true rfl) ?_
  show zn G M_X10_isIn 0 0 0 0 [(0, vI x0), (1, vI x1)] [] S _
  have hp : zpo (some (vI out)) S (some (vI out)) S := ⟨rfl, rfl⟩
  unfold f_X10_isIn at h0
  refine zn_iload_n (pc := 0) 0 dX10_isIn_0 rfl rfl ?_
  have h2 := h0; clear h0
  refine zn_if_lt (pc := 1) (tgt := 13) dX10_isIn_1 (by decide) (fun c1 => ?_) (fun c1 => ?_)
  · replace h2 := zif_t c1 h2
    refine zn_iconst (pc := 13) (x := 0) dX10_isIn_13 (by decide) ?_
    have hz := Option.some.inj h2; clear h2; subst hz
    exact zn_zreturn (pc := 14) dX10_isIn_14 rfl (by decide) hp
  · replace h2 := zif_f c1 h2
    refine zn_iload_n (pc := 4) 0 dX10_isIn_4 rfl rfl ?_
    refine zn_iload_n (pc := 5) 1 dX10_isIn_5 rfl rfl ?_
    have h4 := h2; clear h2
    refine zn_icmp_ge (pc := 6) (tgt := 13) dX10_isIn_6 (by decide) (fun c3 => ?_) (fun c3 => ?_)
    · replace h4 := zif_t c3 h4
      refine zn_iconst (pc := 13) (x := 0) dX10_isIn_13 (by decide) ?_
      have hz := Option.some.inj h4; clear h4; subst hz
      exact zn_zreturn (pc := 14) dX10_isIn_14 rfl (by decide) hp
    · replace h4 := zif_f c3 h4
      refine zn_iconst (pc := 9) (x := 1) dX10_isIn_9 (by decide) ?_
      refine zn_goto (pc := 10) (tgt := 14) dX10_isIn_10 (by decide) ?_
      have hz := Option.some.inj h4; clear h4; subst hz
      exact zn_zreturn (pc := 14) dX10_isIn_14 rfl (by decide) hp
theorem c_X10_isBank {G : zG} {x0 : Int32} {S : zH} {out : Int32} (h0 : f_X10_isBank x0 S = some out) : zct G M_X10_isBank 1 0 0 [vI x0] S (zpo (some (vI out)) S) := by
  refine zct_of (by decide) (Nat.le_of_ble_eq_true rfl) ?_
  show zn G M_X10_isBank 1 0 0 0 [(0, vI x0)] [] S _
  have hp : zpo (some (vI out)) S (some (vI out)) S := ⟨rfl, rfl⟩
  unfold f_X10_isBank at h0
  refine zn_iload_n (pc := 0) 0 dX10_isBank_0 rfl rfl ?_
  refine zn_bipush (pc := 1) (x := 8) dX10_isBank_1 (by decide) ?_
  obtain ⟨o1, e2, h3⟩ := zbd h0; clear h0
  refine zn_cSv (pc := 3) (kc := 0) (ks := 0) (kc' := 0) (ks' := 0) (As := [vI x0, vI 8]) (st := []) dX10_isBank_3 cs_X10_167 rfl rfl (Nat.le_of_ble_eq_true rfl) ((c_X10_isIn e2).mono (Nat.le_of_ble_eq_true rfl)) ?_
  obtain ⟨hb4, h5⟩ := zgdd h3; clear h3
  have hz := Option.some.inj h5; clear h5; subst hz
  exact zn_zreturn (pc := 6) dX10_isBank_6 rfl (of_decide_eq_true hb4) hp
theorem c_X10_isAccount {G : zG} {i0 : Nat} {x1 : Int32} {S : zH} {out : Int32} (h0 : f_X10_isAccount i0 x1 S = some out) : zct G M_X10_isAccount 1 0 0 [vR 40 (some i0), vI x1] S (zpo (some (vI out)) S) := by
  refine zct_of (by decide) (Nat.le_of_ble_eq_true rfl) ?_
  show zn G M_X10_isAccount 1 0 0 0 [(0, vR 40 (some i0)), (1, vI x1)] [] S _
  have hp : zpo (some (vI out)) S (some (vI out)) S := ⟨rfl, rfl⟩
  unfold f_X10_isAccount at h0
  refine zn_iload_n (pc := 0) 1 dX10_isAccount_0 rfl rfl ?_
  refine zn_aload_n (pc := 1) 0 dX10_isAccount_1 rfl rfl ?_
  refine zn_getI (pc := 2) fa_X10_171_40.1 fa_X10_171_40.2 dX10_isAccount_2 ?_
  obtain ⟨o1, e2, h3⟩ := zbd h0; clear h0
  refine zn_cSv (pc := 5) (kc := 0) (ks := 0) (kc' := 0) (ks' := 0) (As := [vI x1, vI (zI S 40 i0 49)]) (st := []) dX10_isAccount_5 cs_X10_167 rfl rfl (Nat.le_of_ble_eq_true rfl) ((c_X10_isIn e2).mono (Nat.le_of_ble_eq_true rfl)) ?_
  obtain ⟨hb4, h5⟩ := zgdd h3; clear h3
  have hz := Option.some.inj h5; clear h5; subst hz
  exact zn_zreturn (pc := 8) dX10_isAccount_8 rfl (of_decide_eq_true hb4) hp
theorem c_X10_within {G : zG} {x0 : Int32} {x1 : Int32} {x2 : Int32} {S : zH} {out : Int32} (h0 : f_X10_within x0 x1 x2 S = some out) : zct G M_X10_within 0 0 0 [vI x0, vI x1, vI x2] S (zpo (some (vI out)) S) := by
  refine zct_of (by decide) (Nat.le_of_ble_eq_true rfl) ?_
  show zn G M_X10_within 0 0 0 0 [(0, vI x0), (1, vI x1), (2, vI x2)] [] S _
  have hp : zpo (some (vI out)) S (some (vI out)) S := ⟨rfl, rfl⟩
  unfold f_X10_within at h0
  refine zn_iload_n (pc := 0) 0 dX10_within_0 rfl rfl ?_
  refine zn_iload_n (pc := 1) 1 dX10_within_1 rfl rfl ?_
  have h2 := h0; clear h0
  refine zn_icmp_ge (pc := 2) (tgt := 10) dX10_within_2 (by decide) (fun c1 => ?_) (fun c1 => ?_)
  · replace h2 := zif_t c1 h2
    refine zn_iload_n (pc := 10) 0 dX10_within_10 rfl rfl ?_
    refine zn_iload_n (pc := 11) 2 dX10_within_11 rfl rfl ?_
    have h4 := h2; clear h2
    refine zn_icmp_le (pc := 12) (tgt := 20) dX10_within_12 (by decide) (fun c3 => ?_) (fun c3 => ?_)
    · replace h4 := zif_t c3 h4
      refine zn_iconst (pc := 20) (x := 0) dX10_within_20 (by decide) ?_
      have hz := Option.some.inj h4; clear h4; subst hz
      exact zn_ireturn (pc := 21) dX10_within_21 rfl hp
    · replace h4 := zif_f c3 h4
      refine zn_bipush (pc := 15) (x := (-6)) dX10_within_15 (by decide) ?_
      refine zn_goto (pc := 17) (tgt := 21) dX10_within_17 (by decide) ?_
      have hz := Option.some.inj h4; clear h4; subst hz
      exact zn_ireturn (pc := 21) dX10_within_21 rfl hp
  · replace h2 := zif_f c1 h2
    refine zn_bipush (pc := 5) (x := (-4)) dX10_within_5 (by decide) ?_
    refine zn_goto (pc := 7) (tgt := 21) dX10_within_7 (by decide) ?_
    have hz := Option.some.inj h2; clear h2; subst hz
    exact zn_ireturn (pc := 21) dX10_within_21 rfl hp
theorem b_X10_works_2 {G : zG} {Post : Option zV → zH → Prop} : ∀ (n : Nat) (i0 : Nat) (x1 : Int32) (x2 : Int32) (S : zH) (out : Int32), f_X10_works_2 n i0 x1 x2 S = some out → Post (some (vI out)) S → zn G M_X10_works 0 0 0 2 [(0, vR 40 (some i0)), (1, vI x1), (2, vI x2)] [] S Post := by
  intro n
  induction n with
  | zero => intro i0 x1 x2 S out h0 hp; exact (nomatch (show (none : Option _) = some out from h0))
  | succ n ih =>
    intro i0 x1 x2 S out h0 hp
    rw [f_X10_works_2] at h0
    refine zn_iload_n (pc := 2) 2 dX10_works_2 rfl rfl ?_
    refine zn_aload_n (pc := 3) 0 dX10_works_3 rfl rfl ?_
    refine zn_getI (pc := 4) fa_X10_174_40.1 fa_X10_174_40.2 dX10_works_4 ?_
    have h2 := h0; clear h0
    refine zn_icmp_ge (pc := 7) (tgt := 28) dX10_works_7 (by decide) (fun c1 => ?_) (fun c1 => ?_)
    · replace h2 := zif_t c1 h2
      refine zn_iload_n (pc := 28) 1 dX10_works_28 rfl rfl ?_
      refine zn_bipush (pc := 29) (x := 7) dX10_works_29 (by decide) ?_
      refine zn_irem (pc := 31) dX10_works_31 (by decide) ?_
      refine zn_iconst (pc := 32) (x := 5) dX10_works_32 (by decide) ?_
      have h4 := h2; clear h2
      refine zn_icmp_ge (pc := 33) (tgt := 40) dX10_works_33 (by decide) (fun c3 => ?_) (fun c3 => ?_)
      · replace h4 := zif_t c3 h4
        refine zn_iconst (pc := 40) (x := 0) dX10_works_40 (by decide) ?_
        have hz := Option.some.inj h4; clear h4; subst hz
        exact zn_zreturn (pc := 41) dX10_works_41 rfl (by decide) hp
      · replace h4 := zif_f c3 h4
        refine zn_iconst (pc := 36) (x := 1) dX10_works_36 (by decide) ?_
        refine zn_goto (pc := 37) (tgt := 41) dX10_works_37 (by decide) ?_
        have hz := Option.some.inj h4; clear h4; subst hz
        exact zn_zreturn (pc := 41) dX10_works_41 rfl (by decide) hp
    · replace h2 := zif_f c1 h2
      refine zn_aload_n (pc := 10) 0 dX10_works_10 rfl rfl ?_
      refine zn_getR (pc := 11) fa_X10_13_40.1 fa_X10_13_40.2 dX10_works_11 ?_
      refine zn_iload_n (pc := 14) 2 dX10_works_14 rfl rfl ?_
      obtain ⟨i5, hi6, h7⟩ := zbd h2; clear h2
      rw [hi6]
      obtain ⟨hb8, h9⟩ := zgdd h7; clear h7
      refine zn_iaload (pc := 15) zk_101 dX10_works_15 (zib_in hb8) ?_
      refine zn_iload_n (pc := 16) 1 dX10_works_16 rfl rfl ?_
      have h11 := h9; clear h9
      refine zn_icmp_ne (pc := 17) (tgt := 22) dX10_works_17 (by decide) (fun c10 => ?_) (fun c10 => ?_)
      · replace h11 := zif_f c10 h11
        refine zn_iinc (pc := 22) 2 (y := x2 + 1) (ls' := [(2, vI (x2 + 1)), (0, vR 40 (some i0)), (1, vI x1)]) dX10_works_22 rfl rfl (Nat.le_of_ble_eq_true rfl) rfl ?_
        refine zn_goto (pc := 25) (tgt := 2) dX10_works_25 (by decide) ?_
        refine zn_pick [1, 2, 0] rfl ?_
        exact ih _ _ _ _ _ h11 hp
      · replace h11 := zif_t c10 h11
        refine zn_iconst (pc := 20) (x := 0) dX10_works_20 (by decide) ?_
        have hz := Option.some.inj h11; clear h11; subst hz
        exact zn_zreturn (pc := 21) dX10_works_21 rfl (by decide) hp
theorem c_X10_works {G : zG} {i0 : Nat} {x1 : Int32} {S : zH} {out : Int32} (h0 : f_X10_works i0 x1 S = some out) : zct G M_X10_works 0 0 0 [vR 40 (some i0), vI x1] S (zpo (some (vI out)) S) := by
  refine zct_of (by decide) (Nat.le_of_ble_eq_true rfl) ?_
  show zn G M_X10_works 0 0 0 0 [(0, vR 40 (some i0)), (1, vI x1)] [] S _
  have hp : zpo (some (vI out)) S (some (vI out)) S := ⟨rfl, rfl⟩
  unfold f_X10_works at h0
  refine zn_iconst (pc := 0) (x := 0) dX10_works_0 (by decide) ?_
  refine zn_istore_n (pc := 1) (ls' := [(2, vI 0), (0, vR 40 (some i0)), (1, vI x1)]) dX10_works_1 rfl (Nat.le_of_ble_eq_true rfl) rfl ?_
  refine zn_pick [1, 2, 0] rfl ?_
  exact b_X10_works_2  fu _ _ _ _ _ h0 hp
theorem b_X10_isLate_2 {G : zG} {Post : Option zV → zH → Prop} : ∀ (n : Nat) (i0 : Nat) (x1 : Int32) (x2 : Int32) (x3 : Int32) (S : zH) (out : Int32), f_X10_isLate_2 n i0 x1 x2 x3 S = some out → Post (some (vI out)) S → zn G M_X10_isLate 0 0 0 2 [(0, vR 40 (some i0)), (1, vI x1), (2, vI x2), (3, vI x3)] [] S Post := by
  intro n
  induction n with
  | zero => intro i0 x1 x2 x3 S out h0 hp; exact (nomatch (show (none : Option _) = some out from h0))
  | succ n ih =>
    intro i0 x1 x2 x3 S out h0 hp
    rw [f_X10_isLate_2] at h0
    refine zn_iload_n (pc := 2) 3 dX10_isLate_2 rfl rfl ?_
    refine zn_aload_n (pc := 3) 0 dX10_isLate_3 rfl rfl ?_
    refine zn_getI (pc := 4) fa_X10_194_40.1 fa_X10_194_40.2 dX10_isLate_4 ?_
    have h2 := h0; clear h0
    refine zn_icmp_ge (pc := 7) (tgt := 38) dX10_isLate_7 (by decide) (fun c1 => ?_) (fun c1 => ?_)
    · replace h2 := zif_t c1 h2
      refine zn_iconst (pc := 38) (x := 0) dX10_isLate_38 (by decide) ?_
      have hz := Option.some.inj h2; clear h2; subst hz
      exact zn_zreturn (pc := 39) dX10_isLate_39 rfl (by decide) hp
    · replace h2 := zif_f c1 h2
      refine zn_aload_n (pc := 10) 0 dX10_isLate_10 rfl rfl ?_
      refine zn_getR (pc := 11) fa_X10_16_40.1 fa_X10_16_40.2 dX10_isLate_11 ?_
      refine zn_iload_n (pc := 14) 3 dX10_isLate_14 rfl rfl ?_
      obtain ⟨i3, hi4, h5⟩ := zbd h2; clear h2
      rw [hi4]
      obtain ⟨hb6, h7⟩ := zgdd h5; clear h5
      refine zn_iaload (pc := 15) zk_102 dX10_isLate_15 (zib_in hb6) ?_
      refine zn_iload_n (pc := 16) 1 dX10_isLate_16 rfl rfl ?_
      have h9 := h7; clear h7
      refine zn_icmp_ne (pc := 17) (tgt := 32) dX10_isLate_17 (by decide) (fun c8 => ?_) (fun c8 => ?_)
      · replace h9 := zif_f c8 h9
        refine zn_iinc (pc := 32) 3 (y := x3 + 1) (ls' := [(3, vI (x3 + 1)), (0, vR 40 (some i0)), (1, vI x1), (2, vI x2)]) dX10_isLate_32 rfl rfl (Nat.le_of_ble_eq_true rfl) rfl ?_
        refine zn_goto (pc := 35) (tgt := 2) dX10_isLate_35 (by decide) ?_
        refine zn_pick [1, 2, 3, 0] rfl ?_
        exact ih _ _ _ _ _ _ h9 hp
      · replace h9 := zif_t c8 h9
        refine zn_aload_n (pc := 20) 0 dX10_isLate_20 rfl rfl ?_
        refine zn_getR (pc := 21) fa_X10_19_40.1 fa_X10_19_40.2 dX10_isLate_21 ?_
        refine zn_iload_n (pc := 24) 3 dX10_isLate_24 rfl rfl ?_
        obtain ⟨i10, hi11, h12⟩ := zbd h9; clear h9
        rw [hi11]
        obtain ⟨hb13, h14⟩ := zgdd h12; clear h12
        refine zn_iaload (pc := 25) zk_103 dX10_isLate_25 (zib_in hb13) ?_
        refine zn_iload_n (pc := 26) 2 dX10_isLate_26 rfl rfl ?_
        have h16 := h14; clear h14
        refine zn_icmp_ne (pc := 27) (tgt := 32) dX10_isLate_27 (by decide) (fun c15 => ?_) (fun c15 => ?_)
        · replace h16 := zif_f c15 h16
          refine zn_iinc (pc := 32) 3 (y := x3 + 1) (ls' := [(3, vI (x3 + 1)), (0, vR 40 (some i0)), (1, vI x1), (2, vI x2)]) dX10_isLate_32 rfl rfl (Nat.le_of_ble_eq_true rfl) rfl ?_
          refine zn_goto (pc := 35) (tgt := 2) dX10_isLate_35 (by decide) ?_
          refine zn_pick [1, 2, 3, 0] rfl ?_
          exact ih _ _ _ _ _ _ h16 hp
        · replace h16 := zif_t c15 h16
          refine zn_iconst (pc := 30) (x := 1) dX10_isLate_30 (by decide) ?_
          have hz := Option.some.inj h16; clear h16; subst hz
          exact zn_zreturn (pc := 31) dX10_isLate_31 rfl (by decide) hp
theorem c_X10_isLate {G : zG} {i0 : Nat} {x1 : Int32} {x2 : Int32} {S : zH} {out : Int32} (h0 : f_X10_isLate i0 x1 x2 S = some out) : zct G M_X10_isLate 0 0 0 [vR 40 (some i0), vI x1, vI x2] S (zpo (some (vI out)) S) := by
  refine zct_of (by decide) (Nat.le_of_ble_eq_true rfl) ?_
  show zn G M_X10_isLate 0 0 0 0 [(0, vR 40 (some i0)), (1, vI x1), (2, vI x2)] [] S _
  have hp : zpo (some (vI out)) S (some (vI out)) S := ⟨rfl, rfl⟩
  unfold f_X10_isLate at h0
  refine zn_iconst (pc := 0) (x := 0) dX10_isLate_0 (by decide) ?_
  refine zn_istore_n (pc := 1) (ls' := [(3, vI 0), (0, vR 40 (some i0)), (1, vI x1), (2, vI x2)]) dX10_isLate_1 rfl (Nat.le_of_ble_eq_true rfl) rfl ?_
  refine zn_pick [1, 2, 3, 0] rfl ?_
  exact b_X10_isLate_2  fu _ _ _ _ _ _ h0 hp
theorem c_X10_refuses {G : zG} {i0 : Nat} {x1 : Int32} {x2 : Int32} {S : zH} {out : zH} (h0 : f_X10_refuses i0 x1 x2 S = some out) : zct G M_X10_refuses 0 0 0 [vR 40 (some i0), vI x1, vI x2] S (zpo none out) := by
  refine zct_of (by decide) (Nat.le_of_ble_eq_true rfl) ?_
  show zn G M_X10_refuses 0 0 0 0 [(0, vR 40 (some i0)), (1, vI x1), (2, vI x2)] [] S _
  have hp : zpo none out none out := ⟨rfl, rfl⟩
  unfold f_X10_refuses at h0
  refine zn_aload_n (pc := 0) 0 dX10_refuses_0 rfl rfl ?_
  refine zn_getR (pc := 1) fa_X10_126_40.1 fa_X10_126_40.2 dX10_refuses_1 ?_
  refine zn_iload_n (pc := 4) 1 dX10_refuses_4 rfl rfl ?_
  refine zn_iconst (pc := 5) (x := 0) dX10_refuses_5 (by decide) ?_
  obtain ⟨i1, hi2, h3⟩ := zbd h0; clear h0
  rw [hi2]
  obtain ⟨hb4, h5⟩ := zgdd h3; clear h3
  obtain ⟨S6, hS7, h8⟩ := zltd h5; clear h5
  refine zn_bastore (pc := 6) zk_138 dX10_refuses_6 (zib_in hb4) hS7 ?_
  refine zn_aload_n (pc := 7) 0 dX10_refuses_7 rfl rfl ?_
  refine zn_getR (pc := 8) fa_X10_111_40.1 fa_X10_111_40.2 dX10_refuses_8 ?_
  refine zn_iload_n (pc := 11) 1 dX10_refuses_11 rfl rfl ?_
  refine zn_iload_n (pc := 12) 2 dX10_refuses_12 rfl rfl ?_
  obtain ⟨i9, hi10, h11⟩ := zbd h8; clear h8
  rw [hi10]
  obtain ⟨hb12, h13⟩ := zgdd h11; clear h11
  obtain ⟨S14, hS15, h16⟩ := zltd h13; clear h13
  refine zn_iastore (pc := 13) zk_133 dX10_refuses_13 (zib_in hb12) hS15 ?_
  refine zn_aload_n (pc := 14) 0 dX10_refuses_14 rfl rfl ?_
  refine zn_getR (pc := 15) fa_X10_65_40.1 fa_X10_65_40.2 dX10_refuses_15 ?_
  refine zn_aload_n (pc := 18) 0 dX10_refuses_18 rfl rfl ?_
  refine zn_getR (pc := 19) fa_X10_102_40.1 fa_X10_102_40.2 dX10_refuses_19 ?_
  refine zn_iload_n (pc := 22) 1 dX10_refuses_22 rfl rfl ?_
  obtain ⟨i17, hi18, h19⟩ := zbd h16; clear h16
  rw [hi18]
  obtain ⟨hb20, h21⟩ := zgdd h19; clear h19
  refine zn_iaload (pc := 23) zk_130 dX10_refuses_23 (zib_in hb20) ?_
  refine zn_dup2 (pc := 24) dX10_refuses_24 rfl rfl ?_
  obtain ⟨i22, hi23, h24⟩ := zbd h21; clear h21
  rw [hi23]
  obtain ⟨hb25, h26⟩ := zgdd h24; clear h24
  refine zn_laload (pc := 25) zk_118 dX10_refuses_25 (zib_in hb25) ?_
  refine zn_aload_n (pc := 26) 0 dX10_refuses_26 rfl rfl ?_
  refine zn_getR (pc := 27) fa_X10_65_40.1 fa_X10_65_40.2 dX10_refuses_27 ?_
  refine zn_aload_n (pc := 30) 0 dX10_refuses_30 rfl rfl ?_
  refine zn_getR (pc := 31) fa_X10_105_40.1 fa_X10_105_40.2 dX10_refuses_31 ?_
  refine zn_iload_n (pc := 34) 1 dX10_refuses_34 rfl rfl ?_
  obtain ⟨i27, hi28, h29⟩ := zbd h26; clear h26
  rw [hi28]
  obtain ⟨hb30, h31⟩ := zgdd h29; clear h29
  refine zn_iaload (pc := 35) zk_131 dX10_refuses_35 (zib_in hb30) ?_
  obtain ⟨i32, hi33, h34⟩ := zbd h31; clear h31
  rw [hi33]
  obtain ⟨hb35, h36⟩ := zgdd h34; clear h34
  refine zn_laload (pc := 36) zk_118 dX10_refuses_36 (zib_in hb35) ?_
  refine zn_ladd (pc := 37) dX10_refuses_37 ?_
  obtain ⟨hb37, h38⟩ := zgdd h36; clear h36
  obtain ⟨S39, hS40, h41⟩ := zltd h38; clear h38
  refine zn_lastore (pc := 38) zk_118 dX10_refuses_38 (zib_in hb37) hS40 ?_
  refine zn_aload_n (pc := 39) 0 dX10_refuses_39 rfl rfl ?_
  refine zn_getR (pc := 40) fa_X10_65_40.1 fa_X10_65_40.2 dX10_refuses_40 ?_
  refine zn_aload_n (pc := 43) 0 dX10_refuses_43 rfl rfl ?_
  refine zn_getR (pc := 44) fa_X10_105_40.1 fa_X10_105_40.2 dX10_refuses_44 ?_
  refine zn_iload_n (pc := 47) 1 dX10_refuses_47 rfl rfl ?_
  obtain ⟨i42, hi43, h44⟩ := zbd h41; clear h41
  rw [hi43]
  obtain ⟨hb45, h46⟩ := zgdd h44; clear h44
  refine zn_iaload (pc := 48) zk_131 dX10_refuses_48 (zib_in hb45) ?_
  refine zn_lconst (pc := 49) (x := 0) dX10_refuses_49 (by decide) ?_
  obtain ⟨i47, hi48, h49⟩ := zbd h46; clear h46
  rw [hi48]
  obtain ⟨hb50, h51⟩ := zgdd h49; clear h49
  obtain ⟨S52, hS53, h54⟩ := zltd h51; clear h51
  refine zn_lastore (pc := 50) zk_118 dX10_refuses_50 (zib_in hb50) hS53 ?_
  refine zn_aload_n (pc := 51) 0 dX10_refuses_51 rfl rfl ?_
  refine zn_getR (pc := 52) fa_X10_53_40.1 fa_X10_53_40.2 dX10_refuses_52 ?_
  refine zn_aload_n (pc := 55) 0 dX10_refuses_55 rfl rfl ?_
  refine zn_getR (pc := 56) fa_X10_105_40.1 fa_X10_105_40.2 dX10_refuses_56 ?_
  refine zn_iload_n (pc := 59) 1 dX10_refuses_59 rfl rfl ?_
  obtain ⟨i55, hi56, h57⟩ := zbd h54; clear h54
  rw [hi56]
  obtain ⟨hb58, h59⟩ := zgdd h57; clear h57
  refine zn_iaload (pc := 60) zk_131 dX10_refuses_60 (zib_in hb58) ?_
  refine zn_iconst (pc := 61) (x := 1) dX10_refuses_61 (by decide) ?_
  obtain ⟨i60, hi61, h62⟩ := zbd h59; clear h59
  rw [hi61]
  obtain ⟨hb63, h64⟩ := zgdd h62; clear h62
  obtain ⟨S65, hS66, h67⟩ := zltd h64; clear h64
  refine zn_iastore (pc := 62) zk_114 dX10_refuses_62 (zib_in hb63) hS66 ?_
  have hz := Option.some.inj h67; clear h67; subst hz
  exact zn_return (pc := 63) dX10_refuses_63 rfl hp
theorem b_X10_bare_2 {G : zG} {Post : Option zV → zH → Prop} : ∀ (n : Nat) (i0 : Nat) (x1 : Int32) (S : zH) (out : zH), f_X10_bare_2 n i0 x1 S = some out → Post none out → zn G M_X10_bare 0 0 0 2 [(0, vR 40 (some i0)), (1, vI x1)] [] S Post := by
  intro n
  induction n with
  | zero => intro i0 x1 S out h0 hp; exact (nomatch (show (none : Option _) = some out from h0))
  | succ n ih =>
    intro i0 x1 S out h0 hp
    rw [f_X10_bare_2] at h0
    refine zn_iload_n (pc := 2) 1 dX10_bare_2 rfl rfl ?_
    refine zn_sipush (pc := 3) (x := 128) dX10_bare_3 (by decide) ?_
    have h2 := h0; clear h0
    refine zn_icmp_ge (pc := 6) (tgt := 22) dX10_bare_6 (by decide) (fun c1 => ?_) (fun c1 => ?_)
    · replace h2 := zif_t c1 h2
      have hz := Option.some.inj h2; clear h2; subst hz
      exact zn_return (pc := 22) dX10_bare_22 rfl hp
    · replace h2 := zif_f c1 h2
      refine zn_aload_n (pc := 9) 0 dX10_bare_9 rfl rfl ?_
      refine zn_getR (pc := 10) fa_X10_158_40.1 fa_X10_158_40.2 dX10_bare_10 ?_
      refine zn_iload_n (pc := 13) 1 dX10_bare_13 rfl rfl ?_
      refine zn_iconst (pc := 14) (x := 0) dX10_bare_14 (by decide) ?_
      obtain ⟨i3, hi4, h5⟩ := zbd h2; clear h2
      rw [hi4]
      obtain ⟨hb6, h7⟩ := zgdd h5; clear h5
      obtain ⟨S8, hS9, h10⟩ := zltd h7; clear h7
      refine zn_iastore (pc := 15) zk_158 dX10_bare_15 (zib_in hb6) hS9 ?_
      refine zn_iinc (pc := 16) 1 (y := x1 + 1) (ls' := [(1, vI (x1 + 1)), (0, vR 40 (some i0))]) dX10_bare_16 rfl rfl (Nat.le_of_ble_eq_true rfl) rfl ?_
      refine zn_goto (pc := 19) (tgt := 2) dX10_bare_19 (by decide) ?_
      refine zn_pick [1, 0] rfl ?_
      exact ih _ _ _ _ h10 hp
theorem c_X10_bare {G : zG} {i0 : Nat} {S : zH} {out : zH} (h0 : f_X10_bare i0 S = some out) : zct G M_X10_bare 0 0 0 [vR 40 (some i0)] S (zpo none out) := by
  refine zct_of (by decide) (Nat.le_of_ble_eq_true rfl) ?_
  show zn G M_X10_bare 0 0 0 0 [(0, vR 40 (some i0))] [] S _
  have hp : zpo none out none out := ⟨rfl, rfl⟩
  unfold f_X10_bare at h0
  refine zn_iconst (pc := 0) (x := 0) dX10_bare_0 (by decide) ?_
  refine zn_istore_n (pc := 1) (ls' := [(1, vI 0), (0, vR 40 (some i0))]) dX10_bare_1 rfl (Nat.le_of_ble_eq_true rfl) rfl ?_
  refine zn_pick [1, 0] rfl ?_
  exact b_X10_bare_2  fu _ _ _ _ h0 hp
theorem c_X10_held {G : zG} {x0 : Int64} {S : zH} {out : Int32} (h0 : f_X10_held x0 S = some out) : zct G M_X10_held 0 0 0 [vJ x0] S (zpo (some (vI out)) S) := by
  refine zct_of (by decide) (Nat.le_of_ble_eq_true rfl) ?_
  show zn G M_X10_held 0 0 0 0 [(0, vJ x0)] [] S _
  have hp : zpo (some (vI out)) S (some (vI out)) S := ⟨rfl, rfl⟩
  unfold f_X10_held at h0
  refine zn_lload_n (pc := 0) 0 dX10_held_0 rfl rfl ?_
  refine zn_ldc2 (pc := 1) dX10_held_1 w2_X10_244 ?_
  refine zn_lcmp (pc := 4) dX10_held_4 ?_
  have h2 := h0; clear h0
  refine zn_if_le (pc := 5) (tgt := 14) dX10_held_5 (by decide) (fun c1 => ?_) (fun c1 => ?_)
  · replace h2 := zif_t c1 h2
    refine zn_lload_n (pc := 14) 0 dX10_held_14 rfl rfl ?_
    refine zn_ldc2 (pc := 15) dX10_held_15 w2_X10_246 ?_
    refine zn_lcmp (pc := 18) dX10_held_18 ?_
    have h4 := h2; clear h2
    refine zn_if_ge (pc := 19) (tgt := 28) dX10_held_19 (by decide) (fun c3 => ?_) (fun c3 => ?_)
    · replace h4 := zif_t c3 h4
      refine zn_lload_n (pc := 28) 0 dX10_held_28 rfl rfl ?_
      refine zn_l2i (pc := 29) dX10_held_29 ?_
      have hz := Option.some.inj h4; clear h4; subst hz
      exact zn_ireturn (pc := 30) dX10_held_30 rfl hp
    · replace h4 := zif_f c3 h4
      refine zn_ldc2 (pc := 22) dX10_held_22 w2_X10_246 ?_
      refine zn_goto (pc := 25) (tgt := 29) dX10_held_25 (by decide) ?_
      refine zn_l2i (pc := 29) dX10_held_29 ?_
      have hz := Option.some.inj h4; clear h4; subst hz
      exact zn_ireturn (pc := 30) dX10_held_30 rfl hp
  · replace h2 := zif_f c1 h2
    refine zn_ldc2 (pc := 8) dX10_held_8 w2_X10_244 ?_
    refine zn_goto (pc := 11) (tgt := 29) dX10_held_11 (by decide) ?_
    refine zn_l2i (pc := 29) dX10_held_29 ?_
    have hz := Option.some.inj h2; clear h2; subst hz
    exact zn_ireturn (pc := 30) dX10_held_30 rfl hp
theorem b_X10_puts_78 {G : zG} {Post : Option zV → zH → Prop} : ∀ (n : Nat) (i0 : Nat) (x1 : Int32) (x3 : Int32) (x4 : Int32) (S : zH) (out : zH), f_X10_puts_78 n i0 x1 x3 x4 S = some out → Post none out → zn G M_X10_puts 1 0 0 78 [(0, vR 40 (some i0)), (1, vI x1), (3, vI x3), (4, vI x4)] [] S Post := by
  intro n
  induction n with
  | zero => intro i0 x1 x3 x4 S out h0 hp; exact (nomatch (show (none : Option _) = some out from h0))
  | succ n ih =>
    intro i0 x1 x3 x4 S out h0 hp
    rw [f_X10_puts_78] at h0
    refine zn_iload (pc := 78) 3 dX10_puts_78 rfl ?_
    refine zn_aload_n (pc := 80) 0 dX10_puts_80 rfl rfl ?_
    refine zn_getI (pc := 81) fa_X10_287_40.1 fa_X10_287_40.2 dX10_puts_81 ?_
    have h2 := h0; clear h0
    refine zn_icmp_ge (pc := 84) (tgt := 129) dX10_puts_84 (by decide) (fun c1 => ?_) (fun c1 => ?_)
    · replace h2 := zif_t c1 h2
      refine zn_aload_n (pc := 129) 0 dX10_puts_129 rfl rfl ?_
      refine zn_getR (pc := 130) fa_X10_158_40.1 fa_X10_158_40.2 dX10_puts_130 ?_
      refine zn_bipush (pc := 133) (x := 100) dX10_puts_133 (by decide) ?_
      refine zn_iload_n (pc := 135) 2 dX10_puts_135 rfl rfl ?_
      obtain ⟨i3, hi4, h5⟩ := zbd h2; clear h2
      rw [hi4]
      obtain ⟨hb6, h7⟩ := zgdd h5; clear h5
      obtain ⟨S8, hS9, h10⟩ := zltd h7; clear h7
      refine zn_iastore (pc := 136) zk_158 dX10_puts_136 (zib_in hb6) hS9 ?_
      have hz := Option.some.inj h10; clear h10; subst hz
      exact zn_return (pc := 137) dX10_puts_137 rfl hp
    · replace h2 := zif_f c1 h2
      refine zn_aload_n (pc := 87) 0 dX10_puts_87 rfl rfl ?_
      refine zn_getR (pc := 88) fa_X10_158_40.1 fa_X10_158_40.2 dX10_puts_88 ?_
      refine zn_bipush (pc := 91) (x := 108) dX10_puts_91 (by decide) ?_
      refine zn_dup2 (pc := 93) dX10_puts_93 rfl rfl ?_
      obtain ⟨i11, hi12, h13⟩ := zbd h2; clear h2
      rw [hi12]
      obtain ⟨hb14, h15⟩ := zgdd h13; clear h13
      refine zn_iaload (pc := 94) zk_158 dX10_puts_94 (zib_in hb14) ?_
      refine zn_aload_n (pc := 95) 0 dX10_puts_95 rfl rfl ?_
      refine zn_getR (pc := 96) fa_X10_75_40.1 fa_X10_75_40.2 dX10_puts_96 ?_
      refine zn_iload (pc := 99) 3 dX10_puts_99 rfl ?_
      obtain ⟨i16, hi17, h18⟩ := zbd h15; clear h15
      rw [hi17]
      obtain ⟨hb19, h20⟩ := zgdd h18; clear h18
      refine zn_iaload (pc := 101) zk_121 dX10_puts_101 (zib_in hb19) ?_
      refine zn_iload_n (pc := 102) 1 dX10_puts_102 rfl rfl ?_
      have h22 := h20; clear h20
      refine zn_icmp_ne (pc := 103) (tgt := 120) dX10_puts_103 (by decide) (fun c21 => ?_) (fun c21 => ?_)
      · replace h22 := zif_f c21 h22
        refine zn_iconst (pc := 120) (x := 0) dX10_puts_120 (by decide) ?_
        refine zn_iadd (pc := 121) dX10_puts_121 ?_
        obtain ⟨hb23, h24⟩ := zgdd h22; clear h22
        obtain ⟨S25, hS26, h27⟩ := zltd h24; clear h24
        refine zn_iastore (pc := 122) zk_158 dX10_puts_122 (zib_in hb23) hS26 ?_
        refine zn_iinc (pc := 123) 3 (y := x4 + 1) (ls' := [(4, vI (x4 + 1)), (0, vR 40 (some i0)), (1, vI x1), (3, vI x3)]) dX10_puts_123 rfl rfl (Nat.le_of_ble_eq_true rfl) rfl ?_
        refine zn_goto (pc := 126) (tgt := 78) dX10_puts_126 (by decide) ?_
        refine zn_pick [1, 2, 3, 0] rfl ?_
        exact ih _ _ _ _ _ _ h27 hp
      · replace h22 := zif_t c21 h22
        refine zn_aload_n (pc := 106) 0 dX10_puts_106 rfl rfl ?_
        refine zn_getR (pc := 107) fa_X10_90_40.1 fa_X10_90_40.2 dX10_puts_107 ?_
        refine zn_iload (pc := 110) 3 dX10_puts_110 rfl ?_
        obtain ⟨i28, hi29, h30⟩ := zbd h22; clear h22
        rw [hi29]
        obtain ⟨hb31, h32⟩ := zgdd h30; clear h30
        refine zn_iaload (pc := 112) zk_126 dX10_puts_112 (zib_in hb31) ?_
        have h34 := h32; clear h32
        refine zn_if_ge (pc := 113) (tgt := 120) dX10_puts_113 (by decide) (fun c33 => ?_) (fun c33 => ?_)
        · replace h34 := zif_t c33 h34
          refine zn_iconst (pc := 120) (x := 0) dX10_puts_120 (by decide) ?_
          refine zn_iadd (pc := 121) dX10_puts_121 ?_
          obtain ⟨hb35, h36⟩ := zgdd h34; clear h34
          obtain ⟨S37, hS38, h39⟩ := zltd h36; clear h36
          refine zn_iastore (pc := 122) zk_158 dX10_puts_122 (zib_in hb35) hS38 ?_
          refine zn_iinc (pc := 123) 3 (y := x4 + 1) (ls' := [(4, vI (x4 + 1)), (0, vR 40 (some i0)), (1, vI x1), (3, vI x3)]) dX10_puts_123 rfl rfl (Nat.le_of_ble_eq_true rfl) rfl ?_
          refine zn_goto (pc := 126) (tgt := 78) dX10_puts_126 (by decide) ?_
          refine zn_pick [1, 2, 3, 0] rfl ?_
          exact ih _ _ _ _ _ _ h39 hp
        · replace h34 := zif_f c33 h34
          refine zn_iconst (pc := 116) (x := 1) dX10_puts_116 (by decide) ?_
          refine zn_goto (pc := 117) (tgt := 121) dX10_puts_117 (by decide) ?_
          refine zn_iadd (pc := 121) dX10_puts_121 ?_
          obtain ⟨hb40, h41⟩ := zgdd h34; clear h34
          obtain ⟨S42, hS43, h44⟩ := zltd h41; clear h41
          refine zn_iastore (pc := 122) zk_158 dX10_puts_122 (zib_in hb40) hS43 ?_
          refine zn_iinc (pc := 123) 3 (y := x4 + 1) (ls' := [(4, vI (x4 + 1)), (0, vR 40 (some i0)), (1, vI x1), (3, vI x3)]) dX10_puts_123 rfl rfl (Nat.le_of_ble_eq_true rfl) rfl ?_
          refine zn_goto (pc := 126) (tgt := 78) dX10_puts_126 (by decide) ?_
          refine zn_pick [1, 2, 3, 0] rfl ?_
          exact ih _ _ _ _ _ _ h44 hp
theorem c_X10_puts {G : zG} {i0 : Nat} {x1 : Int32} {x2 : Int32} {x3 : Int32} {S : zH} {out : zH} (h0 : f_X10_puts i0 x1 x2 x3 S = some out) : zct G M_X10_puts 1 0 0 [vR 40 (some i0), vI x1, vI x2, vI x3] S (zpo none out) := by
  refine zct_of (by decide) (Nat.le_of_ble_eq_true rfl) ?_
  show zn G M_X10_puts 1 0 0 0 [(0, vR 40 (some i0)), (1, vI x1), (2, vI x2), (3, vI x3)] [] S _
  have hp : zpo none out none out := ⟨rfl, rfl⟩
  unfold f_X10_puts at h0
  refine zn_aload_n (pc := 0) 0 dX10_puts_0 rfl rfl ?_
  obtain ⟨o45, e46, h47⟩ := zbd h0; clear h0
  refine zn_cV0 (pc := 1) (kc := 0) (ks := 0) (kc' := 0) (ks' := 0) (As := []) (st := []) dX10_puts_1 cs_X10_220 pc_40 rfl rfl (Nat.le_of_ble_eq_true rfl) ((c_X10_bare e46).mono (Nat.le_of_ble_eq_true rfl)) ?_
  refine zn_aload_n (pc := 4) 0 dX10_puts_4 rfl rfl ?_
  refine zn_getR (pc := 5) fa_X10_158_40.1 fa_X10_158_40.2 dX10_puts_5 ?_
  refine zn_bipush (pc := 8) (x := 98) dX10_puts_8 (by decide) ?_
  refine zn_aload_n (pc := 10) 0 dX10_puts_10 rfl rfl ?_
  refine zn_getR (pc := 11) fa_X10_41_40.1 fa_X10_41_40.2 dX10_puts_11 ?_
  refine zn_iload_n (pc := 14) 1 dX10_puts_14 rfl rfl ?_
  obtain ⟨i48, hi49, h50⟩ := zbd h47; clear h47
  rw [hi49]
  obtain ⟨hb51, h52⟩ := zgdd h50; clear h50
  refine zn_iaload (pc := 15) zk_110 dX10_puts_15 (zib_in hb51) ?_
  obtain ⟨i53, hi54, h55⟩ := zbd h52; clear h52
  rw [hi54]
  obtain ⟨hb56, h57⟩ := zgdd h55; clear h55
  obtain ⟨S58, hS59, h60⟩ := zltd h57; clear h57
  refine zn_iastore (pc := 16) zk_158 dX10_puts_16 (zib_in hb56) hS59 ?_
  refine zn_aload_n (pc := 17) 0 dX10_puts_17 rfl rfl ?_
  refine zn_getR (pc := 18) fa_X10_158_40.1 fa_X10_158_40.2 dX10_puts_18 ?_
  refine zn_bipush (pc := 21) (x := 116) dX10_puts_21 (by decide) ?_
  refine zn_iload_n (pc := 23) 2 dX10_puts_23 rfl rfl ?_
  obtain ⟨i61, hi62, h63⟩ := zbd h60; clear h60
  rw [hi62]
  obtain ⟨hb64, h65⟩ := zgdd h63; clear h63
  obtain ⟨S66, hS67, h68⟩ := zltd h65; clear h65
  refine zn_iastore (pc := 24) zk_158 dX10_puts_24 (zib_in hb64) hS67 ?_
  refine zn_aload_n (pc := 25) 0 dX10_puts_25 rfl rfl ?_
  refine zn_getR (pc := 26) fa_X10_158_40.1 fa_X10_158_40.2 dX10_puts_26 ?_
  refine zn_bipush (pc := 29) (x := 115) dX10_puts_29 (by decide) ?_
  refine zn_aload_n (pc := 31) 0 dX10_puts_31 rfl rfl ?_
  refine zn_getR (pc := 32) fa_X10_65_40.1 fa_X10_65_40.2 dX10_puts_32 ?_
  refine zn_iload_n (pc := 35) 1 dX10_puts_35 rfl rfl ?_
  obtain ⟨i69, hi70, h71⟩ := zbd h68; clear h68
  rw [hi70]
  obtain ⟨hb72, h73⟩ := zgdd h71; clear h71
  refine zn_laload (pc := 36) zk_118 dX10_puts_36 (zib_in hb72) ?_
  obtain ⟨o74, e75, h76⟩ := zbd h73; clear h73
  refine zn_cSv (pc := 37) (kc := 0) (ks := 0) (kc' := 0) (ks' := 0) (As := [vJ (zJ S66 118 i69 (Int32.toNatClampNeg x1))]) (st := [vI 115, vR 158 (zR S66 40 i0 58)]) dX10_puts_37 cs_X10_259 rfl rfl (Nat.le_of_ble_eq_true rfl) ((c_X10_held e75).mono (Nat.le_of_ble_eq_true rfl)) ?_
  obtain ⟨i77, hi78, h79⟩ := zbd h76; clear h76
  rw [hi78]
  obtain ⟨hb80, h81⟩ := zgdd h79; clear h79
  obtain ⟨S82, hS83, h84⟩ := zltd h81; clear h81
  refine zn_iastore (pc := 40) zk_158 dX10_puts_40 (zib_in hb80) hS83 ?_
  refine zn_aload_n (pc := 41) 0 dX10_puts_41 rfl rfl ?_
  refine zn_getR (pc := 42) fa_X10_158_40.1 fa_X10_158_40.2 dX10_puts_42 ?_
  refine zn_bipush (pc := 45) (x := 111) dX10_puts_45 (by decide) ?_
  refine zn_aload_n (pc := 47) 0 dX10_puts_47 rfl rfl ?_
  refine zn_getR (pc := 48) fa_X10_50_40.1 fa_X10_50_40.2 dX10_puts_48 ?_
  refine zn_iload_n (pc := 51) 1 dX10_puts_51 rfl rfl ?_
  obtain ⟨i85, hi86, h87⟩ := zbd h84; clear h84
  rw [hi86]
  obtain ⟨hb88, h89⟩ := zgdd h87; clear h87
  refine zn_iaload (pc := 52) zk_113 dX10_puts_52 (zib_in hb88) ?_
  obtain ⟨i90, hi91, h92⟩ := zbd h89; clear h89
  rw [hi91]
  obtain ⟨hb93, h94⟩ := zgdd h92; clear h92
  obtain ⟨S95, hS96, h97⟩ := zltd h94; clear h94
  refine zn_iastore (pc := 53) zk_158 dX10_puts_53 (zib_in hb93) hS96 ?_
  refine zn_aload_n (pc := 54) 0 dX10_puts_54 rfl rfl ?_
  refine zn_getR (pc := 55) fa_X10_158_40.1 fa_X10_158_40.2 dX10_puts_55 ?_
  refine zn_bipush (pc := 58) (x := 106) dX10_puts_58 (by decide) ?_
  refine zn_aload_n (pc := 60) 0 dX10_puts_60 rfl rfl ?_
  refine zn_getR (pc := 61) fa_X10_47_40.1 fa_X10_47_40.2 dX10_puts_61 ?_
  refine zn_iload_n (pc := 64) 1 dX10_puts_64 rfl rfl ?_
  obtain ⟨i98, hi99, h100⟩ := zbd h97; clear h97
  rw [hi99]
  obtain ⟨hb101, h102⟩ := zgdd h100; clear h100
  refine zn_iaload (pc := 65) zk_112 dX10_puts_65 (zib_in hb101) ?_
  have h104 := h102; clear h102
  refine zn_if_lt (pc := 66) (tgt := 73) dX10_puts_66 (by decide) (fun c103 => ?_) (fun c103 => ?_)
  · replace h104 := zif_t c103 h104
    refine zn_iconst (pc := 73) (x := 0) dX10_puts_73 (by decide) ?_
    obtain ⟨i105, hi106, h107⟩ := zbd h104; clear h104
    rw [hi106]
    obtain ⟨hb108, h109⟩ := zgdd h107; clear h107
    obtain ⟨S110, hS111, h112⟩ := zltd h109; clear h109
    refine zn_iastore (pc := 74) zk_158 dX10_puts_74 (zib_in hb108) hS111 ?_
    refine zn_iconst (pc := 75) (x := 0) dX10_puts_75 (by decide) ?_
    refine zn_istore (pc := 76) (ls' := [(4, vI 0), (0, vR 40 (some i0)), (1, vI x1), (2, vI x2), (3, vI x3)]) dX10_puts_76 (Nat.le_of_ble_eq_true rfl) rfl ?_
    refine zn_pick [1, 2, 4, 0] rfl ?_
    exact b_X10_puts_78  fu _ _ _ _ _ _ h112 hp
  · replace h104 := zif_f c103 h104
    refine zn_iconst (pc := 69) (x := 1) dX10_puts_69 (by decide) ?_
    refine zn_goto (pc := 70) (tgt := 74) dX10_puts_70 (by decide) ?_
    obtain ⟨i113, hi114, h115⟩ := zbd h104; clear h104
    rw [hi114]
    obtain ⟨hb116, h117⟩ := zgdd h115; clear h115
    obtain ⟨S118, hS119, h120⟩ := zltd h117; clear h117
    refine zn_iastore (pc := 74) zk_158 dX10_puts_74 (zib_in hb116) hS119 ?_
    refine zn_iconst (pc := 75) (x := 0) dX10_puts_75 (by decide) ?_
    refine zn_istore (pc := 76) (ls' := [(4, vI 0), (0, vR 40 (some i0)), (1, vI x1), (2, vI x2), (3, vI x3)]) dX10_puts_76 (Nat.le_of_ble_eq_true rfl) rfl ?_
    refine zn_pick [1, 2, 4, 0] rfl ?_
    exact b_X10_puts_78  fu _ _ _ _ _ _ h120 hp
theorem c_X10_sign {G : zG} {i0 : Nat} {S : zH} {out : Int32} (h0 : f_X10_sign i0 S = some out) : zct G M_X10_sign 0 0 0 [vR 40 (some i0)] S (zpo (some (vI out)) S) := by
  refine zct_of (by decide) (Nat.le_of_ble_eq_true rfl) ?_
  show zn G M_X10_sign 0 0 0 0 [(0, vR 40 (some i0))] [] S _
  have hp : zpo (some (vI out)) S (some (vI out)) S := ⟨rfl, rfl⟩
  unfold f_X10_sign at h0
  refine zn_aload_n (pc := 0) 0 dX10_sign_0 rfl rfl ?_
  refine zn_getI (pc := 1) fa_X10_235_40.1 fa_X10_235_40.2 dX10_sign_1 ?_
  refine zn_aload_n (pc := 4) 0 dX10_sign_4 rfl rfl ?_
  refine zn_getI (pc := 5) fa_X10_238_40.1 fa_X10_238_40.2 dX10_sign_5 ?_
  have h2 := h0; clear h0
  refine zn_icmp_lt (pc := 8) (tgt := 15) dX10_sign_8 (by decide) (fun c1 => ?_) (fun c1 => ?_)
  · replace h2 := zif_t c1 h2
    refine zn_aload_n (pc := 15) 0 dX10_sign_15 rfl rfl ?_
    refine zn_getI (pc := 16) fa_X10_241_40.1 fa_X10_241_40.2 dX10_sign_16 ?_
    have h4 := h2; clear h2
    refine zn_if_ge (pc := 19) (tgt := 34) dX10_sign_19 (by decide) (fun c3 => ?_) (fun c3 => ?_)
    · replace h4 := zif_t c3 h4
      refine zn_aload_n (pc := 34) 0 dX10_sign_34 rfl rfl ?_
      refine zn_getR (pc := 35) fa_X10_145_40.1 fa_X10_145_40.2 dX10_sign_35 ?_
      refine zn_aload_n (pc := 38) 0 dX10_sign_38 rfl rfl ?_
      refine zn_getI (pc := 39) fa_X10_241_40.1 fa_X10_241_40.2 dX10_sign_39 ?_
      refine zn_aload_n (pc := 42) 0 dX10_sign_42 rfl rfl ?_
      refine zn_getI (pc := 43) fa_X10_235_40.1 fa_X10_235_40.2 dX10_sign_43 ?_
      refine zn_iadd (pc := 46) dX10_sign_46 ?_
      obtain ⟨i5, hi6, h7⟩ := zbd h4; clear h4
      rw [hi6]
      obtain ⟨hb8, h9⟩ := zgdd h7; clear h7
      refine zn_iaload (pc := 47) zk_144 dX10_sign_47 (zib_in hb8) ?_
      have hz := Option.some.inj h9; clear h9; subst hz
      exact zn_ireturn (pc := 48) dX10_sign_48 rfl hp
    · replace h4 := zif_f c3 h4
      refine zn_aload_n (pc := 22) 0 dX10_sign_22 rfl rfl ?_
      refine zn_getR (pc := 23) fa_X10_155_40.1 fa_X10_155_40.2 dX10_sign_23 ?_
      refine zn_aload_n (pc := 26) 0 dX10_sign_26 rfl rfl ?_
      refine zn_getI (pc := 27) fa_X10_235_40.1 fa_X10_235_40.2 dX10_sign_27 ?_
      obtain ⟨i10, hi11, h12⟩ := zbd h4; clear h4
      rw [hi11]
      obtain ⟨hb13, h14⟩ := zgdd h12; clear h12
      refine zn_iaload (pc := 30) zk_157 dX10_sign_30 (zib_in hb13) ?_
      refine zn_goto (pc := 31) (tgt := 48) dX10_sign_31 (by decide) ?_
      have hz := Option.some.inj h14; clear h14; subst hz
      exact zn_ireturn (pc := 48) dX10_sign_48 rfl hp
  · replace h2 := zif_f c1 h2
    refine zn_iconst (pc := 11) (x := (-1)) dX10_sign_11 (by decide) ?_
    refine zn_goto (pc := 12) (tgt := 48) dX10_sign_12 (by decide) ?_
    have hz := Option.some.inj h2; clear h2; subst hz
    exact zn_ireturn (pc := 48) dX10_sign_48 rfl hp
theorem c_X10_isLetter {G : zG} {x0 : Int32} {S : zH} {out : Int32} (h0 : f_X10_isLetter x0 S = some out) : zct G M_X10_isLetter 0 0 0 [vI x0] S (zpo (some (vI out)) S) := by
  refine zct_of (by decide) (Nat.le_of_ble_eq_true rfl) ?_
  show zn G M_X10_isLetter 0 0 0 0 [(0, vI x0)] [] S _
  have hp : zpo (some (vI out)) S (some (vI out)) S := ⟨rfl, rfl⟩
  unfold f_X10_isLetter at h0
  refine zn_iload_n (pc := 0) 0 dX10_isLetter_0 rfl rfl ?_
  refine zn_bipush (pc := 1) (x := 98) dX10_isLetter_1 (by decide) ?_
  have h2 := h0; clear h0
  refine zn_icmp_eq (pc := 3) (tgt := 60) dX10_isLetter_3 (by decide) (fun c1 => ?_) (fun c1 => ?_)
  · replace h2 := zif_t c1 h2
    refine zn_iconst (pc := 60) (x := 1) dX10_isLetter_60 (by decide) ?_
    refine zn_goto (pc := 61) (tgt := 65) dX10_isLetter_61 (by decide) ?_
    have hz := Option.some.inj h2; clear h2; subst hz
    exact zn_zreturn (pc := 65) dX10_isLetter_65 rfl (by decide) hp
  · replace h2 := zif_f c1 h2
    refine zn_iload_n (pc := 6) 0 dX10_isLetter_6 rfl rfl ?_
    refine zn_bipush (pc := 7) (x := 116) dX10_isLetter_7 (by decide) ?_
    have h4 := h2; clear h2
    refine zn_icmp_eq (pc := 9) (tgt := 60) dX10_isLetter_9 (by decide) (fun c3 => ?_) (fun c3 => ?_)
    · replace h4 := zif_t c3 h4
      refine zn_iconst (pc := 60) (x := 1) dX10_isLetter_60 (by decide) ?_
      refine zn_goto (pc := 61) (tgt := 65) dX10_isLetter_61 (by decide) ?_
      have hz := Option.some.inj h4; clear h4; subst hz
      exact zn_zreturn (pc := 65) dX10_isLetter_65 rfl (by decide) hp
    · replace h4 := zif_f c3 h4
      refine zn_iload_n (pc := 12) 0 dX10_isLetter_12 rfl rfl ?_
      refine zn_bipush (pc := 13) (x := 115) dX10_isLetter_13 (by decide) ?_
      have h6 := h4; clear h4
      refine zn_icmp_eq (pc := 15) (tgt := 60) dX10_isLetter_15 (by decide) (fun c5 => ?_) (fun c5 => ?_)
      · replace h6 := zif_t c5 h6
        refine zn_iconst (pc := 60) (x := 1) dX10_isLetter_60 (by decide) ?_
        refine zn_goto (pc := 61) (tgt := 65) dX10_isLetter_61 (by decide) ?_
        have hz := Option.some.inj h6; clear h6; subst hz
        exact zn_zreturn (pc := 65) dX10_isLetter_65 rfl (by decide) hp
      · replace h6 := zif_f c5 h6
        refine zn_iload_n (pc := 18) 0 dX10_isLetter_18 rfl rfl ?_
        refine zn_bipush (pc := 19) (x := 111) dX10_isLetter_19 (by decide) ?_
        have h8 := h6; clear h6
        refine zn_icmp_eq (pc := 21) (tgt := 60) dX10_isLetter_21 (by decide) (fun c7 => ?_) (fun c7 => ?_)
        · replace h8 := zif_t c7 h8
          refine zn_iconst (pc := 60) (x := 1) dX10_isLetter_60 (by decide) ?_
          refine zn_goto (pc := 61) (tgt := 65) dX10_isLetter_61 (by decide) ?_
          have hz := Option.some.inj h8; clear h8; subst hz
          exact zn_zreturn (pc := 65) dX10_isLetter_65 rfl (by decide) hp
        · replace h8 := zif_f c7 h8
          refine zn_iload_n (pc := 24) 0 dX10_isLetter_24 rfl rfl ?_
          refine zn_bipush (pc := 25) (x := 106) dX10_isLetter_25 (by decide) ?_
          have h10 := h8; clear h8
          refine zn_icmp_eq (pc := 27) (tgt := 60) dX10_isLetter_27 (by decide) (fun c9 => ?_) (fun c9 => ?_)
          · replace h10 := zif_t c9 h10
            refine zn_iconst (pc := 60) (x := 1) dX10_isLetter_60 (by decide) ?_
            refine zn_goto (pc := 61) (tgt := 65) dX10_isLetter_61 (by decide) ?_
            have hz := Option.some.inj h10; clear h10; subst hz
            exact zn_zreturn (pc := 65) dX10_isLetter_65 rfl (by decide) hp
          · replace h10 := zif_f c9 h10
            refine zn_iload_n (pc := 30) 0 dX10_isLetter_30 rfl rfl ?_
            refine zn_bipush (pc := 31) (x := 108) dX10_isLetter_31 (by decide) ?_
            have h12 := h10; clear h10
            refine zn_icmp_eq (pc := 33) (tgt := 60) dX10_isLetter_33 (by decide) (fun c11 => ?_) (fun c11 => ?_)
            · replace h12 := zif_t c11 h12
              refine zn_iconst (pc := 60) (x := 1) dX10_isLetter_60 (by decide) ?_
              refine zn_goto (pc := 61) (tgt := 65) dX10_isLetter_61 (by decide) ?_
              have hz := Option.some.inj h12; clear h12; subst hz
              exact zn_zreturn (pc := 65) dX10_isLetter_65 rfl (by decide) hp
            · replace h12 := zif_f c11 h12
              refine zn_iload_n (pc := 36) 0 dX10_isLetter_36 rfl rfl ?_
              refine zn_bipush (pc := 37) (x := 110) dX10_isLetter_37 (by decide) ?_
              have h14 := h12; clear h12
              refine zn_icmp_eq (pc := 39) (tgt := 60) dX10_isLetter_39 (by decide) (fun c13 => ?_) (fun c13 => ?_)
              · replace h14 := zif_t c13 h14
                refine zn_iconst (pc := 60) (x := 1) dX10_isLetter_60 (by decide) ?_
                refine zn_goto (pc := 61) (tgt := 65) dX10_isLetter_61 (by decide) ?_
                have hz := Option.some.inj h14; clear h14; subst hz
                exact zn_zreturn (pc := 65) dX10_isLetter_65 rfl (by decide) hp
              · replace h14 := zif_f c13 h14
                refine zn_iload_n (pc := 42) 0 dX10_isLetter_42 rfl rfl ?_
                refine zn_bipush (pc := 43) (x := 102) dX10_isLetter_43 (by decide) ?_
                have h16 := h14; clear h14
                refine zn_icmp_eq (pc := 45) (tgt := 60) dX10_isLetter_45 (by decide) (fun c15 => ?_) (fun c15 => ?_)
                · replace h16 := zif_t c15 h16
                  refine zn_iconst (pc := 60) (x := 1) dX10_isLetter_60 (by decide) ?_
                  refine zn_goto (pc := 61) (tgt := 65) dX10_isLetter_61 (by decide) ?_
                  have hz := Option.some.inj h16; clear h16; subst hz
                  exact zn_zreturn (pc := 65) dX10_isLetter_65 rfl (by decide) hp
                · replace h16 := zif_f c15 h16
                  refine zn_iload_n (pc := 48) 0 dX10_isLetter_48 rfl rfl ?_
                  refine zn_bipush (pc := 49) (x := 119) dX10_isLetter_49 (by decide) ?_
                  have h18 := h16; clear h16
                  refine zn_icmp_eq (pc := 51) (tgt := 60) dX10_isLetter_51 (by decide) (fun c17 => ?_) (fun c17 => ?_)
                  · replace h18 := zif_t c17 h18
                    refine zn_iconst (pc := 60) (x := 1) dX10_isLetter_60 (by decide) ?_
                    refine zn_goto (pc := 61) (tgt := 65) dX10_isLetter_61 (by decide) ?_
                    have hz := Option.some.inj h18; clear h18; subst hz
                    exact zn_zreturn (pc := 65) dX10_isLetter_65 rfl (by decide) hp
                  · replace h18 := zif_f c17 h18
                    refine zn_iload_n (pc := 54) 0 dX10_isLetter_54 rfl rfl ?_
                    refine zn_bipush (pc := 55) (x := 100) dX10_isLetter_55 (by decide) ?_
                    have h20 := h18; clear h18
                    refine zn_icmp_ne (pc := 57) (tgt := 64) dX10_isLetter_57 (by decide) (fun c19 => ?_) (fun c19 => ?_)
                    · replace h20 := zif_f c19 h20
                      refine zn_iconst (pc := 64) (x := 0) dX10_isLetter_64 (by decide) ?_
                      have hz := Option.some.inj h20; clear h20; subst hz
                      exact zn_zreturn (pc := 65) dX10_isLetter_65 rfl (by decide) hp
                    · replace h20 := zif_t c19 h20
                      refine zn_iconst (pc := 60) (x := 1) dX10_isLetter_60 (by decide) ?_
                      refine zn_goto (pc := 61) (tgt := 65) dX10_isLetter_61 (by decide) ?_
                      have hz := Option.some.inj h20; clear h20; subst hz
                      exact zn_zreturn (pc := 65) dX10_isLetter_65 rfl (by decide) hp
theorem c_X10_breaks {G : zG} {i0 : Nat} {S : zH} {out : (Int32 × zH)} (h0 : f_X10_breaks i0 S = some out) : zct G M_X10_breaks 0 0 0 [vR 40 (some i0)] S (zpo (some (vI out.1)) out.2) := by
  refine zct_of (by decide) (Nat.le_of_ble_eq_true rfl) ?_
  show zn G M_X10_breaks 0 0 0 0 [(0, vR 40 (some i0))] [] S _
  have hp : zpo (some (vI out.1)) out.2 (some (vI out.1)) out.2 := ⟨rfl, rfl⟩
  unfold f_X10_breaks at h0
  refine zn_aload_n (pc := 0) 0 dX10_breaks_0 rfl rfl ?_
  refine zn_iconst (pc := 1) (x := 0) dX10_breaks_1 (by decide) ?_
  obtain ⟨S1, hS2, h3⟩ := zltd h0; clear h0
  refine zn_putZ (pc := 2) fp_X10_248_40.1 (fp_X10_248_40 (nm := "")).2 dX10_breaks_2 (by decide) hS2 ?_
  refine zn_iconst (pc := 5) (x := 0) dX10_breaks_5 (by decide) ?_
  have hz := Option.some.inj h3; clear h3; subst hz
  exact zn_ireturn (pc := 6) dX10_breaks_6 rfl hp
theorem c_X10_takes {G : zG} {i0 : Nat} {x1 : Int32} {S : zH} {out : (Int32 × zH)} (h0 : f_X10_takes i0 x1 S = some out) : zct G M_X10_takes 1 0 0 [vR 40 (some i0), vI x1] S (zpo (some (vI out.1)) out.2) := by
  refine zct_of (by decide) (Nat.le_of_ble_eq_true rfl) ?_
  show zn G M_X10_takes 1 0 0 0 [(0, vR 40 (some i0)), (1, vI x1)] [] S _
  have hp : zpo (some (vI out.1)) out.2 (some (vI out.1)) out.2 := ⟨rfl, rfl⟩
  unfold f_X10_takes at h0
  refine zn_aload_n (pc := 0) 0 dX10_takes_0 rfl rfl ?_
  refine zn_getI (pc := 1) fa_X10_248_40.1 fa_X10_248_40.2 dX10_takes_1 ?_
  have h2 := h0; clear h0
  refine zn_if_eq (pc := 4) (tgt := 15) dX10_takes_4 (by decide) (fun c1 => ?_) (fun c1 => ?_)
  · replace h2 := zif_t c1 h2
    refine zn_iconst (pc := 15) (x := 0) dX10_takes_15 (by decide) ?_
    have hz := Option.some.inj h2; clear h2; subst hz
    exact zn_zreturn (pc := 16) dX10_takes_16 rfl (by decide) hp
  · replace h2 := zif_f c1 h2
    refine zn_aload_n (pc := 7) 0 dX10_takes_7 rfl rfl ?_
    obtain ⟨o3, e4, h5⟩ := zbd h2; clear h2
    refine zn_cVv (pc := 8) (kc := 0) (ks := 0) (kc' := 0) (ks' := 0) (As := []) (st := []) dX10_takes_8 cs_X10_252 pc_40 rfl rfl (Nat.le_of_ble_eq_true rfl) ((c_X10_sign e4).mono (Nat.le_of_ble_eq_true rfl)) ?_
    refine zn_iload_n (pc := 11) 1 dX10_takes_11 rfl rfl ?_
    have h7 := h5; clear h5
    refine zn_icmp_eq (pc := 12) (tgt := 17) dX10_takes_12 (by decide) (fun c6 => ?_) (fun c6 => ?_)
    · replace h7 := zif_t c6 h7
      refine zn_aload_n (pc := 17) 0 dX10_takes_17 rfl rfl ?_
      refine zn_dup (pc := 18) dX10_takes_18 rfl ?_
      refine zn_getI (pc := 19) fa_X10_235_40.1 fa_X10_235_40.2 dX10_takes_19 ?_
      refine zn_iconst (pc := 22) (x := 1) dX10_takes_22 (by decide) ?_
      refine zn_iadd (pc := 23) dX10_takes_23 ?_
      obtain ⟨S8, hS9, h10⟩ := zltd h7; clear h7
      refine zn_putI (pc := 24) fp_X10_235_40.1 (fp_X10_235_40 (nm := "")).2 dX10_takes_24 hS9 ?_
      refine zn_iconst (pc := 27) (x := 1) dX10_takes_27 (by decide) ?_
      have hz := Option.some.inj h10; clear h10; subst hz
      exact zn_zreturn (pc := 28) dX10_takes_28 rfl (by decide) hp
    · replace h7 := zif_f c6 h7
      refine zn_iconst (pc := 15) (x := 0) dX10_takes_15 (by decide) ?_
      have hz := Option.some.inj h7; clear h7; subst hz
      exact zn_zreturn (pc := 16) dX10_takes_16 rfl (by decide) hp
theorem gb_X10_sumOf_69 {G : zG} {Post : Option zV → zH → Prop} {d : Nat} {kp : Nat → Nat → zH → Option (Int32 × zH)} {k5 : Nat → Int32 → zH → Option (Int32 × zH)} {i0 : Nat} {xs0 : Int64} {S : zH} {out : (Int32 × zH)} (hkp_X10_sumOf : ∀ {i0 : Nat} {S : zH} {out : Int32 × zH}, kp 0 i0 S = some out → zct G M_X10_sumOf (d + 8) 0 0 [vR 40 (some i0)] S (zpo (some (vI out.1)) out.2)) (hkp_X10_term : ∀ {i0 : Nat} {S : zH} {out : Int32 × zH}, kp 1 i0 S = some out → zct G M_X10_term (d + 8) 0 0 [vR 40 (some i0)] S (zpo (some (vI out.1)) out.2)) (hkp_X10_unit : ∀ {i0 : Nat} {S : zH} {out : Int32 × zH}, kp 2 i0 S = some out → zct G M_X10_unit (d + 8) 0 0 [vR 40 (some i0)] S (zpo (some (vI out.1)) out.2)) (hk5 : ∀ (i0 : Nat) (x1 : Int32) (S : zH) (out : (Int32 × zH)), k5 i0 x1 S = some out → Post (some (vI out.1)) out.2 → zn G M_X10_sumOf (d + 9) 0 0 5 [(0, vR 40 (some i0)), (1, vI x1)] [] S Post) (h0 : g_X10_sumOf_69 kp k5 i0 xs0 S = some out) (hp : Post (some (vI out.1)) out.2) : zn G M_X10_sumOf (d + 9) 0 0 69 [(0, vR 40 (some i0))] [vJ xs0] S Post := by
  unfold g_X10_sumOf_69 at h0
  obtain ⟨o1, e2, h3⟩ := zbd h0; clear h0
  refine zn_cSv (pc := 69) (kc := 0) (ks := 0) (kc' := 0) (ks' := 0) (As := [vJ xs0]) (st := []) dX10_sumOf_69 cs_X10_259 rfl rfl (Nat.le_of_ble_eq_true rfl) ((c_X10_held e2).mono (by omega)) ?_
  refine zn_istore_n (pc := 72) (ls' := [(1, vI o1), (0, vR 40 (some i0))]) dX10_sumOf_72 rfl (Nat.le_of_ble_eq_true rfl) rfl ?_
  refine zn_goto (pc := 73) (tgt := 5) dX10_sumOf_73 (by decide) ?_
  refine zn_pick [1, 0] rfl ?_
  exact hk5 _ _ _ _ h3 hp
theorem gb_X10_sumOf_30 {G : zG} {Post : Option zV → zH → Prop} {d : Nat} {kp : Nat → Nat → zH → Option (Int32 × zH)} {k5 : Nat → Int32 → zH → Option (Int32 × zH)} {i0 : Nat} {x1 : Int32} {S : zH} {out : (Int32 × zH)} (hkp_X10_sumOf : ∀ {i0 : Nat} {S : zH} {out : Int32 × zH}, kp 0 i0 S = some out → zct G M_X10_sumOf (d + 8) 0 0 [vR 40 (some i0)] S (zpo (some (vI out.1)) out.2)) (hkp_X10_term : ∀ {i0 : Nat} {S : zH} {out : Int32 × zH}, kp 1 i0 S = some out → zct G M_X10_term (d + 8) 0 0 [vR 40 (some i0)] S (zpo (some (vI out.1)) out.2)) (hkp_X10_unit : ∀ {i0 : Nat} {S : zH} {out : Int32 × zH}, kp 2 i0 S = some out → zct G M_X10_unit (d + 8) 0 0 [vR 40 (some i0)] S (zpo (some (vI out.1)) out.2)) (hk5 : ∀ (i0 : Nat) (x1 : Int32) (S : zH) (out : (Int32 × zH)), k5 i0 x1 S = some out → Post (some (vI out.1)) out.2 → zn G M_X10_sumOf (d + 9) 0 0 5 [(0, vR 40 (some i0)), (1, vI x1)] [] S Post) (h0 : g_X10_sumOf_30 kp k5 i0 x1 S = some out) (hp : Post (some (vI out.1)) out.2) : zn G M_X10_sumOf (d + 9) 0 0 30 [(0, vR 40 (some i0)), (1, vI x1)] [] S Post := by
  unfold g_X10_sumOf_30 at h0
  refine zn_aload_n (pc := 30) 0 dX10_sumOf_30 rfl rfl ?_
  obtain ⟨o1, e2, h3⟩ := zbd h0; clear h0
  refine zn_cVv (pc := 31) (kc := 0) (ks := 0) (kc' := 0) (ks' := 0) (As := []) (st := []) dX10_sumOf_31 cs_X10_252 pc_40 rfl rfl (Nat.le_of_ble_eq_true rfl) ((c_X10_sign e2).mono (by omega)) ?_
  refine zn_istore_n (pc := 34) (ls' := [(2, vI o1), (0, vR 40 (some i0)), (1, vI x1)]) dX10_sumOf_34 rfl (Nat.le_of_ble_eq_true rfl) rfl ?_
  refine zn_aload_n (pc := 35) 1 dX10_sumOf_35 rfl rfl ?_
  refine zn_dup (pc := 36) dX10_sumOf_36 rfl ?_
  refine zn_getI (pc := 37) fa_X10_235_40.1 fa_X10_235_40.2 dX10_sumOf_37 ?_
  refine zn_iconst (pc := 40) (x := 1) dX10_sumOf_40 (by decide) ?_
  refine zn_iadd (pc := 41) dX10_sumOf_41 ?_
  obtain ⟨S4, hS5, h6⟩ := zltd h3; clear h3
  refine zn_putI (pc := 42) fp_X10_235_40.1 (fp_X10_235_40 (nm := "")).2 dX10_sumOf_42 hS5 ?_
  refine zn_aload_n (pc := 45) 1 dX10_sumOf_45 rfl rfl ?_
  obtain ⟨o7, e8, h9⟩ := zbd h6; clear h6
  refine zn_cVv (pc := 46) (kc := 0) (ks := 0) (kc' := 0) (ks' := 0) (As := []) (st := []) dX10_sumOf_46 cs_X10_256 pc_40 rfl rfl (Nat.le_of_ble_eq_true rfl) (hkp_X10_term e8) ?_
  refine zn_istore_n (pc := 49) (ls' := [(3, vI o7.1), (2, vI o1), (0, vR 40 (some i0)), (1, vI x1)]) dX10_sumOf_49 rfl (Nat.le_of_ble_eq_true rfl) rfl ?_
  refine zn_iload_n (pc := 50) 1 dX10_sumOf_50 rfl rfl ?_
  refine zn_bipush (pc := 51) (x := 43) dX10_sumOf_51 (by decide) ?_
  have h11 := h9; clear h9
  refine zn_icmp_ne (pc := 53) (tgt := 64) dX10_sumOf_53 (by decide) (fun c10 => ?_) (fun c10 => ?_)
  · replace h11 := zif_f c10 h11
    refine zn_iload_n (pc := 64) 3 dX10_sumOf_64 rfl rfl ?_
    refine zn_i2l (pc := 65) dX10_sumOf_65 ?_
    refine zn_iload_n (pc := 66) 0 dX10_sumOf_66 rfl rfl ?_
    refine zn_i2l (pc := 67) dX10_sumOf_67 ?_
    refine zn_lsub (pc := 68) dX10_sumOf_68 ?_
    refine zn_pick [2] rfl ?_
    exact gb_X10_sumOf_69 hkp_X10_sumOf hkp_X10_term hkp_X10_unit hk5 h11 hp
  · replace h11 := zif_t c10 h11
    refine zn_iload_n (pc := 56) 3 dX10_sumOf_56 rfl rfl ?_
    refine zn_i2l (pc := 57) dX10_sumOf_57 ?_
    refine zn_iload_n (pc := 58) 0 dX10_sumOf_58 rfl rfl ?_
    refine zn_i2l (pc := 59) dX10_sumOf_59 ?_
    refine zn_ladd (pc := 60) dX10_sumOf_60 ?_
    refine zn_goto (pc := 61) (tgt := 69) dX10_sumOf_61 (by decide) ?_
    refine zn_pick [2] rfl ?_
    exact gb_X10_sumOf_69 hkp_X10_sumOf hkp_X10_term hkp_X10_unit hk5 h11 hp
theorem gb_X10_sumOf_5 {G : zG} {Post : Option zV → zH → Prop} {d : Nat} {kp : Nat → Nat → zH → Option (Int32 × zH)} (hkp_X10_sumOf : ∀ {i0 : Nat} {S : zH} {out : Int32 × zH}, kp 0 i0 S = some out → zct G M_X10_sumOf (d + 8) 0 0 [vR 40 (some i0)] S (zpo (some (vI out.1)) out.2)) (hkp_X10_term : ∀ {i0 : Nat} {S : zH} {out : Int32 × zH}, kp 1 i0 S = some out → zct G M_X10_term (d + 8) 0 0 [vR 40 (some i0)] S (zpo (some (vI out.1)) out.2)) (hkp_X10_unit : ∀ {i0 : Nat} {S : zH} {out : Int32 × zH}, kp 2 i0 S = some out → zct G M_X10_unit (d + 8) 0 0 [vR 40 (some i0)] S (zpo (some (vI out.1)) out.2)) : ∀ (n : Nat) (i0 : Nat) (x1 : Int32) (S : zH) (out : (Int32 × zH)), g_X10_sumOf_5 kp n i0 x1 S = some out → Post (some (vI out.1)) out.2 → zn G M_X10_sumOf (d + 9) 0 0 5 [(0, vR 40 (some i0)), (1, vI x1)] [] S Post := by
  intro n
  induction n with
  | zero => intro i0 x1 S out h0 hp; exact (nomatch (show (none : Option _) = some out from h0))
  | succ n ih =>
    intro i0 x1 S out h0 hp
    rw [g_X10_sumOf_5] at h0
    refine zn_aload_n (pc := 5) 0 dX10_sumOf_5 rfl rfl ?_
    refine zn_getI (pc := 6) fa_X10_248_40.1 fa_X10_248_40.2 dX10_sumOf_6 ?_
    have h2 := h0; clear h0
    refine zn_if_eq (pc := 9) (tgt := 76) dX10_sumOf_9 (by decide) (fun c1 => ?_) (fun c1 => ?_)
    · replace h2 := zif_t c1 h2
      refine zn_iload_n (pc := 76) 1 dX10_sumOf_76 rfl rfl ?_
      have hz := Option.some.inj h2; clear h2; subst hz
      exact zn_ireturn (pc := 77) dX10_sumOf_77 rfl hp
    · replace h2 := zif_f c1 h2
      refine zn_aload_n (pc := 12) 0 dX10_sumOf_12 rfl rfl ?_
      obtain ⟨o3, e4, h5⟩ := zbd h2; clear h2
      refine zn_cVv (pc := 13) (kc := 0) (ks := 0) (kc' := 0) (ks' := 0) (As := []) (st := []) dX10_sumOf_13 cs_X10_252 pc_40 rfl rfl (Nat.le_of_ble_eq_true rfl) ((c_X10_sign e4).mono (by omega)) ?_
      refine zn_bipush (pc := 16) (x := 43) dX10_sumOf_16 (by decide) ?_
      have h7 := h5; clear h5
      refine zn_icmp_eq (pc := 18) (tgt := 30) dX10_sumOf_18 (by decide) (fun c6 => ?_) (fun c6 => ?_)
      · replace h7 := zif_t c6 h7
        exact gb_X10_sumOf_30 hkp_X10_sumOf hkp_X10_term hkp_X10_unit ih h7 hp
      · replace h7 := zif_f c6 h7
        refine zn_aload_n (pc := 21) 0 dX10_sumOf_21 rfl rfl ?_
        obtain ⟨o8, e9, h10⟩ := zbd h7; clear h7
        refine zn_cVv (pc := 22) (kc := 0) (ks := 0) (kc' := 0) (ks' := 0) (As := []) (st := []) dX10_sumOf_22 cs_X10_252 pc_40 rfl rfl (Nat.le_of_ble_eq_true rfl) ((c_X10_sign e9).mono (by omega)) ?_
        refine zn_bipush (pc := 25) (x := 45) dX10_sumOf_25 (by decide) ?_
        have h12 := h10; clear h10
        refine zn_icmp_ne (pc := 27) (tgt := 76) dX10_sumOf_27 (by decide) (fun c11 => ?_) (fun c11 => ?_)
        · replace h12 := zif_f c11 h12
          refine zn_iload_n (pc := 76) 1 dX10_sumOf_76 rfl rfl ?_
          have hz := Option.some.inj h12; clear h12; subst hz
          exact zn_ireturn (pc := 77) dX10_sumOf_77 rfl hp
        · replace h12 := zif_t c11 h12
          exact gb_X10_sumOf_30 hkp_X10_sumOf hkp_X10_term hkp_X10_unit ih h12 hp
theorem gc_X10_sumOf {G : zG} {d : Nat} {kp : Nat → Nat → zH → Option (Int32 × zH)} {i0 : Nat} {S : zH} {out : (Int32 × zH)} (hkp_X10_sumOf : ∀ {i0 : Nat} {S : zH} {out : Int32 × zH}, kp 0 i0 S = some out → zct G M_X10_sumOf (d + 8) 0 0 [vR 40 (some i0)] S (zpo (some (vI out.1)) out.2)) (hkp_X10_term : ∀ {i0 : Nat} {S : zH} {out : Int32 × zH}, kp 1 i0 S = some out → zct G M_X10_term (d + 8) 0 0 [vR 40 (some i0)] S (zpo (some (vI out.1)) out.2)) (hkp_X10_unit : ∀ {i0 : Nat} {S : zH} {out : Int32 × zH}, kp 2 i0 S = some out → zct G M_X10_unit (d + 8) 0 0 [vR 40 (some i0)] S (zpo (some (vI out.1)) out.2)) (h0 : g_X10_sumOf kp i0 S = some out) : zct G M_X10_sumOf (d + 9) 0 0 [vR 40 (some i0)] S (zpo (some (vI out.1)) out.2) := by
  refine zct_of (by decide) (Nat.le_of_ble_eq_true rfl) ?_
  show zn G M_X10_sumOf (d + 9) 0 0 0 [(0, vR 40 (some i0))] [] S _
  have hp : zpo (some (vI out.1)) out.2 (some (vI out.1)) out.2 := ⟨rfl, rfl⟩
  unfold g_X10_sumOf at h0
  refine zn_aload_n (pc := 0) 0 dX10_sumOf_0 rfl rfl ?_
  obtain ⟨o13, e14, h15⟩ := zbd h0; clear h0
  refine zn_cVv (pc := 1) (kc := 0) (ks := 0) (kc' := 0) (ks' := 0) (As := []) (st := []) dX10_sumOf_1 cs_X10_256 pc_40 rfl rfl (Nat.le_of_ble_eq_true rfl) (hkp_X10_term e14) ?_
  refine zn_istore_n (pc := 4) (ls' := [(1, vI o13.1), (0, vR 40 (some i0))]) dX10_sumOf_4 rfl (Nat.le_of_ble_eq_true rfl) rfl ?_
  refine zn_pick [1, 0] rfl ?_
  exact gb_X10_sumOf_5 hkp_X10_sumOf hkp_X10_term hkp_X10_unit  fu _ _ _ _ h15 hp
theorem gb_X10_term_30 {G : zG} {Post : Option zV → zH → Prop} {d : Nat} {kp : Nat → Nat → zH → Option (Int32 × zH)} {k5 : Nat → Int32 → zH → Option (Int32 × zH)} {i0 : Nat} {x1 : Int32} {S : zH} {out : (Int32 × zH)} (hkp_X10_sumOf : ∀ {i0 : Nat} {S : zH} {out : Int32 × zH}, kp 0 i0 S = some out → zct G M_X10_sumOf (d + 8) 0 0 [vR 40 (some i0)] S (zpo (some (vI out.1)) out.2)) (hkp_X10_term : ∀ {i0 : Nat} {S : zH} {out : Int32 × zH}, kp 1 i0 S = some out → zct G M_X10_term (d + 8) 0 0 [vR 40 (some i0)] S (zpo (some (vI out.1)) out.2)) (hkp_X10_unit : ∀ {i0 : Nat} {S : zH} {out : Int32 × zH}, kp 2 i0 S = some out → zct G M_X10_unit (d + 8) 0 0 [vR 40 (some i0)] S (zpo (some (vI out.1)) out.2)) (hk5 : ∀ (i0 : Nat) (x1 : Int32) (S : zH) (out : (Int32 × zH)), k5 i0 x1 S = some out → Post (some (vI out.1)) out.2 → zn G M_X10_term (d + 9) 0 0 5 [(0, vR 40 (some i0)), (1, vI x1)] [] S Post) (h0 : g_X10_term_30 kp k5 i0 x1 S = some out) (hp : Post (some (vI out.1)) out.2) : zn G M_X10_term (d + 9) 0 0 30 [(0, vR 40 (some i0)), (1, vI x1)] [] S Post := by
  unfold g_X10_term_30 at h0
  refine zn_aload_n (pc := 30) 0 dX10_term_30 rfl rfl ?_
  obtain ⟨o1, e2, h3⟩ := zbd h0; clear h0
  refine zn_cVv (pc := 31) (kc := 0) (ks := 0) (kc' := 0) (ks' := 0) (As := []) (st := []) dX10_term_31 cs_X10_252 pc_40 rfl rfl (Nat.le_of_ble_eq_true rfl) ((c_X10_sign e2).mono (by omega)) ?_
  refine zn_istore_n (pc := 34) (ls' := [(2, vI o1), (0, vR 40 (some i0)), (1, vI x1)]) dX10_term_34 rfl (Nat.le_of_ble_eq_true rfl) rfl ?_
  refine zn_aload_n (pc := 35) 1 dX10_term_35 rfl rfl ?_
  refine zn_dup (pc := 36) dX10_term_36 rfl ?_
  refine zn_getI (pc := 37) fa_X10_235_40.1 fa_X10_235_40.2 dX10_term_37 ?_
  refine zn_iconst (pc := 40) (x := 1) dX10_term_40 (by decide) ?_
  refine zn_iadd (pc := 41) dX10_term_41 ?_
  obtain ⟨S4, hS5, h6⟩ := zltd h3; clear h3
  refine zn_putI (pc := 42) fp_X10_235_40.1 (fp_X10_235_40 (nm := "")).2 dX10_term_42 hS5 ?_
  refine zn_aload_n (pc := 45) 1 dX10_term_45 rfl rfl ?_
  obtain ⟨o7, e8, h9⟩ := zbd h6; clear h6
  refine zn_cVv (pc := 46) (kc := 0) (ks := 0) (kc' := 0) (ks' := 0) (As := []) (st := []) dX10_term_46 cs_X10_263 pc_40 rfl rfl (Nat.le_of_ble_eq_true rfl) (hkp_X10_unit e8) ?_
  refine zn_istore_n (pc := 49) (ls' := [(3, vI o7.1), (2, vI o1), (0, vR 40 (some i0)), (1, vI x1)]) dX10_term_49 rfl (Nat.le_of_ble_eq_true rfl) rfl ?_
  refine zn_iload_n (pc := 50) 1 dX10_term_50 rfl rfl ?_
  refine zn_bipush (pc := 51) (x := 42) dX10_term_51 (by decide) ?_
  have h11 := h9; clear h9
  refine zn_icmp_ne (pc := 53) (tgt := 67) dX10_term_53 (by decide) (fun c10 => ?_) (fun c10 => ?_)
  · replace h11 := zif_f c10 h11
    refine zn_iload_n (pc := 67) 0 dX10_term_67 rfl rfl ?_
    have h13 := h11; clear h11
    refine zn_if_ne (pc := 68) (tgt := 75) dX10_term_68 (by decide) (fun c12 => ?_) (fun c12 => ?_)
    · replace h13 := zif_f c12 h13
      refine zn_iload_n (pc := 75) 3 dX10_term_75 rfl rfl ?_
      refine zn_i2l (pc := 76) dX10_term_76 ?_
      refine zn_iload_n (pc := 77) 0 dX10_term_77 rfl rfl ?_
      refine zn_i2l (pc := 78) dX10_term_78 ?_
      obtain ⟨hb14, h15⟩ := zgdd h13; clear h13
      refine zn_ldiv (pc := 79) dX10_term_79 (zneL_of hb14) ?_
      obtain ⟨o16, e17, h18⟩ := zbd h15; clear h15
      refine zn_cSv (pc := 80) (kc := 0) (ks := 0) (kc' := 0) (ks' := 0) (As := [vJ ((Int32.toInt64 x1) / (Int32.toInt64 o7.1))]) (st := []) dX10_term_80 cs_X10_259 rfl rfl (Nat.le_of_ble_eq_true rfl) ((c_X10_held e17).mono (by omega)) ?_
      refine zn_istore_n (pc := 83) (ls' := [(1, vI o16), (3, vI o7.1), (2, vI o1), (0, vR 40 (some i0))]) dX10_term_83 rfl (Nat.le_of_ble_eq_true rfl) rfl ?_
      refine zn_goto (pc := 84) (tgt := 5) dX10_term_84 (by decide) ?_
      refine zn_pick [3, 0] rfl ?_
      exact hk5 _ _ _ _ h18 hp
    · replace h13 := zif_t c12 h13
      refine zn_iconst (pc := 71) (x := 0) dX10_term_71 (by decide) ?_
      refine zn_goto (pc := 72) (tgt := 83) dX10_term_72 (by decide) ?_
      refine zn_istore_n (pc := 83) (ls' := [(1, vI 0), (3, vI o7.1), (2, vI o1), (0, vR 40 (some i0))]) dX10_term_83 rfl (Nat.le_of_ble_eq_true rfl) rfl ?_
      refine zn_goto (pc := 84) (tgt := 5) dX10_term_84 (by decide) ?_
      refine zn_pick [3, 0] rfl ?_
      exact hk5 _ _ _ _ h13 hp
  · replace h11 := zif_t c10 h11
    refine zn_iload_n (pc := 56) 3 dX10_term_56 rfl rfl ?_
    refine zn_i2l (pc := 57) dX10_term_57 ?_
    refine zn_iload_n (pc := 58) 0 dX10_term_58 rfl rfl ?_
    refine zn_i2l (pc := 59) dX10_term_59 ?_
    refine zn_lmul (pc := 60) dX10_term_60 ?_
    obtain ⟨o19, e20, h21⟩ := zbd h11; clear h11
    refine zn_cSv (pc := 61) (kc := 0) (ks := 0) (kc' := 0) (ks' := 0) (As := [vJ ((Int32.toInt64 x1) * (Int32.toInt64 o7.1))]) (st := []) dX10_term_61 cs_X10_259 rfl rfl (Nat.le_of_ble_eq_true rfl) ((c_X10_held e20).mono (by omega)) ?_
    refine zn_goto (pc := 64) (tgt := 83) dX10_term_64 (by decide) ?_
    refine zn_istore_n (pc := 83) (ls' := [(1, vI o19), (3, vI o7.1), (2, vI o1), (0, vR 40 (some i0))]) dX10_term_83 rfl (Nat.le_of_ble_eq_true rfl) rfl ?_
    refine zn_goto (pc := 84) (tgt := 5) dX10_term_84 (by decide) ?_
    refine zn_pick [3, 0] rfl ?_
    exact hk5 _ _ _ _ h21 hp
theorem gb_X10_term_5 {G : zG} {Post : Option zV → zH → Prop} {d : Nat} {kp : Nat → Nat → zH → Option (Int32 × zH)} (hkp_X10_sumOf : ∀ {i0 : Nat} {S : zH} {out : Int32 × zH}, kp 0 i0 S = some out → zct G M_X10_sumOf (d + 8) 0 0 [vR 40 (some i0)] S (zpo (some (vI out.1)) out.2)) (hkp_X10_term : ∀ {i0 : Nat} {S : zH} {out : Int32 × zH}, kp 1 i0 S = some out → zct G M_X10_term (d + 8) 0 0 [vR 40 (some i0)] S (zpo (some (vI out.1)) out.2)) (hkp_X10_unit : ∀ {i0 : Nat} {S : zH} {out : Int32 × zH}, kp 2 i0 S = some out → zct G M_X10_unit (d + 8) 0 0 [vR 40 (some i0)] S (zpo (some (vI out.1)) out.2)) : ∀ (n : Nat) (i0 : Nat) (x1 : Int32) (S : zH) (out : (Int32 × zH)), g_X10_term_5 kp n i0 x1 S = some out → Post (some (vI out.1)) out.2 → zn G M_X10_term (d + 9) 0 0 5 [(0, vR 40 (some i0)), (1, vI x1)] [] S Post := by
  intro n
  induction n with
  | zero => intro i0 x1 S out h0 hp; exact (nomatch (show (none : Option _) = some out from h0))
  | succ n ih =>
    intro i0 x1 S out h0 hp
    rw [g_X10_term_5] at h0
    refine zn_aload_n (pc := 5) 0 dX10_term_5 rfl rfl ?_
    refine zn_getI (pc := 6) fa_X10_248_40.1 fa_X10_248_40.2 dX10_term_6 ?_
    have h2 := h0; clear h0
    refine zn_if_eq (pc := 9) (tgt := 87) dX10_term_9 (by decide) (fun c1 => ?_) (fun c1 => ?_)
    · replace h2 := zif_t c1 h2
      refine zn_iload_n (pc := 87) 1 dX10_term_87 rfl rfl ?_
      have hz := Option.some.inj h2; clear h2; subst hz
      exact zn_ireturn (pc := 88) dX10_term_88 rfl hp
    · replace h2 := zif_f c1 h2
      refine zn_aload_n (pc := 12) 0 dX10_term_12 rfl rfl ?_
      obtain ⟨o3, e4, h5⟩ := zbd h2; clear h2
      refine zn_cVv (pc := 13) (kc := 0) (ks := 0) (kc' := 0) (ks' := 0) (As := []) (st := []) dX10_term_13 cs_X10_252 pc_40 rfl rfl (Nat.le_of_ble_eq_true rfl) ((c_X10_sign e4).mono (by omega)) ?_
      refine zn_bipush (pc := 16) (x := 42) dX10_term_16 (by decide) ?_
      have h7 := h5; clear h5
      refine zn_icmp_eq (pc := 18) (tgt := 30) dX10_term_18 (by decide) (fun c6 => ?_) (fun c6 => ?_)
      · replace h7 := zif_t c6 h7
        exact gb_X10_term_30 hkp_X10_sumOf hkp_X10_term hkp_X10_unit ih h7 hp
      · replace h7 := zif_f c6 h7
        refine zn_aload_n (pc := 21) 0 dX10_term_21 rfl rfl ?_
        obtain ⟨o8, e9, h10⟩ := zbd h7; clear h7
        refine zn_cVv (pc := 22) (kc := 0) (ks := 0) (kc' := 0) (ks' := 0) (As := []) (st := []) dX10_term_22 cs_X10_252 pc_40 rfl rfl (Nat.le_of_ble_eq_true rfl) ((c_X10_sign e9).mono (by omega)) ?_
        refine zn_bipush (pc := 25) (x := 47) dX10_term_25 (by decide) ?_
        have h12 := h10; clear h10
        refine zn_icmp_ne (pc := 27) (tgt := 87) dX10_term_27 (by decide) (fun c11 => ?_) (fun c11 => ?_)
        · replace h12 := zif_f c11 h12
          refine zn_iload_n (pc := 87) 1 dX10_term_87 rfl rfl ?_
          have hz := Option.some.inj h12; clear h12; subst hz
          exact zn_ireturn (pc := 88) dX10_term_88 rfl hp
        · replace h12 := zif_t c11 h12
          exact gb_X10_term_30 hkp_X10_sumOf hkp_X10_term hkp_X10_unit ih h12 hp
theorem gc_X10_term {G : zG} {d : Nat} {kp : Nat → Nat → zH → Option (Int32 × zH)} {i0 : Nat} {S : zH} {out : (Int32 × zH)} (hkp_X10_sumOf : ∀ {i0 : Nat} {S : zH} {out : Int32 × zH}, kp 0 i0 S = some out → zct G M_X10_sumOf (d + 8) 0 0 [vR 40 (some i0)] S (zpo (some (vI out.1)) out.2)) (hkp_X10_term : ∀ {i0 : Nat} {S : zH} {out : Int32 × zH}, kp 1 i0 S = some out → zct G M_X10_term (d + 8) 0 0 [vR 40 (some i0)] S (zpo (some (vI out.1)) out.2)) (hkp_X10_unit : ∀ {i0 : Nat} {S : zH} {out : Int32 × zH}, kp 2 i0 S = some out → zct G M_X10_unit (d + 8) 0 0 [vR 40 (some i0)] S (zpo (some (vI out.1)) out.2)) (h0 : g_X10_term kp i0 S = some out) : zct G M_X10_term (d + 9) 0 0 [vR 40 (some i0)] S (zpo (some (vI out.1)) out.2) := by
  refine zct_of (by decide) (Nat.le_of_ble_eq_true rfl) ?_
  show zn G M_X10_term (d + 9) 0 0 0 [(0, vR 40 (some i0))] [] S _
  have hp : zpo (some (vI out.1)) out.2 (some (vI out.1)) out.2 := ⟨rfl, rfl⟩
  unfold g_X10_term at h0
  refine zn_aload_n (pc := 0) 0 dX10_term_0 rfl rfl ?_
  obtain ⟨o13, e14, h15⟩ := zbd h0; clear h0
  refine zn_cVv (pc := 1) (kc := 0) (ks := 0) (kc' := 0) (ks' := 0) (As := []) (st := []) dX10_term_1 cs_X10_263 pc_40 rfl rfl (Nat.le_of_ble_eq_true rfl) (hkp_X10_unit e14) ?_
  refine zn_istore_n (pc := 4) (ls' := [(1, vI o13.1), (0, vR 40 (some i0))]) dX10_term_4 rfl (Nat.le_of_ble_eq_true rfl) rfl ?_
  refine zn_pick [1, 0] rfl ?_
  exact gb_X10_term_5 hkp_X10_sumOf hkp_X10_term hkp_X10_unit  fu _ _ _ _ h15 hp
theorem gb_X10_unit_180 {G : zG} {Post : Option zV → zH → Prop} {d : Nat} {kp : Nat → Nat → zH → Option (Int32 × zH)} {i0 : Nat} {x2 : Int32} {S : zH} {out : (Int32 × zH)} (hkp_X10_sumOf : ∀ {i0 : Nat} {S : zH} {out : Int32 × zH}, kp 0 i0 S = some out → zct G M_X10_sumOf (d + 8) 0 0 [vR 40 (some i0)] S (zpo (some (vI out.1)) out.2)) (hkp_X10_term : ∀ {i0 : Nat} {S : zH} {out : Int32 × zH}, kp 1 i0 S = some out → zct G M_X10_term (d + 8) 0 0 [vR 40 (some i0)] S (zpo (some (vI out.1)) out.2)) (hkp_X10_unit : ∀ {i0 : Nat} {S : zH} {out : Int32 × zH}, kp 2 i0 S = some out → zct G M_X10_unit (d + 8) 0 0 [vR 40 (some i0)] S (zpo (some (vI out.1)) out.2)) (h0 : g_X10_unit_180 kp i0 x2 S = some out) (hp : Post (some (vI out.1)) out.2) : zn G M_X10_unit (d + 9) 0 0 180 [(0, vR 40 (some i0)), (2, vI x2)] [] S Post := by
  unfold g_X10_unit_180 at h0
  refine zn_aload_n (pc := 180) 0 dX10_unit_180 rfl rfl ?_
  refine zn_bipush (pc := 181) (x := 41) dX10_unit_181 (by decide) ?_
  obtain ⟨o1, e2, h3⟩ := zbd h0; clear h0
  refine zn_cVv (pc := 183) (kc := 0) (ks := 0) (kc' := 0) (ks' := 0) (As := [vI 41]) (st := []) dX10_unit_183 cs_X10_278 pc_40 rfl rfl (Nat.le_of_ble_eq_true rfl) ((c_X10_takes e2).mono (by omega)) ?_
  have h5 := h3; clear h3
  refine zn_if_ne (pc := 186) (tgt := 194) dX10_unit_186 (by decide) (fun c4 => ?_) (fun c4 => ?_)
  · replace h5 := zif_f c4 h5
    refine zn_aload_n (pc := 194) 0 dX10_unit_194 rfl rfl ?_
    refine zn_dup (pc := 195) dX10_unit_195 rfl ?_
    refine zn_getI (pc := 196) fa_X10_269_40.1 fa_X10_269_40.2 dX10_unit_196 ?_
    refine zn_iconst (pc := 199) (x := 1) dX10_unit_199 (by decide) ?_
    refine zn_isub (pc := 200) dX10_unit_200 ?_
    obtain ⟨S6, hS7, h8⟩ := zltd h5; clear h5
    refine zn_putI (pc := 201) fp_X10_269_40.1 (fp_X10_269_40 (nm := "")).2 dX10_unit_201 hS7 ?_
    refine zn_iload_n (pc := 204) 1 dX10_unit_204 rfl rfl ?_
    have hz := Option.some.inj h8; clear h8; subst hz
    exact zn_ireturn (pc := 205) dX10_unit_205 rfl hp
  · replace h5 := zif_t c4 h5
    refine zn_aload_n (pc := 189) 0 dX10_unit_189 rfl rfl ?_
    obtain ⟨o9, e10, h11⟩ := zbd h5; clear h5
    refine zn_cVv (pc := 190) (kc := 0) (ks := 0) (kc' := 0) (ks' := 0) (As := []) (st := []) dX10_unit_190 cs_X10_272 pc_40 rfl rfl (Nat.le_of_ble_eq_true rfl) ((c_X10_breaks e10).mono (by omega)) ?_
    have hz := Option.some.inj h11; clear h11; subst hz
    exact zn_ireturn (pc := 193) dX10_unit_193 rfl hp
theorem gb_X10_unit_112 {G : zG} {Post : Option zV → zH → Prop} {d : Nat} {kp : Nat → Nat → zH → Option (Int32 × zH)} {i0 : Nat} {x2 : Int32} {x3 : Int32} {S : zH} {out : (Int32 × zH)} (hkp_X10_sumOf : ∀ {i0 : Nat} {S : zH} {out : Int32 × zH}, kp 0 i0 S = some out → zct G M_X10_sumOf (d + 8) 0 0 [vR 40 (some i0)] S (zpo (some (vI out.1)) out.2)) (hkp_X10_term : ∀ {i0 : Nat} {S : zH} {out : Int32 × zH}, kp 1 i0 S = some out → zct G M_X10_term (d + 8) 0 0 [vR 40 (some i0)] S (zpo (some (vI out.1)) out.2)) (hkp_X10_unit : ∀ {i0 : Nat} {S : zH} {out : Int32 × zH}, kp 2 i0 S = some out → zct G M_X10_unit (d + 8) 0 0 [vR 40 (some i0)] S (zpo (some (vI out.1)) out.2)) (h0 : g_X10_unit_112 kp i0 x2 x3 S = some out) (hp : Post (some (vI out.1)) out.2) : zn G M_X10_unit (d + 9) 0 0 112 [(0, vR 40 (some i0)), (2, vI x2), (3, vI x3)] [] S Post := by
  unfold g_X10_unit_112 at h0
  refine zn_aload_n (pc := 112) 0 dX10_unit_112 rfl rfl ?_
  refine zn_dup (pc := 113) dX10_unit_113 rfl ?_
  refine zn_getI (pc := 114) fa_X10_235_40.1 fa_X10_235_40.2 dX10_unit_114 ?_
  refine zn_iconst (pc := 117) (x := 1) dX10_unit_117 (by decide) ?_
  refine zn_iadd (pc := 118) dX10_unit_118 ?_
  obtain ⟨S1, hS2, h3⟩ := zltd h0; clear h0
  refine zn_putI (pc := 119) fp_X10_235_40.1 (fp_X10_235_40 (nm := "")).2 dX10_unit_119 hS2 ?_
  refine zn_aload_n (pc := 122) 0 dX10_unit_122 rfl rfl ?_
  obtain ⟨o4, e5, h6⟩ := zbd h3; clear h3
  refine zn_cVv (pc := 123) (kc := 0) (ks := 0) (kc' := 0) (ks' := 0) (As := []) (st := []) dX10_unit_123 cs_X10_275 pc_40 rfl rfl (Nat.le_of_ble_eq_true rfl) (hkp_X10_sumOf e5) ?_
  refine zn_istore (pc := 126) (ls' := [(4, vI o4.1), (0, vR 40 (some i0)), (2, vI x2), (3, vI x3)]) dX10_unit_126 (Nat.le_of_ble_eq_true rfl) rfl ?_
  refine zn_iload_n (pc := 128) 3 dX10_unit_128 rfl rfl ?_
  refine zn_bipush (pc := 129) (x := 60) dX10_unit_129 (by decide) ?_
  have h8 := h6; clear h6
  refine zn_icmp_ne (pc := 131) (tgt := 148) dX10_unit_131 (by decide) (fun c7 => ?_) (fun c7 => ?_)
  · replace h8 := zif_f c7 h8
    refine zn_iload_n (pc := 148) 3 dX10_unit_148 rfl rfl ?_
    refine zn_bipush (pc := 149) (x := 61) dX10_unit_149 (by decide) ?_
    have h10 := h8; clear h8
    refine zn_icmp_ne (pc := 151) (tgt := 168) dX10_unit_151 (by decide) (fun c9 => ?_) (fun c9 => ?_)
    · replace h10 := zif_f c9 h10
      refine zn_iload_n (pc := 168) 2 dX10_unit_168 rfl rfl ?_
      refine zn_iload (pc := 169) 0 dX10_unit_169 rfl ?_
      have h12 := h10; clear h10
      refine zn_icmp_le (pc := 171) (tgt := 178) dX10_unit_171 (by decide) (fun c11 => ?_) (fun c11 => ?_)
      · replace h12 := zif_t c11 h12
        refine zn_iconst (pc := 178) (x := 0) dX10_unit_178 (by decide) ?_
        refine zn_istore_n (pc := 179) (ls' := [(2, vI 0), (4, vI o4.1), (0, vR 40 (some i0)), (3, vI x3)]) dX10_unit_179 rfl (Nat.le_of_ble_eq_true rfl) rfl ?_
        refine zn_pick [2, 0] rfl ?_
        exact gb_X10_unit_180 hkp_X10_sumOf hkp_X10_term hkp_X10_unit  h12 hp
      · replace h12 := zif_f c11 h12
        refine zn_iconst (pc := 174) (x := 1) dX10_unit_174 (by decide) ?_
        refine zn_goto (pc := 175) (tgt := 179) dX10_unit_175 (by decide) ?_
        refine zn_istore_n (pc := 179) (ls' := [(2, vI 1), (4, vI o4.1), (0, vR 40 (some i0)), (3, vI x3)]) dX10_unit_179 rfl (Nat.le_of_ble_eq_true rfl) rfl ?_
        refine zn_pick [2, 0] rfl ?_
        exact gb_X10_unit_180 hkp_X10_sumOf hkp_X10_term hkp_X10_unit  h12 hp
    · replace h10 := zif_t c9 h10
      refine zn_iload_n (pc := 154) 2 dX10_unit_154 rfl rfl ?_
      refine zn_iload (pc := 155) 0 dX10_unit_155 rfl ?_
      have h14 := h10; clear h10
      refine zn_icmp_ne (pc := 157) (tgt := 164) dX10_unit_157 (by decide) (fun c13 => ?_) (fun c13 => ?_)
      · replace h14 := zif_f c13 h14
        refine zn_iconst (pc := 164) (x := 0) dX10_unit_164 (by decide) ?_
        refine zn_goto (pc := 165) (tgt := 179) dX10_unit_165 (by decide) ?_
        refine zn_istore_n (pc := 179) (ls' := [(2, vI 0), (4, vI o4.1), (0, vR 40 (some i0)), (3, vI x3)]) dX10_unit_179 rfl (Nat.le_of_ble_eq_true rfl) rfl ?_
        refine zn_pick [2, 0] rfl ?_
        exact gb_X10_unit_180 hkp_X10_sumOf hkp_X10_term hkp_X10_unit  h14 hp
      · replace h14 := zif_t c13 h14
        refine zn_iconst (pc := 160) (x := 1) dX10_unit_160 (by decide) ?_
        refine zn_goto (pc := 161) (tgt := 179) dX10_unit_161 (by decide) ?_
        refine zn_istore_n (pc := 179) (ls' := [(2, vI 1), (4, vI o4.1), (0, vR 40 (some i0)), (3, vI x3)]) dX10_unit_179 rfl (Nat.le_of_ble_eq_true rfl) rfl ?_
        refine zn_pick [2, 0] rfl ?_
        exact gb_X10_unit_180 hkp_X10_sumOf hkp_X10_term hkp_X10_unit  h14 hp
  · replace h8 := zif_t c7 h8
    refine zn_iload_n (pc := 134) 2 dX10_unit_134 rfl rfl ?_
    refine zn_iload (pc := 135) 0 dX10_unit_135 rfl ?_
    have h16 := h8; clear h8
    refine zn_icmp_ge (pc := 137) (tgt := 144) dX10_unit_137 (by decide) (fun c15 => ?_) (fun c15 => ?_)
    · replace h16 := zif_t c15 h16
      refine zn_iconst (pc := 144) (x := 0) dX10_unit_144 (by decide) ?_
      refine zn_goto (pc := 145) (tgt := 179) dX10_unit_145 (by decide) ?_
      refine zn_istore_n (pc := 179) (ls' := [(2, vI 0), (4, vI o4.1), (0, vR 40 (some i0)), (3, vI x3)]) dX10_unit_179 rfl (Nat.le_of_ble_eq_true rfl) rfl ?_
      refine zn_pick [2, 0] rfl ?_
      exact gb_X10_unit_180 hkp_X10_sumOf hkp_X10_term hkp_X10_unit  h16 hp
    · replace h16 := zif_f c15 h16
      refine zn_iconst (pc := 140) (x := 1) dX10_unit_140 (by decide) ?_
      refine zn_goto (pc := 141) (tgt := 179) dX10_unit_141 (by decide) ?_
      refine zn_istore_n (pc := 179) (ls' := [(2, vI 1), (4, vI o4.1), (0, vR 40 (some i0)), (3, vI x3)]) dX10_unit_179 rfl (Nat.le_of_ble_eq_true rfl) rfl ?_
      refine zn_pick [2, 0] rfl ?_
      exact gb_X10_unit_180 hkp_X10_sumOf hkp_X10_term hkp_X10_unit  h16 hp
theorem gb_X10_unit_262 {G : zG} {Post : Option zV → zH → Prop} {d : Nat} {kp : Nat → Nat → zH → Option (Int32 × zH)} {i0 : Nat} {x2 : Int32} {x3 : Int32} {S : zH} {out : (Int32 × zH)} (hkp_X10_sumOf : ∀ {i0 : Nat} {S : zH} {out : Int32 × zH}, kp 0 i0 S = some out → zct G M_X10_sumOf (d + 8) 0 0 [vR 40 (some i0)] S (zpo (some (vI out.1)) out.2)) (hkp_X10_term : ∀ {i0 : Nat} {S : zH} {out : Int32 × zH}, kp 1 i0 S = some out → zct G M_X10_term (d + 8) 0 0 [vR 40 (some i0)] S (zpo (some (vI out.1)) out.2)) (hkp_X10_unit : ∀ {i0 : Nat} {S : zH} {out : Int32 × zH}, kp 2 i0 S = some out → zct G M_X10_unit (d + 8) 0 0 [vR 40 (some i0)] S (zpo (some (vI out.1)) out.2)) (h0 : g_X10_unit_262 kp i0 x2 x3 S = some out) (hp : Post (some (vI out.1)) out.2) : zn G M_X10_unit (d + 9) 0 0 262 [(0, vR 40 (some i0)), (2, vI x2), (3, vI x3)] [] S Post := by
  unfold g_X10_unit_262 at h0
  refine zn_iload_n (pc := 262) 2 dX10_unit_262 rfl rfl ?_
  have h2 := h0; clear h0
  refine zn_if_ne (pc := 263) (tgt := 273) dX10_unit_263 (by decide) (fun c1 => ?_) (fun c1 => ?_)
  · replace h2 := zif_f c1 h2
    refine zn_iload_n (pc := 273) 1 dX10_unit_273 rfl rfl ?_
    have hz := Option.some.inj h2; clear h2; subst hz
    exact zn_ireturn (pc := 274) dX10_unit_274 rfl hp
  · replace h2 := zif_t c1 h2
    refine zn_aload_n (pc := 266) 0 dX10_unit_266 rfl rfl ?_
    obtain ⟨o3, e4, h5⟩ := zbd h2; clear h2
    refine zn_cVv (pc := 267) (kc := 0) (ks := 0) (kc' := 0) (ks' := 0) (As := []) (st := []) dX10_unit_267 cs_X10_272 pc_40 rfl rfl (Nat.le_of_ble_eq_true rfl) ((c_X10_breaks e4).mono (by omega)) ?_
    refine zn_goto (pc := 270) (tgt := 274) dX10_unit_270 (by decide) ?_
    have hz := Option.some.inj h5; clear h5; subst hz
    exact zn_ireturn (pc := 274) dX10_unit_274 rfl hp
theorem gb_X10_unit_210 {G : zG} {Post : Option zV → zH → Prop} {d : Nat} {kp : Nat → Nat → zH → Option (Int32 × zH)} (hkp_X10_sumOf : ∀ {i0 : Nat} {S : zH} {out : Int32 × zH}, kp 0 i0 S = some out → zct G M_X10_sumOf (d + 8) 0 0 [vR 40 (some i0)] S (zpo (some (vI out.1)) out.2)) (hkp_X10_term : ∀ {i0 : Nat} {S : zH} {out : Int32 × zH}, kp 1 i0 S = some out → zct G M_X10_term (d + 8) 0 0 [vR 40 (some i0)] S (zpo (some (vI out.1)) out.2)) (hkp_X10_unit : ∀ {i0 : Nat} {S : zH} {out : Int32 × zH}, kp 2 i0 S = some out → zct G M_X10_unit (d + 8) 0 0 [vR 40 (some i0)] S (zpo (some (vI out.1)) out.2)) : ∀ (n : Nat) (i0 : Nat) (x2 : Int32) (x3 : Int32) (S : zH) (out : (Int32 × zH)), g_X10_unit_210 kp n i0 x2 x3 S = some out → Post (some (vI out.1)) out.2 → zn G M_X10_unit (d + 9) 0 0 210 [(0, vR 40 (some i0)), (2, vI x2), (3, vI x3)] [] S Post := by
  intro n
  induction n with
  | zero => intro i0 x2 x3 S out h0 hp; exact (nomatch (show (none : Option _) = some out from h0))
  | succ n ih =>
    intro i0 x2 x3 S out h0 hp
    rw [g_X10_unit_210] at h0
    refine zn_iload_n (pc := 210) 2 dX10_unit_210 rfl rfl ?_
    refine zn_iconst (pc := 211) (x := 5) dX10_unit_211 (by decide) ?_
    have h2 := h0; clear h0
    refine zn_icmp_ge (pc := 212) (tgt := 262) dX10_unit_212 (by decide) (fun c1 => ?_) (fun c1 => ?_)
    · replace h2 := zif_t c1 h2
      exact gb_X10_unit_262 hkp_X10_sumOf hkp_X10_term hkp_X10_unit  h2 hp
    · replace h2 := zif_f c1 h2
      refine zn_aload_n (pc := 215) 0 dX10_unit_215 rfl rfl ?_
      obtain ⟨o3, e4, h5⟩ := zbd h2; clear h2
      refine zn_cVv (pc := 216) (kc := 0) (ks := 0) (kc' := 0) (ks' := 0) (As := []) (st := []) dX10_unit_216 cs_X10_252 pc_40 rfl rfl (Nat.le_of_ble_eq_true rfl) ((c_X10_sign e4).mono (by omega)) ?_
      refine zn_bipush (pc := 219) (x := 48) dX10_unit_219 (by decide) ?_
      have h7 := h5; clear h5
      refine zn_icmp_lt (pc := 221) (tgt := 262) dX10_unit_221 (by decide) (fun c6 => ?_) (fun c6 => ?_)
      · replace h7 := zif_t c6 h7
        exact gb_X10_unit_262 hkp_X10_sumOf hkp_X10_term hkp_X10_unit  h7 hp
      · replace h7 := zif_f c6 h7
        refine zn_aload_n (pc := 224) 0 dX10_unit_224 rfl rfl ?_
        obtain ⟨o8, e9, h10⟩ := zbd h7; clear h7
        refine zn_cVv (pc := 225) (kc := 0) (ks := 0) (kc' := 0) (ks' := 0) (As := []) (st := []) dX10_unit_225 cs_X10_252 pc_40 rfl rfl (Nat.le_of_ble_eq_true rfl) ((c_X10_sign e9).mono (by omega)) ?_
        refine zn_bipush (pc := 228) (x := 57) dX10_unit_228 (by decide) ?_
        have h12 := h10; clear h10
        refine zn_icmp_gt (pc := 230) (tgt := 262) dX10_unit_230 (by decide) (fun c11 => ?_) (fun c11 => ?_)
        · replace h12 := zif_t c11 h12
          exact gb_X10_unit_262 hkp_X10_sumOf hkp_X10_term hkp_X10_unit  h12 hp
        · replace h12 := zif_f c11 h12
          refine zn_bipush (pc := 233) (x := 10) dX10_unit_233 (by decide) ?_
          refine zn_iload_n (pc := 235) 1 dX10_unit_235 rfl rfl ?_
          refine zn_imul (pc := 236) dX10_unit_236 ?_
          refine zn_aload_n (pc := 237) 0 dX10_unit_237 rfl rfl ?_
          obtain ⟨o13, e14, h15⟩ := zbd h12; clear h12
          refine zn_cVv (pc := 238) (kc := 0) (ks := 0) (kc' := 0) (ks' := 0) (As := []) (st := [vI (10 * x2)]) dX10_unit_238 cs_X10_252 pc_40 rfl rfl (Nat.le_of_ble_eq_true rfl) ((c_X10_sign e14).mono (by omega)) ?_
          refine zn_iadd (pc := 241) dX10_unit_241 ?_
          refine zn_bipush (pc := 242) (x := 48) dX10_unit_242 (by decide) ?_
          refine zn_isub (pc := 244) dX10_unit_244 ?_
          refine zn_istore_n (pc := 245) (ls' := [(2, vI (((10 * x2) + o13) - 48)), (0, vR 40 (some i0)), (3, vI x3)]) dX10_unit_245 rfl (Nat.le_of_ble_eq_true rfl) rfl ?_
          refine zn_aload_n (pc := 246) 1 dX10_unit_246 rfl rfl ?_
          refine zn_dup (pc := 247) dX10_unit_247 rfl ?_
          refine zn_getI (pc := 248) fa_X10_235_40.1 fa_X10_235_40.2 dX10_unit_248 ?_
          refine zn_iconst (pc := 251) (x := 1) dX10_unit_251 (by decide) ?_
          refine zn_iadd (pc := 252) dX10_unit_252 ?_
          obtain ⟨S16, hS17, h18⟩ := zltd h15; clear h15
          refine zn_putI (pc := 253) fp_X10_235_40.1 (fp_X10_235_40 (nm := "")).2 dX10_unit_253 hS17 ?_
          refine zn_iinc (pc := 256) 2 (y := x3 + 1) (ls' := [(3, vI (x3 + 1)), (2, vI (((10 * x2) + o13) - 48)), (0, vR 40 (some i0))]) dX10_unit_256 rfl rfl (Nat.le_of_ble_eq_true rfl) rfl ?_
          refine zn_goto (pc := 259) (tgt := 210) dX10_unit_259 (by decide) ?_
          refine zn_pick [2, 1, 0] rfl ?_
          exact ih _ _ _ _ _ h18 hp
theorem gc_X10_unit {G : zG} {d : Nat} {kp : Nat → Nat → zH → Option (Int32 × zH)} {i0 : Nat} {S : zH} {out : (Int32 × zH)} (hkp_X10_sumOf : ∀ {i0 : Nat} {S : zH} {out : Int32 × zH}, kp 0 i0 S = some out → zct G M_X10_sumOf (d + 8) 0 0 [vR 40 (some i0)] S (zpo (some (vI out.1)) out.2)) (hkp_X10_term : ∀ {i0 : Nat} {S : zH} {out : Int32 × zH}, kp 1 i0 S = some out → zct G M_X10_term (d + 8) 0 0 [vR 40 (some i0)] S (zpo (some (vI out.1)) out.2)) (hkp_X10_unit : ∀ {i0 : Nat} {S : zH} {out : Int32 × zH}, kp 2 i0 S = some out → zct G M_X10_unit (d + 8) 0 0 [vR 40 (some i0)] S (zpo (some (vI out.1)) out.2)) (h0 : g_X10_unit kp i0 S = some out) : zct G M_X10_unit (d + 9) 0 0 [vR 40 (some i0)] S (zpo (some (vI out.1)) out.2) := by
  refine zct_of (by decide) (Nat.le_of_ble_eq_true rfl) ?_
  show zn G M_X10_unit (d + 9) 0 0 0 [(0, vR 40 (some i0))] [] S _
  have hp : zpo (some (vI out.1)) out.2 (some (vI out.1)) out.2 := ⟨rfl, rfl⟩
  unfold g_X10_unit at h0
  refine zn_aload_n (pc := 0) 0 dX10_unit_0 rfl rfl ?_
  refine zn_getI (pc := 1) fa_X10_248_40.1 fa_X10_248_40.2 dX10_unit_1 ?_
  have h20 := h0; clear h0
  refine zn_if_ne (pc := 4) (tgt := 9) dX10_unit_4 (by decide) (fun c19 => ?_) (fun c19 => ?_)
  · replace h20 := zif_f c19 h20
    refine zn_aload_n (pc := 9) 0 dX10_unit_9 rfl rfl ?_
    obtain ⟨o21, e22, h23⟩ := zbd h20; clear h20
    refine zn_cVv (pc := 10) (kc := 0) (ks := 0) (kc' := 0) (ks' := 0) (As := []) (st := []) dX10_unit_10 cs_X10_252 pc_40 rfl rfl (Nat.le_of_ble_eq_true rfl) ((c_X10_sign e22).mono (by omega)) ?_
    refine zn_istore_n (pc := 13) (ls' := [(1, vI o21), (0, vR 40 (some i0))]) dX10_unit_13 rfl (Nat.le_of_ble_eq_true rfl) rfl ?_
    refine zn_iload_n (pc := 14) 0 dX10_unit_14 rfl rfl ?_
    obtain ⟨o24, e25, h26⟩ := zbd h23; clear h23
    refine zn_cSv (pc := 15) (kc := 0) (ks := 0) (kc' := 0) (ks' := 0) (As := [vI o21]) (st := []) dX10_unit_15 cs_X10_266 rfl rfl (Nat.le_of_ble_eq_true rfl) ((c_X10_isLetter e25).mono (by omega)) ?_
    have h28 := h26; clear h26
    refine zn_if_eq (pc := 18) (tgt := 38) dX10_unit_18 (by decide) (fun c27 => ?_) (fun c27 => ?_)
    · replace h28 := zif_t c27 h28
      refine zn_iload_n (pc := 38) 0 dX10_unit_38 rfl rfl ?_
      refine zn_bipush (pc := 39) (x := 40) dX10_unit_39 (by decide) ?_
      have h30 := h28; clear h28
      refine zn_icmp_ne (pc := 41) (tgt := 206) dX10_unit_41 (by decide) (fun c29 => ?_) (fun c29 => ?_)
      · replace h30 := zif_f c29 h30
        refine zn_iconst (pc := 206) (x := 0) dX10_unit_206 (by decide) ?_
        refine zn_istore_n (pc := 207) (ls' := [(2, vI 0), (1, vI o21), (0, vR 40 (some i0))]) dX10_unit_207 rfl (Nat.le_of_ble_eq_true rfl) rfl ?_
        refine zn_iconst (pc := 208) (x := 0) dX10_unit_208 (by decide) ?_
        refine zn_istore_n (pc := 209) (ls' := [(3, vI 0), (2, vI 0), (1, vI o21), (0, vR 40 (some i0))]) dX10_unit_209 rfl (Nat.le_of_ble_eq_true rfl) rfl ?_
        refine zn_pick [3, 1, 0] rfl ?_
        exact gb_X10_unit_210 hkp_X10_sumOf hkp_X10_term hkp_X10_unit  fu _ _ _ _ _ h30 hp
      · replace h30 := zif_t c29 h30
        refine zn_aload_n (pc := 44) 1 dX10_unit_44 rfl rfl ?_
        refine zn_getI (pc := 45) fa_X10_269_40.1 fa_X10_269_40.2 dX10_unit_45 ?_
        refine zn_iconst (pc := 48) (x := 5) dX10_unit_48 (by decide) ?_
        have h32 := h30; clear h30
        refine zn_icmp_ne (pc := 49) (tgt := 57) dX10_unit_49 (by decide) (fun c31 => ?_) (fun c31 => ?_)
        · replace h32 := zif_f c31 h32
          refine zn_aload_n (pc := 57) 1 dX10_unit_57 rfl rfl ?_
          refine zn_dup (pc := 58) dX10_unit_58 rfl ?_
          refine zn_getI (pc := 59) fa_X10_235_40.1 fa_X10_235_40.2 dX10_unit_59 ?_
          refine zn_iconst (pc := 62) (x := 1) dX10_unit_62 (by decide) ?_
          refine zn_iadd (pc := 63) dX10_unit_63 ?_
          obtain ⟨S33, hS34, h35⟩ := zltd h32; clear h32
          refine zn_putI (pc := 64) fp_X10_235_40.1 (fp_X10_235_40 (nm := "")).2 dX10_unit_64 hS34 ?_
          refine zn_aload_n (pc := 67) 1 dX10_unit_67 rfl rfl ?_
          refine zn_dup (pc := 68) dX10_unit_68 rfl ?_
          refine zn_getI (pc := 69) fa_X10_269_40.1 fa_X10_269_40.2 dX10_unit_69 ?_
          refine zn_iconst (pc := 72) (x := 1) dX10_unit_72 (by decide) ?_
          refine zn_iadd (pc := 73) dX10_unit_73 ?_
          obtain ⟨S36, hS37, h38⟩ := zltd h35; clear h35
          refine zn_putI (pc := 74) fp_X10_269_40.1 (fp_X10_269_40 (nm := "")).2 dX10_unit_74 hS37 ?_
          refine zn_aload_n (pc := 77) 1 dX10_unit_77 rfl rfl ?_
          obtain ⟨o39, e40, h41⟩ := zbd h38; clear h38
          refine zn_cVv (pc := 78) (kc := 0) (ks := 0) (kc' := 0) (ks' := 0) (As := []) (st := []) dX10_unit_78 cs_X10_275 pc_40 rfl rfl (Nat.le_of_ble_eq_true rfl) (hkp_X10_sumOf e40) ?_
          refine zn_istore_n (pc := 81) (ls' := [(2, vI o39.1), (1, vI o21), (0, vR 40 (some i0))]) dX10_unit_81 rfl (Nat.le_of_ble_eq_true rfl) rfl ?_
          refine zn_aload_n (pc := 82) 2 dX10_unit_82 rfl rfl ?_
          obtain ⟨o42, e43, h44⟩ := zbd h41; clear h41
          refine zn_cVv (pc := 83) (kc := 0) (ks := 0) (kc' := 0) (ks' := 0) (As := []) (st := []) dX10_unit_83 cs_X10_252 pc_40 rfl rfl (Nat.le_of_ble_eq_true rfl) ((c_X10_sign e43).mono (by omega)) ?_
          refine zn_istore_n (pc := 86) (ls' := [(3, vI o42), (2, vI o39.1), (1, vI o21), (0, vR 40 (some i0))]) dX10_unit_86 rfl (Nat.le_of_ble_eq_true rfl) rfl ?_
          refine zn_aload_n (pc := 87) 3 dX10_unit_87 rfl rfl ?_
          refine zn_getI (pc := 88) fa_X10_248_40.1 fa_X10_248_40.2 dX10_unit_88 ?_
          have h46 := h44; clear h44
          refine zn_if_eq (pc := 91) (tgt := 180) dX10_unit_91 (by decide) (fun c45 => ?_) (fun c45 => ?_)
          · replace h46 := zif_t c45 h46
            refine zn_pick [3, 1] rfl ?_
            exact gb_X10_unit_180 hkp_X10_sumOf hkp_X10_term hkp_X10_unit  h46 hp
          · replace h46 := zif_f c45 h46
            refine zn_iload_n (pc := 94) 0 dX10_unit_94 rfl rfl ?_
            refine zn_bipush (pc := 95) (x := 60) dX10_unit_95 (by decide) ?_
            have h48 := h46; clear h46
            refine zn_icmp_eq (pc := 97) (tgt := 112) dX10_unit_97 (by decide) (fun c47 => ?_) (fun c47 => ?_)
            · replace h48 := zif_t c47 h48
              refine zn_pick [3, 1, 0] rfl ?_
              exact gb_X10_unit_112 hkp_X10_sumOf hkp_X10_term hkp_X10_unit  h48 hp
            · replace h48 := zif_f c47 h48
              refine zn_iload_n (pc := 100) 0 dX10_unit_100 rfl rfl ?_
              refine zn_bipush (pc := 101) (x := 61) dX10_unit_101 (by decide) ?_
              have h50 := h48; clear h48
              refine zn_icmp_eq (pc := 103) (tgt := 112) dX10_unit_103 (by decide) (fun c49 => ?_) (fun c49 => ?_)
              · replace h50 := zif_t c49 h50
                refine zn_pick [3, 1, 0] rfl ?_
                exact gb_X10_unit_112 hkp_X10_sumOf hkp_X10_term hkp_X10_unit  h50 hp
              · replace h50 := zif_f c49 h50
                refine zn_iload_n (pc := 106) 0 dX10_unit_106 rfl rfl ?_
                refine zn_bipush (pc := 107) (x := 62) dX10_unit_107 (by decide) ?_
                have h52 := h50; clear h50
                refine zn_icmp_ne (pc := 109) (tgt := 180) dX10_unit_109 (by decide) (fun c51 => ?_) (fun c51 => ?_)
                · replace h52 := zif_f c51 h52
                  refine zn_pick [3, 1] rfl ?_
                  exact gb_X10_unit_180 hkp_X10_sumOf hkp_X10_term hkp_X10_unit  h52 hp
                · replace h52 := zif_t c51 h52
                  refine zn_pick [3, 1, 0] rfl ?_
                  exact gb_X10_unit_112 hkp_X10_sumOf hkp_X10_term hkp_X10_unit  h52 hp
        · replace h32 := zif_t c31 h32
          refine zn_aload_n (pc := 52) 1 dX10_unit_52 rfl rfl ?_
          obtain ⟨o53, e54, h55⟩ := zbd h32; clear h32
          refine zn_cVv (pc := 53) (kc := 0) (ks := 0) (kc' := 0) (ks' := 0) (As := []) (st := []) dX10_unit_53 cs_X10_272 pc_40 rfl rfl (Nat.le_of_ble_eq_true rfl) ((c_X10_breaks e54).mono (by omega)) ?_
          have hz := Option.some.inj h55; clear h55; subst hz
          exact zn_ireturn (pc := 56) dX10_unit_56 rfl hp
    · replace h28 := zif_f c27 h28
      refine zn_aload_n (pc := 21) 1 dX10_unit_21 rfl rfl ?_
      refine zn_dup (pc := 22) dX10_unit_22 rfl ?_
      refine zn_getI (pc := 23) fa_X10_235_40.1 fa_X10_235_40.2 dX10_unit_23 ?_
      refine zn_iconst (pc := 26) (x := 1) dX10_unit_26 (by decide) ?_
      refine zn_iadd (pc := 27) dX10_unit_27 ?_
      obtain ⟨S56, hS57, h58⟩ := zltd h28; clear h28
      refine zn_putI (pc := 28) fp_X10_235_40.1 (fp_X10_235_40 (nm := "")).2 dX10_unit_28 hS57 ?_
      refine zn_aload_n (pc := 31) 1 dX10_unit_31 rfl rfl ?_
      refine zn_getR (pc := 32) fa_X10_158_40.1 fa_X10_158_40.2 dX10_unit_32 ?_
      refine zn_iload_n (pc := 35) 0 dX10_unit_35 rfl rfl ?_
      obtain ⟨i59, hi60, h61⟩ := zbd h58; clear h58
      rw [hi60]
      obtain ⟨hb62, h63⟩ := zgdd h61; clear h61
      refine zn_iaload (pc := 36) zk_158 dX10_unit_36 (zib_in hb62) ?_
      have hz := Option.some.inj h63; clear h63; subst hz
      exact zn_ireturn (pc := 37) dX10_unit_37 rfl hp
  · replace h20 := zif_t c19 h20
    refine zn_iconst (pc := 7) (x := 0) dX10_unit_7 (by decide) ?_
    have hz := Option.some.inj h20; clear h20; subst hz
    exact zn_ireturn (pc := 8) dX10_unit_8 rfl hp
theorem par_X10 {G : zG} : ∀ n : Nat, (∀ {i0 : Nat} {S : zH} {out : (Int32 × zH)}, f_X10_par n 0 i0 S = some out → zct G M_X10_sumOf (n + 8) 0 0 [vR 40 (some i0)] S (zpo (some (vI out.1)) out.2)) ∧ (∀ {i0 : Nat} {S : zH} {out : (Int32 × zH)}, f_X10_par n 1 i0 S = some out → zct G M_X10_term (n + 8) 0 0 [vR 40 (some i0)] S (zpo (some (vI out.1)) out.2)) ∧ (∀ {i0 : Nat} {S : zH} {out : (Int32 × zH)}, f_X10_par n 2 i0 S = some out → zct G M_X10_unit (n + 8) 0 0 [vR 40 (some i0)] S (zpo (some (vI out.1)) out.2)) := by
  intro n
  induction n with
  | zero => exact ⟨fun h => (nomatch (show (none : Option _) = some _ from h)), fun h => (nomatch (show (none : Option _) = some _ from h)), fun h => (nomatch (show (none : Option _) = some _ from h))⟩
  | succ n ih =>
    obtain ⟨q0, q1, q2⟩ := ih
    refine ⟨?_, ?_, ?_⟩
    · intro i0 S out h
      rw [f_X10_par] at h
      exact gc_X10_sumOf q0 q1 q2 h
    · intro i0 S out h
      rw [f_X10_par] at h
      exact gc_X10_term q0 q1 q2 h
    · intro i0 S out h
      rw [f_X10_par] at h
      exact gc_X10_unit q0 q1 q2 h
theorem c_X10_sumOf {G : zG} {i0 : Nat} {S : zH} {out : (Int32 × zH)} (h : f_X10_sumOf i0 S = some out) : zct G M_X10_sumOf 60 0 0 [vR 40 (some i0)] S (zpo (some (vI out.1)) out.2) := ((par_X10 30).1 h).mono (Nat.le_of_ble_eq_true rfl)
theorem c_X10_term {G : zG} {i0 : Nat} {S : zH} {out : (Int32 × zH)} (h : f_X10_term i0 S = some out) : zct G M_X10_term 60 0 0 [vR 40 (some i0)] S (zpo (some (vI out.1)) out.2) := ((par_X10 30).2.1 h).mono (Nat.le_of_ble_eq_true rfl)
theorem c_X10_unit {G : zG} {i0 : Nat} {S : zH} {out : (Int32 × zH)} (h : f_X10_unit i0 S = some out) : zct G M_X10_unit 60 0 0 [vR 40 (some i0)] S (zpo (some (vI out.1)) out.2) := ((par_X10 30).2.2 h).mono (Nat.le_of_ble_eq_true rfl)
