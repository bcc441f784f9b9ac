theorem b_X10_sends_20 {G : zG} {Post : Option zV → zH → Prop} {i0 : Nat} {x1 : Int32} {x2 : Int32} {xs0 : Int32} {S : zH} {out : (Int32 × zH)} (h0 : f_X10_sends_20 i0 x1 x2 xs0 S = some out) (hp : Post (some (vI out.1)) out.2) : zn G M_X10_sends 64 0 0 20 [(0, vR 40 (some i0)), (1, vI x1), (2, vI x2)] [vI xs0] S Post := by
  unfold f_X10_sends_20 at h0
  refine zn_istore_n (pc := 20) (ls' := [(3, vI xs0), (0, vR 40 (some i0)), (1, vI x1), (2, vI x2)]) dX10_sends_20 rfl (Nat.le_of_ble_eq_true rfl) rfl ?_
  refine zn_iload_n (pc := 21) 0 dX10_sends_21 rfl rfl ?_
  have h2 := h0; clear h0
  refine zn_if_eq (pc := 22) (tgt := 33) dX10_sends_22 (by decide) (fun c1 => ?_) (fun c1 => ?_)
  · replace h2 := zif_t c1 h2
    refine zn_aload_n (pc := 33) 1 dX10_sends_33 rfl rfl ?_
    refine zn_iload_n (pc := 34) 2 dX10_sends_34 rfl rfl ?_
    refine zn_iload_n (pc := 35) 3 dX10_sends_35 rfl rfl ?_
    obtain ⟨o3, e4, h5⟩ := zbd h2; clear h2
    refine zn_cVv (pc := 36) (kc := 0) (ks := 0) (kc' := 0) (ks' := 0) (As := [vI x1, vI x2]) (st := []) dX10_sends_36 cs_X10_227 pc_40 rfl rfl (Nat.le_of_ble_eq_true rfl) ((c_X10_sentOn e4).mono (Nat.le_of_ble_eq_true rfl)) ?_
    have hz := Option.some.inj h5; clear h5; subst hz
    exact zn_ireturn (pc := 39) dX10_sends_39 rfl hp
  · replace h2 := zif_f c1 h2
    refine zn_aload_n (pc := 25) 1 dX10_sends_25 rfl rfl ?_
    refine zn_iload_n (pc := 26) 0 dX10_sends_26 rfl rfl ?_
    obtain ⟨o6, e7, h8⟩ := zbd h2; clear h2
    refine zn_cVv (pc := 27) (kc := 0) (ks := 0) (kc' := 0) (ks' := 0) (As := [vI xs0]) (st := []) dX10_sends_27 cs_X10_163 pc_40 rfl rfl (Nat.le_of_ble_eq_true rfl) ((c_X10_refuse e7).mono (Nat.le_of_ble_eq_true rfl)) ?_
    refine zn_goto (pc := 30) (tgt := 39) dX10_sends_30 (by decide) ?_
    have hz := Option.some.inj h8; clear h8; subst hz
    exact zn_ireturn (pc := 39) dX10_sends_39 rfl hp
theorem c_X10_sends {G : zG} {i0 : Nat} {x1 : Int32} {x2 : Int32} {S : zH} {out : (Int32 × zH)} (h0 : f_X10_sends i0 x1 x2 S = some out) : zct G M_X10_sends 64 0 0 [vR 40 (some i0), vI x1, vI x2] S (zpo (some (vI out.1)) out.2) := by
  refine zct_of (by decide) (Nat.le_of_ble_eq_true rfl) ?_
  show zn G M_X10_sends 64 0 0 0 [(0, vR 40 (some i0)), (1, vI x1), (2, vI x2)] [] S _
  have hp : zpo (some (vI out.1)) out.2 (some (vI out.1)) out.2 := ⟨rfl, rfl⟩
  unfold f_X10_sends at h0
  refine zn_aload_n (pc := 0) 0 dX10_sends_0 rfl rfl ?_
  refine zn_iload_n (pc := 1) 1 dX10_sends_1 rfl rfl ?_
  obtain ⟨o9, e10, h11⟩ := zbd h0; clear h0
  refine zn_cVv (pc := 2) (kc := 0) (ks := 0) (kc' := 0) (ks' := 0) (As := [vI x1]) (st := []) dX10_sends_2 cs_X10_203 pc_40 rfl rfl (Nat.le_of_ble_eq_true rfl) ((c_X10_isAccount e10).mono (Nat.le_of_ble_eq_true rfl)) ?_
  have h13 := h11; clear h11
  refine zn_if_eq (pc := 5) (tgt := 19) dX10_sends_5 (by decide) (fun c12 => ?_) (fun c12 => ?_)
  · replace h13 := zif_t c12 h13
    refine zn_iconst (pc := 19) (x := (-1)) dX10_sends_19 (by decide) ?_
    exact b_X10_sends_20  h13 hp
  · replace h13 := zif_f c12 h13
    refine zn_iload_n (pc := 8) 2 dX10_sends_8 rfl rfl ?_
    refine zn_iconst (pc := 9) (x := 0) dX10_sends_9 (by decide) ?_
    refine zn_sipush (pc := 10) (x := 1500) dX10_sends_10 (by decide) ?_
    obtain ⟨o14, e15, h16⟩ := zbd h13; clear h13
    refine zn_cSv (pc := 13) (kc := 0) (ks := 0) (kc' := 0) (ks' := 0) (As := [vI x2, vI 0, vI 1500]) (st := []) dX10_sends_13 cs_X10_187 rfl rfl (Nat.le_of_ble_eq_true rfl) ((c_X10_within e15).mono (Nat.le_of_ble_eq_true rfl)) ?_
    refine zn_goto (pc := 16) (tgt := 20) dX10_sends_16 (by decide) ?_
    exact b_X10_sends_20  h16 hp
theorem b_X10_feed_29 {G : zG} {Post : Option zV → zH → Prop} {i0 : Nat} {S : zH} {out : (Int32 × zH)} (h0 : f_X10_feed_29 i0 S = some out) (hp : Post (some (vI out.1)) out.2) : zn G M_X10_feed 1 0 0 29 [(0, vR 40 (some i0))] [] S Post := by
  unfold f_X10_feed_29 at h0
  refine zn_aload_n (pc := 29) 0 dX10_feed_29 rfl rfl ?_
  refine zn_bipush (pc := 30) (x := (-6)) dX10_feed_30 (by decide) ?_
  obtain ⟨o1, e2, h3⟩ := zbd h0; clear h0
  refine zn_cVv (pc := 32) (kc := 0) (ks := 0) (kc' := 0) (ks' := 0) (As := [vI (-6)]) (st := []) dX10_feed_32 cs_X10_163 pc_40 rfl rfl (Nat.le_of_ble_eq_true rfl) ((c_X10_refuse e2).mono (Nat.le_of_ble_eq_true rfl)) ?_
  have hz := Option.some.inj h3; clear h3; subst hz
  exact zn_ireturn (pc := 35) dX10_feed_35 rfl hp
theorem b_X10_feed_39 {G : zG} {Post : Option zV → zH → Prop} : ∀ (n : Nat) (i0 : Nat) (x1 : Int32) (x2 : Int64) (x4 : Int32) (S : zH) (out : (Int32 × zH)), f_X10_feed_39 n i0 x1 x2 x4 S = some out → Post (some (vI out.1)) out.2 → zn G M_X10_feed 1 0 0 39 [(0, vR 40 (some i0)), (1, vI x1), (2, vJ x2), (4, vI x4)] [] S Post := by
  intro n
  induction n with
  | zero => intro i0 x1 x2 x4 S out h0 hp; exact (nomatch (show (none : Option _) = some out from h0))
  | succ n ih =>
    intro i0 x1 x2 x4 S out h0 hp
    rw [f_X10_feed_39] at h0
    refine zn_iload (pc := 39) 3 dX10_feed_39 rfl ?_
    refine zn_iload_n (pc := 41) 1 dX10_feed_41 rfl rfl ?_
    have h2 := h0; clear h0
    refine zn_icmp_ge (pc := 42) (tgt := 82) dX10_feed_42 (by decide) (fun c1 => ?_) (fun c1 => ?_)
    · replace h2 := zif_t c1 h2
      refine zn_aload_n (pc := 82) 0 dX10_feed_82 rfl rfl ?_
      refine zn_getI (pc := 83) fa_X10_230_40.1 fa_X10_230_40.2 dX10_feed_83 ?_
      have hz := Option.some.inj h2; clear h2; subst hz
      exact zn_ireturn (pc := 86) dX10_feed_86 rfl hp
    · replace h2 := zif_f c1 h2
      refine zn_aload_n (pc := 45) 0 dX10_feed_45 rfl rfl ?_
      refine zn_getR (pc := 46) fa_X10_155_40.1 fa_X10_155_40.2 dX10_feed_46 ?_
      refine zn_aload_n (pc := 49) 0 dX10_feed_49 rfl rfl ?_
      refine zn_getI (pc := 50) fa_X10_230_40.1 fa_X10_230_40.2 dX10_feed_50 ?_
      refine zn_lload_n (pc := 53) 2 dX10_feed_53 rfl rfl ?_
      refine zn_bipush (pc := 54) (x := 8) dX10_feed_54 (by decide) ?_
      refine zn_iload (pc := 56) 3 dX10_feed_56 rfl ?_
      refine zn_imul (pc := 58) dX10_feed_58 ?_
      refine zn_lshr (pc := 59) dX10_feed_59 ?_
      refine zn_ldc2 (pc := 60) dX10_feed_60 w2_X10_233 ?_
      refine zn_land (pc := 63) dX10_feed_63 ?_
      refine zn_l2i (pc := 64) dX10_feed_64 ?_
      obtain ⟨i3, hi4, h5⟩ := zbd h2; clear h2
      rw [hi4]
      obtain ⟨hb6, h7⟩ := zgdd h5; clear h5
      obtain ⟨S8, hS9, h10⟩ := zltd h7; clear h7
      refine zn_iastore (pc := 65) zk_157 dX10_feed_65 (zib_in hb6) hS9 ?_
      refine zn_aload_n (pc := 66) 0 dX10_feed_66 rfl rfl ?_
      refine zn_dup (pc := 67) dX10_feed_67 rfl ?_
      refine zn_getI (pc := 68) fa_X10_230_40.1 fa_X10_230_40.2 dX10_feed_68 ?_
      refine zn_iconst (pc := 71) (x := 1) dX10_feed_71 (by decide) ?_
      refine zn_iadd (pc := 72) dX10_feed_72 ?_
      obtain ⟨S11, hS12, h13⟩ := zltd h10; clear h10
      refine zn_putI (pc := 73) fp_X10_230_40.1 (fp_X10_230_40 (nm := "")).2 dX10_feed_73 hS12 ?_
      refine zn_iinc (pc := 76) 3 (y := x4 + 1) (ls' := [(4, vI (x4 + 1)), (0, vR 40 (some i0)), (1, vI x1), (2, vJ x2)]) dX10_feed_76 rfl rfl (Nat.le_of_ble_eq_true rfl) rfl ?_
      refine zn_goto (pc := 79) (tgt := 39) dX10_feed_79 (by decide) ?_
      refine zn_pick [1, 2, 3, 0] rfl ?_
      exact ih _ _ _ _ _ _ h13 hp
theorem c_X10_feed {G : zG} {i0 : Nat} {x1 : Int32} {x2 : Int64} {S : zH} {out : (Int32 × zH)} (h0 : f_X10_feed i0 x1 x2 S = some out) : zct G M_X10_feed 1 0 0 [vR 40 (some i0), vI x1, vJ x2] S (zpo (some (vI out.1)) out.2) := by
  refine zct_of (by decide) (Nat.le_of_ble_eq_true rfl) ?_
  show zn G M_X10_feed 1 0 0 0 [(0, vR 40 (some i0)), (1, vI x1), (2, vJ x2)] [] S _
  have hp : zpo (some (vI out.1)) out.2 (some (vI out.1)) out.2 := ⟨rfl, rfl⟩
  unfold f_X10_feed at h0
  refine zn_iload_n (pc := 0) 1 dX10_feed_0 rfl rfl ?_
  refine zn_iconst (pc := 1) (x := 1) dX10_feed_1 (by decide) ?_
  have h15 := h0; clear h0
  refine zn_icmp_ge (pc := 2) (tgt := 12) dX10_feed_2 (by decide) (fun c14 => ?_) (fun c14 => ?_)
  · replace h15 := zif_t c14 h15
    refine zn_iload_n (pc := 12) 1 dX10_feed_12 rfl rfl ?_
    refine zn_bipush (pc := 13) (x := 8) dX10_feed_13 (by decide) ?_
    have h17 := h15; clear h15
    refine zn_icmp_gt (pc := 15) (tgt := 29) dX10_feed_15 (by decide) (fun c16 => ?_) (fun c16 => ?_)
    · replace h17 := zif_t c16 h17
      refine zn_pick [0] rfl ?_
      exact b_X10_feed_29  h17 hp
    · replace h17 := zif_f c16 h17
      refine zn_aload_n (pc := 18) 0 dX10_feed_18 rfl rfl ?_
      refine zn_getI (pc := 19) fa_X10_230_40.1 fa_X10_230_40.2 dX10_feed_19 ?_
      refine zn_iload_n (pc := 22) 1 dX10_feed_22 rfl rfl ?_
      refine zn_iadd (pc := 23) dX10_feed_23 ?_
      refine zn_bipush (pc := 24) (x := 60) dX10_feed_24 (by decide) ?_
      have h19 := h17; clear h17
      refine zn_icmp_le (pc := 26) (tgt := 36) dX10_feed_26 (by decide) (fun c18 => ?_) (fun c18 => ?_)
      · replace h19 := zif_t c18 h19
        refine zn_iconst (pc := 36) (x := 0) dX10_feed_36 (by decide) ?_
        refine zn_istore (pc := 37) (ls' := [(4, vI 0), (0, vR 40 (some i0)), (1, vI x1), (2, vJ x2)]) dX10_feed_37 (Nat.le_of_ble_eq_true rfl) rfl ?_
        refine zn_pick [1, 2, 3, 0] rfl ?_
        exact b_X10_feed_39  fu _ _ _ _ _ _ h19 hp
      · replace h19 := zif_f c18 h19
        refine zn_pick [0] rfl ?_
        exact b_X10_feed_29  h19 hp
  · replace h15 := zif_f c14 h15
    refine zn_aload_n (pc := 5) 0 dX10_feed_5 rfl rfl ?_
    refine zn_bipush (pc := 6) (x := (-4)) dX10_feed_6 (by decide) ?_
    obtain ⟨o20, e21, h22⟩ := zbd h15; clear h15
    refine zn_cVv (pc := 8) (kc := 0) (ks := 0) (kc' := 0) (ks' := 0) (As := [vI (-4)]) (st := []) dX10_feed_8 cs_X10_163 pc_40 rfl rfl (Nat.le_of_ble_eq_true rfl) ((c_X10_refuse e21).mono (Nat.le_of_ble_eq_true rfl)) ?_
    have hz := Option.some.inj h22; clear h22; subst hz
    exact zn_ireturn (pc := 11) dX10_feed_11 rfl hp
theorem b_X10_rule_116 {G : zG} {Post : Option zV → zH → Prop} : ∀ (n : Nat) (i0 : Nat) (x1 : Int32) (x2 : Int32) (x6 : Int32) (x7 : Int32) (S : zH) (out : (Int32 × zH)), f_X10_rule_116 n i0 x1 x2 x6 x7 S = some out → Post (some (vI out.1)) out.2 → zn G M_X10_rule 62 0 0 116 [(0, vR 40 (some i0)), (1, vI x1), (2, vI x2), (6, vI x6), (7, vI x7)] [] S Post := by
  intro n
  induction n with
  | zero => intro i0 x1 x2 x6 x7 S out h0 hp; exact (nomatch (show (none : Option _) = some out from h0))
  | succ n ih =>
    intro i0 x1 x2 x6 x7 S out h0 hp
    rw [f_X10_rule_116] at h0
    refine zn_iload (pc := 116) 4 dX10_rule_116 rfl ?_
    refine zn_iload (pc := 118) 3 dX10_rule_118 rfl ?_
    have h2 := h0; clear h0
    refine zn_icmp_ge (pc := 120) (tgt := 151) dX10_rule_120 (by decide) (fun c1 => ?_) (fun c1 => ?_)
    · replace h2 := zif_t c1 h2
      refine zn_aload_n (pc := 151) 0 dX10_rule_151 rfl rfl ?_
      refine zn_getR (pc := 152) fa_X10_136_40.1 fa_X10_136_40.2 dX10_rule_152 ?_
      refine zn_aload_n (pc := 155) 0 dX10_rule_155 rfl rfl ?_
      refine zn_getI (pc := 156) fa_X10_281_40.1 fa_X10_281_40.2 dX10_rule_156 ?_
      refine zn_iload (pc := 159) 3 dX10_rule_159 rfl ?_
      obtain ⟨i3, hi4, h5⟩ := zbd h2; clear h2
      rw [hi4]
      obtain ⟨hb6, h7⟩ := zgdd h5; clear h5
      obtain ⟨S8, hS9, h10⟩ := zltd h7; clear h7
      refine zn_iastore (pc := 161) zk_141 dX10_rule_161 (zib_in hb6) hS9 ?_
      refine zn_aload_n (pc := 162) 0 dX10_rule_162 rfl rfl ?_
      refine zn_getR (pc := 163) fa_X10_139_40.1 fa_X10_139_40.2 dX10_rule_163 ?_
      refine zn_aload_n (pc := 166) 0 dX10_rule_166 rfl rfl ?_
      refine zn_getI (pc := 167) fa_X10_281_40.1 fa_X10_281_40.2 dX10_rule_167 ?_
      refine zn_iload_n (pc := 170) 1 dX10_rule_170 rfl rfl ?_
      obtain ⟨i11, hi12, h13⟩ := zbd h10; clear h10
      rw [hi12]
      obtain ⟨hb14, h15⟩ := zgdd h13; clear h13
      obtain ⟨S16, hS17, h18⟩ := zltd h15; clear h15
      refine zn_iastore (pc := 171) zk_142 dX10_rule_171 (zib_in hb14) hS17 ?_
      refine zn_aload_n (pc := 172) 0 dX10_rule_172 rfl rfl ?_
      refine zn_getR (pc := 173) fa_X10_142_40.1 fa_X10_142_40.2 dX10_rule_173 ?_
      refine zn_aload_n (pc := 176) 0 dX10_rule_176 rfl rfl ?_
      refine zn_getI (pc := 177) fa_X10_281_40.1 fa_X10_281_40.2 dX10_rule_177 ?_
      refine zn_iload_n (pc := 180) 2 dX10_rule_180 rfl rfl ?_
      obtain ⟨i19, hi20, h21⟩ := zbd h18; clear h18
      rw [hi20]
      obtain ⟨hb22, h23⟩ := zgdd h21; clear h21
      obtain ⟨S24, hS25, h26⟩ := zltd h23; clear h23
      refine zn_iastore (pc := 181) zk_143 dX10_rule_181 (zib_in hb22) hS25 ?_
      refine zn_aload_n (pc := 182) 0 dX10_rule_182 rfl rfl ?_
      refine zn_dup (pc := 183) dX10_rule_183 rfl ?_
      refine zn_getI (pc := 184) fa_X10_281_40.1 fa_X10_281_40.2 dX10_rule_184 ?_
      refine zn_iconst (pc := 187) (x := 1) dX10_rule_187 (by decide) ?_
      refine zn_iadd (pc := 188) dX10_rule_188 ?_
      obtain ⟨S27, hS28, h29⟩ := zltd h26; clear h26
      refine zn_putI (pc := 189) fp_X10_281_40.1 (fp_X10_281_40 (nm := "")).2 dX10_rule_189 hS28 ?_
      refine zn_aload_n (pc := 192) 0 dX10_rule_192 rfl rfl ?_
      refine zn_getI (pc := 193) fa_X10_281_40.1 fa_X10_281_40.2 dX10_rule_193 ?_
      have hz := Option.some.inj h29; clear h29; subst hz
      exact zn_ireturn (pc := 196) dX10_rule_196 rfl hp
    · replace h2 := zif_f c1 h2
      refine zn_aload_n (pc := 123) 0 dX10_rule_123 rfl rfl ?_
      refine zn_getR (pc := 124) fa_X10_145_40.1 fa_X10_145_40.2 dX10_rule_124 ?_
      refine zn_bipush (pc := 127) (x := 60) dX10_rule_127 (by decide) ?_
      refine zn_aload_n (pc := 129) 0 dX10_rule_129 rfl rfl ?_
      refine zn_getI (pc := 130) fa_X10_281_40.1 fa_X10_281_40.2 dX10_rule_130 ?_
      refine zn_imul (pc := 133) dX10_rule_133 ?_
      refine zn_iload (pc := 134) 4 dX10_rule_134 rfl ?_
      refine zn_iadd (pc := 136) dX10_rule_136 ?_
      refine zn_aload_n (pc := 137) 0 dX10_rule_137 rfl rfl ?_
      refine zn_getR (pc := 138) fa_X10_155_40.1 fa_X10_155_40.2 dX10_rule_138 ?_
      refine zn_iload (pc := 141) 4 dX10_rule_141 rfl ?_
      obtain ⟨i30, hi31, h32⟩ := zbd h2; clear h2
      rw [hi31]
      obtain ⟨hb33, h34⟩ := zgdd h32; clear h32
      refine zn_iaload (pc := 143) zk_157 dX10_rule_143 (zib_in hb33) ?_
      obtain ⟨i35, hi36, h37⟩ := zbd h34; clear h34
      rw [hi36]
      obtain ⟨hb38, h39⟩ := zgdd h37; clear h37
      obtain ⟨S40, hS41, h42⟩ := zltd h39; clear h39
      refine zn_iastore (pc := 144) zk_144 dX10_rule_144 (zib_in hb38) hS41 ?_
      refine zn_iinc (pc := 145) 4 (y := x7 + 1) (ls' := [(7, vI (x7 + 1)), (0, vR 40 (some i0)), (1, vI x1), (2, vI x2), (6, vI x6)]) dX10_rule_145 rfl rfl (Nat.le_of_ble_eq_true rfl) rfl ?_
      refine zn_goto (pc := 148) (tgt := 116) dX10_rule_148 (by decide) ?_
      refine zn_pick [1, 2, 3, 4, 0] rfl ?_
      exact ih _ _ _ _ _ _ _ h42 hp
theorem b_X10_rule_87 {G : zG} {Post : Option zV → zH → Prop} {i0 : Nat} {x1 : Int32} {x2 : Int32} {xs0 : Int32} {S : zH} {out : (Int32 × zH)} (h0 : f_X10_rule_87 i0 x1 x2 xs0 S = some out) (hp : Post (some (vI out.1)) out.2) : zn G M_X10_rule 62 0 0 87 [(0, vR 40 (some i0)), (1, vI x1), (2, vI x2)] [vI xs0] S Post := by
  unfold f_X10_rule_87 at h0
  refine zn_istore (pc := 87) (ls' := [(5, vI xs0), (0, vR 40 (some i0)), (1, vI x1), (2, vI x2)]) dX10_rule_87 (Nat.le_of_ble_eq_true rfl) rfl ?_
  refine zn_aload_n (pc := 89) 1 dX10_rule_89 rfl rfl ?_
  refine zn_getI (pc := 90) fa_X10_230_40.1 fa_X10_230_40.2 dX10_rule_90 ?_
  refine zn_istore (pc := 93) (ls' := [(6, vI (zI S 40 i0 59)), (5, vI xs0), (0, vR 40 (some i0)), (1, vI x1), (2, vI x2)]) dX10_rule_93 (Nat.le_of_ble_eq_true rfl) rfl ?_
  refine zn_aload_n (pc := 95) 2 dX10_rule_95 rfl rfl ?_
  refine zn_iconst (pc := 96) (x := 0) dX10_rule_96 (by decide) ?_
  obtain ⟨S1, hS2, h3⟩ := zltd h0; clear h0
  refine zn_putI (pc := 97) fp_X10_230_40.1 (fp_X10_230_40 (nm := "")).2 dX10_rule_97 hS2 ?_
  refine zn_iload (pc := 100) 1 dX10_rule_100 rfl ?_
  have h5 := h3; clear h3
  refine zn_if_ne (pc := 102) (tgt := 113) dX10_rule_102 (by decide) (fun c4 => ?_) (fun c4 => ?_)
  · replace h5 := zif_f c4 h5
    refine zn_iconst (pc := 113) (x := 0) dX10_rule_113 (by decide) ?_
    refine zn_istore (pc := 114) (ls' := [(7, vI 0), (6, vI (zI S 40 i0 59)), (5, vI xs0), (0, vR 40 (some i0)), (1, vI x1), (2, vI x2)]) dX10_rule_114 (Nat.le_of_ble_eq_true rfl) rfl ?_
    refine zn_pick [3, 4, 5, 1, 0] rfl ?_
    exact b_X10_rule_116  fu _ _ _ _ _ _ _ h5 hp
  · replace h5 := zif_t c4 h5
    refine zn_bipush (pc := 105) (x := (-20)) dX10_rule_105 (by decide) ?_
    refine zn_aload_n (pc := 107) 2 dX10_rule_107 rfl rfl ?_
    refine zn_getI (pc := 108) fa_X10_235_40.1 fa_X10_235_40.2 dX10_rule_108 ?_
    refine zn_isub (pc := 111) dX10_rule_111 ?_
    have hz := Option.some.inj h5; clear h5; subst hz
    exact zn_ireturn (pc := 112) dX10_rule_112 rfl hp
theorem b_X10_rule_43 {G : zG} {Post : Option zV → zH → Prop} {i0 : Nat} {x1 : Int32} {x2 : Int32} {x3 : Int32} {S : zH} {out : (Int32 × zH)} (h0 : f_X10_rule_43 i0 x1 x2 x3 S = some out) (hp : Post (some (vI out.1)) out.2) : zn G M_X10_rule 62 0 0 43 [(0, vR 40 (some i0)), (1, vI x1), (2, vI x2), (3, vI x3)] [] S Post := by
  unfold f_X10_rule_43 at h0
  refine zn_iload_n (pc := 43) 3 dX10_rule_43 rfl rfl ?_
  have h2 := h0; clear h0
  refine zn_if_eq (pc := 44) (tgt := 53) dX10_rule_44 (by decide) (fun c1 => ?_) (fun c1 => ?_)
  · replace h2 := zif_t c1 h2
    refine zn_aload_n (pc := 53) 0 dX10_rule_53 rfl rfl ?_
    refine zn_iconst (pc := 54) (x := (-1)) dX10_rule_54 (by decide) ?_
    refine zn_aload_n (pc := 55) 0 dX10_rule_55 rfl rfl ?_
    refine zn_getI (pc := 56) fa_X10_230_40.1 fa_X10_230_40.2 dX10_rule_56 ?_
    obtain ⟨o3, e4, h5⟩ := zbd h2; clear h2
    refine zn_cVv (pc := 59) (kc := 0) (ks := 0) (kc' := 0) (ks' := 0) (As := [vI (-1), vI (zI S 40 i0 59)]) (st := []) dX10_rule_59 cs_X10_284 pc_40 rfl rfl (Nat.le_of_ble_eq_true rfl) ((c_X10_goesThrough e4).mono (Nat.le_of_ble_eq_true rfl)) ?_
    refine zn_istore (pc := 62) (ls' := [(4, vI o3.1), (0, vR 40 (some i0)), (1, vI x1), (2, vI x2), (3, vI x3)]) dX10_rule_62 (Nat.le_of_ble_eq_true rfl) rfl ?_
    refine zn_aload_n (pc := 64) 1 dX10_rule_64 rfl rfl ?_
    refine zn_getI (pc := 65) fa_X10_248_40.1 fa_X10_248_40.2 dX10_rule_65 ?_
    have h7 := h5; clear h5
    refine zn_if_eq (pc := 68) (tgt := 86) dX10_rule_68 (by decide) (fun c6 => ?_) (fun c6 => ?_)
    · replace h7 := zif_t c6 h7
      refine zn_iconst (pc := 86) (x := 0) dX10_rule_86 (by decide) ?_
      refine zn_pick [1, 2, 3] rfl ?_
      exact b_X10_rule_87  h7 hp
    · replace h7 := zif_f c6 h7
      refine zn_aload_n (pc := 71) 1 dX10_rule_71 rfl rfl ?_
      refine zn_getI (pc := 72) fa_X10_235_40.1 fa_X10_235_40.2 dX10_rule_72 ?_
      refine zn_aload_n (pc := 75) 1 dX10_rule_75 rfl rfl ?_
      refine zn_getI (pc := 76) fa_X10_230_40.1 fa_X10_230_40.2 dX10_rule_76 ?_
      have h9 := h7; clear h7
      refine zn_icmp_ne (pc := 79) (tgt := 86) dX10_rule_79 (by decide) (fun c8 => ?_) (fun c8 => ?_)
      · replace h9 := zif_f c8 h9
        refine zn_iconst (pc := 86) (x := 0) dX10_rule_86 (by decide) ?_
        refine zn_pick [1, 2, 3] rfl ?_
        exact b_X10_rule_87  h9 hp
      · replace h9 := zif_t c8 h9
        refine zn_iconst (pc := 82) (x := 1) dX10_rule_82 (by decide) ?_
        refine zn_goto (pc := 83) (tgt := 87) dX10_rule_83 (by decide) ?_
        refine zn_pick [1, 2, 3] rfl ?_
        exact b_X10_rule_87  h9 hp
  · replace h2 := zif_f c1 h2
    refine zn_aload_n (pc := 47) 0 dX10_rule_47 rfl rfl ?_
    refine zn_iload_n (pc := 48) 3 dX10_rule_48 rfl rfl ?_
    obtain ⟨o10, e11, h12⟩ := zbd h2; clear h2
    refine zn_cVv (pc := 49) (kc := 0) (ks := 0) (kc' := 0) (ks' := 0) (As := [vI x3]) (st := []) dX10_rule_49 cs_X10_163 pc_40 rfl rfl (Nat.le_of_ble_eq_true rfl) ((c_X10_refuse e11).mono (Nat.le_of_ble_eq_true rfl)) ?_
    have hz := Option.some.inj h12; clear h12; subst hz
    exact zn_ireturn (pc := 52) dX10_rule_52 rfl hp
theorem c_X10_rule {G : zG} {i0 : Nat} {x1 : Int32} {x2 : Int32} {S : zH} {out : (Int32 × zH)} (h0 : f_X10_rule i0 x1 x2 S = some out) : zct G M_X10_rule 62 0 0 [vR 40 (some i0), vI x1, vI x2] S (zpo (some (vI out.1)) out.2) := by
  refine zct_of (by decide) (Nat.le_of_ble_eq_true rfl) ?_
  show zn G M_X10_rule 62 0 0 0 [(0, vR 40 (some i0)), (1, vI x1), (2, vI x2)] [] S _
  have hp : zpo (some (vI out.1)) out.2 (some (vI out.1)) out.2 := ⟨rfl, rfl⟩
  unfold f_X10_rule at h0
  refine zn_iload_n (pc := 0) 1 dX10_rule_0 rfl rfl ?_
  refine zn_iconst (pc := 1) (x := 4) dX10_rule_1 (by decide) ?_
  obtain ⟨o13, e14, h15⟩ := zbd h0; clear h0
  refine zn_cSv (pc := 2) (kc := 0) (ks := 0) (kc' := 0) (ks' := 0) (As := [vI x1, vI 4]) (st := []) dX10_rule_2 cs_X10_167 rfl rfl (Nat.le_of_ble_eq_true rfl) ((c_X10_isIn e14).mono (Nat.le_of_ble_eq_true rfl)) ?_
  have h17 := h15; clear h15
  refine zn_if_ne (pc := 5) (tgt := 15) dX10_rule_5 (by decide) (fun c16 => ?_) (fun c16 => ?_)
  · replace h17 := zif_f c16 h17
    refine zn_iload_n (pc := 15) 2 dX10_rule_15 rfl rfl ?_
    refine zn_aload_n (pc := 16) 0 dX10_rule_16 rfl rfl ?_
    refine zn_getI (pc := 17) fa_X10_177_40.1 fa_X10_177_40.2 dX10_rule_17 ?_
    refine zn_sipush (pc := 20) (x := 1500) dX10_rule_20 (by decide) ?_
    obtain ⟨o18, e19, h20⟩ := zbd h17; clear h17
    refine zn_cSv (pc := 23) (kc := 0) (ks := 0) (kc' := 0) (ks' := 0) (As := [vI x2, vI (zI S 40 i0 46), vI 1500]) (st := []) dX10_rule_23 cs_X10_187 rfl rfl (Nat.le_of_ble_eq_true rfl) ((c_X10_within e19).mono (Nat.le_of_ble_eq_true rfl)) ?_
    refine zn_istore_n (pc := 26) (ls' := [(3, vI o18), (0, vR 40 (some i0)), (1, vI x1), (2, vI x2)]) dX10_rule_26 rfl (Nat.le_of_ble_eq_true rfl) rfl ?_
    refine zn_iload_n (pc := 27) 0 dX10_rule_27 rfl rfl ?_
    have h22 := h20; clear h20
    refine zn_if_ne (pc := 28) (tgt := 43) dX10_rule_28 (by decide) (fun c21 => ?_) (fun c21 => ?_)
    · replace h22 := zif_f c21 h22
      refine zn_pick [1, 2, 3, 0] rfl ?_
      exact b_X10_rule_43  h22 hp
    · replace h22 := zif_t c21 h22
      refine zn_aload_n (pc := 31) 1 dX10_rule_31 rfl rfl ?_
      refine zn_getI (pc := 32) fa_X10_281_40.1 fa_X10_281_40.2 dX10_rule_32 ?_
      refine zn_bipush (pc := 35) (x := 30) dX10_rule_35 (by decide) ?_
      have h24 := h22; clear h22
      refine zn_icmp_ne (pc := 37) (tgt := 43) dX10_rule_37 (by decide) (fun c23 => ?_) (fun c23 => ?_)
      · replace h24 := zif_f c23 h24
        refine zn_pick [1, 2, 3, 0] rfl ?_
        exact b_X10_rule_43  h24 hp
      · replace h24 := zif_t c23 h24
        refine zn_bipush (pc := 40) (x := (-6)) dX10_rule_40 (by decide) ?_
        refine zn_istore_n (pc := 42) (ls' := [(3, vI (-6)), (0, vR 40 (some i0)), (1, vI x1), (2, vI x2)]) dX10_rule_42 rfl (Nat.le_of_ble_eq_true rfl) rfl ?_
        refine zn_pick [1, 2, 3, 0] rfl ?_
        exact b_X10_rule_43  h24 hp
  · replace h17 := zif_t c16 h17
    refine zn_aload_n (pc := 8) 0 dX10_rule_8 rfl rfl ?_
    refine zn_bipush (pc := 9) (x := (-2)) dX10_rule_9 (by decide) ?_
    obtain ⟨o25, e26, h27⟩ := zbd h17; clear h17
    refine zn_cVv (pc := 11) (kc := 0) (ks := 0) (kc' := 0) (ks' := 0) (As := [vI (-2)]) (st := []) dX10_rule_11 cs_X10_163 pc_40 rfl rfl (Nat.le_of_ble_eq_true rfl) ((c_X10_refuse e26).mono (Nat.le_of_ble_eq_true rfl)) ?_
    have hz := Option.some.inj h27; clear h27; subst hz
    exact zn_ireturn (pc := 14) dX10_rule_14 rfl hp
theorem b_X10_line_36 {G : zG} {Post : Option zV → zH → Prop} {i0 : Nat} {S : zH} {out : (Int32 × zH)} (h0 : f_X10_line_36 i0 S = some out) (hp : Post (some (vI out.1)) out.2) : zn G M_X10_line 2 0 0 36 [(0, vR 40 (some i0))] [] S Post := by
  unfold f_X10_line_36 at h0
  refine zn_aload_n (pc := 36) 0 dX10_line_36 rfl rfl ?_
  refine zn_iconst (pc := 37) (x := (-1)) dX10_line_37 (by decide) ?_
  obtain ⟨o1, e2, h3⟩ := zbd h0; clear h0
  refine zn_cVv (pc := 38) (kc := 0) (ks := 0) (kc' := 0) (ks' := 0) (As := [vI (-1)]) (st := []) dX10_line_38 cs_X10_163 pc_40 rfl rfl (Nat.le_of_ble_eq_true rfl) ((c_X10_refuse e2).mono (Nat.le_of_ble_eq_true rfl)) ?_
  have hz := Option.some.inj h3; clear h3; subst hz
  exact zn_ireturn (pc := 41) dX10_line_41 rfl hp
theorem b_X10_line_67 {G : zG} {Post : Option zV → zH → Prop} {i0 : Nat} {S : zH} {out : (Int32 × zH)} (h0 : f_X10_line_67 i0 S = some out) (hp : Post (some (vI out.1)) out.2) : zn G M_X10_line 2 0 0 67 [(0, vR 40 (some i0))] [] S Post := by
  unfold f_X10_line_67 at h0
  refine zn_aload_n (pc := 67) 0 dX10_line_67 rfl rfl ?_
  refine zn_bipush (pc := 68) (x := (-4)) dX10_line_68 (by decide) ?_
  obtain ⟨o1, e2, h3⟩ := zbd h0; clear h0
  refine zn_cVv (pc := 70) (kc := 0) (ks := 0) (kc' := 0) (ks' := 0) (As := [vI (-4)]) (st := []) dX10_line_70 cs_X10_163 pc_40 rfl rfl (Nat.le_of_ble_eq_true rfl) ((c_X10_refuse e2).mono (Nat.le_of_ble_eq_true rfl)) ?_
  have hz := Option.some.inj h3; clear h3; subst hz
  exact zn_ireturn (pc := 73) dX10_line_73 rfl hp
theorem b_X10_line_109 {G : zG} {Post : Option zV → zH → Prop} {i0 : Nat} {S : zH} {out : (Int32 × zH)} (h0 : f_X10_line_109 i0 S = some out) (hp : Post (some (vI out.1)) out.2) : zn G M_X10_line 2 0 0 109 [(0, vR 40 (some i0))] [] S Post := by
  unfold f_X10_line_109 at h0
  refine zn_aload_n (pc := 109) 0 dX10_line_109 rfl rfl ?_
  refine zn_bipush (pc := 110) (x := (-6)) dX10_line_110 (by decide) ?_
  obtain ⟨o1, e2, h3⟩ := zbd h0; clear h0
  refine zn_cVv (pc := 112) (kc := 0) (ks := 0) (kc' := 0) (ks' := 0) (As := [vI (-6)]) (st := []) dX10_line_112 cs_X10_163 pc_40 rfl rfl (Nat.le_of_ble_eq_true rfl) ((c_X10_refuse e2).mono (Nat.le_of_ble_eq_true rfl)) ?_
  have hz := Option.some.inj h3; clear h3; subst hz
  exact zn_ireturn (pc := 115) dX10_line_115 rfl hp
theorem b_X10_line_100 {G : zG} {Post : Option zV → zH → Prop} {i0 : Nat} {x1 : Int32} {x2 : Int32} {x3 : Int32} {x4 : Int32} {x5 : Int32} {x6 : Int32} {S : zH} {out : (Int32 × zH)} (h0 : f_X10_line_100 i0 x1 x2 x3 x4 x5 x6 S = some out) (hp : Post (some (vI out.1)) out.2) : zn G M_X10_line 2 0 0 100 [(0, vR 40 (some i0)), (1, vI x1), (2, vI x2), (3, vI x3), (4, vI x4), (5, vI x5), (6, vI x6)] [] S Post := by
  unfold f_X10_line_100 at h0
  refine zn_aload_n (pc := 100) 0 dX10_line_100 rfl rfl ?_
  refine zn_getI (pc := 101) fa_X10_287_40.1 fa_X10_287_40.2 dX10_line_101 ?_
  refine zn_bipush (pc := 104) (x := 60) dX10_line_104 (by decide) ?_
  have h2 := h0; clear h0
  refine zn_icmp_ne (pc := 106) (tgt := 116) dX10_line_106 (by decide) (fun c1 => ?_) (fun c1 => ?_)
  · replace h2 := zif_f c1 h2
    refine zn_aload_n (pc := 116) 0 dX10_line_116 rfl rfl ?_
    refine zn_getI (pc := 117) fa_X10_287_40.1 fa_X10_287_40.2 dX10_line_117 ?_
    refine zn_istore (pc := 120) (ls' := [(7, vI (zI S 40 i0 50)), (0, vR 40 (some i0)), (1, vI x1), (2, vI x2), (3, vI x3), (4, vI x4), (5, vI x5), (6, vI x6)]) dX10_line_120 (Nat.le_of_ble_eq_true rfl) rfl ?_
    refine zn_aload_n (pc := 122) 1 dX10_line_122 rfl rfl ?_
    refine zn_dup (pc := 123) dX10_line_123 rfl ?_
    refine zn_getI (pc := 124) fa_X10_287_40.1 fa_X10_287_40.2 dX10_line_124 ?_
    refine zn_iconst (pc := 127) (x := 1) dX10_line_127 (by decide) ?_
    refine zn_iadd (pc := 128) dX10_line_128 ?_
    obtain ⟨S3, hS4, h5⟩ := zltd h2; clear h2
    refine zn_putI (pc := 129) fp_X10_287_40.1 (fp_X10_287_40 (nm := "")).2 dX10_line_129 hS4 ?_
    refine zn_aload_n (pc := 132) 1 dX10_line_132 rfl rfl ?_
    refine zn_getR (pc := 133) fa_X10_72_40.1 fa_X10_72_40.2 dX10_line_133 ?_
    refine zn_iload (pc := 136) 0 dX10_line_136 rfl ?_
    refine zn_iload_n (pc := 138) 2 dX10_line_138 rfl rfl ?_
    obtain ⟨i6, hi7, h8⟩ := zbd h5; clear h5
    rw [hi7]
    obtain ⟨hb9, h10⟩ := zgdd h8; clear h8
    obtain ⟨S11, hS12, h13⟩ := zltd h10; clear h10
    refine zn_iastore (pc := 139) zk_120 dX10_line_139 (zib_in hb9) hS12 ?_
    refine zn_aload_n (pc := 140) 1 dX10_line_140 rfl rfl ?_
    refine zn_getR (pc := 141) fa_X10_75_40.1 fa_X10_75_40.2 dX10_line_141 ?_
    refine zn_iload (pc := 144) 0 dX10_line_144 rfl ?_
    refine zn_iload_n (pc := 146) 3 dX10_line_146 rfl rfl ?_
    obtain ⟨i14, hi15, h16⟩ := zbd h13; clear h13
    rw [hi15]
    obtain ⟨hb17, h18⟩ := zgdd h16; clear h16
    obtain ⟨S19, hS20, h21⟩ := zltd h18; clear h18
    refine zn_iastore (pc := 147) zk_121 dX10_line_147 (zib_in hb17) hS20 ?_
    refine zn_aload_n (pc := 148) 1 dX10_line_148 rfl rfl ?_
    refine zn_getR (pc := 149) fa_X10_78_40.1 fa_X10_78_40.2 dX10_line_149 ?_
    refine zn_iload (pc := 152) 0 dX10_line_152 rfl ?_
    refine zn_iload_n (pc := 154) 4 dX10_line_154 rfl rfl ?_
    obtain ⟨i22, hi23, h24⟩ := zbd h21; clear h21
    rw [hi23]
    obtain ⟨hb25, h26⟩ := zgdd h24; clear h24
    obtain ⟨S27, hS28, h29⟩ := zltd h26; clear h26
    refine zn_iastore (pc := 155) zk_122 dX10_line_155 (zib_in hb25) hS28 ?_
    refine zn_aload_n (pc := 156) 1 dX10_line_156 rfl rfl ?_
    refine zn_getR (pc := 157) fa_X10_81_40.1 fa_X10_81_40.2 dX10_line_157 ?_
    refine zn_iload (pc := 160) 0 dX10_line_160 rfl ?_
    refine zn_iload (pc := 162) 5 dX10_line_162 rfl ?_
    obtain ⟨i30, hi31, h32⟩ := zbd h29; clear h29
    rw [hi31]
    obtain ⟨hb33, h34⟩ := zgdd h32; clear h32
    obtain ⟨S35, hS36, h37⟩ := zltd h34; clear h34
    refine zn_iastore (pc := 164) zk_123 dX10_line_164 (zib_in hb33) hS36 ?_
    refine zn_aload_n (pc := 165) 1 dX10_line_165 rfl rfl ?_
    refine zn_getR (pc := 166) fa_X10_84_40.1 fa_X10_84_40.2 dX10_line_166 ?_
    refine zn_iload (pc := 169) 0 dX10_line_169 rfl ?_
    refine zn_iload (pc := 171) 6 dX10_line_171 rfl ?_
    obtain ⟨i38, hi39, h40⟩ := zbd h37; clear h37
    rw [hi39]
    obtain ⟨hb41, h42⟩ := zgdd h40; clear h40
    obtain ⟨S43, hS44, h45⟩ := zltd h42; clear h42
    refine zn_iastore (pc := 173) zk_124 dX10_line_173 (zib_in hb41) hS44 ?_
    refine zn_aload_n (pc := 174) 1 dX10_line_174 rfl rfl ?_
    refine zn_getR (pc := 175) fa_X10_87_40.1 fa_X10_87_40.2 dX10_line_175 ?_
    refine zn_iload (pc := 178) 0 dX10_line_178 rfl ?_
    refine zn_iload (pc := 180) 7 dX10_line_180 rfl ?_
    obtain ⟨i46, hi47, h48⟩ := zbd h45; clear h45
    rw [hi47]
    obtain ⟨hb49, h50⟩ := zgdd h48; clear h48
    obtain ⟨S51, hS52, h53⟩ := zltd h50; clear h50
    refine zn_iastore (pc := 182) zk_125 dX10_line_182 (zib_in hb49) hS52 ?_
    refine zn_aload_n (pc := 183) 1 dX10_line_183 rfl rfl ?_
    refine zn_getR (pc := 184) fa_X10_90_40.1 fa_X10_90_40.2 dX10_line_184 ?_
    refine zn_iload (pc := 187) 0 dX10_line_187 rfl ?_
    refine zn_iconst (pc := 189) (x := (-1)) dX10_line_189 (by decide) ?_
    obtain ⟨i54, hi55, h56⟩ := zbd h53; clear h53
    rw [hi55]
    obtain ⟨hb57, h58⟩ := zgdd h56; clear h56
    obtain ⟨S59, hS60, h61⟩ := zltd h58; clear h58
    refine zn_iastore (pc := 190) zk_126 dX10_line_190 (zib_in hb57) hS60 ?_
    refine zn_aload_n (pc := 191) 1 dX10_line_191 rfl rfl ?_
    refine zn_getR (pc := 192) fa_X10_99_40.1 fa_X10_99_40.2 dX10_line_192 ?_
    refine zn_iload (pc := 195) 0 dX10_line_195 rfl ?_
    refine zn_bipush (pc := 197) (x := (-9)) dX10_line_197 (by decide) ?_
    obtain ⟨i62, hi63, h64⟩ := zbd h61; clear h61
    rw [hi63]
    obtain ⟨hb65, h66⟩ := zgdd h64; clear h64
    obtain ⟨S67, hS68, h69⟩ := zltd h66; clear h66
    refine zn_iastore (pc := 199) zk_129 dX10_line_199 (zib_in hb65) hS68 ?_
    refine zn_iload (pc := 200) 0 dX10_line_200 rfl ?_
    have hz := Option.some.inj h69; clear h69; subst hz
    exact zn_ireturn (pc := 202) dX10_line_202 rfl hp
  · replace h2 := zif_t c1 h2
    refine zn_pick [0] rfl ?_
    exact b_X10_line_109  h2 hp
theorem b_X10_line_74 {G : zG} {Post : Option zV → zH → Prop} {i0 : Nat} {x1 : Int32} {x2 : Int32} {x3 : Int32} {x4 : Int32} {x5 : Int32} {x6 : Int32} {S : zH} {out : (Int32 × zH)} (h0 : f_X10_line_74 i0 x1 x2 x3 x4 x5 x6 S = some out) (hp : Post (some (vI out.1)) out.2) : zn G M_X10_line 2 0 0 74 [(0, vR 40 (some i0)), (1, vI x1), (2, vI x2), (3, vI x3), (4, vI x4), (5, vI x5), (6, vI x6)] [] S Post := by
  unfold f_X10_line_74 at h0
  refine zn_iload (pc := 74) 4 dX10_line_74 rfl ?_
  refine zn_ldc (pc := 76) dX10_line_76 w1_X10_206 ?_
  have h2 := h0; clear h0
  refine zn_icmp_gt (pc := 78) (tgt := 109) dX10_line_78 (by decide) (fun c1 => ?_) (fun c1 => ?_)
  · replace h2 := zif_t c1 h2
    refine zn_pick [0] rfl ?_
    exact b_X10_line_109  h2 hp
  · replace h2 := zif_f c1 h2
    refine zn_iload (pc := 81) 5 dX10_line_81 rfl ?_
    refine zn_sipush (pc := 83) (x := 1500) dX10_line_83 (by decide) ?_
    have h4 := h2; clear h2
    refine zn_icmp_gt (pc := 86) (tgt := 109) dX10_line_86 (by decide) (fun c3 => ?_) (fun c3 => ?_)
    · replace h4 := zif_t c3 h4
      refine zn_pick [0] rfl ?_
      exact b_X10_line_109  h4 hp
    · replace h4 := zif_f c3 h4
      refine zn_iload_n (pc := 89) 1 dX10_line_89 rfl rfl ?_
      have h6 := h4; clear h4
      refine zn_if_le (pc := 90) (tgt := 100) dX10_line_90 (by decide) (fun c5 => ?_) (fun c5 => ?_)
      · replace h6 := zif_t c5 h6
        exact b_X10_line_100  h6 hp
      · replace h6 := zif_f c5 h6
        refine zn_iload (pc := 93) 6 dX10_line_93 rfl ?_
        refine zn_bipush (pc := 95) (x := 90) dX10_line_95 (by decide) ?_
        have h8 := h6; clear h6
        refine zn_icmp_gt (pc := 97) (tgt := 109) dX10_line_97 (by decide) (fun c7 => ?_) (fun c7 => ?_)
        · replace h8 := zif_t c7 h8
          refine zn_pick [0] rfl ?_
          exact b_X10_line_109  h8 hp
        · replace h8 := zif_f c7 h8
          exact b_X10_line_100  h8 hp
theorem c_X10_line {G : zG} {i0 : Nat} {x1 : Int32} {x2 : Int32} {x3 : Int32} {x4 : Int32} {x5 : Int32} {x6 : Int32} {S : zH} {out : (Int32 × zH)} (h0 : f_X10_line i0 x1 x2 x3 x4 x5 x6 S = some out) : zct G M_X10_line 2 0 0 [vR 40 (some i0), vI x1, vI x2, vI x3, vI x4, vI x5, vI x6] S (zpo (some (vI out.1)) out.2) := by
  refine zct_of (by decide) (Nat.le_of_ble_eq_true rfl) ?_
  show zn G M_X10_line 2 0 0 0 [(0, vR 40 (some i0)), (1, vI x1), (2, vI x2), (3, vI x3), (4, vI x4), (5, vI x5), (6, vI x6)] [] S _
  have hp : zpo (some (vI out.1)) out.2 (some (vI out.1)) out.2 := ⟨rfl, rfl⟩
  unfold f_X10_line at h0
  refine zn_iload_n (pc := 0) 1 dX10_line_0 rfl rfl ?_
  refine zn_iconst (pc := 1) (x := 4) dX10_line_1 (by decide) ?_
  obtain ⟨o9, e10, h11⟩ := zbd h0; clear h0
  refine zn_cSv (pc := 2) (kc := 0) (ks := 0) (kc' := 0) (ks' := 0) (As := [vI x1, vI 4]) (st := []) dX10_line_2 cs_X10_167 rfl rfl (Nat.le_of_ble_eq_true rfl) ((c_X10_isIn e10).mono (Nat.le_of_ble_eq_true rfl)) ?_
  have h13 := h11; clear h11
  refine zn_if_ne (pc := 5) (tgt := 15) dX10_line_5 (by decide) (fun c12 => ?_) (fun c12 => ?_)
  · replace h13 := zif_f c12 h13
    refine zn_aload_n (pc := 15) 0 dX10_line_15 rfl rfl ?_
    refine zn_iload_n (pc := 16) 2 dX10_line_16 rfl rfl ?_
    obtain ⟨o14, e15, h16⟩ := zbd h13; clear h13
    refine zn_cVv (pc := 17) (kc := 0) (ks := 0) (kc' := 0) (ks' := 0) (As := [vI x2]) (st := []) dX10_line_17 cs_X10_203 pc_40 rfl rfl (Nat.le_of_ble_eq_true rfl) ((c_X10_isAccount e15).mono (Nat.le_of_ble_eq_true rfl)) ?_
    have h18 := h16; clear h16
    refine zn_if_eq (pc := 20) (tgt := 36) dX10_line_20 (by decide) (fun c17 => ?_) (fun c17 => ?_)
    · replace h18 := zif_t c17 h18
      refine zn_pick [0] rfl ?_
      exact b_X10_line_36  h18 hp
    · replace h18 := zif_f c17 h18
      refine zn_aload_n (pc := 23) 0 dX10_line_23 rfl rfl ?_
      refine zn_iload_n (pc := 24) 3 dX10_line_24 rfl rfl ?_
      obtain ⟨o19, e20, h21⟩ := zbd h18; clear h18
      refine zn_cVv (pc := 25) (kc := 0) (ks := 0) (kc' := 0) (ks' := 0) (As := [vI x3]) (st := []) dX10_line_25 cs_X10_203 pc_40 rfl rfl (Nat.le_of_ble_eq_true rfl) ((c_X10_isAccount e20).mono (Nat.le_of_ble_eq_true rfl)) ?_
      have h23 := h21; clear h21
      refine zn_if_eq (pc := 28) (tgt := 36) dX10_line_28 (by decide) (fun c22 => ?_) (fun c22 => ?_)
      · replace h23 := zif_t c22 h23
        refine zn_pick [0] rfl ?_
        exact b_X10_line_36  h23 hp
      · replace h23 := zif_f c22 h23
        refine zn_iload_n (pc := 31) 2 dX10_line_31 rfl rfl ?_
        refine zn_iload_n (pc := 32) 3 dX10_line_32 rfl rfl ?_
        have h25 := h23; clear h23
        refine zn_icmp_ne (pc := 33) (tgt := 42) dX10_line_33 (by decide) (fun c24 => ?_) (fun c24 => ?_)
        · replace h25 := zif_f c24 h25
          refine zn_iload (pc := 42) 4 dX10_line_42 rfl ?_
          refine zn_iconst (pc := 44) (x := 1) dX10_line_44 (by decide) ?_
          have h27 := h25; clear h25
          refine zn_icmp_lt (pc := 45) (tgt := 67) dX10_line_45 (by decide) (fun c26 => ?_) (fun c26 => ?_)
          · replace h27 := zif_t c26 h27
            refine zn_pick [0] rfl ?_
            exact b_X10_line_67  h27 hp
          · replace h27 := zif_f c26 h27
            refine zn_iload (pc := 48) 5 dX10_line_48 rfl ?_
            refine zn_aload_n (pc := 50) 0 dX10_line_50 rfl rfl ?_
            refine zn_getI (pc := 51) fa_X10_177_40.1 fa_X10_177_40.2 dX10_line_51 ?_
            have h29 := h27; clear h27
            refine zn_icmp_lt (pc := 54) (tgt := 67) dX10_line_54 (by decide) (fun c28 => ?_) (fun c28 => ?_)
            · replace h29 := zif_t c28 h29
              refine zn_pick [0] rfl ?_
              exact b_X10_line_67  h29 hp
            · replace h29 := zif_f c28 h29
              refine zn_iload_n (pc := 57) 1 dX10_line_57 rfl rfl ?_
              have h31 := h29; clear h29
              refine zn_if_le (pc := 58) (tgt := 74) dX10_line_58 (by decide) (fun c30 => ?_) (fun c30 => ?_)
              · replace h31 := zif_t c30 h31
                exact b_X10_line_74  h31 hp
              · replace h31 := zif_f c30 h31
                refine zn_iload (pc := 61) 6 dX10_line_61 rfl ?_
                refine zn_iconst (pc := 63) (x := 1) dX10_line_63 (by decide) ?_
                have h33 := h31; clear h31
                refine zn_icmp_ge (pc := 64) (tgt := 74) dX10_line_64 (by decide) (fun c32 => ?_) (fun c32 => ?_)
                · replace h33 := zif_t c32 h33
                  exact b_X10_line_74  h33 hp
                · replace h33 := zif_f c32 h33
                  refine zn_pick [0] rfl ?_
                  exact b_X10_line_67  h33 hp
        · replace h25 := zif_t c24 h25
          refine zn_pick [0] rfl ?_
          exact b_X10_line_36  h25 hp
  · replace h13 := zif_t c12 h13
    refine zn_aload_n (pc := 8) 0 dX10_line_8 rfl rfl ?_
    refine zn_bipush (pc := 9) (x := (-2)) dX10_line_9 (by decide) ?_
    obtain ⟨o34, e35, h36⟩ := zbd h13; clear h13
    refine zn_cVv (pc := 11) (kc := 0) (ks := 0) (kc' := 0) (ks' := 0) (As := [vI (-2)]) (st := []) dX10_line_11 cs_X10_163 pc_40 rfl rfl (Nat.le_of_ble_eq_true rfl) ((c_X10_refuse e35).mono (Nat.le_of_ble_eq_true rfl)) ?_
    have hz := Option.some.inj h36; clear h36; subst hz
    exact zn_ireturn (pc := 14) dX10_line_14 rfl hp
theorem c_X10_isLine {G : zG} {i0 : Nat} {x1 : Int32} {S : zH} {out : Int32} (h0 : f_X10_isLine i0 x1 S = some out) : zct G M_X10_isLine 1 0 0 [vR 40 (some i0), vI x1] S (zpo (some (vI out)) S) := by
  refine zct_of (by decide) (Nat.le_of_ble_eq_true rfl) ?_
  show zn G M_X10_isLine 1 0 0 0 [(0, vR 40 (some i0)), (1, vI x1)] [] S _
  have hp : zpo (some (vI out)) S (some (vI out)) S := ⟨rfl, rfl⟩
  unfold f_X10_isLine at h0
  refine zn_iload_n (pc := 0) 1 dX10_isLine_0 rfl rfl ?_
  refine zn_aload_n (pc := 1) 0 dX10_isLine_1 rfl rfl ?_
  refine zn_getI (pc := 2) fa_X10_287_40.1 fa_X10_287_40.2 dX10_isLine_2 ?_
  obtain ⟨o1, e2, h3⟩ := zbd h0; clear h0
  refine zn_cSv (pc := 5) (kc := 0) (ks := 0) (kc' := 0) (ks' := 0) (As := [vI x1, vI (zI S 40 i0 50)]) (st := []) dX10_isLine_5 cs_X10_167 rfl rfl (Nat.le_of_ble_eq_true rfl) ((c_X10_isIn e2).mono (Nat.le_of_ble_eq_true rfl)) ?_
  obtain ⟨hb4, h5⟩ := zgdd h3; clear h3
  have hz := Option.some.inj h5; clear h5; subst hz
  exact zn_zreturn (pc := 8) dX10_isLine_8 rfl (of_decide_eq_true hb4) hp
theorem c_X10_end {G : zG} {i0 : Nat} {x1 : Int32} {S : zH} {out : (Int32 × zH)} (h0 : f_X10_end i0 x1 S = some out) : zct G M_X10_end 2 0 0 [vR 40 (some i0), vI x1] S (zpo (some (vI out.1)) out.2) := by
  refine zct_of (by decide) (Nat.le_of_ble_eq_true rfl) ?_
  show zn G M_X10_end 2 0 0 0 [(0, vR 40 (some i0)), (1, vI x1)] [] S _
  have hp : zpo (some (vI out.1)) out.2 (some (vI out.1)) out.2 := ⟨rfl, rfl⟩
  unfold f_X10_end at h0
  refine zn_aload_n (pc := 0) 0 dX10_end_0 rfl rfl ?_
  refine zn_iload_n (pc := 1) 1 dX10_end_1 rfl rfl ?_
  obtain ⟨o1, e2, h3⟩ := zbd h0; clear h0
  refine zn_cVv (pc := 2) (kc := 0) (ks := 0) (kc' := 0) (ks' := 0) (As := [vI x1]) (st := []) dX10_end_2 cs_X10_290 pc_40 rfl rfl (Nat.le_of_ble_eq_true rfl) ((c_X10_isLine e2).mono (Nat.le_of_ble_eq_true rfl)) ?_
  have h5 := h3; clear h3
  refine zn_if_ne (pc := 5) (tgt := 14) dX10_end_5 (by decide) (fun c4 => ?_) (fun c4 => ?_)
  · replace h5 := zif_f c4 h5
    refine zn_aload_n (pc := 14) 0 dX10_end_14 rfl rfl ?_
    refine zn_getR (pc := 15) fa_X10_90_40.1 fa_X10_90_40.2 dX10_end_15 ?_
    refine zn_iload_n (pc := 18) 1 dX10_end_18 rfl rfl ?_
    obtain ⟨i6, hi7, h8⟩ := zbd h5; clear h5
    rw [hi7]
    obtain ⟨hb9, h10⟩ := zgdd h8; clear h8
    refine zn_iaload (pc := 19) zk_126 dX10_end_19 (zib_in hb9) ?_
    have h12 := h10; clear h10
    refine zn_if_lt (pc := 20) (tgt := 30) dX10_end_20 (by decide) (fun c11 => ?_) (fun c11 => ?_)
    · replace h12 := zif_t c11 h12
      refine zn_aload_n (pc := 30) 0 dX10_end_30 rfl rfl ?_
      refine zn_getR (pc := 31) fa_X10_90_40.1 fa_X10_90_40.2 dX10_end_31 ?_
      refine zn_iload_n (pc := 34) 1 dX10_end_34 rfl rfl ?_
      refine zn_aload_n (pc := 35) 0 dX10_end_35 rfl rfl ?_
      refine zn_getI (pc := 36) fa_X10_177_40.1 fa_X10_177_40.2 dX10_end_36 ?_
      obtain ⟨i13, hi14, h15⟩ := zbd h12; clear h12
      rw [hi14]
      obtain ⟨hb16, h17⟩ := zgdd h15; clear h15
      obtain ⟨S18, hS19, h20⟩ := zltd h17; clear h17
      refine zn_iastore (pc := 39) zk_126 dX10_end_39 (zib_in hb16) hS19 ?_
      refine zn_iconst (pc := 40) (x := 1) dX10_end_40 (by decide) ?_
      have hz := Option.some.inj h20; clear h20; subst hz
      exact zn_ireturn (pc := 41) dX10_end_41 rfl hp
    · replace h12 := zif_f c11 h12
      refine zn_aload_n (pc := 23) 0 dX10_end_23 rfl rfl ?_
      refine zn_bipush (pc := 24) (x := (-3)) dX10_end_24 (by decide) ?_
      obtain ⟨o21, e22, h23⟩ := zbd h12; clear h12
      refine zn_cVv (pc := 26) (kc := 0) (ks := 0) (kc' := 0) (ks' := 0) (As := [vI (-3)]) (st := []) dX10_end_26 cs_X10_163 pc_40 rfl rfl (Nat.le_of_ble_eq_true rfl) ((c_X10_refuse e22).mono (Nat.le_of_ble_eq_true rfl)) ?_
      have hz := Option.some.inj h23; clear h23; subst hz
      exact zn_ireturn (pc := 29) dX10_end_29 rfl hp
  · replace h5 := zif_t c4 h5
    refine zn_aload_n (pc := 8) 0 dX10_end_8 rfl rfl ?_
    refine zn_iconst (pc := 9) (x := (-1)) dX10_end_9 (by decide) ?_
    obtain ⟨o24, e25, h26⟩ := zbd h5; clear h5
    refine zn_cVv (pc := 10) (kc := 0) (ks := 0) (kc' := 0) (ks' := 0) (As := [vI (-1)]) (st := []) dX10_end_10 cs_X10_163 pc_40 rfl rfl (Nat.le_of_ble_eq_true rfl) ((c_X10_refuse e25).mono (Nat.le_of_ble_eq_true rfl)) ?_
    have hz := Option.some.inj h26; clear h26; subst hz
    exact zn_ireturn (pc := 13) dX10_end_13 rfl hp
theorem c_X10_lineOf {G : zG} {i0 : Nat} {x1 : Int32} {x2 : Int32} {S : zH} {out : (Int32 × zH)} (h0 : f_X10_lineOf i0 x1 x2 S = some out) : zct G M_X10_lineOf 2 0 0 [vR 40 (some i0), vI x1, vI x2] S (zpo (some (vI out.1)) out.2) := by
  refine zct_of (by decide) (Nat.le_of_ble_eq_true rfl) ?_
  show zn G M_X10_lineOf 2 0 0 0 [(0, vR 40 (some i0)), (1, vI x1), (2, vI x2)] [] S _
  have hp : zpo (some (vI out.1)) out.2 (some (vI out.1)) out.2 := ⟨rfl, rfl⟩
  unfold f_X10_lineOf at h0
  refine zn_aload_n (pc := 0) 0 dX10_lineOf_0 rfl rfl ?_
  refine zn_iload_n (pc := 1) 1 dX10_lineOf_1 rfl rfl ?_
  obtain ⟨o1, e2, h3⟩ := zbd h0; clear h0
  refine zn_cVv (pc := 2) (kc := 0) (ks := 0) (kc' := 0) (ks' := 0) (As := [vI x1]) (st := []) dX10_lineOf_2 cs_X10_290 pc_40 rfl rfl (Nat.le_of_ble_eq_true rfl) ((c_X10_isLine e2).mono (Nat.le_of_ble_eq_true rfl)) ?_
  have h5 := h3; clear h3
  refine zn_if_ne (pc := 5) (tgt := 14) dX10_lineOf_5 (by decide) (fun c4 => ?_) (fun c4 => ?_)
  · replace h5 := zif_f c4 h5
    refine zn_iload_n (pc := 14) 2 dX10_lineOf_14 rfl rfl ?_
    have h7 := h5; clear h5
    by_cases c6 : x2 = 0
    · replace h7 := zif_t c6 h7
      refine zn_tsIn (pc := 15) (tgt := 64) (off := 49) dX10_lineOf_15 c6 (by decide) (by decide) ?_
      refine zn_aload_n (pc := 64) 0 dX10_lineOf_64 rfl rfl ?_
      refine zn_getR (pc := 65) fa_X10_72_40.1 fa_X10_72_40.2 dX10_lineOf_65 ?_
      refine zn_iload_n (pc := 68) 1 dX10_lineOf_68 rfl rfl ?_
      obtain ⟨i8, hi9, h10⟩ := zbd h7; clear h7
      rw [hi9]
      obtain ⟨hb11, h12⟩ := zgdd h10; clear h10
      refine zn_iaload (pc := 69) zk_120 dX10_lineOf_69 (zib_in hb11) ?_
      have hz := Option.some.inj h12; clear h12; subst hz
      exact zn_ireturn (pc := 70) dX10_lineOf_70 rfl hp
    · replace h7 := zif_f c6 h7
      have h14 := h7; clear h7
      by_cases c13 : x2 = 1
      · replace h14 := zif_t c13 h14
        refine zn_tsIn (pc := 15) (tgt := 71) (off := 56) dX10_lineOf_15 c13 (by decide) (by decide) ?_
        refine zn_aload_n (pc := 71) 0 dX10_lineOf_71 rfl rfl ?_
        refine zn_getR (pc := 72) fa_X10_75_40.1 fa_X10_75_40.2 dX10_lineOf_72 ?_
        refine zn_iload_n (pc := 75) 1 dX10_lineOf_75 rfl rfl ?_
        obtain ⟨i15, hi16, h17⟩ := zbd h14; clear h14
        rw [hi16]
        obtain ⟨hb18, h19⟩ := zgdd h17; clear h17
        refine zn_iaload (pc := 76) zk_121 dX10_lineOf_76 (zib_in hb18) ?_
        have hz := Option.some.inj h19; clear h19; subst hz
        exact zn_ireturn (pc := 77) dX10_lineOf_77 rfl hp
      · replace h14 := zif_f c13 h14
        have h21 := h14; clear h14
        by_cases c20 : x2 = 2
        · replace h21 := zif_t c20 h21
          refine zn_tsIn (pc := 15) (tgt := 78) (off := 63) dX10_lineOf_15 c20 (by decide) (by decide) ?_
          refine zn_aload_n (pc := 78) 0 dX10_lineOf_78 rfl rfl ?_
          refine zn_getR (pc := 79) fa_X10_78_40.1 fa_X10_78_40.2 dX10_lineOf_79 ?_
          refine zn_iload_n (pc := 82) 1 dX10_lineOf_82 rfl rfl ?_
          obtain ⟨i22, hi23, h24⟩ := zbd h21; clear h21
          rw [hi23]
          obtain ⟨hb25, h26⟩ := zgdd h24; clear h24
          refine zn_iaload (pc := 83) zk_122 dX10_lineOf_83 (zib_in hb25) ?_
          have hz := Option.some.inj h26; clear h26; subst hz
          exact zn_ireturn (pc := 84) dX10_lineOf_84 rfl hp
        · replace h21 := zif_f c20 h21
          have h28 := h21; clear h21
          by_cases c27 : x2 = 3
          · replace h28 := zif_t c27 h28
            refine zn_tsIn (pc := 15) (tgt := 85) (off := 70) dX10_lineOf_15 c27 (by decide) (by decide) ?_
            refine zn_aload_n (pc := 85) 0 dX10_lineOf_85 rfl rfl ?_
            refine zn_getR (pc := 86) fa_X10_93_40.1 fa_X10_93_40.2 dX10_lineOf_86 ?_
            refine zn_iload_n (pc := 89) 1 dX10_lineOf_89 rfl rfl ?_
            obtain ⟨i29, hi30, h31⟩ := zbd h28; clear h28
            rw [hi30]
            obtain ⟨hb32, h33⟩ := zgdd h31; clear h31
            refine zn_iaload (pc := 90) zk_127 dX10_lineOf_90 (zib_in hb32) ?_
            have hz := Option.some.inj h33; clear h33; subst hz
            exact zn_ireturn (pc := 91) dX10_lineOf_91 rfl hp
          · replace h28 := zif_f c27 h28
            have h35 := h28; clear h28
            by_cases c34 : x2 = 4
            · replace h35 := zif_t c34 h35
              refine zn_tsIn (pc := 15) (tgt := 92) (off := 77) dX10_lineOf_15 c34 (by decide) (by decide) ?_
              refine zn_aload_n (pc := 92) 0 dX10_lineOf_92 rfl rfl ?_
              refine zn_getR (pc := 93) fa_X10_96_40.1 fa_X10_96_40.2 dX10_lineOf_93 ?_
              refine zn_iconst (pc := 96) (x := 4) dX10_lineOf_96 (by decide) ?_
              refine zn_iload_n (pc := 97) 1 dX10_lineOf_97 rfl rfl ?_
              refine zn_imul (pc := 98) dX10_lineOf_98 ?_
              refine zn_iload_n (pc := 99) 2 dX10_lineOf_99 rfl rfl ?_
              refine zn_iadd (pc := 100) dX10_lineOf_100 ?_
              refine zn_iconst (pc := 101) (x := 4) dX10_lineOf_101 (by decide) ?_
              refine zn_isub (pc := 102) dX10_lineOf_102 ?_
              obtain ⟨i36, hi37, h38⟩ := zbd h35; clear h35
              rw [hi37]
              obtain ⟨hb39, h40⟩ := zgdd h38; clear h38
              refine zn_iaload (pc := 103) zk_128 dX10_lineOf_103 (zib_in hb39) ?_
              have hz := Option.some.inj h40; clear h40; subst hz
              exact zn_ireturn (pc := 104) dX10_lineOf_104 rfl hp
            · replace h35 := zif_f c34 h35
              have h42 := h35; clear h35
              by_cases c41 : x2 = 5
              · replace h42 := zif_t c41 h42
                refine zn_tsIn (pc := 15) (tgt := 92) (off := 77) dX10_lineOf_15 c41 (by decide) (by decide) ?_
                refine zn_aload_n (pc := 92) 0 dX10_lineOf_92 rfl rfl ?_
                refine zn_getR (pc := 93) fa_X10_96_40.1 fa_X10_96_40.2 dX10_lineOf_93 ?_
                refine zn_iconst (pc := 96) (x := 4) dX10_lineOf_96 (by decide) ?_
                refine zn_iload_n (pc := 97) 1 dX10_lineOf_97 rfl rfl ?_
                refine zn_imul (pc := 98) dX10_lineOf_98 ?_
                refine zn_iload_n (pc := 99) 2 dX10_lineOf_99 rfl rfl ?_
                refine zn_iadd (pc := 100) dX10_lineOf_100 ?_
                refine zn_iconst (pc := 101) (x := 4) dX10_lineOf_101 (by decide) ?_
                refine zn_isub (pc := 102) dX10_lineOf_102 ?_
                obtain ⟨i43, hi44, h45⟩ := zbd h42; clear h42
                rw [hi44]
                obtain ⟨hb46, h47⟩ := zgdd h45; clear h45
                refine zn_iaload (pc := 103) zk_128 dX10_lineOf_103 (zib_in hb46) ?_
                have hz := Option.some.inj h47; clear h47; subst hz
                exact zn_ireturn (pc := 104) dX10_lineOf_104 rfl hp
              · replace h42 := zif_f c41 h42
                have h49 := h42; clear h42
                by_cases c48 : x2 = 6
                · replace h49 := zif_t c48 h49
                  refine zn_tsIn (pc := 15) (tgt := 92) (off := 77) dX10_lineOf_15 c48 (by decide) (by decide) ?_
                  refine zn_aload_n (pc := 92) 0 dX10_lineOf_92 rfl rfl ?_
                  refine zn_getR (pc := 93) fa_X10_96_40.1 fa_X10_96_40.2 dX10_lineOf_93 ?_
                  refine zn_iconst (pc := 96) (x := 4) dX10_lineOf_96 (by decide) ?_
                  refine zn_iload_n (pc := 97) 1 dX10_lineOf_97 rfl rfl ?_
                  refine zn_imul (pc := 98) dX10_lineOf_98 ?_
                  refine zn_iload_n (pc := 99) 2 dX10_lineOf_99 rfl rfl ?_
                  refine zn_iadd (pc := 100) dX10_lineOf_100 ?_
                  refine zn_iconst (pc := 101) (x := 4) dX10_lineOf_101 (by decide) ?_
                  refine zn_isub (pc := 102) dX10_lineOf_102 ?_
                  obtain ⟨i50, hi51, h52⟩ := zbd h49; clear h49
                  rw [hi51]
                  obtain ⟨hb53, h54⟩ := zgdd h52; clear h52
                  refine zn_iaload (pc := 103) zk_128 dX10_lineOf_103 (zib_in hb53) ?_
                  have hz := Option.some.inj h54; clear h54; subst hz
                  exact zn_ireturn (pc := 104) dX10_lineOf_104 rfl hp
                · replace h49 := zif_f c48 h49
                  have h56 := h49; clear h49
                  by_cases c55 : x2 = 7
                  · replace h56 := zif_t c55 h56
                    refine zn_tsIn (pc := 15) (tgt := 92) (off := 77) dX10_lineOf_15 c55 (by decide) (by decide) ?_
                    refine zn_aload_n (pc := 92) 0 dX10_lineOf_92 rfl rfl ?_
                    refine zn_getR (pc := 93) fa_X10_96_40.1 fa_X10_96_40.2 dX10_lineOf_93 ?_
                    refine zn_iconst (pc := 96) (x := 4) dX10_lineOf_96 (by decide) ?_
                    refine zn_iload_n (pc := 97) 1 dX10_lineOf_97 rfl rfl ?_
                    refine zn_imul (pc := 98) dX10_lineOf_98 ?_
                    refine zn_iload_n (pc := 99) 2 dX10_lineOf_99 rfl rfl ?_
                    refine zn_iadd (pc := 100) dX10_lineOf_100 ?_
                    refine zn_iconst (pc := 101) (x := 4) dX10_lineOf_101 (by decide) ?_
                    refine zn_isub (pc := 102) dX10_lineOf_102 ?_
                    obtain ⟨i57, hi58, h59⟩ := zbd h56; clear h56
                    rw [hi58]
                    obtain ⟨hb60, h61⟩ := zgdd h59; clear h59
                    refine zn_iaload (pc := 103) zk_128 dX10_lineOf_103 (zib_in hb60) ?_
                    have hz := Option.some.inj h61; clear h61; subst hz
                    exact zn_ireturn (pc := 104) dX10_lineOf_104 rfl hp
                  · replace h56 := zif_f c55 h56
                    have h63 := h56; clear h56
                    by_cases c62 : x2 = 8
                    · replace h63 := zif_t c62 h63
                      refine zn_tsIn (pc := 15) (tgt := 105) (off := 90) dX10_lineOf_15 c62 (by decide) (by decide) ?_
                      refine zn_aload_n (pc := 105) 0 dX10_lineOf_105 rfl rfl ?_
                      refine zn_getR (pc := 106) fa_X10_99_40.1 fa_X10_99_40.2 dX10_lineOf_106 ?_
                      refine zn_iload_n (pc := 109) 1 dX10_lineOf_109 rfl rfl ?_
                      obtain ⟨i64, hi65, h66⟩ := zbd h63; clear h63
                      rw [hi65]
                      obtain ⟨hb67, h68⟩ := zgdd h66; clear h66
                      refine zn_iaload (pc := 110) zk_129 dX10_lineOf_110 (zib_in hb67) ?_
                      have hz := Option.some.inj h68; clear h68; subst hz
                      exact zn_ireturn (pc := 111) dX10_lineOf_111 rfl hp
                    · replace h63 := zif_f c62 h63
                      refine zn_tsOut (pc := 15) (tgt := 112) dX10_lineOf_15 ?_ (by decide) ?_
                      · have t0 := lv_neT c6 (show (0 : Int32).toInt = 0 by decide)
                        have t1 := lv_neT c13 (show (1 : Int32).toInt = 1 by decide)
                        have t2 := lv_neT c20 (show (2 : Int32).toInt = 2 by decide)
                        have t3 := lv_neT c27 (show (3 : Int32).toInt = 3 by decide)
                        have t4 := lv_neT c34 (show (4 : Int32).toInt = 4 by decide)
                        have t5 := lv_neT c41 (show (5 : Int32).toInt = 5 by decide)
                        have t6 := lv_neT c48 (show (6 : Int32).toInt = 6 by decide)
                        have t7 := lv_neT c55 (show (7 : Int32).toInt = 7 by decide)
                        have t8 := lv_neT c62 (show (8 : Int32).toInt = 8 by decide)
                        omega
                      · refine zn_aload_n (pc := 112) 0 dX10_lineOf_112 rfl rfl ?_
                        refine zn_bipush (pc := 113) (x := (-2)) dX10_lineOf_113 (by decide) ?_
                        obtain ⟨o69, e70, h71⟩ := zbd h63; clear h63
                        refine zn_cVv (pc := 115) (kc := 0) (ks := 0) (kc' := 0) (ks' := 0) (As := [vI (-2)]) (st := []) dX10_lineOf_115 cs_X10_163 pc_40 rfl rfl (Nat.le_of_ble_eq_true rfl) ((c_X10_refuse e70).mono (Nat.le_of_ble_eq_true rfl)) ?_
                        have hz := Option.some.inj h71; clear h71; subst hz
                        exact zn_ireturn (pc := 118) dX10_lineOf_118 rfl hp
  · replace h5 := zif_t c4 h5
    refine zn_aload_n (pc := 8) 0 dX10_lineOf_8 rfl rfl ?_
    refine zn_iconst (pc := 9) (x := (-1)) dX10_lineOf_9 (by decide) ?_
    obtain ⟨o72, e73, h74⟩ := zbd h5; clear h5
    refine zn_cVv (pc := 10) (kc := 0) (ks := 0) (kc' := 0) (ks' := 0) (As := [vI (-1)]) (st := []) dX10_lineOf_10 cs_X10_163 pc_40 rfl rfl (Nat.le_of_ble_eq_true rfl) ((c_X10_refuse e73).mono (Nat.le_of_ble_eq_true rfl)) ?_
    have hz := Option.some.inj h74; clear h74; subst hz
    exact zn_ireturn (pc := 13) dX10_lineOf_13 rfl hp
theorem b_X10_ask_15 {G : zG} {Post : Option zV → zH → Prop} {i0 : Nat} {S : zH} {out : (Int32 × zH)} (h0 : f_X10_ask_15 i0 S = some out) (hp : Post (some (vI out.1)) out.2) : zn G M_X10_ask 63 0 0 15 [(0, vR 40 (some i0))] [] S Post := by
  unfold f_X10_ask_15 at h0
  refine zn_aload_n (pc := 15) 0 dX10_ask_15 rfl rfl ?_
  refine zn_iconst (pc := 16) (x := (-1)) dX10_ask_16 (by decide) ?_
  obtain ⟨o1, e2, h3⟩ := zbd h0; clear h0
  refine zn_cVv (pc := 17) (kc := 0) (ks := 0) (kc' := 0) (ks' := 0) (As := [vI (-1)]) (st := []) dX10_ask_17 cs_X10_163 pc_40 rfl rfl (Nat.le_of_ble_eq_true rfl) ((c_X10_refuse e2).mono (Nat.le_of_ble_eq_true rfl)) ?_
  have hz := Option.some.inj h3; clear h3; subst hz
  exact zn_ireturn (pc := 20) dX10_ask_20 rfl hp
theorem b_X10_ask_48 {G : zG} {Post : Option zV → zH → Prop} {i0 : Nat} {S : zH} {out : (Int32 × zH)} (h0 : f_X10_ask_48 i0 S = some out) (hp : Post (some (vI out.1)) out.2) : zn G M_X10_ask 63 0 0 48 [(0, vR 40 (some i0))] [] S Post := by
  unfold f_X10_ask_48 at h0
  refine zn_aload_n (pc := 48) 0 dX10_ask_48 rfl rfl ?_
  refine zn_bipush (pc := 49) (x := (-3)) dX10_ask_49 (by decide) ?_
  obtain ⟨o1, e2, h3⟩ := zbd h0; clear h0
  refine zn_cVv (pc := 51) (kc := 0) (ks := 0) (kc' := 0) (ks' := 0) (As := [vI (-3)]) (st := []) dX10_ask_51 cs_X10_163 pc_40 rfl rfl (Nat.le_of_ble_eq_true rfl) ((c_X10_refuse e2).mono (Nat.le_of_ble_eq_true rfl)) ?_
  have hz := Option.some.inj h3; clear h3; subst hz
  exact zn_ireturn (pc := 54) dX10_ask_54 rfl hp
theorem b_X10_ask_99 {G : zG} {Post : Option zV → zH → Prop} {i0 : Nat} {S : zH} {out : (Int32 × zH)} (h0 : f_X10_ask_99 i0 S = some out) (hp : Post (some (vI out.1)) out.2) : zn G M_X10_ask 63 0 0 99 [(0, vR 40 (some i0))] [] S Post := by
  unfold f_X10_ask_99 at h0
  refine zn_aload_n (pc := 99) 0 dX10_ask_99 rfl rfl ?_
  refine zn_bipush (pc := 100) (x := (-6)) dX10_ask_100 (by decide) ?_
  obtain ⟨o1, e2, h3⟩ := zbd h0; clear h0
  refine zn_cVv (pc := 102) (kc := 0) (ks := 0) (kc' := 0) (ks' := 0) (As := [vI (-6)]) (st := []) dX10_ask_102 cs_X10_163 pc_40 rfl rfl (Nat.le_of_ble_eq_true rfl) ((c_X10_refuse e2).mono (Nat.le_of_ble_eq_true rfl)) ?_
  have hz := Option.some.inj h3; clear h3; subst hz
  exact zn_ireturn (pc := 105) dX10_ask_105 rfl hp
theorem c_X10_ask {G : zG} {i0 : Nat} {x1 : Int32} {x2 : Int32} {x3 : Int32} {S : zH} {out : (Int32 × zH)} (h0 : f_X10_ask i0 x1 x2 x3 S = some out) : zct G M_X10_ask 63 0 0 [vR 40 (some i0), vI x1, vI x2, vI x3] S (zpo (some (vI out.1)) out.2) := by
  refine zct_of (by decide) (Nat.le_of_ble_eq_true rfl) ?_
  show zn G M_X10_ask 63 0 0 0 [(0, vR 40 (some i0)), (1, vI x1), (2, vI x2), (3, vI x3)] [] S _
  have hp : zpo (some (vI out.1)) out.2 (some (vI out.1)) out.2 := ⟨rfl, rfl⟩
  unfold f_X10_ask at h0
  refine zn_aload_n (pc := 0) 0 dX10_ask_0 rfl rfl ?_
  refine zn_iload_n (pc := 1) 1 dX10_ask_1 rfl rfl ?_
  obtain ⟨o4, e5, h6⟩ := zbd h0; clear h0
  refine zn_cVv (pc := 2) (kc := 0) (ks := 0) (kc' := 0) (ks' := 0) (As := [vI x1]) (st := []) dX10_ask_2 cs_X10_203 pc_40 rfl rfl (Nat.le_of_ble_eq_true rfl) ((c_X10_isAccount e5).mono (Nat.le_of_ble_eq_true rfl)) ?_
  have h8 := h6; clear h6
  refine zn_if_eq (pc := 5) (tgt := 15) dX10_ask_5 (by decide) (fun c7 => ?_) (fun c7 => ?_)
  · replace h8 := zif_t c7 h8
    refine zn_pick [0] rfl ?_
    exact b_X10_ask_15  h8 hp
  · replace h8 := zif_f c7 h8
    refine zn_iload_n (pc := 8) 2 dX10_ask_8 rfl rfl ?_
    obtain ⟨o9, e10, h11⟩ := zbd h8; clear h8
    refine zn_cSv (pc := 9) (kc := 0) (ks := 0) (kc' := 0) (ks' := 0) (As := [vI x2]) (st := []) dX10_ask_9 cs_X10_191 rfl rfl (Nat.le_of_ble_eq_true rfl) ((c_X10_isBank e10).mono (Nat.le_of_ble_eq_true rfl)) ?_
    have h13 := h11; clear h11
    refine zn_if_ne (pc := 12) (tgt := 21) dX10_ask_12 (by decide) (fun c12 => ?_) (fun c12 => ?_)
    · replace h13 := zif_f c12 h13
      refine zn_aload_n (pc := 21) 0 dX10_ask_21 rfl rfl ?_
      refine zn_getR (pc := 22) fa_X10_53_40.1 fa_X10_53_40.2 dX10_ask_22 ?_
      refine zn_iload_n (pc := 25) 1 dX10_ask_25 rfl rfl ?_
      obtain ⟨i14, hi15, h16⟩ := zbd h13; clear h13
      rw [hi15]
      obtain ⟨hb17, h18⟩ := zgdd h16; clear h16
      refine zn_iaload (pc := 26) zk_114 dX10_ask_26 (zib_in hb17) ?_
      have h20 := h18; clear h18
      refine zn_if_ne (pc := 27) (tgt := 48) dX10_ask_27 (by decide) (fun c19 => ?_) (fun c19 => ?_)
      · replace h20 := zif_f c19 h20
        refine zn_pick [0] rfl ?_
        exact b_X10_ask_48  h20 hp
      · replace h20 := zif_t c19 h20
        refine zn_aload_n (pc := 30) 0 dX10_ask_30 rfl rfl ?_
        refine zn_iload_n (pc := 31) 1 dX10_ask_31 rfl rfl ?_
        obtain ⟨o21, e22, h23⟩ := zbd h20; clear h20
        refine zn_cVv (pc := 32) (kc := 0) (ks := 0) (kc' := 0) (ks' := 0) (As := [vI x1]) (st := []) dX10_ask_32 cs_X10_214 pc_40 rfl rfl (Nat.le_of_ble_eq_true rfl) ((c_X10_isMoving e22).mono (Nat.le_of_ble_eq_true rfl)) ?_
        have h25 := h23; clear h23
        refine zn_if_ne (pc := 35) (tgt := 48) dX10_ask_35 (by decide) (fun c24 => ?_) (fun c24 => ?_)
        · replace h25 := zif_f c24 h25
          refine zn_pick [0] rfl ?_
          exact b_X10_ask_48  h25 hp
        · replace h25 := zif_t c24 h25
          refine zn_aload_n (pc := 38) 0 dX10_ask_38 rfl rfl ?_
          refine zn_getR (pc := 39) fa_X10_41_40.1 fa_X10_41_40.2 dX10_ask_39 ?_
          refine zn_iload_n (pc := 42) 1 dX10_ask_42 rfl rfl ?_
          obtain ⟨i26, hi27, h28⟩ := zbd h25; clear h25
          rw [hi27]
          obtain ⟨hb29, h30⟩ := zgdd h28; clear h28
          refine zn_iaload (pc := 43) zk_110 dX10_ask_43 (zib_in hb29) ?_
          refine zn_iload_n (pc := 44) 2 dX10_ask_44 rfl rfl ?_
          have h32 := h30; clear h30
          refine zn_icmp_ne (pc := 45) (tgt := 55) dX10_ask_45 (by decide) (fun c31 => ?_) (fun c31 => ?_)
          · replace h32 := zif_f c31 h32
            refine zn_aload_n (pc := 55) 0 dX10_ask_55 rfl rfl ?_
            refine zn_iload_n (pc := 56) 1 dX10_ask_56 rfl rfl ?_
            refine zn_iload_n (pc := 57) 2 dX10_ask_57 rfl rfl ?_
            refine zn_iconst (pc := 58) (x := 0) dX10_ask_58 (by decide) ?_
            obtain ⟨o33, e34, h35⟩ := zbd h32; clear h32
            refine zn_cV0 (pc := 59) (kc := 0) (ks := 0) (kc' := 0) (ks' := 0) (As := [vI x1, vI x2, vI 0]) (st := []) dX10_ask_59 cs_X10_293 pc_40 rfl rfl (Nat.le_of_ble_eq_true rfl) ((c_X10_puts e34).mono (Nat.le_of_ble_eq_true rfl)) ?_
            refine zn_aload_n (pc := 62) 0 dX10_ask_62 rfl rfl ?_
            refine zn_iconst (pc := 63) (x := 0) dX10_ask_63 (by decide) ?_
            refine zn_aload_n (pc := 64) 0 dX10_ask_64 rfl rfl ?_
            refine zn_getI (pc := 65) fa_X10_177_40.1 fa_X10_177_40.2 dX10_ask_65 ?_
            obtain ⟨o36, e37, h38⟩ := zbd h35; clear h35
            refine zn_cVv (pc := 68) (kc := 0) (ks := 0) (kc' := 0) (ks' := 0) (As := [vI 0, vI (zI o33 40 i0 46)]) (st := []) dX10_ask_68 cs_X10_223 pc_40 rfl rfl (Nat.le_of_ble_eq_true rfl) ((c_X10_worth e37).mono (Nat.le_of_ble_eq_true rfl)) ?_
            have h40 := h38; clear h38
            refine zn_if_gt (pc := 71) (tgt := 81) dX10_ask_71 (by decide) (fun c39 => ?_) (fun c39 => ?_)
            · replace h40 := zif_t c39 h40
              refine zn_aload_n (pc := 81) 0 dX10_ask_81 rfl rfl ?_
              refine zn_getI (pc := 82) fa_X10_211_40.1 fa_X10_211_40.2 dX10_ask_82 ?_
              refine zn_bipush (pc := 85) (x := 30) dX10_ask_85 (by decide) ?_
              have h42 := h40; clear h40
              refine zn_icmp_eq (pc := 87) (tgt := 99) dX10_ask_87 (by decide) (fun c41 => ?_) (fun c41 => ?_)
              · replace h42 := zif_t c41 h42
                refine zn_pick [0] rfl ?_
                exact b_X10_ask_99  h42 hp
              · replace h42 := zif_f c41 h42
                refine zn_aload_n (pc := 90) 0 dX10_ask_90 rfl rfl ?_
                refine zn_getI (pc := 91) fa_X10_171_40.1 fa_X10_171_40.2 dX10_ask_91 ?_
                refine zn_bipush (pc := 94) (x := 40) dX10_ask_94 (by decide) ?_
                have h44 := h42; clear h42
                refine zn_icmp_ne (pc := 96) (tgt := 106) dX10_ask_96 (by decide) (fun c43 => ?_) (fun c43 => ?_)
                · replace h44 := zif_f c43 h44
                  refine zn_aload_n (pc := 106) 0 dX10_ask_106 rfl rfl ?_
                  refine zn_getI (pc := 107) fa_X10_211_40.1 fa_X10_211_40.2 dX10_ask_107 ?_
                  refine zn_istore (pc := 110) (ls' := [(4, vI (zI o36.2 40 i0 51)), (0, vR 40 (some i0)), (1, vI x1), (2, vI x2), (3, vI x3)]) dX10_ask_110 (Nat.le_of_ble_eq_true rfl) rfl ?_
                  refine zn_aload_n (pc := 112) 1 dX10_ask_112 rfl rfl ?_
                  refine zn_dup (pc := 113) dX10_ask_113 rfl ?_
                  refine zn_getI (pc := 114) fa_X10_211_40.1 fa_X10_211_40.2 dX10_ask_114 ?_
                  refine zn_iconst (pc := 117) (x := 1) dX10_ask_117 (by decide) ?_
                  refine zn_iadd (pc := 118) dX10_ask_118 ?_
                  obtain ⟨S45, hS46, h47⟩ := zltd h44; clear h44
                  refine zn_putI (pc := 119) fp_X10_211_40.1 (fp_X10_211_40 (nm := "")).2 dX10_ask_119 hS46 ?_
                  refine zn_aload_n (pc := 122) 1 dX10_ask_122 rfl rfl ?_
                  refine zn_getR (pc := 123) fa_X10_102_40.1 fa_X10_102_40.2 dX10_ask_123 ?_
                  refine zn_iload (pc := 126) 0 dX10_ask_126 rfl ?_
                  refine zn_iload_n (pc := 128) 2 dX10_ask_128 rfl rfl ?_
                  obtain ⟨i48, hi49, h50⟩ := zbd h47; clear h47
                  rw [hi49]
                  obtain ⟨hb51, h52⟩ := zgdd h50; clear h50
                  obtain ⟨S53, hS54, h55⟩ := zltd h52; clear h52
                  refine zn_iastore (pc := 129) zk_130 dX10_ask_129 (zib_in hb51) hS54 ?_
                  refine zn_aload_n (pc := 130) 1 dX10_ask_130 rfl rfl ?_
                  refine zn_getR (pc := 131) fa_X10_105_40.1 fa_X10_105_40.2 dX10_ask_131 ?_
                  refine zn_iload (pc := 134) 0 dX10_ask_134 rfl ?_
                  refine zn_aload_n (pc := 136) 1 dX10_ask_136 rfl rfl ?_
                  refine zn_iload_n (pc := 137) 3 dX10_ask_137 rfl rfl ?_
                  refine zn_aload_n (pc := 138) 1 dX10_ask_138 rfl rfl ?_
                  refine zn_getR (pc := 139) fa_X10_44_40.1 fa_X10_44_40.2 dX10_ask_139 ?_
                  refine zn_iload_n (pc := 142) 2 dX10_ask_142 rfl rfl ?_
                  obtain ⟨i56, hi57, h58⟩ := zbd h55; clear h55
                  rw [hi57]
                  obtain ⟨hb59, h60⟩ := zgdd h58; clear h58
                  refine zn_iaload (pc := 143) zk_111 dX10_ask_143 (zib_in hb59) ?_
                  refine zn_aload_n (pc := 144) 1 dX10_ask_144 rfl rfl ?_
                  refine zn_getR (pc := 145) fa_X10_47_40.1 fa_X10_47_40.2 dX10_ask_145 ?_
                  refine zn_iload_n (pc := 148) 2 dX10_ask_148 rfl rfl ?_
                  obtain ⟨i61, hi62, h63⟩ := zbd h60; clear h60
                  rw [hi62]
                  obtain ⟨hb64, h65⟩ := zgdd h63; clear h63
                  refine zn_iaload (pc := 149) zk_112 dX10_ask_149 (zib_in hb64) ?_
                  obtain ⟨o66, e67, h68⟩ := zbd h65; clear h65
                  refine zn_cVv (pc := 150) (kc := 0) (ks := 0) (kc' := 0) (ks' := 0) (As := [vI x2, vI (zI S53 111 i56 (Int32.toNatClampNeg x1)), vI (zI S53 112 i61 (Int32.toNatClampNeg x1))]) (st := [vI (zI o36.2 40 i0 51), vR 131 (zR S53 40 i0 31)]) dX10_ask_150 cs_X10_200 pc_40 rfl rfl (Nat.le_of_ble_eq_true rfl) ((c_X10_opens e67).mono (Nat.le_of_ble_eq_true rfl)) ?_
                  obtain ⟨i69, hi70, h71⟩ := zbd h68; clear h68
                  rw [hi70]
                  obtain ⟨hb72, h73⟩ := zgdd h71; clear h71
                  obtain ⟨S74, hS75, h76⟩ := zltd h73; clear h73
                  refine zn_iastore (pc := 153) zk_131 dX10_ask_153 (zib_in hb72) hS75 ?_
                  refine zn_aload_n (pc := 154) 1 dX10_ask_154 rfl rfl ?_
                  refine zn_getR (pc := 155) fa_X10_133_40.1 fa_X10_133_40.2 dX10_ask_155 ?_
                  refine zn_iload (pc := 158) 0 dX10_ask_158 rfl ?_
                  refine zn_iload_n (pc := 160) 4 dX10_ask_160 rfl rfl ?_
                  obtain ⟨i77, hi78, h79⟩ := zbd h76; clear h76
                  rw [hi78]
                  obtain ⟨hb80, h81⟩ := zgdd h79; clear h79
                  obtain ⟨S82, hS83, h84⟩ := zltd h81; clear h81
                  refine zn_bastore (pc := 161) zk_140 dX10_ask_161 (zib_in hb80) hS83 ?_
                  refine zn_aload_n (pc := 162) 1 dX10_ask_162 rfl rfl ?_
                  refine zn_getR (pc := 163) fa_X10_126_40.1 fa_X10_126_40.2 dX10_ask_163 ?_
                  refine zn_iload (pc := 166) 0 dX10_ask_166 rfl ?_
                  refine zn_iconst (pc := 168) (x := 1) dX10_ask_168 (by decide) ?_
                  obtain ⟨i85, hi86, h87⟩ := zbd h84; clear h84
                  rw [hi86]
                  obtain ⟨hb88, h89⟩ := zgdd h87; clear h87
                  obtain ⟨S90, hS91, h92⟩ := zltd h89; clear h89
                  refine zn_bastore (pc := 169) zk_138 dX10_ask_169 (zib_in hb88) hS91 ?_
                  refine zn_aload_n (pc := 170) 1 dX10_ask_170 rfl rfl ?_
                  refine zn_getR (pc := 171) fa_X10_117_40.1 fa_X10_117_40.2 dX10_ask_171 ?_
                  refine zn_iload (pc := 174) 0 dX10_ask_174 rfl ?_
                  refine zn_bipush (pc := 176) (x := (-9)) dX10_ask_176 (by decide) ?_
                  obtain ⟨i93, hi94, h95⟩ := zbd h92; clear h92
                  rw [hi94]
                  obtain ⟨hb96, h97⟩ := zgdd h95; clear h95
                  obtain ⟨S98, hS99, h100⟩ := zltd h97; clear h97
                  refine zn_iastore (pc := 178) zk_135 dX10_ask_178 (zib_in hb96) hS99 ?_
                  refine zn_aload_n (pc := 179) 1 dX10_ask_179 rfl rfl ?_
                  refine zn_getR (pc := 180) fa_X10_120_40.1 fa_X10_120_40.2 dX10_ask_180 ?_
                  refine zn_iload (pc := 183) 0 dX10_ask_183 rfl ?_
                  refine zn_aload_n (pc := 185) 1 dX10_ask_185 rfl rfl ?_
                  refine zn_getI (pc := 186) fa_X10_177_40.1 fa_X10_177_40.2 dX10_ask_186 ?_
                  obtain ⟨i101, hi102, h103⟩ := zbd h100; clear h100
                  rw [hi102]
                  obtain ⟨hb104, h105⟩ := zgdd h103; clear h103
                  obtain ⟨S106, hS107, h108⟩ := zltd h105; clear h105
                  refine zn_iastore (pc := 189) zk_136 dX10_ask_189 (zib_in hb104) hS107 ?_
                  refine zn_aload_n (pc := 190) 1 dX10_ask_190 rfl rfl ?_
                  refine zn_getR (pc := 191) fa_X10_123_40.1 fa_X10_123_40.2 dX10_ask_191 ?_
                  refine zn_iload (pc := 194) 0 dX10_ask_194 rfl ?_
                  refine zn_bipush (pc := 196) (x := (-9)) dX10_ask_196 (by decide) ?_
                  obtain ⟨i109, hi110, h111⟩ := zbd h108; clear h108
                  rw [hi110]
                  obtain ⟨hb112, h113⟩ := zgdd h111; clear h111
                  obtain ⟨S114, hS115, h116⟩ := zltd h113; clear h113
                  refine zn_iastore (pc := 198) zk_137 dX10_ask_198 (zib_in hb112) hS115 ?_
                  refine zn_iload (pc := 199) 0 dX10_ask_199 rfl ?_
                  have hz := Option.some.inj h116; clear h116; subst hz
                  exact zn_ireturn (pc := 201) dX10_ask_201 rfl hp
                · replace h44 := zif_t c43 h44
                  refine zn_pick [0] rfl ?_
                  exact b_X10_ask_99  h44 hp
            · replace h40 := zif_f c39 h40
              refine zn_aload_n (pc := 74) 0 dX10_ask_74 rfl rfl ?_
              refine zn_bipush (pc := 75) (x := (-3)) dX10_ask_75 (by decide) ?_
              obtain ⟨o117, e118, h119⟩ := zbd h40; clear h40
              refine zn_cVv (pc := 77) (kc := 0) (ks := 0) (kc' := 0) (ks' := 0) (As := [vI (-3)]) (st := []) dX10_ask_77 cs_X10_163 pc_40 rfl rfl (Nat.le_of_ble_eq_true rfl) ((c_X10_refuse e118).mono (Nat.le_of_ble_eq_true rfl)) ?_
              have hz := Option.some.inj h119; clear h119; subst hz
              exact zn_ireturn (pc := 80) dX10_ask_80 rfl hp
          · replace h32 := zif_t c31 h32
            refine zn_pick [0] rfl ?_
            exact b_X10_ask_48  h32 hp
    · replace h13 := zif_t c12 h13
      refine zn_pick [0] rfl ?_
      exact b_X10_ask_15  h13 hp
theorem c_X10_isMove {G : zG} {i0 : Nat} {x1 : Int32} {S : zH} {out : Int32} (h0 : f_X10_isMove i0 x1 S = some out) : zct G M_X10_isMove 1 0 0 [vR 40 (some i0), vI x1] S (zpo (some (vI out)) S) := by
  refine zct_of (by decide) (Nat.le_of_ble_eq_true rfl) ?_
  show zn G M_X10_isMove 1 0 0 0 [(0, vR 40 (some i0)), (1, vI x1)] [] S _
  have hp : zpo (some (vI out)) S (some (vI out)) S := ⟨rfl, rfl⟩
  unfold f_X10_isMove at h0
  refine zn_iload_n (pc := 0) 1 dX10_isMove_0 rfl rfl ?_
  refine zn_aload_n (pc := 1) 0 dX10_isMove_1 rfl rfl ?_
  refine zn_getI (pc := 2) fa_X10_211_40.1 fa_X10_211_40.2 dX10_isMove_2 ?_
  obtain ⟨o1, e2, h3⟩ := zbd h0; clear h0
  refine zn_cSv (pc := 5) (kc := 0) (ks := 0) (kc' := 0) (ks' := 0) (As := [vI x1, vI (zI S 40 i0 51)]) (st := []) dX10_isMove_5 cs_X10_167 rfl rfl (Nat.le_of_ble_eq_true rfl) ((c_X10_isIn e2).mono (Nat.le_of_ble_eq_true rfl)) ?_
  obtain ⟨hb4, h5⟩ := zgdd h3; clear h3
  have hz := Option.some.inj h5; clear h5; subst hz
  exact zn_zreturn (pc := 8) dX10_isMove_8 rfl (of_decide_eq_true hb4) hp
theorem b_X10_agree_46 {G : zG} {Post : Option zV → zH → Prop} {i0 : Nat} {S : zH} {out : (Int32 × zH)} (h0 : f_X10_agree_46 i0 S = some out) (hp : Post (some (vI out.1)) out.2) : zn G M_X10_agree 2 0 0 46 [(0, vR 40 (some i0))] [] S Post := by
  unfold f_X10_agree_46 at h0
  refine zn_aload_n (pc := 46) 0 dX10_agree_46 rfl rfl ?_
  refine zn_bipush (pc := 47) (x := (-3)) dX10_agree_47 (by decide) ?_
  obtain ⟨o1, e2, h3⟩ := zbd h0; clear h0
  refine zn_cVv (pc := 49) (kc := 0) (ks := 0) (kc' := 0) (ks' := 0) (As := [vI (-3)]) (st := []) dX10_agree_49 cs_X10_163 pc_40 rfl rfl (Nat.le_of_ble_eq_true rfl) ((c_X10_refuse e2).mono (Nat.le_of_ble_eq_true rfl)) ?_
  have hz := Option.some.inj h3; clear h3; subst hz
  exact zn_ireturn (pc := 52) dX10_agree_52 rfl hp
theorem c_X10_agree {G : zG} {i0 : Nat} {x1 : Int32} {S : zH} {out : (Int32 × zH)} (h0 : f_X10_agree i0 x1 S = some out) : zct G M_X10_agree 2 0 0 [vR 40 (some i0), vI x1] S (zpo (some (vI out.1)) out.2) := by
  refine zct_of (by decide) (Nat.le_of_ble_eq_true rfl) ?_
  show zn G M_X10_agree 2 0 0 0 [(0, vR 40 (some i0)), (1, vI x1)] [] S _
  have hp : zpo (some (vI out.1)) out.2 (some (vI out.1)) out.2 := ⟨rfl, rfl⟩
  unfold f_X10_agree at h0
  refine zn_aload_n (pc := 0) 0 dX10_agree_0 rfl rfl ?_
  refine zn_iload_n (pc := 1) 1 dX10_agree_1 rfl rfl ?_
  obtain ⟨o4, e5, h6⟩ := zbd h0; clear h0
  refine zn_cVv (pc := 2) (kc := 0) (ks := 0) (kc' := 0) (ks' := 0) (As := [vI x1]) (st := []) dX10_agree_2 cs_X10_297 pc_40 rfl rfl (Nat.le_of_ble_eq_true rfl) ((c_X10_isMove e5).mono (Nat.le_of_ble_eq_true rfl)) ?_
  have h8 := h6; clear h6
  refine zn_if_ne (pc := 5) (tgt := 14) dX10_agree_5 (by decide) (fun c7 => ?_) (fun c7 => ?_)
  · replace h8 := zif_f c7 h8
    refine zn_aload_n (pc := 14) 0 dX10_agree_14 rfl rfl ?_
    refine zn_getR (pc := 15) fa_X10_47_40.1 fa_X10_47_40.2 dX10_agree_15 ?_
    refine zn_aload_n (pc := 18) 0 dX10_agree_18 rfl rfl ?_
    refine zn_getR (pc := 19) fa_X10_102_40.1 fa_X10_102_40.2 dX10_agree_19 ?_
    refine zn_iload_n (pc := 22) 1 dX10_agree_22 rfl rfl ?_
    obtain ⟨i9, hi10, h11⟩ := zbd h8; clear h8
    rw [hi10]
    obtain ⟨hb12, h13⟩ := zgdd h11; clear h11
    refine zn_iaload (pc := 23) zk_130 dX10_agree_23 (zib_in hb12) ?_
    obtain ⟨i14, hi15, h16⟩ := zbd h13; clear h13
    rw [hi15]
    obtain ⟨hb17, h18⟩ := zgdd h16; clear h16
    refine zn_iaload (pc := 24) zk_112 dX10_agree_24 (zib_in hb17) ?_
    have h20 := h18; clear h18
    refine zn_if_lt (pc := 25) (tgt := 46) dX10_agree_25 (by decide) (fun c19 => ?_) (fun c19 => ?_)
    · replace h20 := zif_t c19 h20
      refine zn_pick [0] rfl ?_
      exact b_X10_agree_46  h20 hp
    · replace h20 := zif_f c19 h20
      refine zn_aload_n (pc := 28) 0 dX10_agree_28 rfl rfl ?_
      refine zn_getR (pc := 29) fa_X10_130_40.1 fa_X10_130_40.2 dX10_agree_29 ?_
      refine zn_iload_n (pc := 32) 1 dX10_agree_32 rfl rfl ?_
      obtain ⟨i21, hi22, h23⟩ := zbd h20; clear h20
      rw [hi22]
      obtain ⟨hb24, h25⟩ := zgdd h23; clear h23
      refine zn_baload (pc := 33) zk_139 dX10_agree_33 (zib_in hb24) ?_
      have h27 := h25; clear h25
      refine zn_if_ne (pc := 34) (tgt := 46) dX10_agree_34 (by decide) (fun c26 => ?_) (fun c26 => ?_)
      · replace h27 := zif_f c26 h27
        refine zn_pick [0] rfl ?_
        exact b_X10_agree_46  h27 hp
      · replace h27 := zif_t c26 h27
        refine zn_aload_n (pc := 37) 0 dX10_agree_37 rfl rfl ?_
        refine zn_getR (pc := 38) fa_X10_126_40.1 fa_X10_126_40.2 dX10_agree_38 ?_
        refine zn_iload_n (pc := 41) 1 dX10_agree_41 rfl rfl ?_
        obtain ⟨i28, hi29, h30⟩ := zbd h27; clear h27
        rw [hi29]
        obtain ⟨hb31, h32⟩ := zgdd h30; clear h30
        refine zn_baload (pc := 42) zk_138 dX10_agree_42 (zib_in hb31) ?_
        have h34 := h32; clear h32
        refine zn_if_ne (pc := 43) (tgt := 53) dX10_agree_43 (by decide) (fun c33 => ?_) (fun c33 => ?_)
        · replace h34 := zif_f c33 h34
          refine zn_aload_n (pc := 53) 0 dX10_agree_53 rfl rfl ?_
          refine zn_getR (pc := 54) fa_X10_130_40.1 fa_X10_130_40.2 dX10_agree_54 ?_
          refine zn_iload_n (pc := 57) 1 dX10_agree_57 rfl rfl ?_
          refine zn_iconst (pc := 58) (x := 1) dX10_agree_58 (by decide) ?_
          obtain ⟨i35, hi36, h37⟩ := zbd h34; clear h34
          rw [hi36]
          obtain ⟨hb38, h39⟩ := zgdd h37; clear h37
          obtain ⟨S40, hS41, h42⟩ := zltd h39; clear h39
          refine zn_bastore (pc := 59) zk_139 dX10_agree_59 (zib_in hb38) hS41 ?_
          refine zn_iconst (pc := 60) (x := 1) dX10_agree_60 (by decide) ?_
          have hz := Option.some.inj h42; clear h42; subst hz
          exact zn_ireturn (pc := 61) dX10_agree_61 rfl hp
        · replace h34 := zif_t c33 h34
          refine zn_pick [0] rfl ?_
          exact b_X10_agree_46  h34 hp
  · replace h8 := zif_t c7 h8
    refine zn_aload_n (pc := 8) 0 dX10_agree_8 rfl rfl ?_
    refine zn_iconst (pc := 9) (x := (-1)) dX10_agree_9 (by decide) ?_
    obtain ⟨o43, e44, h45⟩ := zbd h8; clear h8
    refine zn_cVv (pc := 10) (kc := 0) (ks := 0) (kc' := 0) (ks' := 0) (As := [vI (-1)]) (st := []) dX10_agree_10 cs_X10_163 pc_40 rfl rfl (Nat.le_of_ble_eq_true rfl) ((c_X10_refuse e44).mono (Nat.le_of_ble_eq_true rfl)) ?_
    have hz := Option.some.inj h45; clear h45; subst hz
    exact zn_ireturn (pc := 13) dX10_agree_13 rfl hp
theorem b_X10_takeBack_34 {G : zG} {Post : Option zV → zH → Prop} {i0 : Nat} {S : zH} {out : (Int32 × zH)} (h0 : f_X10_takeBack_34 i0 S = some out) (hp : Post (some (vI out.1)) out.2) : zn G M_X10_takeBack 2 0 0 34 [(0, vR 40 (some i0))] [] S Post := by
  unfold f_X10_takeBack_34 at h0
  refine zn_aload_n (pc := 34) 0 dX10_takeBack_34 rfl rfl ?_
  refine zn_bipush (pc := 35) (x := (-3)) dX10_takeBack_35 (by decide) ?_
  obtain ⟨o1, e2, h3⟩ := zbd h0; clear h0
  refine zn_cVv (pc := 37) (kc := 0) (ks := 0) (kc' := 0) (ks' := 0) (As := [vI (-3)]) (st := []) dX10_takeBack_37 cs_X10_163 pc_40 rfl rfl (Nat.le_of_ble_eq_true rfl) ((c_X10_refuse e2).mono (Nat.le_of_ble_eq_true rfl)) ?_
  have hz := Option.some.inj h3; clear h3; subst hz
  exact zn_ireturn (pc := 40) dX10_takeBack_40 rfl hp
theorem c_X10_takeBack {G : zG} {i0 : Nat} {x1 : Int32} {S : zH} {out : (Int32 × zH)} (h0 : f_X10_takeBack i0 x1 S = some out) : zct G M_X10_takeBack 2 0 0 [vR 40 (some i0), vI x1] S (zpo (some (vI out.1)) out.2) := by
  refine zct_of (by decide) (Nat.le_of_ble_eq_true rfl) ?_
  show zn G M_X10_takeBack 2 0 0 0 [(0, vR 40 (some i0)), (1, vI x1)] [] S _
  have hp : zpo (some (vI out.1)) out.2 (some (vI out.1)) out.2 := ⟨rfl, rfl⟩
  unfold f_X10_takeBack at h0
  refine zn_aload_n (pc := 0) 0 dX10_takeBack_0 rfl rfl ?_
  refine zn_iload_n (pc := 1) 1 dX10_takeBack_1 rfl rfl ?_
  obtain ⟨o4, e5, h6⟩ := zbd h0; clear h0
  refine zn_cVv (pc := 2) (kc := 0) (ks := 0) (kc' := 0) (ks' := 0) (As := [vI x1]) (st := []) dX10_takeBack_2 cs_X10_297 pc_40 rfl rfl (Nat.le_of_ble_eq_true rfl) ((c_X10_isMove e5).mono (Nat.le_of_ble_eq_true rfl)) ?_
  have h8 := h6; clear h6
  refine zn_if_ne (pc := 5) (tgt := 14) dX10_takeBack_5 (by decide) (fun c7 => ?_) (fun c7 => ?_)
  · replace h8 := zif_f c7 h8
    refine zn_aload_n (pc := 14) 0 dX10_takeBack_14 rfl rfl ?_
    refine zn_getR (pc := 15) fa_X10_126_40.1 fa_X10_126_40.2 dX10_takeBack_15 ?_
    refine zn_iload_n (pc := 18) 1 dX10_takeBack_18 rfl rfl ?_
    obtain ⟨i9, hi10, h11⟩ := zbd h8; clear h8
    rw [hi10]
    obtain ⟨hb12, h13⟩ := zgdd h11; clear h11
    refine zn_baload (pc := 19) zk_138 dX10_takeBack_19 (zib_in hb12) ?_
    have h15 := h13; clear h13
    refine zn_if_eq (pc := 20) (tgt := 34) dX10_takeBack_20 (by decide) (fun c14 => ?_) (fun c14 => ?_)
    · replace h15 := zif_t c14 h15
      refine zn_pick [0] rfl ?_
      exact b_X10_takeBack_34  h15 hp
    · replace h15 := zif_f c14 h15
      refine zn_aload_n (pc := 23) 0 dX10_takeBack_23 rfl rfl ?_
      refine zn_getR (pc := 24) fa_X10_108_40.1 fa_X10_108_40.2 dX10_takeBack_24 ?_
      refine zn_iload_n (pc := 27) 1 dX10_takeBack_27 rfl rfl ?_
      obtain ⟨i16, hi17, h18⟩ := zbd h15; clear h15
      rw [hi17]
      obtain ⟨hb19, h20⟩ := zgdd h18; clear h18
      refine zn_iaload (pc := 28) zk_132 dX10_takeBack_28 (zib_in hb19) ?_
      refine zn_bipush (pc := 29) (x := 6) dX10_takeBack_29 (by decide) ?_
      have h22 := h20; clear h20
      refine zn_icmp_lt (pc := 31) (tgt := 41) dX10_takeBack_31 (by decide) (fun c21 => ?_) (fun c21 => ?_)
      · replace h22 := zif_t c21 h22
        refine zn_aload_n (pc := 41) 0 dX10_takeBack_41 rfl rfl ?_
        refine zn_iload_n (pc := 42) 1 dX10_takeBack_42 rfl rfl ?_
        refine zn_iconst (pc := 43) (x := 3) dX10_takeBack_43 (by decide) ?_
        obtain ⟨o23, e24, h25⟩ := zbd h22; clear h22
        refine zn_cV0 (pc := 44) (kc := 0) (ks := 0) (kc' := 0) (ks' := 0) (As := [vI x1, vI 3]) (st := []) dX10_takeBack_44 cs_X10_300 pc_40 rfl rfl (Nat.le_of_ble_eq_true rfl) ((c_X10_refuses e24).mono (Nat.le_of_ble_eq_true rfl)) ?_
        refine zn_iconst (pc := 47) (x := 1) dX10_takeBack_47 (by decide) ?_
        have hz := Option.some.inj h25; clear h25; subst hz
        exact zn_ireturn (pc := 48) dX10_takeBack_48 rfl hp
      · replace h22 := zif_f c21 h22
        refine zn_pick [0] rfl ?_
        exact b_X10_takeBack_34  h22 hp
  · replace h8 := zif_t c7 h8
    refine zn_aload_n (pc := 8) 0 dX10_takeBack_8 rfl rfl ?_
    refine zn_iconst (pc := 9) (x := (-1)) dX10_takeBack_9 (by decide) ?_
    obtain ⟨o26, e27, h28⟩ := zbd h8; clear h8
    refine zn_cVv (pc := 10) (kc := 0) (ks := 0) (kc' := 0) (ks' := 0) (As := [vI (-1)]) (st := []) dX10_takeBack_10 cs_X10_163 pc_40 rfl rfl (Nat.le_of_ble_eq_true rfl) ((c_X10_refuse e27).mono (Nat.le_of_ble_eq_true rfl)) ?_
    have hz := Option.some.inj h28; clear h28; subst hz
    exact zn_ireturn (pc := 13) dX10_takeBack_13 rfl hp
theorem c_X10_moveOf {G : zG} {i0 : Nat} {x1 : Int32} {x2 : Int32} {S : zH} {out : (Int32 × zH)} (h0 : f_X10_moveOf i0 x1 x2 S = some out) : zct G M_X10_moveOf 2 0 0 [vR 40 (some i0), vI x1, vI x2] S (zpo (some (vI out.1)) out.2) := by
  refine zct_of (by decide) (Nat.le_of_ble_eq_true rfl) ?_
  show zn G M_X10_moveOf 2 0 0 0 [(0, vR 40 (some i0)), (1, vI x1), (2, vI x2)] [] S _
  have hp : zpo (some (vI out.1)) out.2 (some (vI out.1)) out.2 := ⟨rfl, rfl⟩
  unfold f_X10_moveOf at h0
  refine zn_aload_n (pc := 0) 0 dX10_moveOf_0 rfl rfl ?_
  refine zn_iload_n (pc := 1) 1 dX10_moveOf_1 rfl rfl ?_
  obtain ⟨o1, e2, h3⟩ := zbd h0; clear h0
  refine zn_cVv (pc := 2) (kc := 0) (ks := 0) (kc' := 0) (ks' := 0) (As := [vI x1]) (st := []) dX10_moveOf_2 cs_X10_297 pc_40 rfl rfl (Nat.le_of_ble_eq_true rfl) ((c_X10_isMove e2).mono (Nat.le_of_ble_eq_true rfl)) ?_
  have h5 := h3; clear h3
  refine zn_if_ne (pc := 5) (tgt := 14) dX10_moveOf_5 (by decide) (fun c4 => ?_) (fun c4 => ?_)
  · replace h5 := zif_f c4 h5
    refine zn_iload_n (pc := 14) 2 dX10_moveOf_14 rfl rfl ?_
    have h7 := h5; clear h5
    by_cases c6 : x2 = 0
    · replace h7 := zif_t c6 h7
      refine zn_tsIn (pc := 15) (tgt := 64) (off := 49) dX10_moveOf_15 c6 (by decide) (by decide) ?_
      refine zn_aload_n (pc := 64) 0 dX10_moveOf_64 rfl rfl ?_
      refine zn_getR (pc := 65) fa_X10_102_40.1 fa_X10_102_40.2 dX10_moveOf_65 ?_
      refine zn_iload_n (pc := 68) 1 dX10_moveOf_68 rfl rfl ?_
      obtain ⟨i8, hi9, h10⟩ := zbd h7; clear h7
      rw [hi9]
      obtain ⟨hb11, h12⟩ := zgdd h10; clear h10
      refine zn_iaload (pc := 69) zk_130 dX10_moveOf_69 (zib_in hb11) ?_
      have hz := Option.some.inj h12; clear h12; subst hz
      exact zn_ireturn (pc := 70) dX10_moveOf_70 rfl hp
    · replace h7 := zif_f c6 h7
      have h14 := h7; clear h7
      by_cases c13 : x2 = 1
      · replace h14 := zif_t c13 h14
        refine zn_tsIn (pc := 15) (tgt := 71) (off := 56) dX10_moveOf_15 c13 (by decide) (by decide) ?_
        refine zn_aload_n (pc := 71) 0 dX10_moveOf_71 rfl rfl ?_
        refine zn_getR (pc := 72) fa_X10_105_40.1 fa_X10_105_40.2 dX10_moveOf_72 ?_
        refine zn_iload_n (pc := 75) 1 dX10_moveOf_75 rfl rfl ?_
        obtain ⟨i15, hi16, h17⟩ := zbd h14; clear h14
        rw [hi16]
        obtain ⟨hb18, h19⟩ := zgdd h17; clear h17
        refine zn_iaload (pc := 76) zk_131 dX10_moveOf_76 (zib_in hb18) ?_
        have hz := Option.some.inj h19; clear h19; subst hz
        exact zn_ireturn (pc := 77) dX10_moveOf_77 rfl hp
      · replace h14 := zif_f c13 h14
        have h21 := h14; clear h14
        by_cases c20 : x2 = 2
        · replace h21 := zif_t c20 h21
          refine zn_tsIn (pc := 15) (tgt := 78) (off := 63) dX10_moveOf_15 c20 (by decide) (by decide) ?_
          refine zn_aload_n (pc := 78) 0 dX10_moveOf_78 rfl rfl ?_
          refine zn_getR (pc := 79) fa_X10_108_40.1 fa_X10_108_40.2 dX10_moveOf_79 ?_
          refine zn_iload_n (pc := 82) 1 dX10_moveOf_82 rfl rfl ?_
          obtain ⟨i22, hi23, h24⟩ := zbd h21; clear h21
          rw [hi23]
          obtain ⟨hb25, h26⟩ := zgdd h24; clear h24
          refine zn_iaload (pc := 83) zk_132 dX10_moveOf_83 (zib_in hb25) ?_
          have hz := Option.some.inj h26; clear h26; subst hz
          exact zn_ireturn (pc := 84) dX10_moveOf_84 rfl hp
        · replace h21 := zif_f c20 h21
          have h28 := h21; clear h21
          by_cases c27 : x2 = 3
          · replace h28 := zif_t c27 h28
            refine zn_tsIn (pc := 15) (tgt := 85) (off := 70) dX10_moveOf_15 c27 (by decide) (by decide) ?_
            refine zn_aload_n (pc := 85) 0 dX10_moveOf_85 rfl rfl ?_
            refine zn_getR (pc := 86) fa_X10_126_40.1 fa_X10_126_40.2 dX10_moveOf_86 ?_
            refine zn_iload_n (pc := 89) 1 dX10_moveOf_89 rfl rfl ?_
            obtain ⟨i29, hi30, h31⟩ := zbd h28; clear h28
            rw [hi30]
            obtain ⟨hb32, h33⟩ := zgdd h31; clear h31
            refine zn_baload (pc := 90) zk_138 dX10_moveOf_90 (zib_in hb32) ?_
            have h35 := h33; clear h33
            refine zn_if_eq (pc := 91) (tgt := 98) dX10_moveOf_91 (by decide) (fun c34 => ?_) (fun c34 => ?_)
            · replace h35 := zif_t c34 h35
              refine zn_iconst (pc := 98) (x := 0) dX10_moveOf_98 (by decide) ?_
              have hz := Option.some.inj h35; clear h35; subst hz
              exact zn_ireturn (pc := 99) dX10_moveOf_99 rfl hp
            · replace h35 := zif_f c34 h35
              refine zn_iconst (pc := 94) (x := 1) dX10_moveOf_94 (by decide) ?_
              refine zn_goto (pc := 95) (tgt := 99) dX10_moveOf_95 (by decide) ?_
              have hz := Option.some.inj h35; clear h35; subst hz
              exact zn_ireturn (pc := 99) dX10_moveOf_99 rfl hp
          · replace h28 := zif_f c27 h28
            have h37 := h28; clear h28
            by_cases c36 : x2 = 4
            · replace h37 := zif_t c36 h37
              refine zn_tsIn (pc := 15) (tgt := 100) (off := 85) dX10_moveOf_15 c36 (by decide) (by decide) ?_
              refine zn_aload_n (pc := 100) 0 dX10_moveOf_100 rfl rfl ?_
              refine zn_getR (pc := 101) fa_X10_111_40.1 fa_X10_111_40.2 dX10_moveOf_101 ?_
              refine zn_iload_n (pc := 104) 1 dX10_moveOf_104 rfl rfl ?_
              obtain ⟨i38, hi39, h40⟩ := zbd h37; clear h37
              rw [hi39]
              obtain ⟨hb41, h42⟩ := zgdd h40; clear h40
              refine zn_iaload (pc := 105) zk_133 dX10_moveOf_105 (zib_in hb41) ?_
              have hz := Option.some.inj h42; clear h42; subst hz
              exact zn_ireturn (pc := 106) dX10_moveOf_106 rfl hp
            · replace h37 := zif_f c36 h37
              have h44 := h37; clear h37
              by_cases c43 : x2 = 5
              · replace h44 := zif_t c43 h44
                refine zn_tsIn (pc := 15) (tgt := 107) (off := 92) dX10_moveOf_15 c43 (by decide) (by decide) ?_
                refine zn_aload_n (pc := 107) 0 dX10_moveOf_107 rfl rfl ?_
                refine zn_getR (pc := 108) fa_X10_114_40.1 fa_X10_114_40.2 dX10_moveOf_108 ?_
                refine zn_iload_n (pc := 111) 1 dX10_moveOf_111 rfl rfl ?_
                obtain ⟨i45, hi46, h47⟩ := zbd h44; clear h44
                rw [hi46]
                obtain ⟨hb48, h49⟩ := zgdd h47; clear h47
                refine zn_iaload (pc := 112) zk_134 dX10_moveOf_112 (zib_in hb48) ?_
                have hz := Option.some.inj h49; clear h49; subst hz
                exact zn_ireturn (pc := 113) dX10_moveOf_113 rfl hp
              · replace h44 := zif_f c43 h44
                have h51 := h44; clear h44
                by_cases c50 : x2 = 6
                · replace h51 := zif_t c50 h51
                  refine zn_tsIn (pc := 15) (tgt := 114) (off := 99) dX10_moveOf_15 c50 (by decide) (by decide) ?_
                  refine zn_aload_n (pc := 114) 0 dX10_moveOf_114 rfl rfl ?_
                  refine zn_getR (pc := 115) fa_X10_117_40.1 fa_X10_117_40.2 dX10_moveOf_115 ?_
                  refine zn_iload_n (pc := 118) 1 dX10_moveOf_118 rfl rfl ?_
                  obtain ⟨i52, hi53, h54⟩ := zbd h51; clear h51
                  rw [hi53]
                  obtain ⟨hb55, h56⟩ := zgdd h54; clear h54
                  refine zn_iaload (pc := 119) zk_135 dX10_moveOf_119 (zib_in hb55) ?_
                  have hz := Option.some.inj h56; clear h56; subst hz
                  exact zn_ireturn (pc := 120) dX10_moveOf_120 rfl hp
                · replace h51 := zif_f c50 h51
                  have h58 := h51; clear h51
                  by_cases c57 : x2 = 7
                  · replace h58 := zif_t c57 h58
                    refine zn_tsIn (pc := 15) (tgt := 121) (off := 106) dX10_moveOf_15 c57 (by decide) (by decide) ?_
                    refine zn_aload_n (pc := 121) 0 dX10_moveOf_121 rfl rfl ?_
                    refine zn_getR (pc := 122) fa_X10_120_40.1 fa_X10_120_40.2 dX10_moveOf_122 ?_
                    refine zn_iload_n (pc := 125) 1 dX10_moveOf_125 rfl rfl ?_
                    obtain ⟨i59, hi60, h61⟩ := zbd h58; clear h58
                    rw [hi60]
                    obtain ⟨hb62, h63⟩ := zgdd h61; clear h61
                    refine zn_iaload (pc := 126) zk_136 dX10_moveOf_126 (zib_in hb62) ?_
                    have hz := Option.some.inj h63; clear h63; subst hz
                    exact zn_ireturn (pc := 127) dX10_moveOf_127 rfl hp
                  · replace h58 := zif_f c57 h58
                    have h65 := h58; clear h58
                    by_cases c64 : x2 = 8
                    · replace h65 := zif_t c64 h65
                      refine zn_tsIn (pc := 15) (tgt := 128) (off := 113) dX10_moveOf_15 c64 (by decide) (by decide) ?_
                      refine zn_aload_n (pc := 128) 0 dX10_moveOf_128 rfl rfl ?_
                      refine zn_getR (pc := 129) fa_X10_123_40.1 fa_X10_123_40.2 dX10_moveOf_129 ?_
                      refine zn_iload_n (pc := 132) 1 dX10_moveOf_132 rfl rfl ?_
                      obtain ⟨i66, hi67, h68⟩ := zbd h65; clear h65
                      rw [hi67]
                      obtain ⟨hb69, h70⟩ := zgdd h68; clear h68
                      refine zn_iaload (pc := 133) zk_137 dX10_moveOf_133 (zib_in hb69) ?_
                      have hz := Option.some.inj h70; clear h70; subst hz
                      exact zn_ireturn (pc := 134) dX10_moveOf_134 rfl hp
                    · replace h65 := zif_f c64 h65
                      refine zn_tsOut (pc := 15) (tgt := 135) dX10_moveOf_15 ?_ (by decide) ?_
                      · have t0 := lv_neT c6 (show (0 : Int32).toInt = 0 by decide)
                        have t1 := lv_neT c13 (show (1 : Int32).toInt = 1 by decide)
                        have t2 := lv_neT c20 (show (2 : Int32).toInt = 2 by decide)
                        have t3 := lv_neT c27 (show (3 : Int32).toInt = 3 by decide)
                        have t4 := lv_neT c36 (show (4 : Int32).toInt = 4 by decide)
                        have t5 := lv_neT c43 (show (5 : Int32).toInt = 5 by decide)
                        have t6 := lv_neT c50 (show (6 : Int32).toInt = 6 by decide)
                        have t7 := lv_neT c57 (show (7 : Int32).toInt = 7 by decide)
                        have t8 := lv_neT c64 (show (8 : Int32).toInt = 8 by decide)
                        omega
                      · refine zn_aload_n (pc := 135) 0 dX10_moveOf_135 rfl rfl ?_
                        refine zn_bipush (pc := 136) (x := (-2)) dX10_moveOf_136 (by decide) ?_
                        obtain ⟨o71, e72, h73⟩ := zbd h65; clear h65
                        refine zn_cVv (pc := 138) (kc := 0) (ks := 0) (kc' := 0) (ks' := 0) (As := [vI (-2)]) (st := []) dX10_moveOf_138 cs_X10_163 pc_40 rfl rfl (Nat.le_of_ble_eq_true rfl) ((c_X10_refuse e72).mono (Nat.le_of_ble_eq_true rfl)) ?_
                        have hz := Option.some.inj h73; clear h73; subst hz
                        exact zn_ireturn (pc := 141) dX10_moveOf_141 rfl hp
  · replace h5 := zif_t c4 h5
    refine zn_aload_n (pc := 8) 0 dX10_moveOf_8 rfl rfl ?_
    refine zn_iconst (pc := 9) (x := (-1)) dX10_moveOf_9 (by decide) ?_
    obtain ⟨o74, e75, h76⟩ := zbd h5; clear h5
    refine zn_cVv (pc := 10) (kc := 0) (ks := 0) (kc' := 0) (ks' := 0) (As := [vI (-1)]) (st := []) dX10_moveOf_10 cs_X10_163 pc_40 rfl rfl (Nat.le_of_ble_eq_true rfl) ((c_X10_refuse e75).mono (Nat.le_of_ble_eq_true rfl)) ?_
    have hz := Option.some.inj h76; clear h76; subst hz
    exact zn_ireturn (pc := 13) dX10_moveOf_13 rfl hp
