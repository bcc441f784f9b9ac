theorem c_X8_read {G : zG} {i0 : Nat} {S : zH} {out : (Int32 × zH)} (h0 : f_X8_read i0 S = some out) : zct G M_X8_read 61 0 0 [vR 8 (some i0)] S (zpo (some (vI out.1)) out.2) := by
  refine zct_of (by decide) (Nat.le_of_ble_eq_true rfl) ?_
  show zn G M_X8_read 61 0 0 0 [(0, vR 8 (some i0))] [] S _
  have hp : zpo (some (vI out.1)) out.2 (some (vI out.1)) out.2 := ⟨rfl, rfl⟩
  unfold f_X8_read at h0
  refine zn_aload_n (pc := 0) 0 dX8_read_0 rfl rfl ?_
  refine zn_iconst (pc := 1) (x := 0) dX8_read_1 (by decide) ?_
  obtain ⟨S1, hS2, h3⟩ := zltd h0; clear h0
  refine zn_putI (pc := 2) fp_X8_37_8.1 (fp_X8_37_8 (nm := "")).2 dX8_read_2 hS2 ?_
  refine zn_aload_n (pc := 5) 0 dX8_read_5 rfl rfl ?_
  refine zn_bipush (pc := 6) (x := (-9)) dX8_read_6 (by decide) ?_
  obtain ⟨S4, hS5, h6⟩ := zltd h3; clear h3
  refine zn_putI (pc := 8) fp_X8_40_8.1 (fp_X8_40_8 (nm := "")).2 dX8_read_8 hS5 ?_
  refine zn_aload_n (pc := 11) 0 dX8_read_11 rfl rfl ?_
  refine zn_iconst (pc := 12) (x := 0) dX8_read_12 (by decide) ?_
  obtain ⟨S7, hS8, h9⟩ := zltd h6; clear h6
  refine zn_putI (pc := 13) fp_X8_22_8.1 (fp_X8_22_8 (nm := "")).2 dX8_read_13 hS8 ?_
  refine zn_aload_n (pc := 16) 0 dX8_read_16 rfl rfl ?_
  refine zn_iconst (pc := 17) (x := 0) dX8_read_17 (by decide) ?_
  obtain ⟨o10, e11, h12⟩ := zbd h9; clear h9
  refine zn_cV0 (pc := 18) (kc := 0) (ks := 0) (kc' := 0) (ks' := 0) (As := [vI 0]) (st := []) dX8_read_18 cs_X8_43 pc_8 rfl rfl (Nat.le_of_ble_eq_true rfl) ((c_X8_readSum e11).mono (Nat.le_of_ble_eq_true rfl)) ?_
  refine zn_aload_n (pc := 21) 0 dX8_read_21 rfl rfl ?_
  refine zn_getI (pc := 22) fa_X8_37_8.1 fa_X8_37_8.2 dX8_read_22 ?_
  refine zn_aload_n (pc := 25) 0 dX8_read_25 rfl rfl ?_
  refine zn_getI (pc := 26) fa_X8_18_8.1 fa_X8_18_8.2 dX8_read_26 ?_
  have h14 := h12; clear h12
  refine zn_icmp_ge (pc := 29) (tgt := 36) dX8_read_29 (by decide) (fun c13 => ?_) (fun c13 => ?_)
  · replace h14 := zif_t c13 h14
    refine zn_aload_n (pc := 36) 0 dX8_read_36 rfl rfl ?_
    refine zn_getI (pc := 37) fa_X8_40_8.1 fa_X8_40_8.2 dX8_read_37 ?_
    have hz := Option.some.inj h14; clear h14; subst hz
    exact zn_ireturn (pc := 40) dX8_read_40 rfl hp
  · replace h14 := zif_f c13 h14
    refine zn_aload_n (pc := 32) 0 dX8_read_32 rfl rfl ?_
    obtain ⟨o15, e16, h17⟩ := zbd h14; clear h14
    refine zn_cV0 (pc := 33) (kc := 0) (ks := 0) (kc' := 0) (ks' := 0) (As := []) (st := []) dX8_read_33 cs_X8_47 pc_8 rfl rfl (Nat.le_of_ble_eq_true rfl) ((c_X8_fail e16).mono (Nat.le_of_ble_eq_true rfl)) ?_
    refine zn_aload_n (pc := 36) 0 dX8_read_36 rfl rfl ?_
    refine zn_getI (pc := 37) fa_X8_40_8.1 fa_X8_40_8.2 dX8_read_37 ?_
    have hz := Option.some.inj h17; clear h17; subst hz
    exact zn_ireturn (pc := 40) dX8_read_40 rfl hp
theorem c_X8_wipe {G : zG} {i0 : Nat} {S : zH} {out : zH} (h0 : f_X8_wipe i0 S = some out) : zct G M_X8_wipe 0 0 0 [vR 8 (some i0)] S (zpo none out) := by
  refine zct_of (by decide) (Nat.le_of_ble_eq_true rfl) ?_
  show zn G M_X8_wipe 0 0 0 0 [(0, vR 8 (some i0))] [] S _
  have hp : zpo none out none out := ⟨rfl, rfl⟩
  unfold f_X8_wipe at h0
  refine zn_aload_n (pc := 0) 0 dX8_wipe_0 rfl rfl ?_
  refine zn_iconst (pc := 1) (x := 0) dX8_wipe_1 (by decide) ?_
  obtain ⟨S1, hS2, h3⟩ := zltd h0; clear h0
  refine zn_putI (pc := 2) fp_X8_18_8.1 (fp_X8_18_8 (nm := "")).2 dX8_wipe_2 hS2 ?_
  have hz := Option.some.inj h3; clear h3; subst hz
  exact zn_return (pc := 5) dX8_wipe_5 rfl hp
theorem c_X8_codeRead {G : zG} {i0 : Nat} {S : zH} {out : ((Option Nat) × zH)} (h0 : f_X8_codeRead i0 S = some out) : zct G M_X8_codeRead 3 1 60 [vR 8 (some i0)] S (zpo (some (vR 25 out.1)) out.2) := by
  refine zct_of (by decide) (Nat.le_of_ble_eq_true rfl) ?_
  show zn G M_X8_codeRead 3 1 60 0 [(0, vR 8 (some i0))] [] S _
  have hp : zpo (some (vR 25 out.1)) out.2 (some (vR 25 out.1)) out.2 := ⟨rfl, rfl⟩
  unfold f_X8_codeRead at h0
  refine zn_aload_n (pc := 0) 0 dX8_codeRead_0 rfl rfl ?_
  refine zn_getR (pc := 1) fa_X8_15_8.1 fa_X8_15_8.2 dX8_codeRead_1 ?_
  refine zn_iconst (pc := 4) (x := 0) dX8_codeRead_4 (by decide) ?_
  refine zn_aload_n (pc := 5) 0 dX8_codeRead_5 rfl rfl ?_
  refine zn_getI (pc := 6) fa_X8_22_8.1 fa_X8_22_8.2 dX8_codeRead_6 ?_
  refine zn_mmax (pc := 9) dX8_codeRead_9 ml_X8_25 ws_max.1 ws_max.2.1 ws_max.2.2 (Nat.le_of_ble_eq_true rfl) ?_
  obtain ⟨o1, e2, h3⟩ := zbd h0; clear h0
  refine zn_cSv (pc := 12) (kc := 0) (ks := 0) (kc' := 1) (ks' := 60) (As := [vR 29 (zR S 8 i0 4), vI (if 0 < (zI S 8 i0 5) then (zI S 8 i0 5) else 0)]) (st := []) dX8_codeRead_12 cs_X8_31 rfl rfl (Nat.le_of_ble_eq_true rfl) (zc_copy (Nat.le_of_ble_eq_true rfl) e2) ?_
  have hz := Option.some.inj h3; clear h3; subst hz
  exact zn_areturn (pc := 15) dX8_codeRead_15 rfl (Or.inr ⟨_, rfl⟩) hp
theorem c_X5_init {G : zG} {i0 : Nat} {x1 : Int32} {x2 : Int32} {r3 : Option Nat} {S : zH} {out : zH} (h0 : f_X5_init i0 x1 x2 r3 S = some out) : zct G M_X5_init 1 0 0 [vR 6 (some i0), vI x1, vI x2, vR 25 r3] S (zpo none out) := by
  refine zct_of (by decide) (Nat.le_of_ble_eq_true rfl) ?_
  show zn G M_X5_init 1 0 0 0 [(0, vR 6 (some i0)), (1, vI x1), (2, vI x2), (3, vR 25 r3)] [] S _
  have hp : zpo none out none out := ⟨rfl, rfl⟩
  unfold f_X5_init at h0
  refine zn_aload_n (pc := 0) 0 dX5_init_0 rfl rfl ?_
  refine zn_objInit (pc := 1) dX5_init_1 ol_X5_3 ws_obj.1 ws_obj.2 (Nat.le_of_ble_eq_true rfl) ?_
  refine zn_aload_n (pc := 4) 0 dX5_init_4 rfl rfl ?_
  refine zn_iload_n (pc := 5) 1 dX5_init_5 rfl rfl ?_
  obtain ⟨S1, hS2, h3⟩ := zltd h0; clear h0
  refine zn_putI (pc := 6) fp_X5_9_6.1 fp_X5_9_6.2 dX5_init_6 hS2 ?_
  refine zn_aload_n (pc := 9) 0 dX5_init_9 rfl rfl ?_
  refine zn_iload_n (pc := 10) 2 dX5_init_10 rfl rfl ?_
  obtain ⟨S4, hS5, h6⟩ := zltd h3; clear h3
  refine zn_putI (pc := 11) fp_X5_15_6.1 fp_X5_15_6.2 dX5_init_11 hS5 ?_
  refine zn_aload_n (pc := 14) 0 dX5_init_14 rfl rfl ?_
  refine zn_aload_n (pc := 15) 3 dX5_init_15 rfl rfl ?_
  obtain ⟨S7, hS8, h9⟩ := zltd h6; clear h6
  refine zn_putR (pc := 16) fp_X5_18_6.1 fp_X5_18_6.2.2 fp_X5_18_6.2.1 dX5_init_16 hS8 ?_
  have hz := Option.some.inj h9; clear h9; subst hz
  exact zn_return (pc := 19) dX5_init_19 rfl hp
theorem c_X6_add {G : zG} {i0 : Nat} {r1 : Option Nat} {S : zH} {out : (Int32 × zH)} (h0 : f_X6_add i0 r1 S = some out) : zct G M_X6_add 10 1 80 [vR 7 (some i0), vR 6 r1] S (zpo (some (vI out.1)) out.2) := by
  refine zct_of (by decide) (Nat.le_of_ble_eq_true rfl) ?_
  show zn G M_X6_add 10 1 80 0 [(0, vR 7 (some i0)), (1, vR 6 r1)] [] S _
  have hp : zpo (some (vI out.1)) out.2 (some (vI out.1)) out.2 := ⟨rfl, rfl⟩
  unfold f_X6_add at h0
  refine zn_aload_n (pc := 0) 0 dX6_add_0 rfl rfl ?_
  refine zn_getR (pc := 1) fa_X6_12_7.1 fa_X6_12_7.2 dX6_add_1 ?_
  refine zn_aload_n (pc := 4) 1 dX6_add_4 rfl rfl ?_
  obtain ⟨i1, hi2, h3⟩ := zbd h0; clear h0
  rw [hi2]
  obtain ⟨o4, e5, h6⟩ := zbd h3; clear h3
  refine zn_cVv (pc := 5) (kc := 0) (ks := 0) (kc' := 1) (ks' := 80) (As := [vR 6 r1]) (st := []) dX6_add_5 cla_X6_36 pc_13 rfl rfl (Nat.le_of_ble_eq_true rfl) (zc_add (p := 13) (by decide) rfl (Nat.le_of_ble_eq_true rfl) e5) ?_
  refine zn_pop (pc := 8) dX6_add_8 rfl ?_
  refine zn_aload_n (pc := 9) 0 dX6_add_9 rfl rfl ?_
  refine zn_getR (pc := 10) fa_X6_12_7.1 fa_X6_12_7.2 dX6_add_10 ?_
  obtain ⟨i7, hi8, h9⟩ := zbd h6; clear h6
  rw [hi8]
  obtain ⟨o10, e11, h12⟩ := zbd h9; clear h9
  refine zn_cVv (pc := 13) (kc := 0) (ks := 0) (kc' := 0) (ks' := 0) (As := []) (st := []) dX6_add_13 cls_X6_33 pc_13 rfl rfl (Nat.le_of_ble_eq_true rfl) (zc_size (p := 13) (by decide) (Nat.le_of_ble_eq_true rfl) e11) ?_
  have hz := Option.some.inj h12; clear h12; subst hz
  exact zn_ireturn (pc := 16) dX6_add_16 rfl hp
theorem b_X9_rule_9 {G : zG} {Post : Option zV → zH → Prop} {i0 : Nat} {S : zH} {out : (Int32 × zH)} (h0 : f_X9_rule_9 i0 S = some out) (hp : Post (some (vI out.1)) out.2) : zn G M_X9_rule 62 0 0 9 [(0, vR 0 (some i0))] [] S Post := by
  unfold f_X9_rule_9 at h0
  refine zn_aload_n (pc := 9) 0 dX9_rule_9 rfl rfl ?_
  refine zn_bipush (pc := 10) (x := (-2)) dX9_rule_10 (by decide) ?_
  obtain ⟨o1, e2, h3⟩ := zbd h0; clear h0
  refine zn_cVv (pc := 12) (kc := 0) (ks := 0) (kc' := 0) (ks' := 0) (As := [vI (-2)]) (st := []) dX9_rule_12 cs_X9_78 pc_0 rfl rfl (Nat.le_of_ble_eq_true rfl) ((c_X9_refuse e2).mono (Nat.le_of_ble_eq_true rfl)) ?_
  have hz := Option.some.inj h3; clear h3; subst hz
  exact zn_ireturn (pc := 15) dX9_rule_15 rfl hp
theorem b_X9_rule_53 {G : zG} {Post : Option zV → zH → Prop} {i0 : Nat} {S : zH} {out : (Int32 × zH)} (h0 : f_X9_rule_53 i0 S = some out) (hp : Post (some (vI out.1)) out.2) : zn G M_X9_rule 62 0 0 53 [(0, vR 0 (some i0))] [] S Post := by
  unfold f_X9_rule_53 at h0
  refine zn_aload_n (pc := 53) 0 dX9_rule_53 rfl rfl ?_
  refine zn_bipush (pc := 54) (x := (-6)) dX9_rule_54 (by decide) ?_
  obtain ⟨o1, e2, h3⟩ := zbd h0; clear h0
  refine zn_cVv (pc := 56) (kc := 0) (ks := 0) (kc' := 0) (ks' := 0) (As := [vI (-6)]) (st := []) dX9_rule_56 cs_X9_78 pc_0 rfl rfl (Nat.le_of_ble_eq_true rfl) ((c_X9_refuse e2).mono (Nat.le_of_ble_eq_true rfl)) ?_
  have hz := Option.some.inj h3; clear h3; subst hz
  exact zn_ireturn (pc := 59) dX9_rule_59 rfl hp
theorem c_X9_rule {G : zG} {i0 : Nat} {x1 : Int32} {x2 : Int32} {S : zH} {out : (Int32 × zH)} (h0 : f_X9_rule i0 x1 x2 S = some out) : zct G M_X9_rule 62 3 143 [vR 0 (some i0), vI x1, vI x2] S (zpo (some (vI out.1)) out.2) := by
  refine zct_of (by decide) (Nat.le_of_ble_eq_true rfl) ?_
  show zn G M_X9_rule 62 3 143 0 [(0, vR 0 (some i0)), (1, vI x1), (2, vI x2)] [] S _
  have hp : zpo (some (vI out.1)) out.2 (some (vI out.1)) out.2 := ⟨rfl, rfl⟩
  unfold f_X9_rule at h0
  refine zn_iload_n (pc := 0) 1 dX9_rule_0 rfl rfl ?_
  have h5 := h0; clear h0
  refine zn_if_lt (pc := 1) (tgt := 9) dX9_rule_1 (by decide) (fun c4 => ?_) (fun c4 => ?_)
  · replace h5 := zif_t c4 h5
    refine zn_pick [0] rfl ?_
    refine zn_wid (kc0 := 0) (ks0 := 0) (Nat.le_of_ble_eq_true rfl) (Nat.le_of_ble_eq_true rfl) ?_
    exact b_X9_rule_9  h5 hp
  · replace h5 := zif_f c4 h5
    refine zn_iload_n (pc := 4) 1 dX9_rule_4 rfl rfl ?_
    refine zn_iconst (pc := 5) (x := 3) dX9_rule_5 (by decide) ?_
    have h7 := h5; clear h5
    refine zn_icmp_le (pc := 6) (tgt := 16) dX9_rule_6 (by decide) (fun c6 => ?_) (fun c6 => ?_)
    · replace h7 := zif_t c6 h7
      refine zn_iload_n (pc := 16) 2 dX9_rule_16 rfl rfl ?_
      refine zn_aload_n (pc := 17) 0 dX9_rule_17 rfl rfl ?_
      refine zn_getR (pc := 18) fa_X9_10_0.1 fa_X9_10_0.2 dX9_rule_18 ?_
      obtain ⟨i8, hi9, h10⟩ := zbd h7; clear h7
      rw [hi9]
      refine zn_getI (pc := 21) fa_X9_71_1.1 fa_X9_71_1.2 dX9_rule_21 ?_
      have h12 := h10; clear h10
      refine zn_icmp_ge (pc := 24) (tgt := 34) dX9_rule_24 (by decide) (fun c11 => ?_) (fun c11 => ?_)
      · replace h12 := zif_t c11 h12
        refine zn_iload_n (pc := 34) 2 dX9_rule_34 rfl rfl ?_
        refine zn_sipush (pc := 35) (x := 1500) dX9_rule_35 (by decide) ?_
        have h14 := h12; clear h12
        refine zn_icmp_gt (pc := 38) (tgt := 53) dX9_rule_38 (by decide) (fun c13 => ?_) (fun c13 => ?_)
        · replace h14 := zif_t c13 h14
          refine zn_pick [0] rfl ?_
          refine zn_wid (kc0 := 0) (ks0 := 0) (Nat.le_of_ble_eq_true rfl) (Nat.le_of_ble_eq_true rfl) ?_
          exact b_X9_rule_53  h14 hp
        · replace h14 := zif_f c13 h14
          refine zn_aload_n (pc := 41) 0 dX9_rule_41 rfl rfl ?_
          refine zn_getR (pc := 42) fa_X9_41_0.1 fa_X9_41_0.2 dX9_rule_42 ?_
          obtain ⟨i15, hi16, h17⟩ := zbd h14; clear h14
          rw [hi16]
          obtain ⟨o18, e19, h20⟩ := zbd h17; clear h17
          refine zn_cVv (pc := 45) (kc := 3) (ks := 143) (kc' := 0) (ks' := 0) (As := []) (st := []) dX9_rule_45 cs_X9_205 pc_7 rfl rfl (Nat.le_of_ble_eq_true rfl) ((c_X6_size e19).mono (Nat.le_of_ble_eq_true rfl)) ?_
          refine zn_bipush (pc := 48) (x := 30) dX9_rule_48 (by decide) ?_
          have h22 := h20; clear h20
          refine zn_icmp_lt (pc := 50) (tgt := 60) dX9_rule_50 (by decide) (fun c21 => ?_) (fun c21 => ?_)
          · replace h22 := zif_t c21 h22
            refine zn_aload_n (pc := 60) 0 dX9_rule_60 rfl rfl ?_
            refine zn_getR (pc := 61) fa_X9_48_0.1 fa_X9_48_0.2 dX9_rule_61 ?_
            obtain ⟨i23, hi24, h25⟩ := zbd h22; clear h22
            rw [hi24]
            obtain ⟨o26, e27, h28⟩ := zbd h25; clear h25
            refine zn_cVv (pc := 64) (kc := 3) (ks := 143) (kc' := 0) (ks' := 0) (As := []) (st := []) dX9_rule_64 cs_X9_206 pc_8 rfl rfl (Nat.le_of_ble_eq_true rfl) ((c_X8_read e27).mono (Nat.le_of_ble_eq_true rfl)) ?_
            refine zn_istore_n (pc := 67) (ls' := [(3, vI o26.1), (0, vR 0 (some i0)), (1, vI x1), (2, vI x2)]) dX9_rule_67 rfl (Nat.le_of_ble_eq_true rfl) rfl ?_
            refine zn_aload_n (pc := 68) 1 dX9_rule_68 rfl rfl ?_
            refine zn_getR (pc := 69) fa_X9_48_0.1 fa_X9_48_0.2 dX9_rule_69 ?_
            obtain ⟨i29, hi30, h31⟩ := zbd h28; clear h28
            rw [hi30]
            obtain ⟨o32, e33, h34⟩ := zbd h31; clear h31
            refine zn_cV0 (pc := 72) (kc := 3) (ks := 143) (kc' := 0) (ks' := 0) (As := []) (st := []) dX9_rule_72 cs_X9_209 pc_8 rfl rfl (Nat.le_of_ble_eq_true rfl) ((c_X8_wipe e33).mono (Nat.le_of_ble_eq_true rfl)) ?_
            refine zn_iload_n (pc := 75) 0 dX9_rule_75 rfl rfl ?_
            refine zn_bipush (pc := 76) (x := (-9)) dX9_rule_76 (by decide) ?_
            have h36 := h34; clear h34
            refine zn_icmp_eq (pc := 78) (tgt := 86) dX9_rule_78 (by decide) (fun c35 => ?_) (fun c35 => ?_)
            · replace h36 := zif_t c35 h36
              refine zn_aload_n (pc := 86) 1 dX9_rule_86 rfl rfl ?_
              refine zn_getR (pc := 87) fa_X9_41_0.1 fa_X9_41_0.2 dX9_rule_87 ?_
              obtain ⟨S37, hS38, h39⟩ := zltd h36; clear h36
              refine zn_new (pc := 90) (M := M_X9_rule) (kc := 2) (ks := 140) (N := 3) nw_X9_212_6 dX9_rule_90 hS38 ?_
              refine zn_dup (pc := 93) dX9_rule_93 rfl ?_
              refine zn_iload_n (pc := 94) 2 dX9_rule_94 rfl rfl ?_
              refine zn_iload_n (pc := 95) 3 dX9_rule_95 rfl rfl ?_
              refine zn_aload_n (pc := 96) 1 dX9_rule_96 rfl rfl ?_
              refine zn_getR (pc := 97) fa_X9_48_0.1 fa_X9_48_0.2 dX9_rule_97 ?_
              obtain ⟨i40, hi41, h42⟩ := zbd h39; clear h39
              rw [hi41]
              obtain ⟨o43, e44, h45⟩ := zbd h42; clear h42
              refine zn_cVv (pc := 100) (kc := 1) (ks := 80) (kc' := 1) (ks' := 60) (As := []) (st := [vI x2, vI x1, vR 6 (some (zN o32 6)), vR 6 (some (zN o32 6)), vR 7 (zR o32 0 i0 5)]) dX9_rule_100 cs_X9_214 pc_8 rfl rfl (Nat.le_of_ble_eq_true rfl) ((c_X8_codeRead e44).mono (Nat.le_of_ble_eq_true rfl)) ?_
              obtain ⟨o46, e47, h48⟩ := zbd h45; clear h45
              refine zn_cI0 (pc := 103) (kc := 1) (ks := 80) (kc' := 0) (ks' := 0) (As := [vI x1, vI x2, vR 25 o43.1]) (st := [vR 6 (some (zN o32 6)), vR 7 (zR o32 0 i0 5)]) dX9_rule_103 cs_X9_218 rfl rfl (Nat.le_of_ble_eq_true rfl) ((c_X5_init e47).mono (Nat.le_of_ble_eq_true rfl)) ?_
              obtain ⟨i49, hi50, h51⟩ := zbd h48; clear h48
              rw [hi50]
              obtain ⟨o52, e53, h54⟩ := zbd h51; clear h51
              refine zn_cVv (pc := 106) (kc := 0) (ks := 0) (kc' := 1) (ks' := 80) (As := [vR 6 (some (zN o32 6))]) (st := []) dX9_rule_106 cs_X9_221 pc_7 rfl rfl (Nat.le_of_ble_eq_true rfl) ((c_X6_add e53).mono (Nat.le_of_ble_eq_true rfl)) ?_
              have hz := Option.some.inj h54; clear h54; subst hz
              exact zn_ireturn (pc := 109) dX9_rule_109 rfl hp
            · replace h36 := zif_f c35 h36
              refine zn_bipush (pc := 81) (x := (-20)) dX9_rule_81 (by decide) ?_
              refine zn_iload_n (pc := 83) 0 dX9_rule_83 rfl rfl ?_
              refine zn_isub (pc := 84) dX9_rule_84 ?_
              have hz := Option.some.inj h36; clear h36; subst hz
              exact zn_ireturn (pc := 85) dX9_rule_85 rfl hp
          · replace h22 := zif_f c21 h22
            refine zn_pick [0] rfl ?_
            refine zn_wid (kc0 := 0) (ks0 := 0) (Nat.le_of_ble_eq_true rfl) (Nat.le_of_ble_eq_true rfl) ?_
            exact b_X9_rule_53  h22 hp
      · replace h12 := zif_f c11 h12
        refine zn_aload_n (pc := 27) 0 dX9_rule_27 rfl rfl ?_
        refine zn_bipush (pc := 28) (x := (-4)) dX9_rule_28 (by decide) ?_
        obtain ⟨o55, e56, h57⟩ := zbd h12; clear h12
        refine zn_cVv (pc := 30) (kc := 3) (ks := 143) (kc' := 0) (ks' := 0) (As := [vI (-4)]) (st := []) dX9_rule_30 cs_X9_78 pc_0 rfl rfl (Nat.le_of_ble_eq_true rfl) ((c_X9_refuse e56).mono (Nat.le_of_ble_eq_true rfl)) ?_
        have hz := Option.some.inj h57; clear h57; subst hz
        exact zn_ireturn (pc := 33) dX9_rule_33 rfl hp
    · replace h7 := zif_f c6 h7
      refine zn_pick [0] rfl ?_
      refine zn_wid (kc0 := 0) (ks0 := 0) (Nat.le_of_ble_eq_true rfl) (Nat.le_of_ble_eq_true rfl) ?_
      exact b_X9_rule_9  h7 hp
theorem c_X3_init {G : zG} {i0 : Nat} {x1 : Int32} {r2 : Option Nat} {r3 : Option Nat} {x4 : Int32} {x5 : Int32} {x6 : Int32} {S : zH} {out : zH} (h0 : f_X3_init i0 x1 r2 r3 x4 x5 x6 S = some out) : zct G M_X3_init 1 1 5 [vR 4 (some i0), vI x1, vR 3 r2, vR 3 r3, vI x4, vI x5, vI x6] S (zpo none out) := by
  refine zct_of (by decide) (Nat.le_of_ble_eq_true rfl) ?_
  show zn G M_X3_init 1 1 5 0 [(0, vR 4 (some i0)), (1, vI x1), (2, vR 3 r2), (3, vR 3 r3), (4, vI x4), (5, vI x5), (6, vI x6)] [] S _
  have hp : zpo none out none out := ⟨rfl, rfl⟩
  unfold f_X3_init at h0
  refine zn_aload_n (pc := 0) 0 dX3_init_0 rfl rfl ?_
  refine zn_objInit (pc := 1) dX3_init_1 ol_X3_3 ws_obj.1 ws_obj.2 (Nat.le_of_ble_eq_true rfl) ?_
  refine zn_aload_n (pc := 4) 0 dX3_init_4 rfl rfl ?_
  refine zn_bipush (pc := 5) (x := (-9)) dX3_init_5 (by decide) ?_
  obtain ⟨S1, hS2, h3⟩ := zltd h0; clear h0
  refine zn_putI (pc := 7) fp_X3_9_4.1 (fp_X3_9_4 (nm := "")).2 dX3_init_7 hS2 ?_
  refine zn_aload_n (pc := 10) 0 dX3_init_10 rfl rfl ?_
  refine zn_iconst (pc := 11) (x := 5) dX3_init_11 (by decide) ?_
  obtain ⟨S4, hS5, h6⟩ := zltd h3; clear h3
  refine zn_newI (pc := 12) (M := M_X3_init) (kc := 0) (ks := 0) zk_24 w_arrI dX3_init_12 (by decide) (by decide) (Nat.le_of_ble_eq_true rfl) hS5 (ks0 := 5) (Nat.le_of_ble_eq_true rfl) ?_
  obtain ⟨S7, hS8, h9⟩ := zltd h6; clear h6
  refine zn_putR (pc := 14) fp_X3_15_4.1 fp_X3_15_4.2.2 fp_X3_15_4.2.1 dX3_init_14 hS8 ?_
  refine zn_aload_n (pc := 17) 0 dX3_init_17 rfl rfl ?_
  refine zn_iload_n (pc := 18) 1 dX3_init_18 rfl rfl ?_
  obtain ⟨S10, hS11, h12⟩ := zltd h9; clear h9
  refine zn_putI (pc := 19) fp_X3_19_4.1 fp_X3_19_4.2 dX3_init_19 hS11 ?_
  refine zn_aload_n (pc := 22) 0 dX3_init_22 rfl rfl ?_
  refine zn_aload_n (pc := 23) 2 dX3_init_23 rfl rfl ?_
  obtain ⟨S13, hS14, h15⟩ := zltd h12; clear h12
  refine zn_putR (pc := 24) fp_X3_22_4.1 (fp_X3_22_4 (nm := "")).2.2 (fp_X3_22_4 (nm := "")).2.1 dX3_init_24 hS14 ?_
  refine zn_aload_n (pc := 27) 0 dX3_init_27 rfl rfl ?_
  refine zn_aload_n (pc := 28) 3 dX3_init_28 rfl rfl ?_
  obtain ⟨S16, hS17, h18⟩ := zltd h15; clear h15
  refine zn_putR (pc := 29) fp_X3_26_4.1 fp_X3_26_4.2.2 fp_X3_26_4.2.1 dX3_init_29 hS17 ?_
  refine zn_aload_n (pc := 32) 0 dX3_init_32 rfl rfl ?_
  refine zn_iload (pc := 33) 4 dX3_init_33 rfl ?_
  obtain ⟨S19, hS20, h21⟩ := zltd h18; clear h18
  refine zn_putI (pc := 35) fp_X3_29_4.1 fp_X3_29_4.2 dX3_init_35 hS20 ?_
  refine zn_aload_n (pc := 38) 0 dX3_init_38 rfl rfl ?_
  refine zn_iload (pc := 39) 6 dX3_init_39 rfl ?_
  obtain ⟨S22, hS23, h24⟩ := zltd h21; clear h21
  refine zn_putI (pc := 41) fp_X3_32_4.1 fp_X3_32_4.2 dX3_init_41 hS23 ?_
  refine zn_aload_n (pc := 44) 0 dX3_init_44 rfl rfl ?_
  refine zn_iload (pc := 45) 5 dX3_init_45 rfl ?_
  obtain ⟨S25, hS26, h27⟩ := zltd h24; clear h24
  refine zn_putI (pc := 47) fp_X3_35_4.1 (fp_X3_35_4 (nm := "")).2 dX3_init_47 hS26 ?_
  have hz := Option.some.inj h27; clear h27; subst hz
  exact zn_return (pc := 50) dX3_init_50 rfl hp
theorem b_X9_line_9 {G : zG} {Post : Option zV → zH → Prop} {i0 : Nat} {S : zH} {out : (Int32 × zH)} (h0 : f_X9_line_9 i0 S = some out) (hp : Post (some (vI out.1)) out.2) : zn G M_X9_line 10 0 0 9 [(0, vR 0 (some i0))] [] S Post := by
  unfold f_X9_line_9 at h0
  refine zn_aload_n (pc := 9) 0 dX9_line_9 rfl rfl ?_
  refine zn_bipush (pc := 10) (x := (-2)) dX9_line_10 (by decide) ?_
  obtain ⟨o1, e2, h3⟩ := zbd h0; clear h0
  refine zn_cVv (pc := 12) (kc := 0) (ks := 0) (kc' := 0) (ks' := 0) (As := [vI (-2)]) (st := []) dX9_line_12 cs_X9_78 pc_0 rfl rfl (Nat.le_of_ble_eq_true rfl) ((c_X9_refuse e2).mono (Nat.le_of_ble_eq_true rfl)) ?_
  have hz := Option.some.inj h3; clear h3; subst hz
  exact zn_ireturn (pc := 15) dX9_line_15 rfl hp
theorem b_X9_line_47 {G : zG} {Post : Option zV → zH → Prop} {i0 : Nat} {S : zH} {out : (Int32 × zH)} (h0 : f_X9_line_47 i0 S = some out) (hp : Post (some (vI out.1)) out.2) : zn G M_X9_line 10 0 0 47 [(0, vR 0 (some i0))] [] S Post := by
  unfold f_X9_line_47 at h0
  refine zn_aload_n (pc := 47) 0 dX9_line_47 rfl rfl ?_
  refine zn_iconst (pc := 48) (x := (-1)) dX9_line_48 (by decide) ?_
  obtain ⟨o1, e2, h3⟩ := zbd h0; clear h0
  refine zn_cVv (pc := 49) (kc := 0) (ks := 0) (kc' := 0) (ks' := 0) (As := [vI (-1)]) (st := []) dX9_line_49 cs_X9_78 pc_0 rfl rfl (Nat.le_of_ble_eq_true rfl) ((c_X9_refuse e2).mono (Nat.le_of_ble_eq_true rfl)) ?_
  have hz := Option.some.inj h3; clear h3; subst hz
  exact zn_ireturn (pc := 52) dX9_line_52 rfl hp
theorem b_X9_line_93 {G : zG} {Post : Option zV → zH → Prop} {i0 : Nat} {S : zH} {out : (Int32 × zH)} (h0 : f_X9_line_93 i0 S = some out) (hp : Post (some (vI out.1)) out.2) : zn G M_X9_line 10 0 0 93 [(0, vR 0 (some i0))] [] S Post := by
  unfold f_X9_line_93 at h0
  refine zn_aload_n (pc := 93) 0 dX9_line_93 rfl rfl ?_
  refine zn_bipush (pc := 94) (x := (-4)) dX9_line_94 (by decide) ?_
  obtain ⟨o1, e2, h3⟩ := zbd h0; clear h0
  refine zn_cVv (pc := 96) (kc := 0) (ks := 0) (kc' := 0) (ks' := 0) (As := [vI (-4)]) (st := []) dX9_line_96 cs_X9_78 pc_0 rfl rfl (Nat.le_of_ble_eq_true rfl) ((c_X9_refuse e2).mono (Nat.le_of_ble_eq_true rfl)) ?_
  have hz := Option.some.inj h3; clear h3; subst hz
  exact zn_ireturn (pc := 99) dX9_line_99 rfl hp
theorem b_X9_line_139 {G : zG} {Post : Option zV → zH → Prop} {i0 : Nat} {S : zH} {out : (Int32 × zH)} (h0 : f_X9_line_139 i0 S = some out) (hp : Post (some (vI out.1)) out.2) : zn G M_X9_line 10 0 0 139 [(0, vR 0 (some i0))] [] S Post := by
  unfold f_X9_line_139 at h0
  refine zn_aload_n (pc := 139) 0 dX9_line_139 rfl rfl ?_
  refine zn_bipush (pc := 140) (x := (-6)) dX9_line_140 (by decide) ?_
  obtain ⟨o1, e2, h3⟩ := zbd h0; clear h0
  refine zn_cVv (pc := 142) (kc := 0) (ks := 0) (kc' := 0) (ks' := 0) (As := [vI (-6)]) (st := []) dX9_line_142 cs_X9_78 pc_0 rfl rfl (Nat.le_of_ble_eq_true rfl) ((c_X9_refuse e2).mono (Nat.le_of_ble_eq_true rfl)) ?_
  have hz := Option.some.inj h3; clear h3; subst hz
  exact zn_ireturn (pc := 145) dX9_line_145 rfl hp
theorem b_X9_line_170 {G : zG} {Post : Option zV → zH → Prop} {i0 : Nat} {xs0 : Int32} {xs1 : Int32} {xs2 : Int32} {is3 : Nat} {is4 : Nat} {xs5 : Int32} {is6 : Nat} {is7 : Nat} {S : zH} {out : (Int32 × zH)} (h0 : f_X9_line_170 i0 xs0 xs1 xs2 is3 is4 xs5 is6 is7 S = some out) (hp : Post (some (vI out.1)) out.2) : zn G M_X9_line 10 2 85 170 [(0, vR 0 (some i0))] [vI xs0, vI xs1, vI xs2, vR 3 (some is3), vR 3 (some is4), vI xs5, vR 4 (some is6), vR 4 (some is7)] S Post := by
  unfold f_X9_line_170 at h0
  obtain ⟨o1, e2, h3⟩ := zbd h0; clear h0
  refine zn_cI0 (pc := 170) (kc := 1) (ks := 80) (kc' := 1) (ks' := 5) (As := [vI xs5, vR 3 (some is4), vR 3 (some is3), vI xs2, vI xs1, vI xs0]) (st := [vR 4 (some is7)]) dX9_line_170 cs_X9_226 rfl rfl (Nat.le_of_ble_eq_true rfl) ((c_X3_init e2).mono (Nat.le_of_ble_eq_true rfl)) ?_
  refine zn_astore (pc := 173) (ls' := [(10, vR 4 (some is7)), (0, vR 0 (some i0))]) dX9_line_173 (Nat.le_of_ble_eq_true rfl) rfl ?_
  refine zn_aload_n (pc := 175) 1 dX9_line_175 rfl rfl ?_
  refine zn_getR (pc := 176) fa_X9_32_0.1 fa_X9_32_0.2 dX9_line_176 ?_
  refine zn_aload (pc := 179) 0 dX9_line_179 rfl ?_
  obtain ⟨i4, hi5, h6⟩ := zbd h3; clear h3
  rw [hi5]
  obtain ⟨o7, e8, h9⟩ := zbd h6; clear h6
  refine zn_cVv (pc := 181) (kc := 0) (ks := 0) (kc' := 1) (ks' := 80) (As := [vR 4 (some is7)]) (st := []) dX9_line_181 cla_X9_229 pc_11 rfl rfl (Nat.le_of_ble_eq_true rfl) (zc_add (p := 11) (by decide) rfl (Nat.le_of_ble_eq_true rfl) e8) ?_
  refine zn_pop (pc := 184) dX9_line_184 rfl ?_
  refine zn_aload_n (pc := 185) 1 dX9_line_185 rfl rfl ?_
  refine zn_getR (pc := 186) fa_X9_32_0.1 fa_X9_32_0.2 dX9_line_186 ?_
  obtain ⟨i10, hi11, h12⟩ := zbd h9; clear h9
  rw [hi11]
  obtain ⟨o13, e14, h15⟩ := zbd h12; clear h12
  refine zn_cVv (pc := 189) (kc := 0) (ks := 0) (kc' := 0) (ks' := 0) (As := []) (st := []) dX9_line_189 cls_X9_142 pc_11 rfl rfl (Nat.le_of_ble_eq_true rfl) (zc_size (p := 11) (by decide) (Nat.le_of_ble_eq_true rfl) e14) ?_
  refine zn_iconst (pc := 192) (x := 1) dX9_line_192 (by decide) ?_
  refine zn_isub (pc := 193) dX9_line_193 ?_
  have hz := Option.some.inj h15; clear h15; subst hz
  exact zn_ireturn (pc := 194) dX9_line_194 rfl hp
theorem b_X9_line_127 {G : zG} {Post : Option zV → zH → Prop} {i0 : Nat} {x1 : Int32} {x4 : Int32} {x5 : Int32} {x6 : Int32} {i7 : Nat} {i8 : Nat} {x9 : Int32} {S : zH} {out : (Int32 × zH)} (h0 : f_X9_line_127 i0 x1 x4 x5 x6 i7 i8 x9 S = some out) (hp : Post (some (vI out.1)) out.2) : zn G M_X9_line 10 3 96 127 [(0, vR 0 (some i0)), (1, vI x1), (4, vI x4), (5, vI x5), (6, vI x6), (7, vR 3 (some i7)), (8, vR 3 (some i8)), (9, vI x9)] [] S Post := by
  unfold f_X9_line_127 at h0
  refine zn_aload_n (pc := 127) 0 dX9_line_127 rfl rfl ?_
  refine zn_getR (pc := 128) fa_X9_32_0.1 fa_X9_32_0.2 dX9_line_128 ?_
  obtain ⟨i1, hi2, h3⟩ := zbd h0; clear h0
  rw [hi2]
  obtain ⟨o4, e5, h6⟩ := zbd h3; clear h3
  refine zn_cVv (pc := 131) (kc := 3) (ks := 96) (kc' := 0) (ks' := 0) (As := []) (st := []) dX9_line_131 cls_X9_142 pc_11 rfl rfl (Nat.le_of_ble_eq_true rfl) (zc_size (p := 11) (by decide) (Nat.le_of_ble_eq_true rfl) e5) ?_
  refine zn_bipush (pc := 134) (x := 60) dX9_line_134 (by decide) ?_
  have h8 := h6; clear h6
  refine zn_icmp_lt (pc := 136) (tgt := 146) dX9_line_136 (by decide) (fun c7 => ?_) (fun c7 => ?_)
  · replace h8 := zif_t c7 h8
    obtain ⟨S9, hS10, h11⟩ := zltd h8; clear h8
    refine zn_new (pc := 146) (M := M_X9_line) (kc := 2) (ks := 85) (N := 11) nw_X9_224_4 dX9_line_146 hS10 ?_
    refine zn_dup (pc := 149) dX9_line_149 rfl ?_
    refine zn_iload_n (pc := 150) 1 dX9_line_150 rfl rfl ?_
    refine zn_aload (pc := 151) 5 dX9_line_151 rfl ?_
    refine zn_aload (pc := 153) 6 dX9_line_153 rfl ?_
    refine zn_iload (pc := 155) 2 dX9_line_155 rfl ?_
    refine zn_iload (pc := 157) 3 dX9_line_157 rfl ?_
    refine zn_iload (pc := 159) 7 dX9_line_159 rfl ?_
    have h13 := h11; clear h11
    refine zn_if_eq (pc := 161) (tgt := 168) dX9_line_161 (by decide) (fun c12 => ?_) (fun c12 => ?_)
    · replace h13 := zif_t c12 h13
      refine zn_iload (pc := 168) 4 dX9_line_168 rfl ?_
      refine zn_pick [0] rfl ?_
      exact b_X9_line_170  h13 hp
    · replace h13 := zif_f c12 h13
      refine zn_iconst (pc := 164) (x := 0) dX9_line_164 (by decide) ?_
      refine zn_goto (pc := 165) (tgt := 170) dX9_line_165 (by decide) ?_
      refine zn_pick [0] rfl ?_
      exact b_X9_line_170  h13 hp
  · replace h8 := zif_f c7 h8
    refine zn_pick [0] rfl ?_
    refine zn_wid (kc0 := 0) (ks0 := 0) (Nat.le_of_ble_eq_true rfl) (Nat.le_of_ble_eq_true rfl) ?_
    exact b_X9_line_139  h8 hp
theorem b_X9_line_100 {G : zG} {Post : Option zV → zH → Prop} {i0 : Nat} {x1 : Int32} {x4 : Int32} {x5 : Int32} {x6 : Int32} {i7 : Nat} {i8 : Nat} {x9 : Int32} {S : zH} {out : (Int32 × zH)} (h0 : f_X9_line_100 i0 x1 x4 x5 x6 i7 i8 x9 S = some out) (hp : Post (some (vI out.1)) out.2) : zn G M_X9_line 10 3 96 100 [(0, vR 0 (some i0)), (1, vI x1), (4, vI x4), (5, vI x5), (6, vI x6), (7, vR 3 (some i7)), (8, vR 3 (some i8)), (9, vI x9)] [] S Post := by
  unfold f_X9_line_100 at h0
  refine zn_iload (pc := 100) 2 dX9_line_100 rfl ?_
  refine zn_ldc (pc := 102) dX9_line_102 w1_X9_162 ?_
  have h2 := h0; clear h0
  refine zn_icmp_gt (pc := 104) (tgt := 139) dX9_line_104 (by decide) (fun c1 => ?_) (fun c1 => ?_)
  · replace h2 := zif_t c1 h2
    refine zn_pick [0] rfl ?_
    refine zn_wid (kc0 := 0) (ks0 := 0) (Nat.le_of_ble_eq_true rfl) (Nat.le_of_ble_eq_true rfl) ?_
    exact b_X9_line_139  h2 hp
  · replace h2 := zif_f c1 h2
    refine zn_iload (pc := 107) 3 dX9_line_107 rfl ?_
    refine zn_sipush (pc := 109) (x := 1500) dX9_line_109 (by decide) ?_
    have h4 := h2; clear h2
    refine zn_icmp_gt (pc := 112) (tgt := 139) dX9_line_112 (by decide) (fun c3 => ?_) (fun c3 => ?_)
    · replace h4 := zif_t c3 h4
      refine zn_pick [0] rfl ?_
      refine zn_wid (kc0 := 0) (ks0 := 0) (Nat.le_of_ble_eq_true rfl) (Nat.le_of_ble_eq_true rfl) ?_
      exact b_X9_line_139  h4 hp
    · replace h4 := zif_f c3 h4
      refine zn_iload (pc := 115) 7 dX9_line_115 rfl ?_
      have h6 := h4; clear h4
      refine zn_if_ne (pc := 117) (tgt := 127) dX9_line_117 (by decide) (fun c5 => ?_) (fun c5 => ?_)
      · replace h6 := zif_f c5 h6
        exact b_X9_line_127  h6 hp
      · replace h6 := zif_t c5 h6
        refine zn_iload (pc := 120) 4 dX9_line_120 rfl ?_
        refine zn_bipush (pc := 122) (x := 90) dX9_line_122 (by decide) ?_
        have h8 := h6; clear h6
        refine zn_icmp_gt (pc := 124) (tgt := 139) dX9_line_124 (by decide) (fun c7 => ?_) (fun c7 => ?_)
        · replace h8 := zif_t c7 h8
          refine zn_pick [0] rfl ?_
          refine zn_wid (kc0 := 0) (ks0 := 0) (Nat.le_of_ble_eq_true rfl) (Nat.le_of_ble_eq_true rfl) ?_
          exact b_X9_line_139  h8 hp
        · replace h8 := zif_f c7 h8
          exact b_X9_line_127  h8 hp
theorem b_X9_line_62 {G : zG} {Post : Option zV → zH → Prop} {i0 : Nat} {x1 : Int32} {x4 : Int32} {x5 : Int32} {x6 : Int32} {i7 : Nat} {i8 : Nat} {xs0 : Int32} {S : zH} {out : (Int32 × zH)} (h0 : f_X9_line_62 i0 x1 x4 x5 x6 i7 i8 xs0 S = some out) (hp : Post (some (vI out.1)) out.2) : zn G M_X9_line 10 3 96 62 [(0, vR 0 (some i0)), (1, vI x1), (4, vI x4), (5, vI x5), (6, vI x6), (7, vR 3 (some i7)), (8, vR 3 (some i8))] [vI xs0] S Post := by
  unfold f_X9_line_62 at h0
  refine zn_istore (pc := 62) (ls' := [(9, vI xs0), (0, vR 0 (some i0)), (1, vI x1), (4, vI x4), (5, vI x5), (6, vI x6), (7, vR 3 (some i7)), (8, vR 3 (some i8))]) dX9_line_62 (Nat.le_of_ble_eq_true rfl) rfl ?_
  refine zn_iload (pc := 64) 3 dX9_line_64 rfl ?_
  refine zn_iconst (pc := 66) (x := 1) dX9_line_66 (by decide) ?_
  have h2 := h0; clear h0
  refine zn_icmp_lt (pc := 67) (tgt := 93) dX9_line_67 (by decide) (fun c1 => ?_) (fun c1 => ?_)
  · replace h2 := zif_t c1 h2
    refine zn_pick [1] rfl ?_
    refine zn_wid (kc0 := 0) (ks0 := 0) (Nat.le_of_ble_eq_true rfl) (Nat.le_of_ble_eq_true rfl) ?_
    exact b_X9_line_93  h2 hp
  · replace h2 := zif_f c1 h2
    refine zn_iload (pc := 70) 4 dX9_line_70 rfl ?_
    refine zn_aload_n (pc := 72) 1 dX9_line_72 rfl rfl ?_
    refine zn_getR (pc := 73) fa_X9_10_0.1 fa_X9_10_0.2 dX9_line_73 ?_
    obtain ⟨i3, hi4, h5⟩ := zbd h2; clear h2
    rw [hi4]
    refine zn_getI (pc := 76) fa_X9_71_1.1 fa_X9_71_1.2 dX9_line_76 ?_
    have h7 := h5; clear h5
    refine zn_icmp_lt (pc := 79) (tgt := 93) dX9_line_79 (by decide) (fun c6 => ?_) (fun c6 => ?_)
    · replace h7 := zif_t c6 h7
      refine zn_pick [1] rfl ?_
      refine zn_wid (kc0 := 0) (ks0 := 0) (Nat.le_of_ble_eq_true rfl) (Nat.le_of_ble_eq_true rfl) ?_
      exact b_X9_line_93  h7 hp
    · replace h7 := zif_f c6 h7
      refine zn_iload (pc := 82) 0 dX9_line_82 rfl ?_
      have h9 := h7; clear h7
      refine zn_if_ne (pc := 84) (tgt := 100) dX9_line_84 (by decide) (fun c8 => ?_) (fun c8 => ?_)
      · replace h9 := zif_f c8 h9
        refine zn_pick [1, 2, 3, 4, 5, 6, 7, 0] rfl ?_
        exact b_X9_line_100  h9 hp
      · replace h9 := zif_t c8 h9
        refine zn_iload (pc := 87) 5 dX9_line_87 rfl ?_
        refine zn_iconst (pc := 89) (x := 1) dX9_line_89 (by decide) ?_
        have h11 := h9; clear h9
        refine zn_icmp_ge (pc := 90) (tgt := 100) dX9_line_90 (by decide) (fun c10 => ?_) (fun c10 => ?_)
        · replace h11 := zif_t c10 h11
          refine zn_pick [1, 2, 3, 4, 5, 6, 7, 0] rfl ?_
          exact b_X9_line_100  h11 hp
        · replace h11 := zif_f c10 h11
          refine zn_pick [1] rfl ?_
          refine zn_wid (kc0 := 0) (ks0 := 0) (Nat.le_of_ble_eq_true rfl) (Nat.le_of_ble_eq_true rfl) ?_
          exact b_X9_line_93  h11 hp
theorem c_X9_line {G : zG} {i0 : Nat} {x1 : Int32} {x2 : Int32} {x3 : Int32} {x4 : Int32} {x5 : Int32} {x6 : Int32} {S : zH} {out : (Int32 × zH)} (h0 : f_X9_line i0 x1 x2 x3 x4 x5 x6 S = some out) : zct G M_X9_line 10 3 96 [vR 0 (some i0), vI x1, vI x2, vI x3, vI x4, vI x5, vI x6] S (zpo (some (vI out.1)) out.2) := by
  refine zct_of (by decide) (Nat.le_of_ble_eq_true rfl) ?_
  show zn G M_X9_line 10 3 96 0 [(0, vR 0 (some i0)), (1, vI x1), (2, vI x2), (3, vI x3), (4, vI x4), (5, vI x5), (6, vI x6)] [] S _
  have hp : zpo (some (vI out.1)) out.2 (some (vI out.1)) out.2 := ⟨rfl, rfl⟩
  unfold f_X9_line at h0
  refine zn_iload_n (pc := 0) 1 dX9_line_0 rfl rfl ?_
  have h13 := h0; clear h0
  refine zn_if_lt (pc := 1) (tgt := 9) dX9_line_1 (by decide) (fun c12 => ?_) (fun c12 => ?_)
  · replace h13 := zif_t c12 h13
    refine zn_pick [0] rfl ?_
    refine zn_wid (kc0 := 0) (ks0 := 0) (Nat.le_of_ble_eq_true rfl) (Nat.le_of_ble_eq_true rfl) ?_
    exact b_X9_line_9  h13 hp
  · replace h13 := zif_f c12 h13
    refine zn_iload_n (pc := 4) 1 dX9_line_4 rfl rfl ?_
    refine zn_iconst (pc := 5) (x := 3) dX9_line_5 (by decide) ?_
    have h15 := h13; clear h13
    refine zn_icmp_le (pc := 6) (tgt := 16) dX9_line_6 (by decide) (fun c14 => ?_) (fun c14 => ?_)
    · replace h15 := zif_t c14 h15
      refine zn_aload_n (pc := 16) 0 dX9_line_16 rfl rfl ?_
      refine zn_iload_n (pc := 17) 2 dX9_line_17 rfl rfl ?_
      obtain ⟨o16, e17, h18⟩ := zbd h15; clear h15
      refine zn_cVv (pc := 18) (kc := 3) (ks := 96) (kc' := 0) (ks' := 0) (As := [vI x2]) (st := []) dX9_line_18 cs_X9_155 pc_0 rfl rfl (Nat.le_of_ble_eq_true rfl) ((c_X9_accountAt e17).mono (Nat.le_of_ble_eq_true rfl)) ?_
      refine zn_astore (pc := 21) (ls' := [(7, vR 3 o16), (0, vR 0 (some i0)), (1, vI x1), (2, vI x2), (3, vI x3), (4, vI x4), (5, vI x5), (6, vI x6)]) dX9_line_21 (Nat.le_of_ble_eq_true rfl) rfl ?_
      refine zn_aload_n (pc := 23) 1 dX9_line_23 rfl rfl ?_
      refine zn_iload_n (pc := 24) 4 dX9_line_24 rfl rfl ?_
      obtain ⟨o19, e20, h21⟩ := zbd h18; clear h18
      refine zn_cVv (pc := 25) (kc := 3) (ks := 96) (kc' := 0) (ks' := 0) (As := [vI x3]) (st := []) dX9_line_25 cs_X9_155 pc_0 rfl rfl (Nat.le_of_ble_eq_true rfl) ((c_X9_accountAt e20).mono (Nat.le_of_ble_eq_true rfl)) ?_
      refine zn_astore (pc := 28) (ls' := [(8, vR 3 o19), (7, vR 3 o16), (0, vR 0 (some i0)), (1, vI x1), (2, vI x2), (3, vI x3), (4, vI x4), (5, vI x5), (6, vI x6)]) dX9_line_28 (Nat.le_of_ble_eq_true rfl) rfl ?_
      refine zn_aload (pc := 30) 1 dX9_line_30 rfl ?_
      have h24 := h21; clear h21
      refine zn_ifnull (pc := 32) (tgt := 47) dX9_line_32 (by decide) (fun hr22 => ?_) (fun i23 hr22 => ?_)
      · replace h24 := zop_n hr22 h24
        rw [hr22]
        refine zn_pick [2] rfl ?_
        refine zn_wid (kc0 := 0) (ks0 := 0) (Nat.le_of_ble_eq_true rfl) (Nat.le_of_ble_eq_true rfl) ?_
        exact b_X9_line_47  h24 hp
      · replace h24 := zop_s hr22 h24
        rw [hr22]
        refine zn_aload (pc := 35) 0 dX9_line_35 rfl ?_
        have h27 := h24; clear h24
        refine zn_ifnull (pc := 37) (tgt := 47) dX9_line_37 (by decide) (fun hr25 => ?_) (fun i26 hr25 => ?_)
        · replace h27 := zop_n hr25 h27
          rw [hr25]
          refine zn_pick [2] rfl ?_
          refine zn_wid (kc0 := 0) (ks0 := 0) (Nat.le_of_ble_eq_true rfl) (Nat.le_of_ble_eq_true rfl) ?_
          exact b_X9_line_47  h27 hp
        · replace h27 := zop_s hr25 h27
          rw [hr25]
          refine zn_aload (pc := 40) 1 dX9_line_40 rfl ?_
          refine zn_aload (pc := 42) 0 dX9_line_42 rfl ?_
          have h29 := h27; clear h27
          refine zn_acmp_ne (pc := 44) (tgt := 53) rfl dX9_line_44 (by decide) (fun c28 => ?_) (fun c28 => ?_)
          · replace h29 := zif_f c28 h29
            refine zn_iload_n (pc := 53) 3 dX9_line_53 rfl rfl ?_
            have h31 := h29; clear h29
            refine zn_if_ne (pc := 54) (tgt := 61) dX9_line_54 (by decide) (fun c30 => ?_) (fun c30 => ?_)
            · replace h31 := zif_f c30 h31
              refine zn_iconst (pc := 61) (x := 0) dX9_line_61 (by decide) ?_
              refine zn_pick [2, 3, 6, 7, 8, 1, 0] rfl ?_
              exact b_X9_line_62  h31 hp
            · replace h31 := zif_t c30 h31
              refine zn_iconst (pc := 57) (x := 1) dX9_line_57 (by decide) ?_
              refine zn_goto (pc := 58) (tgt := 62) dX9_line_58 (by decide) ?_
              refine zn_pick [2, 3, 6, 7, 8, 1, 0] rfl ?_
              exact b_X9_line_62  h31 hp
          · replace h29 := zif_t c28 h29
            refine zn_pick [2] rfl ?_
            refine zn_wid (kc0 := 0) (ks0 := 0) (Nat.le_of_ble_eq_true rfl) (Nat.le_of_ble_eq_true rfl) ?_
            exact b_X9_line_47  h29 hp
    · replace h15 := zif_f c14 h15
      refine zn_pick [0] rfl ?_
      refine zn_wid (kc0 := 0) (ks0 := 0) (Nat.le_of_ble_eq_true rfl) (Nat.le_of_ble_eq_true rfl) ?_
      exact b_X9_line_9  h15 hp
theorem c_X9_lineAt {G : zG} {i0 : Nat} {x1 : Int32} {S : zH} {out : (Option Nat)} (h0 : f_X9_lineAt i0 x1 S = some out) : zct G M_X9_lineAt 4 0 0 [vR 0 (some i0), vI x1] S (zpo (some (vR 4 out)) S) := by
  refine zct_of (by decide) (Nat.le_of_ble_eq_true rfl) ?_
  show zn G M_X9_lineAt 4 0 0 0 [(0, vR 0 (some i0)), (1, vI x1)] [] S _
  have hp : zpo (some (vR 4 out)) S (some (vR 4 out)) S := ⟨rfl, rfl⟩
  unfold f_X9_lineAt at h0
  refine zn_iload_n (pc := 0) 1 dX9_lineAt_0 rfl rfl ?_
  have h2 := h0; clear h0
  refine zn_if_lt (pc := 1) (tgt := 29) dX9_lineAt_1 (by decide) (fun c1 => ?_) (fun c1 => ?_)
  · replace h2 := zif_t c1 h2
    refine zn_null (pc := 29) 4 dX9_lineAt_29 ?_
    have hz := Option.some.inj h2; clear h2; subst hz
    exact zn_areturn (pc := 30) dX9_lineAt_30 rfl (Or.inl ⟨_, rfl⟩) hp
  · replace h2 := zif_f c1 h2
    refine zn_iload_n (pc := 4) 1 dX9_lineAt_4 rfl rfl ?_
    refine zn_aload_n (pc := 5) 0 dX9_lineAt_5 rfl rfl ?_
    refine zn_getR (pc := 6) fa_X9_32_0.1 fa_X9_32_0.2 dX9_lineAt_6 ?_
    obtain ⟨i3, hi4, h5⟩ := zbd h2; clear h2
    rw [hi4]
    obtain ⟨o6, e7, h8⟩ := zbd h5; clear h5
    refine zn_cVv (pc := 9) (kc := 0) (ks := 0) (kc' := 0) (ks' := 0) (As := []) (st := [vI x1]) dX9_lineAt_9 cls_X9_142 pc_11 rfl rfl (Nat.le_of_ble_eq_true rfl) (zc_size (p := 11) (by decide) (Nat.le_of_ble_eq_true rfl) e7) ?_
    have h10 := h8; clear h8
    refine zn_icmp_ge (pc := 12) (tgt := 29) dX9_lineAt_12 (by decide) (fun c9 => ?_) (fun c9 => ?_)
    · replace h10 := zif_t c9 h10
      refine zn_null (pc := 29) 4 dX9_lineAt_29 ?_
      have hz := Option.some.inj h10; clear h10; subst hz
      exact zn_areturn (pc := 30) dX9_lineAt_30 rfl (Or.inl ⟨_, rfl⟩) hp
    · replace h10 := zif_f c9 h10
      refine zn_aload_n (pc := 15) 0 dX9_lineAt_15 rfl rfl ?_
      refine zn_getR (pc := 16) fa_X9_32_0.1 fa_X9_32_0.2 dX9_lineAt_16 ?_
      refine zn_iload_n (pc := 19) 1 dX9_lineAt_19 rfl rfl ?_
      obtain ⟨i11, hi12, h13⟩ := zbd h10; clear h10
      rw [hi12]
      obtain ⟨o14, e15, h16⟩ := zbd h13; clear h13
      refine zn_cVv (pc := 20) (kc := 0) (ks := 0) (kc' := 0) (ks' := 0) (As := [vI x1]) (st := []) dX9_lineAt_20 clg_X9_353 pc_11 rfl rfl (Nat.le_of_ble_eq_true rfl) (zc_get (p := 11) (by decide) rfl (Nat.le_of_ble_eq_true rfl) e15) ?_
      refine zn_cast (pc := 23) cl_X9_224 pc_4 dX9_lineAt_23 ?_
      refine zn_goto (pc := 26) (tgt := 30) dX9_lineAt_26 (by decide) ?_
      have hz := Option.some.inj h16; clear h16; subst hz
      exact zn_areturn (pc := 30) dX9_lineAt_30 rfl (Or.inl ⟨_, rfl⟩) hp
theorem c_X9_end {G : zG} {i0 : Nat} {x1 : Int32} {S : zH} {out : (Int32 × zH)} (h0 : f_X9_end i0 x1 S = some out) : zct G M_X9_end 5 0 0 [vR 0 (some i0), vI x1] S (zpo (some (vI out.1)) out.2) := by
  refine zct_of (by decide) (Nat.le_of_ble_eq_true rfl) ?_
  show zn G M_X9_end 5 0 0 0 [(0, vR 0 (some i0)), (1, vI x1)] [] S _
  have hp : zpo (some (vI out.1)) out.2 (some (vI out.1)) out.2 := ⟨rfl, rfl⟩
  unfold f_X9_end at h0
  refine zn_aload_n (pc := 0) 0 dX9_end_0 rfl rfl ?_
  refine zn_iload_n (pc := 1) 1 dX9_end_1 rfl rfl ?_
  obtain ⟨o1, e2, h3⟩ := zbd h0; clear h0
  refine zn_cVv (pc := 2) (kc := 0) (ks := 0) (kc' := 0) (ks' := 0) (As := [vI x1]) (st := []) dX9_end_2 cs_X9_232 pc_0 rfl rfl (Nat.le_of_ble_eq_true rfl) ((c_X9_lineAt e2).mono (Nat.le_of_ble_eq_true rfl)) ?_
  refine zn_astore_n (pc := 5) (ls' := [(2, vR 4 o1), (0, vR 0 (some i0)), (1, vI x1)]) dX9_end_5 rfl (Nat.le_of_ble_eq_true rfl) rfl ?_
  refine zn_aload_n (pc := 6) 0 dX9_end_6 rfl rfl ?_
  have h6 := h3; clear h3
  refine zn_ifnonnull (pc := 7) (tgt := 16) dX9_end_7 (by decide) (fun i5 hr4 => ?_) (fun hr4 => ?_)
  · replace h6 := zop_s hr4 h6
    rw [hr4]
    refine zn_aload_n (pc := 16) 0 dX9_end_16 rfl rfl ?_
    refine zn_getI (pc := 17) fa_X9_236_4.1 fa_X9_236_4.2 dX9_end_17 ?_
    have h11 := h6; clear h6
    refine zn_if_eq (pc := 20) (tgt := 30) dX9_end_20 (by decide) (fun c10 => ?_) (fun c10 => ?_)
    · replace h11 := zif_t c10 h11
      refine zn_aload_n (pc := 30) 0 dX9_end_30 rfl rfl ?_
      refine zn_iconst (pc := 31) (x := 1) dX9_end_31 (by decide) ?_
      obtain ⟨S12, hS13, h14⟩ := zltd h11; clear h11
      refine zn_putZ (pc := 32) fp_X9_236_4.1 (fp_X9_236_4 (nm := "")).2 dX9_end_32 (by decide) hS13 ?_
      refine zn_aload_n (pc := 35) 0 dX9_end_35 rfl rfl ?_
      refine zn_aload_n (pc := 36) 1 dX9_end_36 rfl rfl ?_
      refine zn_getR (pc := 37) fa_X9_10_0.1 fa_X9_10_0.2 dX9_end_37 ?_
      obtain ⟨i15, hi16, h17⟩ := zbd h14; clear h14
      rw [hi16]
      refine zn_getI (pc := 40) fa_X9_71_1.1 fa_X9_71_1.2 dX9_end_40 ?_
      obtain ⟨S18, hS19, h20⟩ := zltd h17; clear h17
      refine zn_putI (pc := 43) fp_X9_240_4.1 (fp_X9_240_4 (nm := "")).2 dX9_end_43 hS19 ?_
      refine zn_iconst (pc := 46) (x := 1) dX9_end_46 (by decide) ?_
      have hz := Option.some.inj h20; clear h20; subst hz
      exact zn_ireturn (pc := 47) dX9_end_47 rfl hp
    · replace h11 := zif_f c10 h11
      refine zn_aload_n (pc := 23) 1 dX9_end_23 rfl rfl ?_
      refine zn_bipush (pc := 24) (x := (-3)) dX9_end_24 (by decide) ?_
      obtain ⟨o21, e22, h23⟩ := zbd h11; clear h11
      refine zn_cVv (pc := 26) (kc := 0) (ks := 0) (kc' := 0) (ks' := 0) (As := [vI (-3)]) (st := []) dX9_end_26 cs_X9_78 pc_0 rfl rfl (Nat.le_of_ble_eq_true rfl) ((c_X9_refuse e22).mono (Nat.le_of_ble_eq_true rfl)) ?_
      have hz := Option.some.inj h23; clear h23; subst hz
      exact zn_ireturn (pc := 29) dX9_end_29 rfl hp
  · replace h6 := zop_n hr4 h6
    rw [hr4]
    refine zn_aload_n (pc := 10) 1 dX9_end_10 rfl rfl ?_
    refine zn_iconst (pc := 11) (x := (-1)) dX9_end_11 (by decide) ?_
    obtain ⟨o7, e8, h9⟩ := zbd h6; clear h6
    refine zn_cVv (pc := 12) (kc := 0) (ks := 0) (kc' := 0) (ks' := 0) (As := [vI (-1)]) (st := []) dX9_end_12 cs_X9_78 pc_0 rfl rfl (Nat.le_of_ble_eq_true rfl) ((c_X9_refuse e8).mono (Nat.le_of_ble_eq_true rfl)) ?_
    have hz := Option.some.inj h9; clear h9; subst hz
    exact zn_ireturn (pc := 15) dX9_end_15 rfl hp
theorem c_X3_timesBack {G : zG} {i0 : Nat} {x1 : Int32} {S : zH} {out : Int32} (h0 : f_X3_timesBack i0 x1 S = some out) : zct G M_X3_timesBack 0 0 0 [vR 4 (some i0), vI x1] S (zpo (some (vI out)) S) := by
  refine zct_of (by decide) (Nat.le_of_ble_eq_true rfl) ?_
  show zn G M_X3_timesBack 0 0 0 0 [(0, vR 4 (some i0)), (1, vI x1)] [] S _
  have hp : zpo (some (vI out)) S (some (vI out)) S := ⟨rfl, rfl⟩
  unfold f_X3_timesBack at h0
  refine zn_iload_n (pc := 0) 1 dX3_timesBack_0 rfl rfl ?_
  have h2 := h0; clear h0
  refine zn_if_lt (pc := 1) (tgt := 22) dX3_timesBack_1 (by decide) (fun c1 => ?_) (fun c1 => ?_)
  · replace h2 := zif_t c1 h2
    refine zn_iconst (pc := 22) (x := 0) dX3_timesBack_22 (by decide) ?_
    have hz := Option.some.inj h2; clear h2; subst hz
    exact zn_ireturn (pc := 23) dX3_timesBack_23 rfl hp
  · replace h2 := zif_f c1 h2
    refine zn_iload_n (pc := 4) 1 dX3_timesBack_4 rfl rfl ?_
    refine zn_aload_n (pc := 5) 0 dX3_timesBack_5 rfl rfl ?_
    refine zn_getR (pc := 6) fa_X3_15_4.1 fa_X3_15_4.2 dX3_timesBack_6 ?_
    obtain ⟨i3, hi4, h5⟩ := zbd h2; clear h2
    rw [hi4]
    refine zn_alen (pc := 9) zk_24 rfl dX3_timesBack_9 ?_
    have h7 := h5; clear h5
    refine zn_icmp_ge (pc := 10) (tgt := 22) dX3_timesBack_10 (by decide) (fun c6 => ?_) (fun c6 => ?_)
    · replace h7 := zif_t c6 h7
      refine zn_iconst (pc := 22) (x := 0) dX3_timesBack_22 (by decide) ?_
      have hz := Option.some.inj h7; clear h7; subst hz
      exact zn_ireturn (pc := 23) dX3_timesBack_23 rfl hp
    · replace h7 := zif_f c6 h7
      refine zn_aload_n (pc := 13) 0 dX3_timesBack_13 rfl rfl ?_
      refine zn_getR (pc := 14) fa_X3_15_4.1 fa_X3_15_4.2 dX3_timesBack_14 ?_
      refine zn_iload_n (pc := 17) 1 dX3_timesBack_17 rfl rfl ?_
      obtain ⟨i8, hi9, h10⟩ := zbd h7; clear h7
      rw [hi9]
      obtain ⟨hb11, h12⟩ := zgdd h10; clear h10
      refine zn_iaload (pc := 18) zk_24 dX3_timesBack_18 (zib_in hb11) ?_
      refine zn_goto (pc := 19) (tgt := 23) dX3_timesBack_19 (by decide) ?_
      have hz := Option.some.inj h12; clear h12; subst hz
      exact zn_ireturn (pc := 23) dX3_timesBack_23 rfl hp
theorem c_X9_lineOf {G : zG} {i0 : Nat} {x1 : Int32} {x2 : Int32} {S : zH} {out : (Int32 × zH)} (h0 : f_X9_lineOf i0 x1 x2 S = some out) : zct G M_X9_lineOf 5 0 0 [vR 0 (some i0), vI x1, vI x2] S (zpo (some (vI out.1)) out.2) := by
  refine zct_of (by decide) (Nat.le_of_ble_eq_true rfl) ?_
  show zn G M_X9_lineOf 5 0 0 0 [(0, vR 0 (some i0)), (1, vI x1), (2, vI x2)] [] S _
  have hp : zpo (some (vI out.1)) out.2 (some (vI out.1)) out.2 := ⟨rfl, rfl⟩
  unfold f_X9_lineOf at h0
  refine zn_aload_n (pc := 0) 0 dX9_lineOf_0 rfl rfl ?_
  refine zn_iload_n (pc := 1) 1 dX9_lineOf_1 rfl rfl ?_
  obtain ⟨o1, e2, h3⟩ := zbd h0; clear h0
  refine zn_cVv (pc := 2) (kc := 0) (ks := 0) (kc' := 0) (ks' := 0) (As := [vI x1]) (st := []) dX9_lineOf_2 cs_X9_232 pc_0 rfl rfl (Nat.le_of_ble_eq_true rfl) ((c_X9_lineAt e2).mono (Nat.le_of_ble_eq_true rfl)) ?_
  refine zn_astore_n (pc := 5) (ls' := [(3, vR 4 o1), (0, vR 0 (some i0)), (1, vI x1), (2, vI x2)]) dX9_lineOf_5 rfl (Nat.le_of_ble_eq_true rfl) rfl ?_
  refine zn_aload_n (pc := 6) 0 dX9_lineOf_6 rfl rfl ?_
  have h6 := h3; clear h3
  refine zn_ifnonnull (pc := 7) (tgt := 16) dX9_lineOf_7 (by decide) (fun i5 hr4 => ?_) (fun hr4 => ?_)
  · replace h6 := zop_s hr4 h6
    rw [hr4]
    refine zn_iload_n (pc := 16) 3 dX9_lineOf_16 rfl rfl ?_
    have h11 := h6; clear h6
    by_cases c10 : x2 = 0
    · replace h11 := zif_t c10 h11
      refine zn_tsIn (pc := 17) (tgt := 68) (off := 51) dX9_lineOf_17 c10 (by decide) (by decide) ?_
      refine zn_aload_n (pc := 68) 0 dX9_lineOf_68 rfl rfl ?_
      refine zn_getI (pc := 69) fa_X9_243_4.1 fa_X9_243_4.2 dX9_lineOf_69 ?_
      have hz := Option.some.inj h11; clear h11; subst hz
      exact zn_ireturn (pc := 72) dX9_lineOf_72 rfl hp
    · replace h11 := zif_f c10 h11
      have h13 := h11; clear h11
      by_cases c12 : x2 = 1
      · replace h13 := zif_t c12 h13
        refine zn_tsIn (pc := 17) (tgt := 73) (off := 56) dX9_lineOf_17 c12 (by decide) (by decide) ?_
        refine zn_aload_n (pc := 73) 0 dX9_lineOf_73 rfl rfl ?_
        refine zn_getR (pc := 74) fa_X9_246_4.1 fa_X9_246_4.2 dX9_lineOf_74 ?_
        obtain ⟨i14, hi15, h16⟩ := zbd h13; clear h13
        rw [hi15]
        refine zn_getI (pc := 77) fa_X9_150_3.1 fa_X9_150_3.2 dX9_lineOf_77 ?_
        have hz := Option.some.inj h16; clear h16; subst hz
        exact zn_ireturn (pc := 80) dX9_lineOf_80 rfl hp
      · replace h13 := zif_f c12 h13
        have h18 := h13; clear h13
        by_cases c17 : x2 = 2
        · replace h18 := zif_t c17 h18
          refine zn_tsIn (pc := 17) (tgt := 81) (off := 64) dX9_lineOf_17 c17 (by decide) (by decide) ?_
          refine zn_aload_n (pc := 81) 0 dX9_lineOf_81 rfl rfl ?_
          refine zn_getR (pc := 82) fa_X9_249_4.1 fa_X9_249_4.2 dX9_lineOf_82 ?_
          obtain ⟨i19, hi20, h21⟩ := zbd h18; clear h18
          rw [hi20]
          refine zn_getI (pc := 85) fa_X9_150_3.1 fa_X9_150_3.2 dX9_lineOf_85 ?_
          have hz := Option.some.inj h21; clear h21; subst hz
          exact zn_ireturn (pc := 88) dX9_lineOf_88 rfl hp
        · replace h18 := zif_f c17 h18
          have h23 := h18; clear h18
          by_cases c22 : x2 = 3
          · replace h23 := zif_t c22 h23
            refine zn_tsIn (pc := 17) (tgt := 89) (off := 72) dX9_lineOf_17 c22 (by decide) (by decide) ?_
            refine zn_aload_n (pc := 89) 0 dX9_lineOf_89 rfl rfl ?_
            refine zn_getI (pc := 90) fa_X9_252_4.1 fa_X9_252_4.2 dX9_lineOf_90 ?_
            have hz := Option.some.inj h23; clear h23; subst hz
            exact zn_ireturn (pc := 93) dX9_lineOf_93 rfl hp
          · replace h23 := zif_f c22 h23
            have h25 := h23; clear h23
            by_cases c24 : x2 = 4
            · replace h25 := zif_t c24 h25
              refine zn_tsIn (pc := 17) (tgt := 94) (off := 77) dX9_lineOf_17 c24 (by decide) (by decide) ?_
              refine zn_aload_n (pc := 94) 0 dX9_lineOf_94 rfl rfl ?_
              refine zn_iconst (pc := 95) (x := 1) dX9_lineOf_95 (by decide) ?_
              obtain ⟨o26, e27, h28⟩ := zbd h25; clear h25
              refine zn_cVv (pc := 96) (kc := 0) (ks := 0) (kc' := 0) (ks' := 0) (As := [vI 1]) (st := []) dX9_lineOf_96 cs_X9_255 pc_4 rfl rfl (Nat.le_of_ble_eq_true rfl) ((c_X3_timesBack e27).mono (Nat.le_of_ble_eq_true rfl)) ?_
              have hz := Option.some.inj h28; clear h28; subst hz
              exact zn_ireturn (pc := 99) dX9_lineOf_99 rfl hp
            · replace h25 := zif_f c24 h25
              have h30 := h25; clear h25
              by_cases c29 : x2 = 5
              · replace h30 := zif_t c29 h30
                refine zn_tsIn (pc := 17) (tgt := 100) (off := 83) dX9_lineOf_17 c29 (by decide) (by decide) ?_
                refine zn_aload_n (pc := 100) 0 dX9_lineOf_100 rfl rfl ?_
                refine zn_iconst (pc := 101) (x := 2) dX9_lineOf_101 (by decide) ?_
                obtain ⟨o31, e32, h33⟩ := zbd h30; clear h30
                refine zn_cVv (pc := 102) (kc := 0) (ks := 0) (kc' := 0) (ks' := 0) (As := [vI 2]) (st := []) dX9_lineOf_102 cs_X9_255 pc_4 rfl rfl (Nat.le_of_ble_eq_true rfl) ((c_X3_timesBack e32).mono (Nat.le_of_ble_eq_true rfl)) ?_
                have hz := Option.some.inj h33; clear h33; subst hz
                exact zn_ireturn (pc := 105) dX9_lineOf_105 rfl hp
              · replace h30 := zif_f c29 h30
                have h35 := h30; clear h30
                by_cases c34 : x2 = 6
                · replace h35 := zif_t c34 h35
                  refine zn_tsIn (pc := 17) (tgt := 106) (off := 89) dX9_lineOf_17 c34 (by decide) (by decide) ?_
                  refine zn_aload_n (pc := 106) 0 dX9_lineOf_106 rfl rfl ?_
                  refine zn_iconst (pc := 107) (x := 3) dX9_lineOf_107 (by decide) ?_
                  obtain ⟨o36, e37, h38⟩ := zbd h35; clear h35
                  refine zn_cVv (pc := 108) (kc := 0) (ks := 0) (kc' := 0) (ks' := 0) (As := [vI 3]) (st := []) dX9_lineOf_108 cs_X9_255 pc_4 rfl rfl (Nat.le_of_ble_eq_true rfl) ((c_X3_timesBack e37).mono (Nat.le_of_ble_eq_true rfl)) ?_
                  have hz := Option.some.inj h38; clear h38; subst hz
                  exact zn_ireturn (pc := 111) dX9_lineOf_111 rfl hp
                · replace h35 := zif_f c34 h35
                  have h40 := h35; clear h35
                  by_cases c39 : x2 = 7
                  · replace h40 := zif_t c39 h40
                    refine zn_tsIn (pc := 17) (tgt := 112) (off := 95) dX9_lineOf_17 c39 (by decide) (by decide) ?_
                    refine zn_aload_n (pc := 112) 0 dX9_lineOf_112 rfl rfl ?_
                    refine zn_iconst (pc := 113) (x := 4) dX9_lineOf_113 (by decide) ?_
                    obtain ⟨o41, e42, h43⟩ := zbd h40; clear h40
                    refine zn_cVv (pc := 114) (kc := 0) (ks := 0) (kc' := 0) (ks' := 0) (As := [vI 4]) (st := []) dX9_lineOf_114 cs_X9_255 pc_4 rfl rfl (Nat.le_of_ble_eq_true rfl) ((c_X3_timesBack e42).mono (Nat.le_of_ble_eq_true rfl)) ?_
                    have hz := Option.some.inj h43; clear h43; subst hz
                    exact zn_ireturn (pc := 117) dX9_lineOf_117 rfl hp
                  · replace h40 := zif_f c39 h40
                    have h45 := h40; clear h40
                    by_cases c44 : x2 = 8
                    · replace h45 := zif_t c44 h45
                      refine zn_tsIn (pc := 17) (tgt := 118) (off := 101) dX9_lineOf_17 c44 (by decide) (by decide) ?_
                      refine zn_aload_n (pc := 118) 0 dX9_lineOf_118 rfl rfl ?_
                      refine zn_getI (pc := 119) fa_X9_258_4.1 fa_X9_258_4.2 dX9_lineOf_119 ?_
                      have hz := Option.some.inj h45; clear h45; subst hz
                      exact zn_ireturn (pc := 122) dX9_lineOf_122 rfl hp
                    · replace h45 := zif_f c44 h45
                      refine zn_tsOut (pc := 17) (tgt := 123) dX9_lineOf_17 ?_ (by decide) ?_
                      · have t0 := lv_neT c10 (show (0 : Int32).toInt = 0 by decide)
                        have t1 := lv_neT c12 (show (1 : Int32).toInt = 1 by decide)
                        have t2 := lv_neT c17 (show (2 : Int32).toInt = 2 by decide)
                        have t3 := lv_neT c22 (show (3 : Int32).toInt = 3 by decide)
                        have t4 := lv_neT c24 (show (4 : Int32).toInt = 4 by decide)
                        have t5 := lv_neT c29 (show (5 : Int32).toInt = 5 by decide)
                        have t6 := lv_neT c34 (show (6 : Int32).toInt = 6 by decide)
                        have t7 := lv_neT c39 (show (7 : Int32).toInt = 7 by decide)
                        have t8 := lv_neT c44 (show (8 : Int32).toInt = 8 by decide)
                        omega
                      · refine zn_aload_n (pc := 123) 1 dX9_lineOf_123 rfl rfl ?_
                        refine zn_bipush (pc := 124) (x := (-2)) dX9_lineOf_124 (by decide) ?_
                        obtain ⟨o46, e47, h48⟩ := zbd h45; clear h45
                        refine zn_cVv (pc := 126) (kc := 0) (ks := 0) (kc' := 0) (ks' := 0) (As := [vI (-2)]) (st := []) dX9_lineOf_126 cs_X9_78 pc_0 rfl rfl (Nat.le_of_ble_eq_true rfl) ((c_X9_refuse e47).mono (Nat.le_of_ble_eq_true rfl)) ?_
                        have hz := Option.some.inj h48; clear h48; subst hz
                        exact zn_ireturn (pc := 129) dX9_lineOf_129 rfl hp
  · replace h6 := zop_n hr4 h6
    rw [hr4]
    refine zn_aload_n (pc := 10) 1 dX9_lineOf_10 rfl rfl ?_
    refine zn_iconst (pc := 11) (x := (-1)) dX9_lineOf_11 (by decide) ?_
    obtain ⟨o7, e8, h9⟩ := zbd h6; clear h6
    refine zn_cVv (pc := 12) (kc := 0) (ks := 0) (kc' := 0) (ks' := 0) (As := [vI (-1)]) (st := []) dX9_lineOf_12 cs_X9_78 pc_0 rfl rfl (Nat.le_of_ble_eq_true rfl) ((c_X9_refuse e8).mono (Nat.le_of_ble_eq_true rfl)) ?_
    have hz := Option.some.inj h9; clear h9; subst hz
    exact zn_ireturn (pc := 15) dX9_lineOf_15 rfl hp
theorem c_X9_mayLeave {G : zG} {i0 : Nat} {r1 : Option Nat} {r2 : Option Nat} {S : zH} {out : (Int32 × zH)} (h0 : f_X9_mayLeave i0 r1 r2 S = some out) : zct G M_X9_mayLeave 6 0 0 [vR 0 (some i0), vR 3 r1, vR 2 r2] S (zpo (some (vI out.1)) out.2) := by
  refine zct_of (by decide) (Nat.le_of_ble_eq_true rfl) ?_
  show zn G M_X9_mayLeave 6 0 0 0 [(0, vR 0 (some i0)), (1, vR 3 r1), (2, vR 2 r2)] [] S _
  have hp : zpo (some (vI out.1)) out.2 (some (vI out.1)) out.2 := ⟨rfl, rfl⟩
  unfold f_X9_mayLeave at h0
  refine zn_aload_n (pc := 0) 0 dX9_mayLeave_0 rfl rfl ?_
  refine zn_getR (pc := 1) fa_X9_41_0.1 fa_X9_41_0.2 dX9_mayLeave_1 ?_
  refine zn_iconst (pc := 4) (x := 0) dX9_mayLeave_4 (by decide) ?_
  refine zn_aload_n (pc := 5) 0 dX9_mayLeave_5 rfl rfl ?_
  refine zn_getR (pc := 6) fa_X9_10_0.1 fa_X9_10_0.2 dX9_mayLeave_6 ?_
  obtain ⟨i1, hi2, h3⟩ := zbd h0; clear h0
  rw [hi2]
  refine zn_getI (pc := 9) fa_X9_71_1.1 fa_X9_71_1.2 dX9_mayLeave_9 ?_
  obtain ⟨i4, hi5, h6⟩ := zbd h3; clear h3
  rw [hi5]
  obtain ⟨o7, e8, h9⟩ := zbd h6; clear h6
  refine zn_cVv (pc := 12) (kc := 0) (ks := 0) (kc' := 0) (ks' := 0) (As := [vI 0, vI (zI S 1 i1 4)]) (st := []) dX9_mayLeave_12 cs_X9_365 pc_7 rfl rfl (Nat.le_of_ble_eq_true rfl) ((c_X6_inForce e8).mono (Nat.le_of_ble_eq_true rfl)) ?_
  refine zn_astore_n (pc := 15) (ls' := [(3, vR 6 o7), (0, vR 0 (some i0)), (1, vR 3 r1), (2, vR 2 r2)]) dX9_mayLeave_15 rfl (Nat.le_of_ble_eq_true rfl) rfl ?_
  refine zn_aload_n (pc := 16) 0 dX9_mayLeave_16 rfl rfl ?_
  have h12 := h9; clear h9
  refine zn_ifnonnull (pc := 17) (tgt := 22) dX9_mayLeave_17 (by decide) (fun i11 hr10 => ?_) (fun hr10 => ?_)
  · replace h12 := zop_s hr10 h12
    rw [hr10]
    refine zn_aload_n (pc := 22) 0 dX9_mayLeave_22 rfl rfl ?_
    refine zn_aload_n (pc := 23) 1 dX9_mayLeave_23 rfl rfl ?_
    refine zn_aload_n (pc := 24) 2 dX9_mayLeave_24 rfl rfl ?_
    refine zn_aload_n (pc := 25) 3 dX9_mayLeave_25 rfl rfl ?_
    obtain ⟨o13, e14, h15⟩ := zbd h12; clear h12
    refine zn_cVv (pc := 26) (kc := 0) (ks := 0) (kc' := 0) (ks' := 0) (As := [vR 3 r1, vR 2 r2]) (st := [vR 6 (some i11)]) dX9_mayLeave_26 cs_X9_432 pc_0 rfl rfl (Nat.le_of_ble_eq_true rfl) ((c_X9_lettersOfLeaving e14).mono (Nat.le_of_ble_eq_true rfl)) ?_
    refine zn_aload_n (pc := 29) 1 dX9_mayLeave_29 rfl rfl ?_
    refine zn_getR (pc := 30) fa_X9_41_0.1 fa_X9_41_0.2 dX9_mayLeave_30 ?_
    obtain ⟨i16, hi17, h18⟩ := zbd h15; clear h15
    rw [hi17]
    refine zn_getR (pc := 33) fa_X9_377_7.1 fa_X9_377_7.2 dX9_mayLeave_33 ?_
    obtain ⟨o19, e20, h21⟩ := zbd h18; clear h18
    refine zn_cVv (pc := 36) (kc := 0) (ks := 0) (kc' := 0) (ks' := 0) (As := [vR 26 o13.1, vR 27 (zR o13.2 7 i16 2)]) (st := []) dX9_mayLeave_36 cs_X9_380 pc_6 rfl rfl (Nat.le_of_ble_eq_true rfl) ((c_X5_worth e20).mono (Nat.le_of_ble_eq_true rfl)) ?_
    refine zn_lconst (pc := 39) (x := 0) dX9_mayLeave_39 (by decide) ?_
    refine zn_lcmp (pc := 40) dX9_mayLeave_40 ?_
    have h23 := h21; clear h21
    refine zn_if_le (pc := 41) (tgt := 48) dX9_mayLeave_41 (by decide) (fun c22 => ?_) (fun c22 => ?_)
    · replace h23 := zif_t c22 h23
      refine zn_iconst (pc := 48) (x := 0) dX9_mayLeave_48 (by decide) ?_
      have hz := Option.some.inj h23; clear h23; subst hz
      exact zn_zreturn (pc := 49) dX9_mayLeave_49 rfl (by decide) hp
    · replace h23 := zif_f c22 h23
      refine zn_iconst (pc := 44) (x := 1) dX9_mayLeave_44 (by decide) ?_
      refine zn_goto (pc := 45) (tgt := 49) dX9_mayLeave_45 (by decide) ?_
      have hz := Option.some.inj h23; clear h23; subst hz
      exact zn_zreturn (pc := 49) dX9_mayLeave_49 rfl (by decide) hp
  · replace h12 := zop_n hr10 h12
    rw [hr10]
    refine zn_iconst (pc := 20) (x := 1) dX9_mayLeave_20 (by decide) ?_
    have hz := Option.some.inj h12; clear h12; subst hz
    exact zn_zreturn (pc := 21) dX9_mayLeave_21 rfl (by decide) hp
theorem c_X4_init {G : zG} {i0 : Nat} {r1 : Option Nat} {r2 : Option Nat} {x3 : Int32} {x4 : Int32} {S : zH} {out : zH} (h0 : f_X4_init i0 r1 r2 x3 x4 S = some out) : zct G M_X4_init 1 0 0 [vR 5 (some i0), vR 3 r1, vR 3 r2, vI x3, vI x4] S (zpo none out) := by
  refine zct_of (by decide) (Nat.le_of_ble_eq_true rfl) ?_
  show zn G M_X4_init 1 0 0 0 [(0, vR 5 (some i0)), (1, vR 3 r1), (2, vR 3 r2), (3, vI x3), (4, vI x4)] [] S _
  have hp : zpo none out none out := ⟨rfl, rfl⟩
  unfold f_X4_init at h0
  refine zn_aload_n (pc := 0) 0 dX4_init_0 rfl rfl ?_
  refine zn_objInit (pc := 1) dX4_init_1 ol_X4_3 ws_obj.1 ws_obj.2 (Nat.le_of_ble_eq_true rfl) ?_
  refine zn_aload_n (pc := 4) 0 dX4_init_4 rfl rfl ?_
  refine zn_bipush (pc := 5) (x := (-9)) dX4_init_5 (by decide) ?_
  obtain ⟨S1, hS2, h3⟩ := zltd h0; clear h0
  refine zn_putI (pc := 7) fp_X4_9_5.1 (fp_X4_9_5 (nm := "")).2 dX4_init_7 hS2 ?_
  refine zn_aload_n (pc := 10) 0 dX4_init_10 rfl rfl ?_
  refine zn_iconst (pc := 11) (x := 1) dX4_init_11 (by decide) ?_
  obtain ⟨S4, hS5, h6⟩ := zltd h3; clear h3
  refine zn_putZ (pc := 12) fp_X4_15_5.1 (fp_X4_15_5 (nm := "")).2 dX4_init_12 (by decide) hS5 ?_
  refine zn_aload_n (pc := 15) 0 dX4_init_15 rfl rfl ?_
  refine zn_aload_n (pc := 16) 1 dX4_init_16 rfl rfl ?_
  obtain ⟨S7, hS8, h9⟩ := zltd h6; clear h6
  refine zn_putR (pc := 17) fp_X4_19_5.1 fp_X4_19_5.2.2 fp_X4_19_5.2.1 dX4_init_17 hS8 ?_
  refine zn_aload_n (pc := 20) 0 dX4_init_20 rfl rfl ?_
  refine zn_aload_n (pc := 21) 2 dX4_init_21 rfl rfl ?_
  obtain ⟨S10, hS11, h12⟩ := zltd h9; clear h9
  refine zn_putR (pc := 22) fp_X4_23_5.1 fp_X4_23_5.2.2 fp_X4_23_5.2.1 dX4_init_22 hS11 ?_
  refine zn_aload_n (pc := 25) 0 dX4_init_25 rfl rfl ?_
  refine zn_iload_n (pc := 26) 3 dX4_init_26 rfl rfl ?_
  obtain ⟨hb16, h17⟩ := zgdd h12; clear h12
  obtain ⟨S13, hS14, h15⟩ := zltd h17; clear h17
  refine zn_putZ (pc := 27) fp_X4_26_5.1 fp_X4_26_5.2 dX4_init_27 (of_decide_eq_true hb16) hS14 ?_
  refine zn_aload_n (pc := 30) 0 dX4_init_30 rfl rfl ?_
  refine zn_iload (pc := 31) 4 dX4_init_31 rfl ?_
  obtain ⟨S18, hS19, h20⟩ := zltd h15; clear h15
  refine zn_putI (pc := 33) fp_X4_29_5.1 fp_X4_29_5.2 dX4_init_33 hS19 ?_
  have hz := Option.some.inj h20; clear h20; subst hz
  exact zn_return (pc := 36) dX4_init_36 rfl hp
theorem b_X9_ask_24 {G : zG} {Post : Option zV → zH → Prop} {i0 : Nat} {S : zH} {out : (Int32 × zH)} (h0 : f_X9_ask_24 i0 S = some out) (hp : Post (some (vI out.1)) out.2) : zn G M_X9_ask 11 0 0 24 [(0, vR 0 (some i0))] [] S Post := by
  unfold f_X9_ask_24 at h0
  refine zn_aload_n (pc := 24) 0 dX9_ask_24 rfl rfl ?_
  refine zn_iconst (pc := 25) (x := (-1)) dX9_ask_25 (by decide) ?_
  obtain ⟨o1, e2, h3⟩ := zbd h0; clear h0
  refine zn_cVv (pc := 26) (kc := 0) (ks := 0) (kc' := 0) (ks' := 0) (As := [vI (-1)]) (st := []) dX9_ask_26 cs_X9_78 pc_0 rfl rfl (Nat.le_of_ble_eq_true rfl) ((c_X9_refuse e2).mono (Nat.le_of_ble_eq_true rfl)) ?_
  have hz := Option.some.inj h3; clear h3; subst hz
  exact zn_ireturn (pc := 29) dX9_ask_29 rfl hp
theorem b_X9_ask_68 {G : zG} {Post : Option zV → zH → Prop} {i0 : Nat} {S : zH} {out : (Int32 × zH)} (h0 : f_X9_ask_68 i0 S = some out) (hp : Post (some (vI out.1)) out.2) : zn G M_X9_ask 11 0 0 68 [(0, vR 0 (some i0))] [] S Post := by
  unfold f_X9_ask_68 at h0
  refine zn_aload_n (pc := 68) 0 dX9_ask_68 rfl rfl ?_
  refine zn_bipush (pc := 69) (x := (-3)) dX9_ask_69 (by decide) ?_
  obtain ⟨o1, e2, h3⟩ := zbd h0; clear h0
  refine zn_cVv (pc := 71) (kc := 0) (ks := 0) (kc' := 0) (ks' := 0) (As := [vI (-3)]) (st := []) dX9_ask_71 cs_X9_78 pc_0 rfl rfl (Nat.le_of_ble_eq_true rfl) ((c_X9_refuse e2).mono (Nat.le_of_ble_eq_true rfl)) ?_
  have hz := Option.some.inj h3; clear h3; subst hz
  exact zn_ireturn (pc := 74) dX9_ask_74 rfl hp
theorem b_X9_ask_99 {G : zG} {Post : Option zV → zH → Prop} {i0 : Nat} {S : zH} {out : (Int32 × zH)} (h0 : f_X9_ask_99 i0 S = some out) (hp : Post (some (vI out.1)) out.2) : zn G M_X9_ask 11 0 0 99 [(0, vR 0 (some i0))] [] S Post := by
  unfold f_X9_ask_99 at h0
  refine zn_aload_n (pc := 99) 0 dX9_ask_99 rfl rfl ?_
  refine zn_bipush (pc := 100) (x := (-6)) dX9_ask_100 (by decide) ?_
  obtain ⟨o1, e2, h3⟩ := zbd h0; clear h0
  refine zn_cVv (pc := 102) (kc := 0) (ks := 0) (kc' := 0) (ks' := 0) (As := [vI (-6)]) (st := []) dX9_ask_102 cs_X9_78 pc_0 rfl rfl (Nat.le_of_ble_eq_true rfl) ((c_X9_refuse e2).mono (Nat.le_of_ble_eq_true rfl)) ?_
  have hz := Option.some.inj h3; clear h3; subst hz
  exact zn_ireturn (pc := 105) dX9_ask_105 rfl hp
theorem c_X9_ask {G : zG} {i0 : Nat} {x1 : Int32} {x2 : Int32} {x3 : Int32} {S : zH} {out : (Int32 × zH)} (h0 : f_X9_ask i0 x1 x2 x3 S = some out) : zct G M_X9_ask 11 5 1684 [vR 0 (some i0), vI x1, vI x2, vI x3] S (zpo (some (vI out.1)) out.2) := by
  refine zct_of (by decide) (Nat.le_of_ble_eq_true rfl) ?_
  show zn G M_X9_ask 11 5 1684 0 [(0, vR 0 (some i0)), (1, vI x1), (2, vI x2), (3, vI x3)] [] S _
  have hp : zpo (some (vI out.1)) out.2 (some (vI out.1)) out.2 := ⟨rfl, rfl⟩
  unfold f_X9_ask at h0
  refine zn_aload_n (pc := 0) 0 dX9_ask_0 rfl rfl ?_
  refine zn_iload_n (pc := 1) 1 dX9_ask_1 rfl rfl ?_
  obtain ⟨o4, e5, h6⟩ := zbd h0; clear h0
  refine zn_cVv (pc := 2) (kc := 5) (ks := 1684) (kc' := 0) (ks' := 0) (As := [vI x1]) (st := []) dX9_ask_2 cs_X9_155 pc_0 rfl rfl (Nat.le_of_ble_eq_true rfl) ((c_X9_accountAt e5).mono (Nat.le_of_ble_eq_true rfl)) ?_
  refine zn_astore (pc := 5) (ls' := [(4, vR 3 o4), (0, vR 0 (some i0)), (1, vI x1), (2, vI x2), (3, vI x3)]) dX9_ask_5 (Nat.le_of_ble_eq_true rfl) rfl ?_
  refine zn_aload_n (pc := 7) 1 dX9_ask_7 rfl rfl ?_
  refine zn_iload_n (pc := 8) 3 dX9_ask_8 rfl rfl ?_
  obtain ⟨o7, e8, h9⟩ := zbd h6; clear h6
  refine zn_cVv (pc := 9) (kc := 5) (ks := 1684) (kc' := 0) (ks' := 0) (As := [vI x2]) (st := []) dX9_ask_9 cs_X9_110 pc_0 rfl rfl (Nat.le_of_ble_eq_true rfl) ((c_X9_bankAt e8).mono (Nat.le_of_ble_eq_true rfl)) ?_
  refine zn_astore (pc := 12) (ls' := [(5, vR 2 o7), (4, vR 3 o4), (0, vR 0 (some i0)), (1, vI x1), (2, vI x2), (3, vI x3)]) dX9_ask_12 (Nat.le_of_ble_eq_true rfl) rfl ?_
  refine zn_aload (pc := 14) 1 dX9_ask_14 rfl ?_
  have h12 := h9; clear h9
  refine zn_ifnull (pc := 16) (tgt := 24) dX9_ask_16 (by decide) (fun hr10 => ?_) (fun i11 hr10 => ?_)
  · replace h12 := zop_n hr10 h12
    rw [hr10]
    refine zn_pick [2] rfl ?_
    refine zn_wid (kc0 := 0) (ks0 := 0) (Nat.le_of_ble_eq_true rfl) (Nat.le_of_ble_eq_true rfl) ?_
    exact b_X9_ask_24  h12 hp
  · replace h12 := zop_s hr10 h12
    rw [hr10]
    refine zn_aload (pc := 19) 0 dX9_ask_19 rfl ?_
    have h15 := h12; clear h12
    refine zn_ifnonnull (pc := 21) (tgt := 30) dX9_ask_21 (by decide) (fun i14 hr13 => ?_) (fun hr13 => ?_)
    · replace h15 := zop_s hr13 h15
      rw [hr13]
      refine zn_aload (pc := 30) 1 dX9_ask_30 rfl ?_
      refine zn_getI (pc := 32) fa_X9_159_3.1 fa_X9_159_3.2 dX9_ask_32 ?_
      have h17 := h15; clear h15
      refine zn_if_ne (pc := 35) (tgt := 68) dX9_ask_35 (by decide) (fun c16 => ?_) (fun c16 => ?_)
      · replace h17 := zif_f c16 h17
        refine zn_pick [2] rfl ?_
        refine zn_wid (kc0 := 0) (ks0 := 0) (Nat.le_of_ble_eq_true rfl) (Nat.le_of_ble_eq_true rfl) ?_
        exact b_X9_ask_68  h17 hp
      · replace h17 := zif_t c16 h17
        refine zn_aload_n (pc := 38) 2 dX9_ask_38 rfl rfl ?_
        refine zn_aload (pc := 39) 1 dX9_ask_39 rfl ?_
        obtain ⟨o18, e19, h20⟩ := zbd h17; clear h17
        refine zn_cVv (pc := 41) (kc := 5) (ks := 1684) (kc' := 0) (ks' := 0) (As := [vR 3 (some i11)]) (st := []) dX9_ask_41 cs_X9_169 pc_0 rfl rfl (Nat.le_of_ble_eq_true rfl) ((c_X9_isInMove e19).mono (Nat.le_of_ble_eq_true rfl)) ?_
        have h22 := h20; clear h20
        refine zn_if_ne (pc := 44) (tgt := 68) dX9_ask_44 (by decide) (fun c21 => ?_) (fun c21 => ?_)
        · replace h22 := zif_f c21 h22
          refine zn_pick [2] rfl ?_
          refine zn_wid (kc0 := 0) (ks0 := 0) (Nat.le_of_ble_eq_true rfl) (Nat.le_of_ble_eq_true rfl) ?_
          exact b_X9_ask_68  h22 hp
        · replace h22 := zif_t c21 h22
          refine zn_aload (pc := 47) 1 dX9_ask_47 rfl ?_
          refine zn_getR (pc := 49) fa_X9_176_3.1 fa_X9_176_3.2 dX9_ask_49 ?_
          refine zn_aload (pc := 52) 0 dX9_ask_52 rfl ?_
          have h24 := h22; clear h22
          refine zn_acmp_eq (pc := 54) (tgt := 68) rfl dX9_ask_54 (by decide) (fun c23 => ?_) (fun c23 => ?_)
          · replace h24 := zif_t c23 h24
            refine zn_pick [2] rfl ?_
            refine zn_wid (kc0 := 0) (ks0 := 0) (Nat.le_of_ble_eq_true rfl) (Nat.le_of_ble_eq_true rfl) ?_
            exact b_X9_ask_68  h24 hp
          · replace h24 := zif_f c23 h24
            refine zn_aload_n (pc := 57) 2 dX9_ask_57 rfl rfl ?_
            refine zn_aload (pc := 58) 1 dX9_ask_58 rfl ?_
            refine zn_aload (pc := 60) 0 dX9_ask_60 rfl ?_
            obtain ⟨o25, e26, h27⟩ := zbd h24; clear h24
            refine zn_cVv (pc := 62) (kc := 5) (ks := 1684) (kc' := 0) (ks' := 0) (As := [vR 3 (some i11), vR 2 (some i14)]) (st := []) dX9_ask_62 cs_X9_261 pc_0 rfl rfl (Nat.le_of_ble_eq_true rfl) ((c_X9_mayLeave e26).mono (Nat.le_of_ble_eq_true rfl)) ?_
            have h29 := h27; clear h27
            refine zn_if_ne (pc := 65) (tgt := 75) dX9_ask_65 (by decide) (fun c28 => ?_) (fun c28 => ?_)
            · replace h29 := zif_f c28 h29
              refine zn_aload_n (pc := 75) 2 dX9_ask_75 rfl rfl ?_
              refine zn_getR (pc := 76) fa_X9_35_0.1 fa_X9_35_0.2 dX9_ask_76 ?_
              obtain ⟨i30, hi31, h32⟩ := zbd h29; clear h29
              rw [hi31]
              obtain ⟨o33, e34, h35⟩ := zbd h32; clear h32
              refine zn_cVv (pc := 79) (kc := 5) (ks := 1684) (kc' := 0) (ks' := 0) (As := []) (st := []) dX9_ask_79 cls_X9_142 pc_12 rfl rfl (Nat.le_of_ble_eq_true rfl) (zc_size (p := 12) (by decide) (Nat.le_of_ble_eq_true rfl) e34) ?_
              refine zn_bipush (pc := 82) (x := 30) dX9_ask_82 (by decide) ?_
              have h37 := h35; clear h35
              refine zn_icmp_ge (pc := 84) (tgt := 99) dX9_ask_84 (by decide) (fun c36 => ?_) (fun c36 => ?_)
              · replace h37 := zif_t c36 h37
                refine zn_pick [2] rfl ?_
                refine zn_wid (kc0 := 0) (ks0 := 0) (Nat.le_of_ble_eq_true rfl) (Nat.le_of_ble_eq_true rfl) ?_
                exact b_X9_ask_99  h37 hp
              · replace h37 := zif_f c36 h37
                refine zn_aload_n (pc := 87) 2 dX9_ask_87 rfl rfl ?_
                refine zn_getR (pc := 88) fa_X9_28_0.1 fa_X9_28_0.2 dX9_ask_88 ?_
                obtain ⟨i38, hi39, h40⟩ := zbd h37; clear h37
                rw [hi39]
                obtain ⟨o41, e42, h43⟩ := zbd h40; clear h40
                refine zn_cVv (pc := 91) (kc := 5) (ks := 1684) (kc' := 0) (ks' := 0) (As := []) (st := []) dX9_ask_91 cls_X9_142 pc_10 rfl rfl (Nat.le_of_ble_eq_true rfl) (zc_size (p := 10) (by decide) (Nat.le_of_ble_eq_true rfl) e42) ?_
                refine zn_bipush (pc := 94) (x := 40) dX9_ask_94 (by decide) ?_
                have h45 := h43; clear h43
                refine zn_icmp_lt (pc := 96) (tgt := 106) dX9_ask_96 (by decide) (fun c44 => ?_) (fun c44 => ?_)
                · replace h45 := zif_t c44 h45
                  refine zn_aload_n (pc := 106) 2 dX9_ask_106 rfl rfl ?_
                  refine zn_aload (pc := 107) 0 dX9_ask_107 rfl ?_
                  refine zn_aload (pc := 109) 1 dX9_ask_109 rfl ?_
                  refine zn_getI (pc := 111) fa_X9_265_3.1 fa_X9_265_3.2 dX9_ask_111 ?_
                  refine zn_aload (pc := 114) 1 dX9_ask_114 rfl ?_
                  refine zn_getI (pc := 116) fa_X9_268_3.1 fa_X9_268_3.2 dX9_ask_116 ?_
                  obtain ⟨o46, e47, h48⟩ := zbd h45; clear h45
                  refine zn_cVv (pc := 119) (kc := 2) (ks := 91) (kc' := 3) (ks' := 1593) (As := [vR 2 (some i14), vI (zI o25.2 3 i11 2), vI (zI o25.2 3 i11 3)]) (st := []) dX9_ask_119 cs_X9_146 pc_0 rfl rfl (Nat.le_of_ble_eq_true rfl) ((c_X9_openAccount e47).mono (Nat.le_of_ble_eq_true rfl)) ?_
                  refine zn_astore (pc := 122) (ls' := [(6, vR 3 o46.1), (5, vR 2 (some i14)), (4, vR 3 (some i11)), (0, vR 0 (some i0)), (1, vI x1), (2, vI x2), (3, vI x3)]) dX9_ask_122 (Nat.le_of_ble_eq_true rfl) rfl ?_
                  refine zn_aload_n (pc := 124) 3 dX9_ask_124 rfl rfl ?_
                  refine zn_getR (pc := 125) fa_X9_35_0.1 fa_X9_35_0.2 dX9_ask_125 ?_
                  obtain ⟨S49, hS50, h51⟩ := zltd h48; clear h48
                  refine zn_new (pc := 128) (M := M_X9_ask) (kc := 1) (ks := 80) (N := 11) nw_X9_271_5 dX9_ask_128 hS50 ?_
                  refine zn_dup (pc := 131) dX9_ask_131 rfl ?_
                  refine zn_aload (pc := 132) 2 dX9_ask_132 rfl ?_
                  refine zn_aload (pc := 134) 0 dX9_ask_134 rfl ?_
                  refine zn_iload_n (pc := 136) 6 dX9_ask_136 rfl rfl ?_
                  refine zn_aload_n (pc := 137) 3 dX9_ask_137 rfl rfl ?_
                  refine zn_getR (pc := 138) fa_X9_10_0.1 fa_X9_10_0.2 dX9_ask_138 ?_
                  obtain ⟨i52, hi53, h54⟩ := zbd h51; clear h51
                  rw [hi53]
                  refine zn_getI (pc := 141) fa_X9_71_1.1 fa_X9_71_1.2 dX9_ask_141 ?_
                  obtain ⟨o55, e56, h57⟩ := zbd h54; clear h54
                  refine zn_cI0 (pc := 144) (kc := 1) (ks := 80) (kc' := 0) (ks' := 0) (As := [vR 3 (some i11), vR 3 o46.1, vI x3, vI (zI S49 1 i52 4)]) (st := [vR 5 (some (zN o46.2 5)), vR 12 (zR o46.2 0 i0 4)]) dX9_ask_144 cs_X9_273 rfl rfl (Nat.le_of_ble_eq_true rfl) ((c_X4_init e56).mono (Nat.le_of_ble_eq_true rfl)) ?_
                  obtain ⟨i58, hi59, h60⟩ := zbd h57; clear h57
                  rw [hi59]
                  obtain ⟨o61, e62, h63⟩ := zbd h60; clear h60
                  refine zn_cVv (pc := 147) (kc := 0) (ks := 0) (kc' := 1) (ks' := 80) (As := [vR 5 (some (zN o46.2 5))]) (st := []) dX9_ask_147 cla_X9_229 pc_12 rfl rfl (Nat.le_of_ble_eq_true rfl) (zc_add (p := 12) (by decide) rfl (Nat.le_of_ble_eq_true rfl) e62) ?_
                  refine zn_pop (pc := 150) dX9_ask_150 rfl ?_
                  refine zn_aload_n (pc := 151) 3 dX9_ask_151 rfl rfl ?_
                  refine zn_getR (pc := 152) fa_X9_35_0.1 fa_X9_35_0.2 dX9_ask_152 ?_
                  obtain ⟨i64, hi65, h66⟩ := zbd h63; clear h63
                  rw [hi65]
                  obtain ⟨o67, e68, h69⟩ := zbd h66; clear h66
                  refine zn_cVv (pc := 155) (kc := 0) (ks := 0) (kc' := 0) (ks' := 0) (As := []) (st := []) dX9_ask_155 cls_X9_142 pc_12 rfl rfl (Nat.le_of_ble_eq_true rfl) (zc_size (p := 12) (by decide) (Nat.le_of_ble_eq_true rfl) e68) ?_
                  refine zn_iconst (pc := 158) (x := 1) dX9_ask_158 (by decide) ?_
                  refine zn_isub (pc := 159) dX9_ask_159 ?_
                  have hz := Option.some.inj h69; clear h69; subst hz
                  exact zn_ireturn (pc := 160) dX9_ask_160 rfl hp
                · replace h45 := zif_f c44 h45
                  refine zn_pick [2] rfl ?_
                  refine zn_wid (kc0 := 0) (ks0 := 0) (Nat.le_of_ble_eq_true rfl) (Nat.le_of_ble_eq_true rfl) ?_
                  exact b_X9_ask_99  h45 hp
            · replace h29 := zif_t c28 h29
              refine zn_pick [2] rfl ?_
              refine zn_wid (kc0 := 0) (ks0 := 0) (Nat.le_of_ble_eq_true rfl) (Nat.le_of_ble_eq_true rfl) ?_
              exact b_X9_ask_68  h29 hp
    · replace h15 := zop_n hr13 h15
      rw [hr13]
      refine zn_pick [2] rfl ?_
      refine zn_wid (kc0 := 0) (ks0 := 0) (Nat.le_of_ble_eq_true rfl) (Nat.le_of_ble_eq_true rfl) ?_
      exact b_X9_ask_24  h15 hp
theorem c_X9_moveAt {G : zG} {i0 : Nat} {x1 : Int32} {S : zH} {out : (Option Nat)} (h0 : f_X9_moveAt i0 x1 S = some out) : zct G M_X9_moveAt 4 0 0 [vR 0 (some i0), vI x1] S (zpo (some (vR 5 out)) S) := by
  refine zct_of (by decide) (Nat.le_of_ble_eq_true rfl) ?_
  show zn G M_X9_moveAt 4 0 0 0 [(0, vR 0 (some i0)), (1, vI x1)] [] S _
  have hp : zpo (some (vR 5 out)) S (some (vR 5 out)) S := ⟨rfl, rfl⟩
  unfold f_X9_moveAt at h0
  refine zn_iload_n (pc := 0) 1 dX9_moveAt_0 rfl rfl ?_
  have h2 := h0; clear h0
  refine zn_if_lt (pc := 1) (tgt := 29) dX9_moveAt_1 (by decide) (fun c1 => ?_) (fun c1 => ?_)
  · replace h2 := zif_t c1 h2
    refine zn_null (pc := 29) 5 dX9_moveAt_29 ?_
    have hz := Option.some.inj h2; clear h2; subst hz
    exact zn_areturn (pc := 30) dX9_moveAt_30 rfl (Or.inl ⟨_, rfl⟩) hp
  · replace h2 := zif_f c1 h2
    refine zn_iload_n (pc := 4) 1 dX9_moveAt_4 rfl rfl ?_
    refine zn_aload_n (pc := 5) 0 dX9_moveAt_5 rfl rfl ?_
    refine zn_getR (pc := 6) fa_X9_35_0.1 fa_X9_35_0.2 dX9_moveAt_6 ?_
    obtain ⟨i3, hi4, h5⟩ := zbd h2; clear h2
    rw [hi4]
    obtain ⟨o6, e7, h8⟩ := zbd h5; clear h5
    refine zn_cVv (pc := 9) (kc := 0) (ks := 0) (kc' := 0) (ks' := 0) (As := []) (st := [vI x1]) dX9_moveAt_9 cls_X9_142 pc_12 rfl rfl (Nat.le_of_ble_eq_true rfl) (zc_size (p := 12) (by decide) (Nat.le_of_ble_eq_true rfl) e7) ?_
    have h10 := h8; clear h8
    refine zn_icmp_ge (pc := 12) (tgt := 29) dX9_moveAt_12 (by decide) (fun c9 => ?_) (fun c9 => ?_)
    · replace h10 := zif_t c9 h10
      refine zn_null (pc := 29) 5 dX9_moveAt_29 ?_
      have hz := Option.some.inj h10; clear h10; subst hz
      exact zn_areturn (pc := 30) dX9_moveAt_30 rfl (Or.inl ⟨_, rfl⟩) hp
    · replace h10 := zif_f c9 h10
      refine zn_aload_n (pc := 15) 0 dX9_moveAt_15 rfl rfl ?_
      refine zn_getR (pc := 16) fa_X9_35_0.1 fa_X9_35_0.2 dX9_moveAt_16 ?_
      refine zn_iload_n (pc := 19) 1 dX9_moveAt_19 rfl rfl ?_
      obtain ⟨i11, hi12, h13⟩ := zbd h10; clear h10
      rw [hi12]
      obtain ⟨o14, e15, h16⟩ := zbd h13; clear h13
      refine zn_cVv (pc := 20) (kc := 0) (ks := 0) (kc' := 0) (ks' := 0) (As := [vI x1]) (st := []) dX9_moveAt_20 clg_X9_353 pc_12 rfl rfl (Nat.le_of_ble_eq_true rfl) (zc_get (p := 12) (by decide) rfl (Nat.le_of_ble_eq_true rfl) e15) ?_
      refine zn_cast (pc := 23) cl_X9_271 pc_5 dX9_moveAt_23 ?_
      refine zn_goto (pc := 26) (tgt := 30) dX9_moveAt_26 (by decide) ?_
      have hz := Option.some.inj h16; clear h16; subst hz
      exact zn_areturn (pc := 30) dX9_moveAt_30 rfl (Or.inl ⟨_, rfl⟩) hp
theorem b_X9_agree_40 {G : zG} {Post : Option zV → zH → Prop} {i0 : Nat} {S : zH} {out : (Int32 × zH)} (h0 : f_X9_agree_40 i0 S = some out) (hp : Post (some (vI out.1)) out.2) : zn G M_X9_agree 5 0 0 40 [(0, vR 0 (some i0))] [] S Post := by
  unfold f_X9_agree_40 at h0
  refine zn_aload_n (pc := 40) 0 dX9_agree_40 rfl rfl ?_
  refine zn_bipush (pc := 41) (x := (-3)) dX9_agree_41 (by decide) ?_
  obtain ⟨o1, e2, h3⟩ := zbd h0; clear h0
  refine zn_cVv (pc := 43) (kc := 0) (ks := 0) (kc' := 0) (ks' := 0) (As := [vI (-3)]) (st := []) dX9_agree_43 cs_X9_78 pc_0 rfl rfl (Nat.le_of_ble_eq_true rfl) ((c_X9_refuse e2).mono (Nat.le_of_ble_eq_true rfl)) ?_
  have hz := Option.some.inj h3; clear h3; subst hz
  exact zn_ireturn (pc := 46) dX9_agree_46 rfl hp
theorem c_X9_agree {G : zG} {i0 : Nat} {x1 : Int32} {S : zH} {out : (Int32 × zH)} (h0 : f_X9_agree i0 x1 S = some out) : zct G M_X9_agree 5 0 0 [vR 0 (some i0), vI x1] S (zpo (some (vI out.1)) out.2) := by
  refine zct_of (by decide) (Nat.le_of_ble_eq_true rfl) ?_
  show zn G M_X9_agree 5 0 0 0 [(0, vR 0 (some i0)), (1, vI x1)] [] S _
  have hp : zpo (some (vI out.1)) out.2 (some (vI out.1)) out.2 := ⟨rfl, rfl⟩
  unfold f_X9_agree at h0
  refine zn_aload_n (pc := 0) 0 dX9_agree_0 rfl rfl ?_
  refine zn_iload_n (pc := 1) 1 dX9_agree_1 rfl rfl ?_
  obtain ⟨o4, e5, h6⟩ := zbd h0; clear h0
  refine zn_cVv (pc := 2) (kc := 0) (ks := 0) (kc' := 0) (ks' := 0) (As := [vI x1]) (st := []) dX9_agree_2 cs_X9_276 pc_0 rfl rfl (Nat.le_of_ble_eq_true rfl) ((c_X9_moveAt e5).mono (Nat.le_of_ble_eq_true rfl)) ?_
  refine zn_astore_n (pc := 5) (ls' := [(2, vR 5 o4), (0, vR 0 (some i0)), (1, vI x1)]) dX9_agree_5 rfl (Nat.le_of_ble_eq_true rfl) rfl ?_
  refine zn_aload_n (pc := 6) 0 dX9_agree_6 rfl rfl ?_
  have h9 := h6; clear h6
  refine zn_ifnonnull (pc := 7) (tgt := 16) dX9_agree_7 (by decide) (fun i8 hr7 => ?_) (fun hr7 => ?_)
  · replace h9 := zop_s hr7 h9
    rw [hr7]
    refine zn_aload_n (pc := 16) 0 dX9_agree_16 rfl rfl ?_
    refine zn_getR (pc := 17) fa_X9_280_5.1 fa_X9_280_5.2 dX9_agree_17 ?_
    obtain ⟨i13, hi14, h15⟩ := zbd h9; clear h9
    rw [hi14]
    obtain ⟨o16, e17, h18⟩ := zbd h15; clear h15
    refine zn_cVv (pc := 20) (kc := 0) (ks := 0) (kc' := 0) (ks' := 0) (As := []) (st := []) dX9_agree_20 cs_X9_283 pc_3 rfl rfl (Nat.le_of_ble_eq_true rfl) ((c_X0_isJoint e17).mono (Nat.le_of_ble_eq_true rfl)) ?_
    have h20 := h18; clear h18
    refine zn_if_eq (pc := 23) (tgt := 40) dX9_agree_23 (by decide) (fun c19 => ?_) (fun c19 => ?_)
    · replace h20 := zif_t c19 h20
      refine zn_pick [1] rfl ?_
      exact b_X9_agree_40  h20 hp
    · replace h20 := zif_f c19 h20
      refine zn_aload_n (pc := 26) 0 dX9_agree_26 rfl rfl ?_
      refine zn_getI (pc := 27) fa_X9_287_5.1 fa_X9_287_5.2 dX9_agree_27 ?_
      have h22 := h20; clear h20
      refine zn_if_ne (pc := 30) (tgt := 40) dX9_agree_30 (by decide) (fun c21 => ?_) (fun c21 => ?_)
      · replace h22 := zif_f c21 h22
        refine zn_pick [1] rfl ?_
        exact b_X9_agree_40  h22 hp
      · replace h22 := zif_t c21 h22
        refine zn_aload_n (pc := 33) 0 dX9_agree_33 rfl rfl ?_
        refine zn_getI (pc := 34) fa_X9_290_5.1 fa_X9_290_5.2 dX9_agree_34 ?_
        have h24 := h22; clear h22
        refine zn_if_ne (pc := 37) (tgt := 47) dX9_agree_37 (by decide) (fun c23 => ?_) (fun c23 => ?_)
        · replace h24 := zif_f c23 h24
          refine zn_aload_n (pc := 47) 0 dX9_agree_47 rfl rfl ?_
          refine zn_iconst (pc := 48) (x := 1) dX9_agree_48 (by decide) ?_
          obtain ⟨S25, hS26, h27⟩ := zltd h24; clear h24
          refine zn_putZ (pc := 49) fp_X9_287_5.1 (fp_X9_287_5 (nm := "")).2 dX9_agree_49 (by decide) hS26 ?_
          refine zn_iconst (pc := 52) (x := 1) dX9_agree_52 (by decide) ?_
          have hz := Option.some.inj h27; clear h27; subst hz
          exact zn_ireturn (pc := 53) dX9_agree_53 rfl hp
        · replace h24 := zif_t c23 h24
          refine zn_pick [1] rfl ?_
          exact b_X9_agree_40  h24 hp
  · replace h9 := zop_n hr7 h9
    rw [hr7]
    refine zn_aload_n (pc := 10) 1 dX9_agree_10 rfl rfl ?_
    refine zn_iconst (pc := 11) (x := (-1)) dX9_agree_11 (by decide) ?_
    obtain ⟨o10, e11, h12⟩ := zbd h9; clear h9
    refine zn_cVv (pc := 12) (kc := 0) (ks := 0) (kc' := 0) (ks' := 0) (As := [vI (-1)]) (st := []) dX9_agree_12 cs_X9_78 pc_0 rfl rfl (Nat.le_of_ble_eq_true rfl) ((c_X9_refuse e11).mono (Nat.le_of_ble_eq_true rfl)) ?_
    have hz := Option.some.inj h12; clear h12; subst hz
    exact zn_ireturn (pc := 15) dX9_agree_15 rfl hp
theorem b_X9_takeBack_32 {G : zG} {Post : Option zV → zH → Prop} {i0 : Nat} {S : zH} {out : (Int32 × zH)} (h0 : f_X9_takeBack_32 i0 S = some out) (hp : Post (some (vI out.1)) out.2) : zn G M_X9_takeBack 5 0 0 32 [(0, vR 0 (some i0))] [] S Post := by
  unfold f_X9_takeBack_32 at h0
  refine zn_aload_n (pc := 32) 0 dX9_takeBack_32 rfl rfl ?_
  refine zn_bipush (pc := 33) (x := (-3)) dX9_takeBack_33 (by decide) ?_
  obtain ⟨o1, e2, h3⟩ := zbd h0; clear h0
  refine zn_cVv (pc := 35) (kc := 0) (ks := 0) (kc' := 0) (ks' := 0) (As := [vI (-3)]) (st := []) dX9_takeBack_35 cs_X9_78 pc_0 rfl rfl (Nat.le_of_ble_eq_true rfl) ((c_X9_refuse e2).mono (Nat.le_of_ble_eq_true rfl)) ?_
  have hz := Option.some.inj h3; clear h3; subst hz
  exact zn_ireturn (pc := 38) dX9_takeBack_38 rfl hp
theorem c_X9_takeBack {G : zG} {i0 : Nat} {x1 : Int32} {S : zH} {out : (Int32 × zH)} (h0 : f_X9_takeBack i0 x1 S = some out) : zct G M_X9_takeBack 5 0 0 [vR 0 (some i0), vI x1] S (zpo (some (vI out.1)) out.2) := by
  refine zct_of (by decide) (Nat.le_of_ble_eq_true rfl) ?_
  show zn G M_X9_takeBack 5 0 0 0 [(0, vR 0 (some i0)), (1, vI x1)] [] S _
  have hp : zpo (some (vI out.1)) out.2 (some (vI out.1)) out.2 := ⟨rfl, rfl⟩
  unfold f_X9_takeBack at h0
  refine zn_aload_n (pc := 0) 0 dX9_takeBack_0 rfl rfl ?_
  refine zn_iload_n (pc := 1) 1 dX9_takeBack_1 rfl rfl ?_
  obtain ⟨o4, e5, h6⟩ := zbd h0; clear h0
  refine zn_cVv (pc := 2) (kc := 0) (ks := 0) (kc' := 0) (ks' := 0) (As := [vI x1]) (st := []) dX9_takeBack_2 cs_X9_276 pc_0 rfl rfl (Nat.le_of_ble_eq_true rfl) ((c_X9_moveAt e5).mono (Nat.le_of_ble_eq_true rfl)) ?_
  refine zn_astore_n (pc := 5) (ls' := [(2, vR 5 o4), (0, vR 0 (some i0)), (1, vI x1)]) dX9_takeBack_5 rfl (Nat.le_of_ble_eq_true rfl) rfl ?_
  refine zn_aload_n (pc := 6) 0 dX9_takeBack_6 rfl rfl ?_
  have h9 := h6; clear h6
  refine zn_ifnonnull (pc := 7) (tgt := 16) dX9_takeBack_7 (by decide) (fun i8 hr7 => ?_) (fun hr7 => ?_)
  · replace h9 := zop_s hr7 h9
    rw [hr7]
    refine zn_aload_n (pc := 16) 0 dX9_takeBack_16 rfl rfl ?_
    refine zn_getI (pc := 17) fa_X9_290_5.1 fa_X9_290_5.2 dX9_takeBack_17 ?_
    have h14 := h9; clear h9
    refine zn_if_eq (pc := 20) (tgt := 32) dX9_takeBack_20 (by decide) (fun c13 => ?_) (fun c13 => ?_)
    · replace h14 := zif_t c13 h14
      refine zn_pick [1] rfl ?_
      exact b_X9_takeBack_32  h14 hp
    · replace h14 := zif_f c13 h14
      refine zn_aload_n (pc := 23) 0 dX9_takeBack_23 rfl rfl ?_
      refine zn_getI (pc := 24) fa_X9_293_5.1 fa_X9_293_5.2 dX9_takeBack_24 ?_
      refine zn_bipush (pc := 27) (x := 6) dX9_takeBack_27 (by decide) ?_
      have h16 := h14; clear h14
      refine zn_icmp_lt (pc := 29) (tgt := 39) dX9_takeBack_29 (by decide) (fun c15 => ?_) (fun c15 => ?_)
      · replace h16 := zif_t c15 h16
        refine zn_aload_n (pc := 39) 0 dX9_takeBack_39 rfl rfl ?_
        refine zn_iconst (pc := 40) (x := 3) dX9_takeBack_40 (by decide) ?_
        obtain ⟨o17, e18, h19⟩ := zbd h16; clear h16
        refine zn_cV0 (pc := 41) (kc := 0) (ks := 0) (kc' := 0) (ks' := 0) (As := [vI 3]) (st := []) dX9_takeBack_41 cs_X9_296 pc_5 rfl rfl (Nat.le_of_ble_eq_true rfl) ((c_X4_stop e18).mono (Nat.le_of_ble_eq_true rfl)) ?_
        refine zn_iconst (pc := 44) (x := 1) dX9_takeBack_44 (by decide) ?_
        have hz := Option.some.inj h19; clear h19; subst hz
        exact zn_ireturn (pc := 45) dX9_takeBack_45 rfl hp
      · replace h16 := zif_f c15 h16
        refine zn_pick [1] rfl ?_
        exact b_X9_takeBack_32  h16 hp
  · replace h9 := zop_n hr7 h9
    rw [hr7]
    refine zn_aload_n (pc := 10) 1 dX9_takeBack_10 rfl rfl ?_
    refine zn_iconst (pc := 11) (x := (-1)) dX9_takeBack_11 (by decide) ?_
    obtain ⟨o10, e11, h12⟩ := zbd h9; clear h9
    refine zn_cVv (pc := 12) (kc := 0) (ks := 0) (kc' := 0) (ks' := 0) (As := [vI (-1)]) (st := []) dX9_takeBack_12 cs_X9_78 pc_0 rfl rfl (Nat.le_of_ble_eq_true rfl) ((c_X9_refuse e11).mono (Nat.le_of_ble_eq_true rfl)) ?_
    have hz := Option.some.inj h12; clear h12; subst hz
    exact zn_ireturn (pc := 15) dX9_takeBack_15 rfl hp
theorem c_X9_moveOf {G : zG} {i0 : Nat} {x1 : Int32} {x2 : Int32} {S : zH} {out : (Int32 × zH)} (h0 : f_X9_moveOf i0 x1 x2 S = some out) : zct G M_X9_moveOf 5 0 0 [vR 0 (some i0), vI x1, vI x2] S (zpo (some (vI out.1)) out.2) := by
  refine zct_of (by decide) (Nat.le_of_ble_eq_true rfl) ?_
  show zn G M_X9_moveOf 5 0 0 0 [(0, vR 0 (some i0)), (1, vI x1), (2, vI x2)] [] S _
  have hp : zpo (some (vI out.1)) out.2 (some (vI out.1)) out.2 := ⟨rfl, rfl⟩
  unfold f_X9_moveOf at h0
  refine zn_aload_n (pc := 0) 0 dX9_moveOf_0 rfl rfl ?_
  refine zn_iload_n (pc := 1) 1 dX9_moveOf_1 rfl rfl ?_
  obtain ⟨o1, e2, h3⟩ := zbd h0; clear h0
  refine zn_cVv (pc := 2) (kc := 0) (ks := 0) (kc' := 0) (ks' := 0) (As := [vI x1]) (st := []) dX9_moveOf_2 cs_X9_276 pc_0 rfl rfl (Nat.le_of_ble_eq_true rfl) ((c_X9_moveAt e2).mono (Nat.le_of_ble_eq_true rfl)) ?_
  refine zn_astore_n (pc := 5) (ls' := [(3, vR 5 o1), (0, vR 0 (some i0)), (1, vI x1), (2, vI x2)]) dX9_moveOf_5 rfl (Nat.le_of_ble_eq_true rfl) rfl ?_
  refine zn_aload_n (pc := 6) 0 dX9_moveOf_6 rfl rfl ?_
  have h6 := h3; clear h3
  refine zn_ifnonnull (pc := 7) (tgt := 16) dX9_moveOf_7 (by decide) (fun i5 hr4 => ?_) (fun hr4 => ?_)
  · replace h6 := zop_s hr4 h6
    rw [hr4]
    refine zn_iload_n (pc := 16) 3 dX9_moveOf_16 rfl rfl ?_
    have h11 := h6; clear h6
    by_cases c10 : x2 = 0
    · replace h11 := zif_t c10 h11
      refine zn_tsIn (pc := 17) (tgt := 68) (off := 51) dX9_moveOf_17 c10 (by decide) (by decide) ?_
      refine zn_aload_n (pc := 68) 0 dX9_moveOf_68 rfl rfl ?_
      refine zn_getR (pc := 69) fa_X9_280_5.1 fa_X9_280_5.2 dX9_moveOf_69 ?_
      obtain ⟨i12, hi13, h14⟩ := zbd h11; clear h11
      rw [hi13]
      refine zn_getI (pc := 72) fa_X9_150_3.1 fa_X9_150_3.2 dX9_moveOf_72 ?_
      have hz := Option.some.inj h14; clear h14; subst hz
      exact zn_ireturn (pc := 75) dX9_moveOf_75 rfl hp
    · replace h11 := zif_f c10 h11
      have h16 := h11; clear h11
      by_cases c15 : x2 = 1
      · replace h16 := zif_t c15 h16
        refine zn_tsIn (pc := 17) (tgt := 76) (off := 59) dX9_moveOf_17 c15 (by decide) (by decide) ?_
        refine zn_aload_n (pc := 76) 0 dX9_moveOf_76 rfl rfl ?_
        refine zn_getR (pc := 77) fa_X9_299_5.1 fa_X9_299_5.2 dX9_moveOf_77 ?_
        obtain ⟨i17, hi18, h19⟩ := zbd h16; clear h16
        rw [hi18]
        refine zn_getI (pc := 80) fa_X9_150_3.1 fa_X9_150_3.2 dX9_moveOf_80 ?_
        have hz := Option.some.inj h19; clear h19; subst hz
        exact zn_ireturn (pc := 83) dX9_moveOf_83 rfl hp
      · replace h16 := zif_f c15 h16
        have h21 := h16; clear h16
        by_cases c20 : x2 = 2
        · replace h21 := zif_t c20 h21
          refine zn_tsIn (pc := 17) (tgt := 84) (off := 67) dX9_moveOf_17 c20 (by decide) (by decide) ?_
          refine zn_aload_n (pc := 84) 0 dX9_moveOf_84 rfl rfl ?_
          refine zn_getI (pc := 85) fa_X9_293_5.1 fa_X9_293_5.2 dX9_moveOf_85 ?_
          have hz := Option.some.inj h21; clear h21; subst hz
          exact zn_ireturn (pc := 88) dX9_moveOf_88 rfl hp
        · replace h21 := zif_f c20 h21
          have h23 := h21; clear h21
          by_cases c22 : x2 = 3
          · replace h23 := zif_t c22 h23
            refine zn_tsIn (pc := 17) (tgt := 89) (off := 72) dX9_moveOf_17 c22 (by decide) (by decide) ?_
            refine zn_aload_n (pc := 89) 0 dX9_moveOf_89 rfl rfl ?_
            refine zn_getI (pc := 90) fa_X9_290_5.1 fa_X9_290_5.2 dX9_moveOf_90 ?_
            have h25 := h23; clear h23
            refine zn_if_eq (pc := 93) (tgt := 100) dX9_moveOf_93 (by decide) (fun c24 => ?_) (fun c24 => ?_)
            · replace h25 := zif_t c24 h25
              refine zn_iconst (pc := 100) (x := 0) dX9_moveOf_100 (by decide) ?_
              have hz := Option.some.inj h25; clear h25; subst hz
              exact zn_ireturn (pc := 101) dX9_moveOf_101 rfl hp
            · replace h25 := zif_f c24 h25
              refine zn_iconst (pc := 96) (x := 1) dX9_moveOf_96 (by decide) ?_
              refine zn_goto (pc := 97) (tgt := 101) dX9_moveOf_97 (by decide) ?_
              have hz := Option.some.inj h25; clear h25; subst hz
              exact zn_ireturn (pc := 101) dX9_moveOf_101 rfl hp
          · replace h23 := zif_f c22 h23
            have h27 := h23; clear h23
            by_cases c26 : x2 = 4
            · replace h27 := zif_t c26 h27
              refine zn_tsIn (pc := 17) (tgt := 102) (off := 85) dX9_moveOf_17 c26 (by decide) (by decide) ?_
              refine zn_aload_n (pc := 102) 0 dX9_moveOf_102 rfl rfl ?_
              refine zn_getI (pc := 103) fa_X9_302_5.1 fa_X9_302_5.2 dX9_moveOf_103 ?_
              have hz := Option.some.inj h27; clear h27; subst hz
              exact zn_ireturn (pc := 106) dX9_moveOf_106 rfl hp
            · replace h27 := zif_f c26 h27
              have h29 := h27; clear h27
              by_cases c28 : x2 = 5
              · replace h29 := zif_t c28 h29
                refine zn_tsIn (pc := 17) (tgt := 107) (off := 90) dX9_moveOf_17 c28 (by decide) (by decide) ?_
                refine zn_aload_n (pc := 107) 0 dX9_moveOf_107 rfl rfl ?_
                refine zn_getI (pc := 108) fa_X9_305_5.1 fa_X9_305_5.2 dX9_moveOf_108 ?_
                have hz := Option.some.inj h29; clear h29; subst hz
                exact zn_ireturn (pc := 111) dX9_moveOf_111 rfl hp
              · replace h29 := zif_f c28 h29
                have h31 := h29; clear h29
                by_cases c30 : x2 = 6
                · replace h31 := zif_t c30 h31
                  refine zn_tsIn (pc := 17) (tgt := 112) (off := 95) dX9_moveOf_17 c30 (by decide) (by decide) ?_
                  refine zn_aload_n (pc := 112) 0 dX9_moveOf_112 rfl rfl ?_
                  refine zn_getR (pc := 113) fa_X9_308_5.1 fa_X9_308_5.2 dX9_moveOf_113 ?_
                  have h34 := h31; clear h31
                  refine zn_ifnonnull (pc := 116) (tgt := 124) dX9_moveOf_116 (by decide) (fun i33 hr32 => ?_) (fun hr32 => ?_)
                  · replace h34 := zop_s hr32 h34
                    refine zn_aload_n (pc := 124) 0 dX9_moveOf_124 rfl rfl ?_
                    refine zn_getR (pc := 125) fa_X9_308_5.1 fa_X9_308_5.2 dX9_moveOf_125 ?_
                    obtain ⟨i35, hi36, h37⟩ := zbd h34; clear h34
                    rw [hi36]
                    refine zn_getI (pc := 128) fa_X9_180_2.1 fa_X9_180_2.2 dX9_moveOf_128 ?_
                    have hz := Option.some.inj h37; clear h37; subst hz
                    exact zn_ireturn (pc := 131) dX9_moveOf_131 rfl hp
                  · replace h34 := zop_n hr32 h34
                    refine zn_bipush (pc := 119) (x := (-9)) dX9_moveOf_119 (by decide) ?_
                    refine zn_goto (pc := 121) (tgt := 131) dX9_moveOf_121 (by decide) ?_
                    have hz := Option.some.inj h34; clear h34; subst hz
                    exact zn_ireturn (pc := 131) dX9_moveOf_131 rfl hp
                · replace h31 := zif_f c30 h31
                  have h39 := h31; clear h31
                  by_cases c38 : x2 = 7
                  · replace h39 := zif_t c38 h39
                    refine zn_tsIn (pc := 17) (tgt := 132) (off := 115) dX9_moveOf_17 c38 (by decide) (by decide) ?_
                    refine zn_aload_n (pc := 132) 0 dX9_moveOf_132 rfl rfl ?_
                    refine zn_getI (pc := 133) fa_X9_311_5.1 fa_X9_311_5.2 dX9_moveOf_133 ?_
                    have hz := Option.some.inj h39; clear h39; subst hz
                    exact zn_ireturn (pc := 136) dX9_moveOf_136 rfl hp
                  · replace h39 := zif_f c38 h39
                    have h41 := h39; clear h39
                    by_cases c40 : x2 = 8
                    · replace h41 := zif_t c40 h41
                      refine zn_tsIn (pc := 17) (tgt := 137) (off := 120) dX9_moveOf_17 c40 (by decide) (by decide) ?_
                      refine zn_aload_n (pc := 137) 0 dX9_moveOf_137 rfl rfl ?_
                      refine zn_getI (pc := 138) fa_X9_314_5.1 fa_X9_314_5.2 dX9_moveOf_138 ?_
                      have hz := Option.some.inj h41; clear h41; subst hz
                      exact zn_ireturn (pc := 141) dX9_moveOf_141 rfl hp
                    · replace h41 := zif_f c40 h41
                      refine zn_tsOut (pc := 17) (tgt := 142) dX9_moveOf_17 ?_ (by decide) ?_
                      · have t0 := lv_neT c10 (show (0 : Int32).toInt = 0 by decide)
                        have t1 := lv_neT c15 (show (1 : Int32).toInt = 1 by decide)
                        have t2 := lv_neT c20 (show (2 : Int32).toInt = 2 by decide)
                        have t3 := lv_neT c22 (show (3 : Int32).toInt = 3 by decide)
                        have t4 := lv_neT c26 (show (4 : Int32).toInt = 4 by decide)
                        have t5 := lv_neT c28 (show (5 : Int32).toInt = 5 by decide)
                        have t6 := lv_neT c30 (show (6 : Int32).toInt = 6 by decide)
                        have t7 := lv_neT c38 (show (7 : Int32).toInt = 7 by decide)
                        have t8 := lv_neT c40 (show (8 : Int32).toInt = 8 by decide)
                        omega
                      · refine zn_aload_n (pc := 142) 1 dX9_moveOf_142 rfl rfl ?_
                        refine zn_bipush (pc := 143) (x := (-2)) dX9_moveOf_143 (by decide) ?_
                        obtain ⟨o42, e43, h44⟩ := zbd h41; clear h41
                        refine zn_cVv (pc := 145) (kc := 0) (ks := 0) (kc' := 0) (ks' := 0) (As := [vI (-2)]) (st := []) dX9_moveOf_145 cs_X9_78 pc_0 rfl rfl (Nat.le_of_ble_eq_true rfl) ((c_X9_refuse e43).mono (Nat.le_of_ble_eq_true rfl)) ?_
                        have hz := Option.some.inj h44; clear h44; subst hz
                        exact zn_ireturn (pc := 148) dX9_moveOf_148 rfl hp
  · replace h6 := zop_n hr4 h6
    rw [hr4]
    refine zn_aload_n (pc := 10) 1 dX9_moveOf_10 rfl rfl ?_
    refine zn_iconst (pc := 11) (x := (-1)) dX9_moveOf_11 (by decide) ?_
    obtain ⟨o7, e8, h9⟩ := zbd h6; clear h6
    refine zn_cVv (pc := 12) (kc := 0) (ks := 0) (kc' := 0) (ks' := 0) (As := [vI (-1)]) (st := []) dX9_moveOf_12 cs_X9_78 pc_0 rfl rfl (Nat.le_of_ble_eq_true rfl) ((c_X9_refuse e8).mono (Nat.le_of_ble_eq_true rfl)) ?_
    have hz := Option.some.inj h9; clear h9; subst hz
    exact zn_ireturn (pc := 15) dX9_moveOf_15 rfl hp
