theorem c_X2_init {G : zG} {i0 : Nat} {S : zH} {out : zH} (h0 : f_X2_init i0 S = some out) : zct G M_X2_init 1 2 3002 [vR 1 (some i0)] S (zpo none out) := by
  refine zct_of (by decide) (Nat.le_of_ble_eq_true rfl) ?_
  show zn G M_X2_init 1 2 3002 0 [(0, vR 1 (some i0))] [] S _
  have hp : zpo none out none out := ⟨rfl, rfl⟩
  unfold f_X2_init at h0
  refine zn_aload_n (pc := 0) 0 dX2_init_0 rfl rfl ?_
  refine zn_objInit (pc := 1) dX2_init_1 ol_X2_3 ws_obj.1 ws_obj.2 (Nat.le_of_ble_eq_true rfl) ?_
  refine zn_aload_n (pc := 4) 0 dX2_init_4 rfl rfl ?_
  refine zn_sipush (pc := 5) (x := 1501) dX2_init_5 (by decide) ?_
  obtain ⟨S1, hS2, h3⟩ := zltd h0; clear h0
  refine zn_newZ (pc := 8) (M := M_X2_init) (kc := 1) (ks := 1501) zk_21 w_arrZ dX2_init_8 (by decide) (by decide) (Nat.le_of_ble_eq_true rfl) hS2 (ks0 := 1501) (Nat.le_of_ble_eq_true rfl) ?_
  obtain ⟨S4, hS5, h6⟩ := zltd h3; clear h3
  refine zn_putR (pc := 10) fp_X2_9_1.1 fp_X2_9_1.2.2 fp_X2_9_1.2.1 dX2_init_10 hS5 ?_
  refine zn_aload_n (pc := 13) 0 dX2_init_13 rfl rfl ?_
  refine zn_sipush (pc := 14) (x := 1501) dX2_init_14 (by decide) ?_
  obtain ⟨S7, hS8, h9⟩ := zltd h6; clear h6
  refine zn_newI (pc := 17) (M := M_X2_init) (kc := 0) (ks := 0) zk_22 w_arrI dX2_init_17 (by decide) (by decide) (Nat.le_of_ble_eq_true rfl) hS8 (ks0 := 1501) (Nat.le_of_ble_eq_true rfl) ?_
  obtain ⟨S10, hS11, h12⟩ := zltd h9; clear h9
  refine zn_putR (pc := 19) fp_X2_15_1.1 fp_X2_15_1.2.2 fp_X2_15_1.2.1 dX2_init_19 hS11 ?_
  have hz := Option.some.inj h12; clear h12; subst hz
  exact zn_return (pc := 22) dX2_init_22 rfl hp
theorem c_X1_init {G : zG} {i0 : Nat} {x1 : Int32} {S : zH} {out : zH} (h0 : f_X1_init i0 x1 S = some out) : zct G M_X1_init 1 0 0 [vR 2 (some i0), vI x1] S (zpo none out) := by
  refine zct_of (by decide) (Nat.le_of_ble_eq_true rfl) ?_
  show zn G M_X1_init 1 0 0 0 [(0, vR 2 (some i0)), (1, vI x1)] [] S _
  have hp : zpo none out none out := ⟨rfl, rfl⟩
  unfold f_X1_init at h0
  refine zn_aload_n (pc := 0) 0 dX1_init_0 rfl rfl ?_
  refine zn_objInit (pc := 1) dX1_init_1 ol_X1_3 ws_obj.1 ws_obj.2 (Nat.le_of_ble_eq_true rfl) ?_
  refine zn_aload_n (pc := 4) 0 dX1_init_4 rfl rfl ?_
  refine zn_bipush (pc := 5) (x := 99) dX1_init_5 (by decide) ?_
  obtain ⟨S1, hS2, h3⟩ := zltd h0; clear h0
  refine zn_putI (pc := 7) fp_X1_9_2.1 (fp_X1_9_2 (nm := "")).2 dX1_init_7 hS2 ?_
  refine zn_aload_n (pc := 10) 0 dX1_init_10 rfl rfl ?_
  refine zn_iload_n (pc := 11) 1 dX1_init_11 rfl rfl ?_
  obtain ⟨S4, hS5, h6⟩ := zltd h3; clear h3
  refine zn_putI (pc := 12) fp_X1_15_2.1 fp_X1_15_2.2 dX1_init_12 hS5 ?_
  have hz := Option.some.inj h6; clear h6; subst hz
  exact zn_return (pc := 15) dX1_init_15 rfl hp
theorem c_X6_init {G : zG} {i0 : Nat} {S : zH} {out : zH} (h0 : f_X6_init i0 S = some out) : zct G M_X6_init 5 3 73 [vR 7 (some i0)] S (zpo none out) := by
  refine zct_of (by decide) (Nat.le_of_ble_eq_true rfl) ?_
  show zn G M_X6_init 5 3 73 0 [(0, vR 7 (some i0))] [] S _
  have hp : zpo none out none out := ⟨rfl, rfl⟩
  unfold f_X6_init at h0
  refine zn_aload_n (pc := 0) 0 dX6_init_0 rfl rfl ?_
  refine zn_objInit (pc := 1) dX6_init_1 ol_X6_3 ws_obj.1 ws_obj.2 (Nat.le_of_ble_eq_true rfl) ?_
  refine zn_aload_n (pc := 4) 0 dX6_init_4 rfl rfl ?_
  obtain ⟨S1, hS2, h3⟩ := zltd h0; clear h0
  refine zn_new (pc := 5) (M := M_X6_init) (kc := 2) (ks := 70) (N := 3) nw_X6_9_13 dX6_init_5 hS2 ?_
  refine zn_dup (pc := 8) dX6_init_8 rfl ?_
  obtain ⟨o4, e5, h6⟩ := zbd h3; clear h3
  refine zn_cI0 (pc := 9) (kc := 2) (ks := 70) (kc' := 0) (ks' := 0) (As := []) (st := [vR 13 (some (zN S 13)), vR 7 (some i0)]) dX6_init_9 cli_X6_11 rfl rfl (Nat.le_of_ble_eq_true rfl) (zc_init (p := 13) (by decide) (Nat.le_of_ble_eq_true rfl) e5) ?_
  obtain ⟨S7, hS8, h9⟩ := zltd h6; clear h6
  refine zn_putR (pc := 12) fp_X6_12_7.1 fp_X6_12_7.2.2 fp_X6_12_7.2.1 dX6_init_12 hS8 ?_
  refine zn_aload_n (pc := 15) 0 dX6_init_15 rfl rfl ?_
  refine zn_letLen dX6_init_16 dX6_init_18 (Nat.le_of_ble_eq_true rfl) ?_
  obtain ⟨S10, hS11, h12⟩ := zltd h9; clear h9
  refine zn_newJ (pc := 21) (M := M_X6_init) (kc := 1) (ks := 60) zk_26 w_arrJ dX6_init_21 (by decide) (by decide) (Nat.le_of_ble_eq_true rfl) hS11 (ks0 := 10) (Nat.le_of_ble_eq_true rfl) ?_
  obtain ⟨S13, hS14, h15⟩ := zltd h12; clear h12
  refine zn_putR (pc := 23) fp_X6_26_7.1 fp_X6_26_7.2.2 fp_X6_26_7.2.1 dX6_init_23 hS14 ?_
  refine zn_aload_n (pc := 26) 0 dX6_init_26 rfl rfl ?_
  refine zn_bipush (pc := 27) (x := 60) dX6_init_27 (by decide) ?_
  obtain ⟨S16, hS17, h18⟩ := zltd h15; clear h15
  refine zn_newJ (pc := 29) (M := M_X6_init) (kc := 0) (ks := 0) zk_27 w_arrJ dX6_init_29 (by decide) (by decide) (Nat.le_of_ble_eq_true rfl) hS17 (ks0 := 60) (Nat.le_of_ble_eq_true rfl) ?_
  obtain ⟨S19, hS20, h21⟩ := zltd h18; clear h18
  refine zn_putR (pc := 31) fp_X6_30_7.1 fp_X6_30_7.2.2 fp_X6_30_7.2.1 dX6_init_31 hS20 ?_
  have hz := Option.some.inj h21; clear h21; subst hz
  exact zn_return (pc := 34) dX6_init_34 rfl hp
theorem c_X8_init {G : zG} {i0 : Nat} {S : zH} {out : zH} (h0 : f_X8_init i0 S = some out) : zct G M_X8_init 1 2 120 [vR 8 (some i0)] S (zpo none out) := by
  refine zct_of (by decide) (Nat.le_of_ble_eq_true rfl) ?_
  show zn G M_X8_init 1 2 120 0 [(0, vR 8 (some i0))] [] S _
  have hp : zpo none out none out := ⟨rfl, rfl⟩
  unfold f_X8_init at h0
  refine zn_aload_n (pc := 0) 0 dX8_init_0 rfl rfl ?_
  refine zn_objInit (pc := 1) dX8_init_1 ol_X8_3 ws_obj.1 ws_obj.2 (Nat.le_of_ble_eq_true rfl) ?_
  refine zn_aload_n (pc := 4) 0 dX8_init_4 rfl rfl ?_
  refine zn_bipush (pc := 5) (x := 60) dX8_init_5 (by decide) ?_
  obtain ⟨S1, hS2, h3⟩ := zltd h0; clear h0
  refine zn_newI (pc := 7) (M := M_X8_init) (kc := 1) (ks := 60) zk_28 w_arrI dX8_init_7 (by decide) (by decide) (Nat.le_of_ble_eq_true rfl) hS2 (ks0 := 60) (Nat.le_of_ble_eq_true rfl) ?_
  obtain ⟨S4, hS5, h6⟩ := zltd h3; clear h3
  refine zn_putR (pc := 9) fp_X8_9_8.1 fp_X8_9_8.2.2 fp_X8_9_8.2.1 dX8_init_9 hS5 ?_
  refine zn_aload_n (pc := 12) 0 dX8_init_12 rfl rfl ?_
  refine zn_bipush (pc := 13) (x := 60) dX8_init_13 (by decide) ?_
  obtain ⟨S7, hS8, h9⟩ := zltd h6; clear h6
  refine zn_newI (pc := 15) (M := M_X8_init) (kc := 0) (ks := 0) zk_29 w_arrI dX8_init_15 (by decide) (by decide) (Nat.le_of_ble_eq_true rfl) hS8 (ks0 := 60) (Nat.le_of_ble_eq_true rfl) ?_
  obtain ⟨S10, hS11, h12⟩ := zltd h9; clear h9
  refine zn_putR (pc := 17) fp_X8_15_8.1 fp_X8_15_8.2.2 fp_X8_15_8.2.1 dX8_init_17 hS11 ?_
  have hz := Option.some.inj h12; clear h12; subst hz
  exact zn_return (pc := 20) dX8_init_20 rfl hp
theorem c_X7_init {G : zG} {i0 : Nat} {S : zH} {out : zH} (h0 : f_X7_init i0 S = some out) : zct G M_X7_init 1 1 9 [vR 9 (some i0)] S (zpo none out) := by
  refine zct_of (by decide) (Nat.le_of_ble_eq_true rfl) ?_
  show zn G M_X7_init 1 1 9 0 [(0, vR 9 (some i0))] [] S _
  have hp : zpo none out none out := ⟨rfl, rfl⟩
  unfold f_X7_init at h0
  refine zn_aload_n (pc := 0) 0 dX7_init_0 rfl rfl ?_
  refine zn_objInit (pc := 1) dX7_init_1 ol_X7_3 ws_obj.1 ws_obj.2 (Nat.le_of_ble_eq_true rfl) ?_
  refine zn_aload_n (pc := 4) 0 dX7_init_4 rfl rfl ?_
  refine zn_bipush (pc := 5) (x := 9) dX7_init_5 (by decide) ?_
  obtain ⟨S1, hS2, h3⟩ := zltd h0; clear h0
  refine zn_newI (pc := 7) (M := M_X7_init) (kc := 0) (ks := 0) zk_30 w_arrI dX7_init_7 (by decide) (by decide) (Nat.le_of_ble_eq_true rfl) hS2 (ks0 := 9) (Nat.le_of_ble_eq_true rfl) ?_
  obtain ⟨S4, hS5, h6⟩ := zltd h3; clear h3
  refine zn_putR (pc := 9) fp_X7_9_9.1 fp_X7_9_9.2.2 fp_X7_9_9.2.1 dX7_init_9 hS5 ?_
  have hz := Option.some.inj h6; clear h6; subst hz
  exact zn_return (pc := 12) dX7_init_12 rfl hp
theorem c_X9_init {G : zG} {i0 : Nat} {S : zH} {out : zH} (h0 : f_X9_init i0 S = some out) : zct G M_X9_init 6 26 3302 [vR 0 (some i0)] S (zpo none out) := by
  refine zct_of (by decide) (Nat.le_of_ble_eq_true rfl) ?_
  show zn G M_X9_init 6 26 3302 0 [(0, vR 0 (some i0))] [] S _
  have hp : zpo none out none out := ⟨rfl, rfl⟩
  unfold f_X9_init at h0
  refine zn_aload_n (pc := 0) 0 dX9_init_0 rfl rfl ?_
  refine zn_objInit (pc := 1) dX9_init_1 ol_X9_1 ws_obj.1 ws_obj.2 (Nat.le_of_ble_eq_true rfl) ?_
  refine zn_aload_n (pc := 4) 0 dX9_init_4 rfl rfl ?_
  obtain ⟨S1, hS2, h3⟩ := zltd h0; clear h0
  refine zn_new (pc := 5) (M := M_X9_init) (kc := 25) (ks := 3295) (N := 7) nw_X9_7_1 dX9_init_5 hS2 ?_
  refine zn_dup (pc := 8) dX9_init_8 rfl ?_
  obtain ⟨o4, e5, h6⟩ := zbd h3; clear h3
  refine zn_cI0 (pc := 9) (kc := 23) (ks := 293) (kc' := 2) (ks' := 3002) (As := []) (st := [vR 1 (some (zN S 1)), vR 0 (some i0)]) dX9_init_9 cs_X9_9 rfl rfl (Nat.le_of_ble_eq_true rfl) ((c_X2_init e5).mono (Nat.le_of_ble_eq_true rfl)) ?_
  obtain ⟨S7, hS8, h9⟩ := zltd h6; clear h6
  refine zn_putR (pc := 12) fp_X9_10_0.1 fp_X9_10_0.2.2 fp_X9_10_0.2.1 dX9_init_12 hS8 ?_
  refine zn_aload_n (pc := 15) 0 dX9_init_15 rfl rfl ?_
  refine zn_bipush (pc := 16) (x := 8) dX9_init_16 (by decide) ?_
  obtain ⟨S10, hS11, h12⟩ := zltd h9; clear h9
  refine zn_newA (pc := 18) (M := M_X9_init) (kc := 22) (ks := 285) zk_18 (by decide) rfl (Or.inl rfl) cl_X9_16 dX9_init_18 (by decide) (by decide) (Nat.le_of_ble_eq_true rfl) hS11 (ks0 := 8) (Nat.le_of_ble_eq_true rfl) ?_
  obtain ⟨S13, hS14, h15⟩ := zltd h12; clear h12
  refine zn_putR (pc := 21) fp_X9_18_0.1 fp_X9_18_0.2.2 fp_X9_18_0.2.1 dX9_init_21 hS14 ?_
  refine zn_iconst (pc := 24) (x := 0) dX9_init_24 (by decide) ?_
  refine zn_istore_n (pc := 25) (ls' := [(1, vI 0), (0, vR 0 (some i0))]) dX9_init_25 rfl (Nat.le_of_ble_eq_true rfl) rfl ?_
  refine zn_iload_n (pc := 26) 0 dX9_init_26 rfl rfl ?_
  refine zn_bipush (pc := 27) (x := 8) dX9_init_27 (by decide) ?_
  refine zn_icmp_ge (pc := 29) (tgt := 52) dX9_init_29 (by decide) (fun c16 => absurd c16 (by decide)) (fun _ => ?_)
  refine zn_aload_n (pc := 32) 1 dX9_init_32 rfl rfl ?_
  refine zn_getR (pc := 33) fa_X9_18_0.1 fa_X9_18_0.2 dX9_init_33 ?_
  refine zn_iload_n (pc := 36) 0 dX9_init_36 rfl rfl ?_
  obtain ⟨S17, hS18, h19⟩ := zltd h15; clear h15
  refine zn_new (pc := 37) (M := M_X9_init) (kc := 21) (ks := 279) (N := 6) nw_X9_16_2 dX9_init_37 hS18 ?_
  refine zn_dup (pc := 40) dX9_init_40 rfl ?_
  refine zn_iload_n (pc := 41) 0 dX9_init_41 rfl rfl ?_
  obtain ⟨o20, e21, h22⟩ := zbd h19; clear h19
  refine zn_cI0 (pc := 42) (kc := 21) (ks := 279) (kc' := 0) (ks' := 0) (As := [vI 0]) (st := [vR 2 (some (zN S13 2)), vI 0, vR 18 (zR S13 0 i0 1)]) dX9_init_42 cs_X9_22 rfl rfl (Nat.le_of_ble_eq_true rfl) ((c_X1_init e21).mono (Nat.le_of_ble_eq_true rfl)) ?_
  obtain ⟨i23, hi24, h25⟩ := zbd h22; clear h22
  rw [hi24]
  obtain ⟨hb26, h27⟩ := zgdd h25; clear h25
  obtain ⟨S28, hS29, h30⟩ := zltd h27; clear h27
  refine zn_aastore (pc := 45) (C := "SwitchSeven$Bank") zk_18 rfl pc_2 dX9_init_45 (zib_in hb26) hS29 ?_
  refine zn_iinc (pc := 46) 0 (y := 1) (ls' := [(1, vI 1), (0, vR 0 (some i0))]) dX9_init_46 rfl (by decide) (Nat.le_of_ble_eq_true rfl) rfl ?_
  refine zn_goto (pc := 49) (tgt := 26) dX9_init_49 (by decide) ?_
  refine zn_iload_n (pc := 26) 0 dX9_init_26 rfl rfl ?_
  refine zn_bipush (pc := 27) (x := 8) dX9_init_27 (by decide) ?_
  refine zn_icmp_ge (pc := 29) (tgt := 52) dX9_init_29 (by decide) (fun c31 => absurd c31 (by decide)) (fun _ => ?_)
  refine zn_aload_n (pc := 32) 1 dX9_init_32 rfl rfl ?_
  refine zn_getR (pc := 33) fa_X9_18_0.1 fa_X9_18_0.2 dX9_init_33 ?_
  refine zn_iload_n (pc := 36) 0 dX9_init_36 rfl rfl ?_
  obtain ⟨S32, hS33, h34⟩ := zltd h30; clear h30
  refine zn_new (pc := 37) (M := M_X9_init) (kc := 20) (ks := 273) (N := 6) nw_X9_16_2 dX9_init_37 hS33 ?_
  refine zn_dup (pc := 40) dX9_init_40 rfl ?_
  refine zn_iload_n (pc := 41) 0 dX9_init_41 rfl rfl ?_
  obtain ⟨o35, e36, h37⟩ := zbd h34; clear h34
  refine zn_cI0 (pc := 42) (kc := 20) (ks := 273) (kc' := 0) (ks' := 0) (As := [vI 1]) (st := [vR 2 (some (zN S28 2)), vI 1, vR 18 (zR S28 0 i0 1)]) dX9_init_42 cs_X9_22 rfl rfl (Nat.le_of_ble_eq_true rfl) ((c_X1_init e36).mono (Nat.le_of_ble_eq_true rfl)) ?_
  obtain ⟨i38, hi39, h40⟩ := zbd h37; clear h37
  rw [hi39]
  obtain ⟨hb41, h42⟩ := zgdd h40; clear h40
  obtain ⟨S43, hS44, h45⟩ := zltd h42; clear h42
  refine zn_aastore (pc := 45) (C := "SwitchSeven$Bank") zk_18 rfl pc_2 dX9_init_45 (zib_in hb41) hS44 ?_
  refine zn_iinc (pc := 46) 0 (y := 2) (ls' := [(1, vI 2), (0, vR 0 (some i0))]) dX9_init_46 rfl (by decide) (Nat.le_of_ble_eq_true rfl) rfl ?_
  refine zn_goto (pc := 49) (tgt := 26) dX9_init_49 (by decide) ?_
  refine zn_iload_n (pc := 26) 0 dX9_init_26 rfl rfl ?_
  refine zn_bipush (pc := 27) (x := 8) dX9_init_27 (by decide) ?_
  refine zn_icmp_ge (pc := 29) (tgt := 52) dX9_init_29 (by decide) (fun c46 => absurd c46 (by decide)) (fun _ => ?_)
  refine zn_aload_n (pc := 32) 1 dX9_init_32 rfl rfl ?_
  refine zn_getR (pc := 33) fa_X9_18_0.1 fa_X9_18_0.2 dX9_init_33 ?_
  refine zn_iload_n (pc := 36) 0 dX9_init_36 rfl rfl ?_
  obtain ⟨S47, hS48, h49⟩ := zltd h45; clear h45
  refine zn_new (pc := 37) (M := M_X9_init) (kc := 19) (ks := 267) (N := 6) nw_X9_16_2 dX9_init_37 hS48 ?_
  refine zn_dup (pc := 40) dX9_init_40 rfl ?_
  refine zn_iload_n (pc := 41) 0 dX9_init_41 rfl rfl ?_
  obtain ⟨o50, e51, h52⟩ := zbd h49; clear h49
  refine zn_cI0 (pc := 42) (kc := 19) (ks := 267) (kc' := 0) (ks' := 0) (As := [vI 2]) (st := [vR 2 (some (zN S43 2)), vI 2, vR 18 (zR S43 0 i0 1)]) dX9_init_42 cs_X9_22 rfl rfl (Nat.le_of_ble_eq_true rfl) ((c_X1_init e51).mono (Nat.le_of_ble_eq_true rfl)) ?_
  obtain ⟨i53, hi54, h55⟩ := zbd h52; clear h52
  rw [hi54]
  obtain ⟨hb56, h57⟩ := zgdd h55; clear h55
  obtain ⟨S58, hS59, h60⟩ := zltd h57; clear h57
  refine zn_aastore (pc := 45) (C := "SwitchSeven$Bank") zk_18 rfl pc_2 dX9_init_45 (zib_in hb56) hS59 ?_
  refine zn_iinc (pc := 46) 0 (y := 3) (ls' := [(1, vI 3), (0, vR 0 (some i0))]) dX9_init_46 rfl (by decide) (Nat.le_of_ble_eq_true rfl) rfl ?_
  refine zn_goto (pc := 49) (tgt := 26) dX9_init_49 (by decide) ?_
  refine zn_iload_n (pc := 26) 0 dX9_init_26 rfl rfl ?_
  refine zn_bipush (pc := 27) (x := 8) dX9_init_27 (by decide) ?_
  refine zn_icmp_ge (pc := 29) (tgt := 52) dX9_init_29 (by decide) (fun c61 => absurd c61 (by decide)) (fun _ => ?_)
  refine zn_aload_n (pc := 32) 1 dX9_init_32 rfl rfl ?_
  refine zn_getR (pc := 33) fa_X9_18_0.1 fa_X9_18_0.2 dX9_init_33 ?_
  refine zn_iload_n (pc := 36) 0 dX9_init_36 rfl rfl ?_
  obtain ⟨S62, hS63, h64⟩ := zltd h60; clear h60
  refine zn_new (pc := 37) (M := M_X9_init) (kc := 18) (ks := 261) (N := 6) nw_X9_16_2 dX9_init_37 hS63 ?_
  refine zn_dup (pc := 40) dX9_init_40 rfl ?_
  refine zn_iload_n (pc := 41) 0 dX9_init_41 rfl rfl ?_
  obtain ⟨o65, e66, h67⟩ := zbd h64; clear h64
  refine zn_cI0 (pc := 42) (kc := 18) (ks := 261) (kc' := 0) (ks' := 0) (As := [vI 3]) (st := [vR 2 (some (zN S58 2)), vI 3, vR 18 (zR S58 0 i0 1)]) dX9_init_42 cs_X9_22 rfl rfl (Nat.le_of_ble_eq_true rfl) ((c_X1_init e66).mono (Nat.le_of_ble_eq_true rfl)) ?_
  obtain ⟨i68, hi69, h70⟩ := zbd h67; clear h67
  rw [hi69]
  obtain ⟨hb71, h72⟩ := zgdd h70; clear h70
  obtain ⟨S73, hS74, h75⟩ := zltd h72; clear h72
  refine zn_aastore (pc := 45) (C := "SwitchSeven$Bank") zk_18 rfl pc_2 dX9_init_45 (zib_in hb71) hS74 ?_
  refine zn_iinc (pc := 46) 0 (y := 4) (ls' := [(1, vI 4), (0, vR 0 (some i0))]) dX9_init_46 rfl (by decide) (Nat.le_of_ble_eq_true rfl) rfl ?_
  refine zn_goto (pc := 49) (tgt := 26) dX9_init_49 (by decide) ?_
  refine zn_iload_n (pc := 26) 0 dX9_init_26 rfl rfl ?_
  refine zn_bipush (pc := 27) (x := 8) dX9_init_27 (by decide) ?_
  refine zn_icmp_ge (pc := 29) (tgt := 52) dX9_init_29 (by decide) (fun c76 => absurd c76 (by decide)) (fun _ => ?_)
  refine zn_aload_n (pc := 32) 1 dX9_init_32 rfl rfl ?_
  refine zn_getR (pc := 33) fa_X9_18_0.1 fa_X9_18_0.2 dX9_init_33 ?_
  refine zn_iload_n (pc := 36) 0 dX9_init_36 rfl rfl ?_
  obtain ⟨S77, hS78, h79⟩ := zltd h75; clear h75
  refine zn_new (pc := 37) (M := M_X9_init) (kc := 17) (ks := 255) (N := 6) nw_X9_16_2 dX9_init_37 hS78 ?_
  refine zn_dup (pc := 40) dX9_init_40 rfl ?_
  refine zn_iload_n (pc := 41) 0 dX9_init_41 rfl rfl ?_
  obtain ⟨o80, e81, h82⟩ := zbd h79; clear h79
  refine zn_cI0 (pc := 42) (kc := 17) (ks := 255) (kc' := 0) (ks' := 0) (As := [vI 4]) (st := [vR 2 (some (zN S73 2)), vI 4, vR 18 (zR S73 0 i0 1)]) dX9_init_42 cs_X9_22 rfl rfl (Nat.le_of_ble_eq_true rfl) ((c_X1_init e81).mono (Nat.le_of_ble_eq_true rfl)) ?_
  obtain ⟨i83, hi84, h85⟩ := zbd h82; clear h82
  rw [hi84]
  obtain ⟨hb86, h87⟩ := zgdd h85; clear h85
  obtain ⟨S88, hS89, h90⟩ := zltd h87; clear h87
  refine zn_aastore (pc := 45) (C := "SwitchSeven$Bank") zk_18 rfl pc_2 dX9_init_45 (zib_in hb86) hS89 ?_
  refine zn_iinc (pc := 46) 0 (y := 5) (ls' := [(1, vI 5), (0, vR 0 (some i0))]) dX9_init_46 rfl (by decide) (Nat.le_of_ble_eq_true rfl) rfl ?_
  refine zn_goto (pc := 49) (tgt := 26) dX9_init_49 (by decide) ?_
  refine zn_iload_n (pc := 26) 0 dX9_init_26 rfl rfl ?_
  refine zn_bipush (pc := 27) (x := 8) dX9_init_27 (by decide) ?_
  refine zn_icmp_ge (pc := 29) (tgt := 52) dX9_init_29 (by decide) (fun c91 => absurd c91 (by decide)) (fun _ => ?_)
  refine zn_aload_n (pc := 32) 1 dX9_init_32 rfl rfl ?_
  refine zn_getR (pc := 33) fa_X9_18_0.1 fa_X9_18_0.2 dX9_init_33 ?_
  refine zn_iload_n (pc := 36) 0 dX9_init_36 rfl rfl ?_
  obtain ⟨S92, hS93, h94⟩ := zltd h90; clear h90
  refine zn_new (pc := 37) (M := M_X9_init) (kc := 16) (ks := 249) (N := 6) nw_X9_16_2 dX9_init_37 hS93 ?_
  refine zn_dup (pc := 40) dX9_init_40 rfl ?_
  refine zn_iload_n (pc := 41) 0 dX9_init_41 rfl rfl ?_
  obtain ⟨o95, e96, h97⟩ := zbd h94; clear h94
  refine zn_cI0 (pc := 42) (kc := 16) (ks := 249) (kc' := 0) (ks' := 0) (As := [vI 5]) (st := [vR 2 (some (zN S88 2)), vI 5, vR 18 (zR S88 0 i0 1)]) dX9_init_42 cs_X9_22 rfl rfl (Nat.le_of_ble_eq_true rfl) ((c_X1_init e96).mono (Nat.le_of_ble_eq_true rfl)) ?_
  obtain ⟨i98, hi99, h100⟩ := zbd h97; clear h97
  rw [hi99]
  obtain ⟨hb101, h102⟩ := zgdd h100; clear h100
  obtain ⟨S103, hS104, h105⟩ := zltd h102; clear h102
  refine zn_aastore (pc := 45) (C := "SwitchSeven$Bank") zk_18 rfl pc_2 dX9_init_45 (zib_in hb101) hS104 ?_
  refine zn_iinc (pc := 46) 0 (y := 6) (ls' := [(1, vI 6), (0, vR 0 (some i0))]) dX9_init_46 rfl (by decide) (Nat.le_of_ble_eq_true rfl) rfl ?_
  refine zn_goto (pc := 49) (tgt := 26) dX9_init_49 (by decide) ?_
  refine zn_iload_n (pc := 26) 0 dX9_init_26 rfl rfl ?_
  refine zn_bipush (pc := 27) (x := 8) dX9_init_27 (by decide) ?_
  refine zn_icmp_ge (pc := 29) (tgt := 52) dX9_init_29 (by decide) (fun c106 => absurd c106 (by decide)) (fun _ => ?_)
  refine zn_aload_n (pc := 32) 1 dX9_init_32 rfl rfl ?_
  refine zn_getR (pc := 33) fa_X9_18_0.1 fa_X9_18_0.2 dX9_init_33 ?_
  refine zn_iload_n (pc := 36) 0 dX9_init_36 rfl rfl ?_
  obtain ⟨S107, hS108, h109⟩ := zltd h105; clear h105
  refine zn_new (pc := 37) (M := M_X9_init) (kc := 15) (ks := 243) (N := 6) nw_X9_16_2 dX9_init_37 hS108 ?_
  refine zn_dup (pc := 40) dX9_init_40 rfl ?_
  refine zn_iload_n (pc := 41) 0 dX9_init_41 rfl rfl ?_
  obtain ⟨o110, e111, h112⟩ := zbd h109; clear h109
  refine zn_cI0 (pc := 42) (kc := 15) (ks := 243) (kc' := 0) (ks' := 0) (As := [vI 6]) (st := [vR 2 (some (zN S103 2)), vI 6, vR 18 (zR S103 0 i0 1)]) dX9_init_42 cs_X9_22 rfl rfl (Nat.le_of_ble_eq_true rfl) ((c_X1_init e111).mono (Nat.le_of_ble_eq_true rfl)) ?_
  obtain ⟨i113, hi114, h115⟩ := zbd h112; clear h112
  rw [hi114]
  obtain ⟨hb116, h117⟩ := zgdd h115; clear h115
  obtain ⟨S118, hS119, h120⟩ := zltd h117; clear h117
  refine zn_aastore (pc := 45) (C := "SwitchSeven$Bank") zk_18 rfl pc_2 dX9_init_45 (zib_in hb116) hS119 ?_
  refine zn_iinc (pc := 46) 0 (y := 7) (ls' := [(1, vI 7), (0, vR 0 (some i0))]) dX9_init_46 rfl (by decide) (Nat.le_of_ble_eq_true rfl) rfl ?_
  refine zn_goto (pc := 49) (tgt := 26) dX9_init_49 (by decide) ?_
  refine zn_iload_n (pc := 26) 0 dX9_init_26 rfl rfl ?_
  refine zn_bipush (pc := 27) (x := 8) dX9_init_27 (by decide) ?_
  refine zn_icmp_ge (pc := 29) (tgt := 52) dX9_init_29 (by decide) (fun c121 => absurd c121 (by decide)) (fun _ => ?_)
  refine zn_aload_n (pc := 32) 1 dX9_init_32 rfl rfl ?_
  refine zn_getR (pc := 33) fa_X9_18_0.1 fa_X9_18_0.2 dX9_init_33 ?_
  refine zn_iload_n (pc := 36) 0 dX9_init_36 rfl rfl ?_
  obtain ⟨S122, hS123, h124⟩ := zltd h120; clear h120
  refine zn_new (pc := 37) (M := M_X9_init) (kc := 14) (ks := 237) (N := 6) nw_X9_16_2 dX9_init_37 hS123 ?_
  refine zn_dup (pc := 40) dX9_init_40 rfl ?_
  refine zn_iload_n (pc := 41) 0 dX9_init_41 rfl rfl ?_
  obtain ⟨o125, e126, h127⟩ := zbd h124; clear h124
  refine zn_cI0 (pc := 42) (kc := 14) (ks := 237) (kc' := 0) (ks' := 0) (As := [vI 7]) (st := [vR 2 (some (zN S118 2)), vI 7, vR 18 (zR S118 0 i0 1)]) dX9_init_42 cs_X9_22 rfl rfl (Nat.le_of_ble_eq_true rfl) ((c_X1_init e126).mono (Nat.le_of_ble_eq_true rfl)) ?_
  obtain ⟨i128, hi129, h130⟩ := zbd h127; clear h127
  rw [hi129]
  obtain ⟨hb131, h132⟩ := zgdd h130; clear h130
  obtain ⟨S133, hS134, h135⟩ := zltd h132; clear h132
  refine zn_aastore (pc := 45) (C := "SwitchSeven$Bank") zk_18 rfl pc_2 dX9_init_45 (zib_in hb131) hS134 ?_
  refine zn_iinc (pc := 46) 0 (y := 8) (ls' := [(1, vI 8), (0, vR 0 (some i0))]) dX9_init_46 rfl (by decide) (Nat.le_of_ble_eq_true rfl) rfl ?_
  refine zn_goto (pc := 49) (tgt := 26) dX9_init_49 (by decide) ?_
  refine zn_iload_n (pc := 26) 0 dX9_init_26 rfl rfl ?_
  refine zn_bipush (pc := 27) (x := 8) dX9_init_27 (by decide) ?_
  refine zn_icmp_ge (pc := 29) (tgt := 52) dX9_init_29 (by decide) (fun _ => ?_) (fun c136 => absurd c136 (by decide))
  refine zn_aload_n (pc := 52) 1 dX9_init_52 rfl rfl ?_
  obtain ⟨S137, hS138, h139⟩ := zltd h135; clear h135
  refine zn_new (pc := 53) (M := M_X9_init) (kc := 13) (ks := 234) (N := 3) nw_X9_25_10 dX9_init_53 hS138 ?_
  refine zn_dup (pc := 56) dX9_init_56 rfl ?_
  obtain ⟨o140, e141, h142⟩ := zbd h139; clear h139
  refine zn_cI0 (pc := 57) (kc := 13) (ks := 234) (kc' := 0) (ks' := 0) (As := []) (st := [vR 10 (some (zN S133 10)), vR 0 (some i0)]) dX9_init_57 cli_X9_27 rfl rfl (Nat.le_of_ble_eq_true rfl) (zc_init (p := 10) (by decide) (Nat.le_of_ble_eq_true rfl) e141) ?_
  obtain ⟨S143, hS144, h145⟩ := zltd h142; clear h142
  refine zn_putR (pc := 60) fp_X9_28_0.1 fp_X9_28_0.2.2 fp_X9_28_0.2.1 dX9_init_60 hS144 ?_
  refine zn_aload_n (pc := 63) 1 dX9_init_63 rfl rfl ?_
  obtain ⟨S146, hS147, h148⟩ := zltd h145; clear h145
  refine zn_new (pc := 64) (M := M_X9_init) (kc := 12) (ks := 231) (N := 3) nw_X9_25_11 dX9_init_64 hS147 ?_
  refine zn_dup (pc := 67) dX9_init_67 rfl ?_
  obtain ⟨o149, e150, h151⟩ := zbd h148; clear h148
  refine zn_cI0 (pc := 68) (kc := 12) (ks := 231) (kc' := 0) (ks' := 0) (As := []) (st := [vR 11 (some (zN S143 11)), vR 0 (some i0)]) dX9_init_68 cli_X9_27 rfl rfl (Nat.le_of_ble_eq_true rfl) (zc_init (p := 11) (by decide) (Nat.le_of_ble_eq_true rfl) e150) ?_
  obtain ⟨S152, hS153, h154⟩ := zltd h151; clear h151
  refine zn_putR (pc := 71) fp_X9_32_0.1 fp_X9_32_0.2.2 fp_X9_32_0.2.1 dX9_init_71 hS153 ?_
  refine zn_aload_n (pc := 74) 1 dX9_init_74 rfl rfl ?_
  obtain ⟨S155, hS156, h157⟩ := zltd h154; clear h154
  refine zn_new (pc := 75) (M := M_X9_init) (kc := 11) (ks := 228) (N := 3) nw_X9_25_12 dX9_init_75 hS156 ?_
  refine zn_dup (pc := 78) dX9_init_78 rfl ?_
  obtain ⟨o158, e159, h160⟩ := zbd h157; clear h157
  refine zn_cI0 (pc := 79) (kc := 11) (ks := 228) (kc' := 0) (ks' := 0) (As := []) (st := [vR 12 (some (zN S152 12)), vR 0 (some i0)]) dX9_init_79 cli_X9_27 rfl rfl (Nat.le_of_ble_eq_true rfl) (zc_init (p := 12) (by decide) (Nat.le_of_ble_eq_true rfl) e159) ?_
  obtain ⟨S161, hS162, h163⟩ := zltd h160; clear h160
  refine zn_putR (pc := 82) fp_X9_35_0.1 fp_X9_35_0.2.2 fp_X9_35_0.2.1 dX9_init_82 hS162 ?_
  refine zn_aload_n (pc := 85) 1 dX9_init_85 rfl rfl ?_
  obtain ⟨S164, hS165, h166⟩ := zltd h163; clear h163
  refine zn_new (pc := 86) (M := M_X9_init) (kc := 10) (ks := 225) (N := 3) nw_X9_38_7 dX9_init_86 hS165 ?_
  refine zn_dup (pc := 89) dX9_init_89 rfl ?_
  obtain ⟨o167, e168, h169⟩ := zbd h166; clear h166
  refine zn_cI0 (pc := 90) (kc := 7) (ks := 152) (kc' := 3) (ks' := 73) (As := []) (st := [vR 7 (some (zN S161 7)), vR 0 (some i0)]) dX9_init_90 cs_X9_40 rfl rfl (Nat.le_of_ble_eq_true rfl) ((c_X6_init e168).mono (Nat.le_of_ble_eq_true rfl)) ?_
  obtain ⟨S170, hS171, h172⟩ := zltd h169; clear h169
  refine zn_putR (pc := 93) fp_X9_41_0.1 fp_X9_41_0.2.2 fp_X9_41_0.2.1 dX9_init_93 hS171 ?_
  refine zn_aload_n (pc := 96) 1 dX9_init_96 rfl rfl ?_
  obtain ⟨S173, hS174, h175⟩ := zltd h172; clear h172
  refine zn_new (pc := 97) (M := M_X9_init) (kc := 6) (ks := 146) (N := 6) nw_X9_45_8 dX9_init_97 hS174 ?_
  refine zn_dup (pc := 100) dX9_init_100 rfl ?_
  obtain ⟨o176, e177, h178⟩ := zbd h175; clear h175
  refine zn_cI0 (pc := 101) (kc := 4) (ks := 26) (kc' := 2) (ks' := 120) (As := []) (st := [vR 8 (some (zN S170 8)), vR 0 (some i0)]) dX9_init_101 cs_X9_47 rfl rfl (Nat.le_of_ble_eq_true rfl) ((c_X8_init e177).mono (Nat.le_of_ble_eq_true rfl)) ?_
  obtain ⟨S179, hS180, h181⟩ := zltd h178; clear h178
  refine zn_putR (pc := 104) fp_X9_48_0.1 fp_X9_48_0.2.2 fp_X9_48_0.2.1 dX9_init_104 hS180 ?_
  refine zn_aload_n (pc := 107) 1 dX9_init_107 rfl rfl ?_
  obtain ⟨S182, hS183, h184⟩ := zltd h181; clear h181
  refine zn_new (pc := 108) (M := M_X9_init) (kc := 3) (ks := 24) (N := 2) nw_X9_52_9 dX9_init_108 hS183 ?_
  refine zn_dup (pc := 111) dX9_init_111 rfl ?_
  obtain ⟨o185, e186, h187⟩ := zbd h184; clear h184
  refine zn_cI0 (pc := 112) (kc := 2) (ks := 15) (kc' := 1) (ks' := 9) (As := []) (st := [vR 9 (some (zN S179 9)), vR 0 (some i0)]) dX9_init_112 cs_X9_54 rfl rfl (Nat.le_of_ble_eq_true rfl) ((c_X7_init e186).mono (Nat.le_of_ble_eq_true rfl)) ?_
  obtain ⟨S188, hS189, h190⟩ := zltd h187; clear h187
  refine zn_putR (pc := 115) fp_X9_55_0.1 fp_X9_55_0.2.2 fp_X9_55_0.2.1 dX9_init_115 hS189 ?_
  refine zn_aload_n (pc := 118) 1 dX9_init_118 rfl rfl ?_
  refine zn_bipush (pc := 119) (x := 8) dX9_init_119 (by decide) ?_
  obtain ⟨S191, hS192, h193⟩ := zltd h190; clear h190
  refine zn_newJ (pc := 121) (M := M_X9_init) (kc := 1) (ks := 7) zk_19 w_arrJ dX9_init_121 (by decide) (by decide) (Nat.le_of_ble_eq_true rfl) hS192 (ks0 := 8) (Nat.le_of_ble_eq_true rfl) ?_
  obtain ⟨S194, hS195, h196⟩ := zltd h193; clear h193
  refine zn_putR (pc := 123) fp_X9_59_0.1 fp_X9_59_0.2.2 fp_X9_59_0.2.1 dX9_init_123 hS195 ?_
  refine zn_aload_n (pc := 126) 1 dX9_init_126 rfl rfl ?_
  refine zn_iconst (pc := 127) (x := 0) dX9_init_127 (by decide) ?_
  obtain ⟨S197, hS198, h199⟩ := zltd h196; clear h196
  refine zn_putI (pc := 128) fp_X9_63_0.1 (fp_X9_63_0 (nm := "")).2 dX9_init_128 hS198 ?_
  refine zn_aload_n (pc := 131) 1 dX9_init_131 rfl rfl ?_
  refine zn_bipush (pc := 132) (x := 7) dX9_init_132 (by decide) ?_
  obtain ⟨S200, hS201, h202⟩ := zltd h199; clear h199
  refine zn_newI (pc := 134) (M := M_X9_init) (kc := 0) (ks := 0) zk_20 w_arrI dX9_init_134 (by decide) (by decide) (Nat.le_of_ble_eq_true rfl) hS201 (ks0 := 7) (Nat.le_of_ble_eq_true rfl) ?_
  obtain ⟨S203, hS204, h205⟩ := zltd h202; clear h202
  refine zn_putR (pc := 136) fp_X9_67_0.1 fp_X9_67_0.2.2 fp_X9_67_0.2.1 dX9_init_136 hS204 ?_
  have hz := Option.some.inj h205; clear h205; subst hz
  exact zn_return (pc := 139) dX9_init_139 rfl hp
theorem c_X9_outside {G : zG} {x0 : Int32} {x1 : Int32} {x2 : Int32} {S : zH} {out : Int32} (h0 : f_X9_outside x0 x1 x2 S = some out) : zct G M_X9_outside 0 0 0 [vI x0, vI x1, vI x2] S (zpo (some (vI out)) S) := by
  refine zct_of (by decide) (Nat.le_of_ble_eq_true rfl) ?_
  show zn G M_X9_outside 0 0 0 0 [(0, vI x0), (1, vI x1), (2, vI x2)] [] S _
  have hp : zpo (some (vI out)) S (some (vI out)) S := ⟨rfl, rfl⟩
  unfold f_X9_outside at h0
  refine zn_iload_n (pc := 0) 0 dX9_outside_0 rfl rfl ?_
  refine zn_iload_n (pc := 1) 1 dX9_outside_1 rfl rfl ?_
  have h2 := h0; clear h0
  refine zn_icmp_ge (pc := 2) (tgt := 10) dX9_outside_2 (by decide) (fun c1 => ?_) (fun c1 => ?_)
  · replace h2 := zif_t c1 h2
    refine zn_iload_n (pc := 10) 0 dX9_outside_10 rfl rfl ?_
    refine zn_iload_n (pc := 11) 2 dX9_outside_11 rfl rfl ?_
    have h4 := h2; clear h2
    refine zn_icmp_le (pc := 12) (tgt := 20) dX9_outside_12 (by decide) (fun c3 => ?_) (fun c3 => ?_)
    · replace h4 := zif_t c3 h4
      refine zn_iconst (pc := 20) (x := 0) dX9_outside_20 (by decide) ?_
      have hz := Option.some.inj h4; clear h4; subst hz
      exact zn_ireturn (pc := 21) dX9_outside_21 rfl hp
    · replace h4 := zif_f c3 h4
      refine zn_bipush (pc := 15) (x := (-6)) dX9_outside_15 (by decide) ?_
      refine zn_goto (pc := 17) (tgt := 21) dX9_outside_17 (by decide) ?_
      have hz := Option.some.inj h4; clear h4; subst hz
      exact zn_ireturn (pc := 21) dX9_outside_21 rfl hp
  · replace h2 := zif_f c1 h2
    refine zn_bipush (pc := 5) (x := (-4)) dX9_outside_5 (by decide) ?_
    refine zn_goto (pc := 7) (tgt := 21) dX9_outside_7 (by decide) ?_
    have hz := Option.some.inj h2; clear h2; subst hz
    exact zn_ireturn (pc := 21) dX9_outside_21 rfl hp
theorem c_X9_refuse {G : zG} {i0 : Nat} {x1 : Int32} {S : zH} {out : (Int32 × zH)} (h0 : f_X9_refuse i0 x1 S = some out) : zct G M_X9_refuse 0 0 0 [vR 0 (some i0), vI x1] S (zpo (some (vI out.1)) out.2) := by
  refine zct_of (by decide) (Nat.le_of_ble_eq_true rfl) ?_
  show zn G M_X9_refuse 0 0 0 0 [(0, vR 0 (some i0)), (1, vI x1)] [] S _
  have hp : zpo (some (vI out.1)) out.2 (some (vI out.1)) out.2 := ⟨rfl, rfl⟩
  unfold f_X9_refuse at h0
  refine zn_iload_n (pc := 0) 1 dX9_refuse_0 rfl rfl ?_
  refine zn_ineg (pc := 1) dX9_refuse_1 ?_
  refine zn_istore_n (pc := 2) (ls' := [(2, vI (-x1)), (0, vR 0 (some i0)), (1, vI x1)]) dX9_refuse_2 rfl (Nat.le_of_ble_eq_true rfl) rfl ?_
  refine zn_iload_n (pc := 3) 0 dX9_refuse_3 rfl rfl ?_
  refine zn_iconst (pc := 4) (x := 1) dX9_refuse_4 (by decide) ?_
  have h2 := h0; clear h0
  refine zn_icmp_lt (pc := 5) (tgt := 24) dX9_refuse_5 (by decide) (fun c1 => ?_) (fun c1 => ?_)
  · replace h2 := zif_t c1 h2
    refine zn_iload_n (pc := 24) 2 dX9_refuse_24 rfl rfl ?_
    have hz := Option.some.inj h2; clear h2; subst hz
    exact zn_ireturn (pc := 25) dX9_refuse_25 rfl hp
  · replace h2 := zif_f c1 h2
    refine zn_iload_n (pc := 8) 0 dX9_refuse_8 rfl rfl ?_
    refine zn_bipush (pc := 9) (x := 6) dX9_refuse_9 (by decide) ?_
    have h4 := h2; clear h2
    refine zn_icmp_gt (pc := 11) (tgt := 24) dX9_refuse_11 (by decide) (fun c3 => ?_) (fun c3 => ?_)
    · replace h4 := zif_t c3 h4
      refine zn_iload_n (pc := 24) 2 dX9_refuse_24 rfl rfl ?_
      have hz := Option.some.inj h4; clear h4; subst hz
      exact zn_ireturn (pc := 25) dX9_refuse_25 rfl hp
    · replace h4 := zif_f c3 h4
      refine zn_aload_n (pc := 14) 1 dX9_refuse_14 rfl rfl ?_
      refine zn_getR (pc := 15) fa_X9_67_0.1 fa_X9_67_0.2 dX9_refuse_15 ?_
      refine zn_iload_n (pc := 18) 0 dX9_refuse_18 rfl rfl ?_
      refine zn_dup2 (pc := 19) dX9_refuse_19 rfl rfl ?_
      obtain ⟨i5, hi6, h7⟩ := zbd h4; clear h4
      rw [hi6]
      obtain ⟨hb8, h9⟩ := zgdd h7; clear h7
      refine zn_iaload (pc := 20) zk_20 dX9_refuse_20 (zib_in hb8) ?_
      refine zn_iconst (pc := 21) (x := 1) dX9_refuse_21 (by decide) ?_
      refine zn_iadd (pc := 22) dX9_refuse_22 ?_
      obtain ⟨hb10, h11⟩ := zgdd h9; clear h9
      obtain ⟨S12, hS13, h14⟩ := zltd h11; clear h11
      refine zn_iastore (pc := 23) zk_20 dX9_refuse_23 (zib_in hb10) hS13 ?_
      refine zn_iload_n (pc := 24) 2 dX9_refuse_24 rfl rfl ?_
      have hz := Option.some.inj h14; clear h14; subst hz
      exact zn_ireturn (pc := 25) dX9_refuse_25 rfl hp
theorem c_X2_rests {G : zG} {i0 : Nat} {x1 : Int32} {S : zH} {out : Int32} (h0 : f_X2_rests i0 x1 S = some out) : zct G M_X2_rests 0 0 0 [vR 1 (some i0), vI x1] S (zpo (some (vI out)) S) := by
  refine zct_of (by decide) (Nat.le_of_ble_eq_true rfl) ?_
  show zn G M_X2_rests 0 0 0 0 [(0, vR 1 (some i0)), (1, vI x1)] [] S _
  have hp : zpo (some (vI out)) S (some (vI out)) S := ⟨rfl, rfl⟩
  unfold f_X2_rests at h0
  refine zn_iload_n (pc := 0) 1 dX2_rests_0 rfl rfl ?_
  have h2 := h0; clear h0
  refine zn_if_lt (pc := 1) (tgt := 26) dX2_rests_1 (by decide) (fun c1 => ?_) (fun c1 => ?_)
  · replace h2 := zif_t c1 h2
    refine zn_iconst (pc := 26) (x := 0) dX2_rests_26 (by decide) ?_
    have hz := Option.some.inj h2; clear h2; subst hz
    exact zn_zreturn (pc := 27) dX2_rests_27 rfl (by decide) hp
  · replace h2 := zif_f c1 h2
    refine zn_iload_n (pc := 4) 1 dX2_rests_4 rfl rfl ?_
    refine zn_aload_n (pc := 5) 0 dX2_rests_5 rfl rfl ?_
    refine zn_getR (pc := 6) fa_X2_9_1.1 fa_X2_9_1.2 dX2_rests_6 ?_
    obtain ⟨i3, hi4, h5⟩ := zbd h2; clear h2
    rw [hi4]
    refine zn_alen (pc := 9) zk_21 rfl dX2_rests_9 ?_
    have h7 := h5; clear h5
    refine zn_icmp_ge (pc := 10) (tgt := 26) dX2_rests_10 (by decide) (fun c6 => ?_) (fun c6 => ?_)
    · replace h7 := zif_t c6 h7
      refine zn_iconst (pc := 26) (x := 0) dX2_rests_26 (by decide) ?_
      have hz := Option.some.inj h7; clear h7; subst hz
      exact zn_zreturn (pc := 27) dX2_rests_27 rfl (by decide) hp
    · replace h7 := zif_f c6 h7
      refine zn_aload_n (pc := 13) 0 dX2_rests_13 rfl rfl ?_
      refine zn_getR (pc := 14) fa_X2_9_1.1 fa_X2_9_1.2 dX2_rests_14 ?_
      refine zn_iload_n (pc := 17) 1 dX2_rests_17 rfl rfl ?_
      obtain ⟨i8, hi9, h10⟩ := zbd h7; clear h7
      rw [hi9]
      obtain ⟨hb11, h12⟩ := zgdd h10; clear h10
      refine zn_baload (pc := 18) zk_21 dX2_rests_18 (zib_in hb11) ?_
      have h14 := h12; clear h12
      refine zn_if_eq (pc := 19) (tgt := 26) dX2_rests_19 (by decide) (fun c13 => ?_) (fun c13 => ?_)
      · replace h14 := zif_t c13 h14
        refine zn_iconst (pc := 26) (x := 0) dX2_rests_26 (by decide) ?_
        have hz := Option.some.inj h14; clear h14; subst hz
        exact zn_zreturn (pc := 27) dX2_rests_27 rfl (by decide) hp
      · replace h14 := zif_f c13 h14
        refine zn_iconst (pc := 22) (x := 1) dX2_rests_22 (by decide) ?_
        refine zn_goto (pc := 23) (tgt := 27) dX2_rests_23 (by decide) ?_
        have hz := Option.some.inj h14; clear h14; subst hz
        exact zn_zreturn (pc := 27) dX2_rests_27 rfl (by decide) hp
theorem c_X2_works {G : zG} {i0 : Nat} {x1 : Int32} {S : zH} {out : Int32} (h0 : f_X2_works i0 x1 S = some out) : zct G M_X2_works 1 0 0 [vR 1 (some i0), vI x1] S (zpo (some (vI out)) S) := by
  refine zct_of (by decide) (Nat.le_of_ble_eq_true rfl) ?_
  show zn G M_X2_works 1 0 0 0 [(0, vR 1 (some i0)), (1, vI x1)] [] S _
  have hp : zpo (some (vI out)) S (some (vI out)) S := ⟨rfl, rfl⟩
  unfold f_X2_works at h0
  refine zn_iload_n (pc := 0) 1 dX2_works_0 rfl rfl ?_
  refine zn_bipush (pc := 1) (x := 7) dX2_works_1 (by decide) ?_
  refine zn_irem (pc := 3) dX2_works_3 (by decide) ?_
  refine zn_iconst (pc := 4) (x := 5) dX2_works_4 (by decide) ?_
  have h2 := h0; clear h0
  refine zn_icmp_ge (pc := 5) (tgt := 20) dX2_works_5 (by decide) (fun c1 => ?_) (fun c1 => ?_)
  · replace h2 := zif_t c1 h2
    refine zn_iconst (pc := 20) (x := 0) dX2_works_20 (by decide) ?_
    have hz := Option.some.inj h2; clear h2; subst hz
    exact zn_zreturn (pc := 21) dX2_works_21 rfl (by decide) hp
  · replace h2 := zif_f c1 h2
    refine zn_aload_n (pc := 8) 0 dX2_works_8 rfl rfl ?_
    refine zn_iload_n (pc := 9) 1 dX2_works_9 rfl rfl ?_
    obtain ⟨o3, e4, h5⟩ := zbd h2; clear h2
    refine zn_cVv (pc := 10) (kc := 0) (ks := 0) (kc' := 0) (ks' := 0) (As := [vI x1]) (st := []) dX2_works_10 cs_X2_19 pc_1 rfl rfl (Nat.le_of_ble_eq_true rfl) ((c_X2_rests e4).mono (Nat.le_of_ble_eq_true rfl)) ?_
    have h7 := h5; clear h5
    refine zn_if_ne (pc := 13) (tgt := 20) dX2_works_13 (by decide) (fun c6 => ?_) (fun c6 => ?_)
    · replace h7 := zif_f c6 h7
      refine zn_iconst (pc := 20) (x := 0) dX2_works_20 (by decide) ?_
      have hz := Option.some.inj h7; clear h7; subst hz
      exact zn_zreturn (pc := 21) dX2_works_21 rfl (by decide) hp
    · replace h7 := zif_t c6 h7
      refine zn_iconst (pc := 16) (x := 1) dX2_works_16 (by decide) ?_
      refine zn_goto (pc := 17) (tgt := 21) dX2_works_17 (by decide) ?_
      have hz := Option.some.inj h7; clear h7; subst hz
      exact zn_zreturn (pc := 21) dX2_works_21 rfl (by decide) hp
theorem b_X9_beginNight_15 {G : zG} {Post : Option zV → zH → Prop} : ∀ (n : Nat) (i0 : Nat) (x1 : Int32) (S : zH) (out : zH), f_X9_beginNight_15 n i0 x1 S = some out → Post none out → zn G M_X9_beginNight 0 0 0 15 [(0, vR 0 (some i0)), (1, vI x1)] [] S Post := by
  intro n
  induction n with
  | zero => intro i0 x1 S out h0 hp; exact (nomatch (show (none : Option _) = some out from h0))
  | succ n ih =>
    intro i0 x1 S out h0 hp
    rw [f_X9_beginNight_15] at h0
    refine zn_iload_n (pc := 15) 1 dX9_beginNight_15 rfl rfl ?_
    refine zn_aload_n (pc := 16) 0 dX9_beginNight_16 rfl rfl ?_
    refine zn_getR (pc := 17) fa_X9_18_0.1 fa_X9_18_0.2 dX9_beginNight_17 ?_
    obtain ⟨i1, hi2, h3⟩ := zbd h0; clear h0
    rw [hi2]
    refine zn_alen (pc := 20) zk_18 rfl dX9_beginNight_20 ?_
    have h5 := h3; clear h3
    refine zn_icmp_ge (pc := 21) (tgt := 50) dX9_beginNight_21 (by decide) (fun c4 => ?_) (fun c4 => ?_)
    · replace h5 := zif_t c4 h5
      have hz := Option.some.inj h5; clear h5; subst hz
      exact zn_return (pc := 50) dX9_beginNight_50 rfl hp
    · replace h5 := zif_f c4 h5
      refine zn_aload_n (pc := 24) 0 dX9_beginNight_24 rfl rfl ?_
      refine zn_getR (pc := 25) fa_X9_18_0.1 fa_X9_18_0.2 dX9_beginNight_25 ?_
      refine zn_iload_n (pc := 28) 1 dX9_beginNight_28 rfl rfl ?_
      obtain ⟨i6, hi7, h8⟩ := zbd h5; clear h5
      rw [hi7]
      obtain ⟨hb9, h10⟩ := zgdd h8; clear h8
      refine zn_aaload (pc := 29) zk_18 rfl dX9_beginNight_29 (zib_in hb9) ?_
      refine zn_iconst (pc := 30) (x := 0) dX9_beginNight_30 (by decide) ?_
      obtain ⟨i11, hi12, h13⟩ := zbd h10; clear h10
      rw [hi12]
      obtain ⟨S14, hS15, h16⟩ := zltd h13; clear h13
      refine zn_putI (pc := 31) fp_X9_396_2.1 (fp_X9_396_2 (nm := "")).2 dX9_beginNight_31 hS15 ?_
      refine zn_aload_n (pc := 34) 0 dX9_beginNight_34 rfl rfl ?_
      refine zn_getR (pc := 35) fa_X9_18_0.1 fa_X9_18_0.2 dX9_beginNight_35 ?_
      refine zn_iload_n (pc := 38) 1 dX9_beginNight_38 rfl rfl ?_
      obtain ⟨i17, hi18, h19⟩ := zbd h16; clear h16
      rw [hi18]
      obtain ⟨hb20, h21⟩ := zgdd h19; clear h19
      refine zn_aaload (pc := 39) zk_18 rfl dX9_beginNight_39 (zib_in hb20) ?_
      refine zn_lconst (pc := 40) (x := 0) dX9_beginNight_40 (by decide) ?_
      obtain ⟨i22, hi23, h24⟩ := zbd h21; clear h21
      rw [hi23]
      obtain ⟨S25, hS26, h27⟩ := zltd h24; clear h24
      refine zn_putJ (pc := 41) fp_X9_138_2.1 (fp_X9_138_2 (nm := "")).2 dX9_beginNight_41 hS26 ?_
      refine zn_iinc (pc := 44) 1 (y := x1 + 1) (ls' := [(1, vI (x1 + 1)), (0, vR 0 (some i0))]) dX9_beginNight_44 rfl rfl (Nat.le_of_ble_eq_true rfl) rfl ?_
      refine zn_goto (pc := 47) (tgt := 15) dX9_beginNight_47 (by decide) ?_
      refine zn_pick [1, 0] rfl ?_
      exact ih _ _ _ _ h27 hp
theorem c_X9_beginNight {G : zG} {i0 : Nat} {S : zH} {out : zH} (h0 : f_X9_beginNight i0 S = some out) : zct G M_X9_beginNight 0 0 0 [vR 0 (some i0)] S (zpo none out) := by
  refine zct_of (by decide) (Nat.le_of_ble_eq_true rfl) ?_
  show zn G M_X9_beginNight 0 0 0 0 [(0, vR 0 (some i0))] [] S _
  have hp : zpo none out none out := ⟨rfl, rfl⟩
  unfold f_X9_beginNight at h0
  refine zn_aload_n (pc := 0) 0 dX9_beginNight_0 rfl rfl ?_
  refine zn_getR (pc := 1) fa_X9_10_0.1 fa_X9_10_0.2 dX9_beginNight_1 ?_
  refine zn_dup (pc := 4) dX9_beginNight_4 rfl ?_
  obtain ⟨i28, hi29, h30⟩ := zbd h0; clear h0
  rw [hi29]
  refine zn_getI (pc := 5) fa_X9_347_1.1 fa_X9_347_1.2 dX9_beginNight_5 ?_
  refine zn_iconst (pc := 8) (x := 1) dX9_beginNight_8 (by decide) ?_
  refine zn_iadd (pc := 9) dX9_beginNight_9 ?_
  obtain ⟨S31, hS32, h33⟩ := zltd h30; clear h30
  refine zn_putI (pc := 10) fp_X9_347_1.1 (fp_X9_347_1 (nm := "")).2 dX9_beginNight_10 hS32 ?_
  refine zn_iconst (pc := 13) (x := 0) dX9_beginNight_13 (by decide) ?_
  refine zn_istore_n (pc := 14) (ls' := [(1, vI 0), (0, vR 0 (some i0))]) dX9_beginNight_14 rfl (Nat.le_of_ble_eq_true rfl) rfl ?_
  refine zn_pick [1, 0] rfl ?_
  exact b_X9_beginNight_15  fu _ _ _ _ h33 hp
theorem c_X2_isLate {G : zG} {i0 : Nat} {x1 : Int32} {x2 : Int32} {S : zH} {out : Int32} (h0 : f_X2_isLate i0 x1 x2 S = some out) : zct G M_X2_isLate 0 0 0 [vR 1 (some i0), vI x1, vI x2] S (zpo (some (vI out)) S) := by
  refine zct_of (by decide) (Nat.le_of_ble_eq_true rfl) ?_
  show zn G M_X2_isLate 0 0 0 0 [(0, vR 1 (some i0)), (1, vI x1), (2, vI x2)] [] S _
  have hp : zpo (some (vI out)) S (some (vI out)) S := ⟨rfl, rfl⟩
  unfold f_X2_isLate at h0
  refine zn_iload_n (pc := 0) 2 dX2_isLate_0 rfl rfl ?_
  have h2 := h0; clear h0
  refine zn_if_lt (pc := 1) (tgt := 31) dX2_isLate_1 (by decide) (fun c1 => ?_) (fun c1 => ?_)
  · replace h2 := zif_t c1 h2
    refine zn_iconst (pc := 31) (x := 0) dX2_isLate_31 (by decide) ?_
    have hz := Option.some.inj h2; clear h2; subst hz
    exact zn_zreturn (pc := 32) dX2_isLate_32 rfl (by decide) hp
  · replace h2 := zif_f c1 h2
    refine zn_iload_n (pc := 4) 2 dX2_isLate_4 rfl rfl ?_
    refine zn_aload_n (pc := 5) 0 dX2_isLate_5 rfl rfl ?_
    refine zn_getR (pc := 6) fa_X2_15_1.1 fa_X2_15_1.2 dX2_isLate_6 ?_
    obtain ⟨i3, hi4, h5⟩ := zbd h2; clear h2
    rw [hi4]
    refine zn_alen (pc := 9) zk_22 rfl dX2_isLate_9 ?_
    have h7 := h5; clear h5
    refine zn_icmp_ge (pc := 10) (tgt := 31) dX2_isLate_10 (by decide) (fun c6 => ?_) (fun c6 => ?_)
    · replace h7 := zif_t c6 h7
      refine zn_iconst (pc := 31) (x := 0) dX2_isLate_31 (by decide) ?_
      have hz := Option.some.inj h7; clear h7; subst hz
      exact zn_zreturn (pc := 32) dX2_isLate_32 rfl (by decide) hp
    · replace h7 := zif_f c6 h7
      refine zn_aload_n (pc := 13) 0 dX2_isLate_13 rfl rfl ?_
      refine zn_getR (pc := 14) fa_X2_15_1.1 fa_X2_15_1.2 dX2_isLate_14 ?_
      refine zn_iload_n (pc := 17) 2 dX2_isLate_17 rfl rfl ?_
      obtain ⟨i8, hi9, h10⟩ := zbd h7; clear h7
      rw [hi9]
      obtain ⟨hb11, h12⟩ := zgdd h10; clear h10
      refine zn_iaload (pc := 18) zk_22 dX2_isLate_18 (zib_in hb11) ?_
      refine zn_iload_n (pc := 19) 1 dX2_isLate_19 rfl rfl ?_
      refine zn_ishr (pc := 20) dX2_isLate_20 ?_
      refine zn_iconst (pc := 21) (x := 1) dX2_isLate_21 (by decide) ?_
      refine zn_iand (pc := 22) dX2_isLate_22 ?_
      refine zn_iconst (pc := 23) (x := 1) dX2_isLate_23 (by decide) ?_
      have h14 := h12; clear h12
      refine zn_icmp_ne (pc := 24) (tgt := 31) dX2_isLate_24 (by decide) (fun c13 => ?_) (fun c13 => ?_)
      · replace h14 := zif_f c13 h14
        refine zn_iconst (pc := 31) (x := 0) dX2_isLate_31 (by decide) ?_
        have hz := Option.some.inj h14; clear h14; subst hz
        exact zn_zreturn (pc := 32) dX2_isLate_32 rfl (by decide) hp
      · replace h14 := zif_t c13 h14
        refine zn_iconst (pc := 27) (x := 1) dX2_isLate_27 (by decide) ?_
        refine zn_goto (pc := 28) (tgt := 32) dX2_isLate_28 (by decide) ?_
        have hz := Option.some.inj h14; clear h14; subst hz
        exact zn_zreturn (pc := 32) dX2_isLate_32 rfl (by decide) hp
theorem c_X4_addFault {G : zG} {i0 : Nat} {r1 : Option Nat} {S : zH} {out : zH} (h0 : f_X4_addFault i0 r1 S = some out) : zct G M_X4_addFault 0 0 0 [vR 5 (some i0), vR 2 r1] S (zpo none out) := by
  refine zct_of (by decide) (Nat.le_of_ble_eq_true rfl) ?_
  show zn G M_X4_addFault 0 0 0 0 [(0, vR 5 (some i0)), (1, vR 2 r1)] [] S _
  have hp : zpo none out none out := ⟨rfl, rfl⟩
  unfold f_X4_addFault at h0
  refine zn_aload_n (pc := 0) 0 dX4_addFault_0 rfl rfl ?_
  refine zn_getI (pc := 1) fa_X4_32_5.1 fa_X4_32_5.2 dX4_addFault_1 ?_
  have h2 := h0; clear h0
  refine zn_if_ne (pc := 4) (tgt := 12) dX4_addFault_4 (by decide) (fun c1 => ?_) (fun c1 => ?_)
  · replace h2 := zif_f c1 h2
    refine zn_aload_n (pc := 12) 0 dX4_addFault_12 rfl rfl ?_
    refine zn_dup (pc := 13) dX4_addFault_13 rfl ?_
    refine zn_getI (pc := 14) fa_X4_32_5.1 fa_X4_32_5.2 dX4_addFault_14 ?_
    refine zn_iconst (pc := 17) (x := 1) dX4_addFault_17 (by decide) ?_
    refine zn_iadd (pc := 18) dX4_addFault_18 ?_
    obtain ⟨S3, hS4, h5⟩ := zltd h2; clear h2
    refine zn_putI (pc := 19) fp_X4_32_5.1 (fp_X4_32_5 (nm := "")).2 dX4_addFault_19 hS4 ?_
    have hz := Option.some.inj h5; clear h5; subst hz
    exact zn_return (pc := 22) dX4_addFault_22 rfl hp
  · replace h2 := zif_t c1 h2
    refine zn_aload_n (pc := 7) 0 dX4_addFault_7 rfl rfl ?_
    refine zn_aload_n (pc := 8) 1 dX4_addFault_8 rfl rfl ?_
    obtain ⟨S6, hS7, h8⟩ := zltd h2; clear h2
    refine zn_putR (pc := 9) fp_X4_35_5.1 (fp_X4_35_5 (nm := "")).2.2 (fp_X4_35_5 (nm := "")).2.1 dX4_addFault_9 hS7 ?_
    refine zn_aload_n (pc := 12) 0 dX4_addFault_12 rfl rfl ?_
    refine zn_dup (pc := 13) dX4_addFault_13 rfl ?_
    refine zn_getI (pc := 14) fa_X4_32_5.1 fa_X4_32_5.2 dX4_addFault_14 ?_
    refine zn_iconst (pc := 17) (x := 1) dX4_addFault_17 (by decide) ?_
    refine zn_iadd (pc := 18) dX4_addFault_18 ?_
    obtain ⟨S9, hS10, h11⟩ := zltd h8; clear h8
    refine zn_putI (pc := 19) fp_X4_32_5.1 (fp_X4_32_5 (nm := "")).2 dX4_addFault_19 hS10 ?_
    have hz := Option.some.inj h11; clear h11; subst hz
    exact zn_return (pc := 22) dX4_addFault_22 rfl hp
theorem c_X1_hasStepLeft {G : zG} {i0 : Nat} {S : zH} {out : Int32} (h0 : f_X1_hasStepLeft i0 S = some out) : zct G M_X1_hasStepLeft 0 0 0 [vR 2 (some i0)] S (zpo (some (vI out)) S) := by
  refine zct_of (by decide) (Nat.le_of_ble_eq_true rfl) ?_
  show zn G M_X1_hasStepLeft 0 0 0 0 [(0, vR 2 (some i0))] [] S _
  have hp : zpo (some (vI out)) S (some (vI out)) S := ⟨rfl, rfl⟩
  unfold f_X1_hasStepLeft at h0
  refine zn_aload_n (pc := 0) 0 dX1_hasStepLeft_0 rfl rfl ?_
  refine zn_getI (pc := 1) fa_X1_21_2.1 fa_X1_21_2.2 dX1_hasStepLeft_1 ?_
  refine zn_aload_n (pc := 4) 0 dX1_hasStepLeft_4 rfl rfl ?_
  refine zn_getI (pc := 5) fa_X1_9_2.1 fa_X1_9_2.2 dX1_hasStepLeft_5 ?_
  have h2 := h0; clear h0
  refine zn_icmp_ge (pc := 8) (tgt := 15) dX1_hasStepLeft_8 (by decide) (fun c1 => ?_) (fun c1 => ?_)
  · replace h2 := zif_t c1 h2
    refine zn_iconst (pc := 15) (x := 0) dX1_hasStepLeft_15 (by decide) ?_
    have hz := Option.some.inj h2; clear h2; subst hz
    exact zn_zreturn (pc := 16) dX1_hasStepLeft_16 rfl (by decide) hp
  · replace h2 := zif_f c1 h2
    refine zn_iconst (pc := 11) (x := 1) dX1_hasStepLeft_11 (by decide) ?_
    refine zn_goto (pc := 12) (tgt := 16) dX1_hasStepLeft_12 (by decide) ?_
    have hz := Option.some.inj h2; clear h2; subst hz
    exact zn_zreturn (pc := 16) dX1_hasStepLeft_16 rfl (by decide) hp
theorem c_X0_isJoint {G : zG} {i0 : Nat} {S : zH} {out : Int32} (h0 : f_X0_isJoint i0 S = some out) : zct G M_X0_isJoint 0 0 0 [vR 3 (some i0)] S (zpo (some (vI out)) S) := by
  refine zct_of (by decide) (Nat.le_of_ble_eq_true rfl) ?_
  show zn G M_X0_isJoint 0 0 0 0 [(0, vR 3 (some i0))] [] S _
  have hp : zpo (some (vI out)) S (some (vI out)) S := ⟨rfl, rfl⟩
  unfold f_X0_isJoint at h0
  refine zn_aload_n (pc := 0) 0 dX0_isJoint_0 rfl rfl ?_
  refine zn_getI (pc := 1) fa_X0_22_3.1 fa_X0_22_3.2 dX0_isJoint_1 ?_
  have h2 := h0; clear h0
  refine zn_if_lt (pc := 4) (tgt := 11) dX0_isJoint_4 (by decide) (fun c1 => ?_) (fun c1 => ?_)
  · replace h2 := zif_t c1 h2
    refine zn_iconst (pc := 11) (x := 0) dX0_isJoint_11 (by decide) ?_
    have hz := Option.some.inj h2; clear h2; subst hz
    exact zn_zreturn (pc := 12) dX0_isJoint_12 rfl (by decide) hp
  · replace h2 := zif_f c1 h2
    refine zn_iconst (pc := 7) (x := 1) dX0_isJoint_7 (by decide) ?_
    refine zn_goto (pc := 8) (tgt := 12) dX0_isJoint_8 (by decide) ?_
    have hz := Option.some.inj h2; clear h2; subst hz
    exact zn_zreturn (pc := 12) dX0_isJoint_12 rfl (by decide) hp
theorem c_X4_stop {G : zG} {i0 : Nat} {x1 : Int32} {S : zH} {out : zH} (h0 : f_X4_stop i0 x1 S = some out) : zct G M_X4_stop 0 0 0 [vR 5 (some i0), vI x1] S (zpo none out) := by
  refine zct_of (by decide) (Nat.le_of_ble_eq_true rfl) ?_
  show zn G M_X4_stop 0 0 0 0 [(0, vR 5 (some i0)), (1, vI x1)] [] S _
  have hp : zpo none out none out := ⟨rfl, rfl⟩
  unfold f_X4_stop at h0
  refine zn_aload_n (pc := 0) 0 dX4_stop_0 rfl rfl ?_
  refine zn_iconst (pc := 1) (x := 0) dX4_stop_1 (by decide) ?_
  obtain ⟨S1, hS2, h3⟩ := zltd h0; clear h0
  refine zn_putZ (pc := 2) fp_X4_15_5.1 (fp_X4_15_5 (nm := "")).2 dX4_stop_2 (by decide) hS2 ?_
  refine zn_aload_n (pc := 5) 0 dX4_stop_5 rfl rfl ?_
  refine zn_iload_n (pc := 6) 1 dX4_stop_6 rfl rfl ?_
  obtain ⟨S4, hS5, h6⟩ := zltd h3; clear h3
  refine zn_putI (pc := 7) fp_X4_39_5.1 (fp_X4_39_5 (nm := "")).2 dX4_stop_7 hS5 ?_
  refine zn_aload_n (pc := 10) 0 dX4_stop_10 rfl rfl ?_
  refine zn_getR (pc := 11) fa_X4_19_5.1 fa_X4_19_5.2 dX4_stop_11 ?_
  refine zn_dup (pc := 14) dX4_stop_14 rfl ?_
  obtain ⟨i7, hi8, h9⟩ := zbd h6; clear h6
  rw [hi8]
  refine zn_getJ (pc := 15) fa_X4_42_3.1 fa_X4_42_3.2 dX4_stop_15 ?_
  refine zn_aload_n (pc := 18) 0 dX4_stop_18 rfl rfl ?_
  refine zn_getR (pc := 19) fa_X4_23_5.1 fa_X4_23_5.2 dX4_stop_19 ?_
  obtain ⟨i10, hi11, h12⟩ := zbd h9; clear h9
  rw [hi11]
  refine zn_getJ (pc := 22) fa_X4_42_3.1 fa_X4_42_3.2 dX4_stop_22 ?_
  refine zn_ladd (pc := 25) dX4_stop_25 ?_
  obtain ⟨S13, hS14, h15⟩ := zltd h12; clear h12
  refine zn_putJ (pc := 26) fp_X4_42_3.1 (fp_X4_42_3 (nm := "")).2 dX4_stop_26 hS14 ?_
  refine zn_aload_n (pc := 29) 0 dX4_stop_29 rfl rfl ?_
  refine zn_getR (pc := 30) fa_X4_23_5.1 fa_X4_23_5.2 dX4_stop_30 ?_
  refine zn_lconst (pc := 33) (x := 0) dX4_stop_33 (by decide) ?_
  obtain ⟨i16, hi17, h18⟩ := zbd h15; clear h15
  rw [hi17]
  obtain ⟨S19, hS20, h21⟩ := zltd h18; clear h18
  refine zn_putJ (pc := 34) fp_X4_42_3.1 (fp_X4_42_3 (nm := "")).2 dX4_stop_34 hS20 ?_
  refine zn_aload_n (pc := 37) 0 dX4_stop_37 rfl rfl ?_
  refine zn_getR (pc := 38) fa_X4_23_5.1 fa_X4_23_5.2 dX4_stop_38 ?_
  refine zn_iconst (pc := 41) (x := 1) dX4_stop_41 (by decide) ?_
  obtain ⟨i22, hi23, h24⟩ := zbd h21; clear h21
  rw [hi23]
  obtain ⟨S25, hS26, h27⟩ := zltd h24; clear h24
  refine zn_putI (pc := 42) fp_X4_48_3.1 (fp_X4_48_3 (nm := "")).2 dX4_stop_42 hS26 ?_
  have hz := Option.some.inj h27; clear h27; subst hz
  exact zn_return (pc := 45) dX4_stop_45 rfl hp
theorem b_X6_inForce_5 {G : zG} {Post : Option zV → zH → Prop} : ∀ (n : Nat) (i0 : Nat) (x1 : Int32) (x2 : Int32) (r3 : Option Nat) (x4 : Int32) (S : zH) (out : (Option Nat)), f_X6_inForce_5 n i0 x1 x2 r3 x4 S = some out → Post (some (vR 6 out)) S → zn G M_X6_inForce 4 0 0 5 [(0, vR 7 (some i0)), (1, vI x1), (2, vI x2), (3, vR 6 r3), (4, vI x4)] [] S Post := by
  intro n
  induction n with
  | zero => intro i0 x1 x2 r3 x4 S out h0 hp; exact (nomatch (show (none : Option _) = some out from h0))
  | succ n ih =>
    intro i0 x1 x2 r3 x4 S out h0 hp
    rw [f_X6_inForce_5] at h0
    refine zn_iload (pc := 5) 4 dX6_inForce_5 rfl ?_
    refine zn_aload_n (pc := 7) 0 dX6_inForce_7 rfl rfl ?_
    refine zn_getR (pc := 8) fa_X6_12_7.1 fa_X6_12_7.2 dX6_inForce_8 ?_
    obtain ⟨i1, hi2, h3⟩ := zbd h0; clear h0
    rw [hi2]
    obtain ⟨o4, e5, h6⟩ := zbd h3; clear h3
    refine zn_cVv (pc := 11) (kc := 0) (ks := 0) (kc' := 0) (ks' := 0) (As := []) (st := [vI x4]) dX6_inForce_11 cls_X6_33 pc_13 rfl rfl (Nat.le_of_ble_eq_true rfl) (zc_size (p := 13) (by decide) (Nat.le_of_ble_eq_true rfl) e5) ?_
    have h8 := h6; clear h6
    refine zn_icmp_ge (pc := 14) (tgt := 74) dX6_inForce_14 (by decide) (fun c7 => ?_) (fun c7 => ?_)
    · replace h8 := zif_t c7 h8
      refine zn_aload_n (pc := 74) 3 dX6_inForce_74 rfl rfl ?_
      have hz := Option.some.inj h8; clear h8; subst hz
      exact zn_areturn (pc := 75) dX6_inForce_75 rfl (Or.inl ⟨_, rfl⟩) hp
    · replace h8 := zif_f c7 h8
      refine zn_aload_n (pc := 17) 0 dX6_inForce_17 rfl rfl ?_
      refine zn_getR (pc := 18) fa_X6_12_7.1 fa_X6_12_7.2 dX6_inForce_18 ?_
      refine zn_iload (pc := 21) 4 dX6_inForce_21 rfl ?_
      obtain ⟨i9, hi10, h11⟩ := zbd h8; clear h8
      rw [hi10]
      obtain ⟨o12, e13, h14⟩ := zbd h11; clear h11
      refine zn_cVv (pc := 23) (kc := 0) (ks := 0) (kc' := 0) (ks' := 0) (As := [vI x4]) (st := []) dX6_inForce_23 clg_X6_40 pc_13 rfl rfl (Nat.le_of_ble_eq_true rfl) (zc_get (p := 13) (by decide) rfl (Nat.le_of_ble_eq_true rfl) e13) ?_
      refine zn_cast (pc := 26) cl_X6_44 pc_6 dX6_inForce_26 ?_
      refine zn_astore (pc := 29) (ls' := [(5, vR 6 o12), (0, vR 7 (some i0)), (1, vI x1), (2, vI x2), (3, vR 6 r3), (4, vI x4)]) dX6_inForce_29 (Nat.le_of_ble_eq_true rfl) rfl ?_
      refine zn_aload (pc := 31) 0 dX6_inForce_31 rfl ?_
      obtain ⟨i15, hi16, h17⟩ := zbd h14; clear h14
      rw [hi16]
      refine zn_getI (pc := 33) fa_X6_46_6.1 fa_X6_46_6.2 dX6_inForce_33 ?_
      refine zn_iload_n (pc := 36) 2 dX6_inForce_36 rfl rfl ?_
      have h19 := h17; clear h17
      refine zn_icmp_ne (pc := 37) (tgt := 68) dX6_inForce_37 (by decide) (fun c18 => ?_) (fun c18 => ?_)
      · replace h19 := zif_f c18 h19
        refine zn_iinc (pc := 68) 5 (y := x4 + 1) (ls' := [(4, vI (x4 + 1)), (5, vR 6 (some i15)), (0, vR 7 (some i0)), (1, vI x1), (2, vI x2), (3, vR 6 r3)]) dX6_inForce_68 rfl rfl (Nat.le_of_ble_eq_true rfl) rfl ?_
        refine zn_goto (pc := 71) (tgt := 5) dX6_inForce_71 (by decide) ?_
        refine zn_pick [2, 3, 4, 5, 0] rfl ?_
        exact ih _ _ _ _ _ _ _ h19 hp
      · replace h19 := zif_t c18 h19
        refine zn_aload (pc := 40) 0 dX6_inForce_40 rfl ?_
        refine zn_getI (pc := 42) fa_X6_50_6.1 fa_X6_50_6.2 dX6_inForce_42 ?_
        refine zn_iload_n (pc := 45) 3 dX6_inForce_45 rfl rfl ?_
        have h21 := h19; clear h19
        refine zn_icmp_gt (pc := 46) (tgt := 68) dX6_inForce_46 (by decide) (fun c20 => ?_) (fun c20 => ?_)
        · replace h21 := zif_t c20 h21
          refine zn_iinc (pc := 68) 5 (y := x4 + 1) (ls' := [(4, vI (x4 + 1)), (5, vR 6 (some i15)), (0, vR 7 (some i0)), (1, vI x1), (2, vI x2), (3, vR 6 r3)]) dX6_inForce_68 rfl rfl (Nat.le_of_ble_eq_true rfl) rfl ?_
          refine zn_goto (pc := 71) (tgt := 5) dX6_inForce_71 (by decide) ?_
          refine zn_pick [2, 3, 4, 5, 0] rfl ?_
          exact ih _ _ _ _ _ _ _ h21 hp
        · replace h21 := zif_f c20 h21
          refine zn_aload_n (pc := 49) 4 dX6_inForce_49 rfl rfl ?_
          have h24 := h21; clear h21
          refine zn_ifnull (pc := 50) (tgt := 65) dX6_inForce_50 (by decide) (fun hr22 => ?_) (fun i23 hr22 => ?_)
          · replace h24 := zop_n hr22 h24
            rw [hr22]
            refine zn_aload (pc := 65) 0 dX6_inForce_65 rfl ?_
            refine zn_astore_n (pc := 67) (ls' := [(3, vR 6 (some i15)), (5, vR 6 (some i15)), (0, vR 7 (some i0)), (1, vI x1), (2, vI x2), (4, vI x4)]) dX6_inForce_67 rfl (Nat.le_of_ble_eq_true rfl) rfl ?_
            refine zn_iinc (pc := 68) 5 (y := x4 + 1) (ls' := [(4, vI (x4 + 1)), (3, vR 6 (some i15)), (5, vR 6 (some i15)), (0, vR 7 (some i0)), (1, vI x1), (2, vI x2)]) dX6_inForce_68 rfl rfl (Nat.le_of_ble_eq_true rfl) rfl ?_
            refine zn_goto (pc := 71) (tgt := 5) dX6_inForce_71 (by decide) ?_
            refine zn_pick [3, 4, 5, 1, 0] rfl ?_
            exact ih _ _ _ _ _ _ _ h24 hp
          · replace h24 := zop_s hr22 h24
            rw [hr22]
            refine zn_aload (pc := 53) 0 dX6_inForce_53 rfl ?_
            refine zn_getI (pc := 55) fa_X6_50_6.1 fa_X6_50_6.2 dX6_inForce_55 ?_
            refine zn_aload_n (pc := 58) 4 dX6_inForce_58 rfl rfl ?_
            refine zn_getI (pc := 59) fa_X6_50_6.1 fa_X6_50_6.2 dX6_inForce_59 ?_
            have h26 := h24; clear h24
            refine zn_icmp_lt (pc := 62) (tgt := 68) dX6_inForce_62 (by decide) (fun c25 => ?_) (fun c25 => ?_)
            · replace h26 := zif_t c25 h26
              refine zn_iinc (pc := 68) 5 (y := x4 + 1) (ls' := [(4, vI (x4 + 1)), (5, vR 6 (some i15)), (0, vR 7 (some i0)), (1, vI x1), (2, vI x2), (3, vR 6 (some i23))]) dX6_inForce_68 rfl rfl (Nat.le_of_ble_eq_true rfl) rfl ?_
              refine zn_goto (pc := 71) (tgt := 5) dX6_inForce_71 (by decide) ?_
              refine zn_pick [2, 3, 4, 5, 0] rfl ?_
              exact ih _ _ _ _ _ _ _ h26 hp
            · replace h26 := zif_f c25 h26
              refine zn_aload (pc := 65) 0 dX6_inForce_65 rfl ?_
              refine zn_astore_n (pc := 67) (ls' := [(3, vR 6 (some i15)), (5, vR 6 (some i15)), (0, vR 7 (some i0)), (1, vI x1), (2, vI x2), (4, vI x4)]) dX6_inForce_67 rfl (Nat.le_of_ble_eq_true rfl) rfl ?_
              refine zn_iinc (pc := 68) 5 (y := x4 + 1) (ls' := [(4, vI (x4 + 1)), (3, vR 6 (some i15)), (5, vR 6 (some i15)), (0, vR 7 (some i0)), (1, vI x1), (2, vI x2)]) dX6_inForce_68 rfl rfl (Nat.le_of_ble_eq_true rfl) rfl ?_
              refine zn_goto (pc := 71) (tgt := 5) dX6_inForce_71 (by decide) ?_
              refine zn_pick [3, 4, 5, 1, 0] rfl ?_
              exact ih _ _ _ _ _ _ _ h26 hp
theorem c_X6_inForce {G : zG} {i0 : Nat} {x1 : Int32} {x2 : Int32} {S : zH} {out : (Option Nat)} (h0 : f_X6_inForce i0 x1 x2 S = some out) : zct G M_X6_inForce 4 0 0 [vR 7 (some i0), vI x1, vI x2] S (zpo (some (vR 6 out)) S) := by
  refine zct_of (by decide) (Nat.le_of_ble_eq_true rfl) ?_
  show zn G M_X6_inForce 4 0 0 0 [(0, vR 7 (some i0)), (1, vI x1), (2, vI x2)] [] S _
  have hp : zpo (some (vR 6 out)) S (some (vR 6 out)) S := ⟨rfl, rfl⟩
  unfold f_X6_inForce at h0
  refine zn_null (pc := 0) 6 dX6_inForce_0 ?_
  refine zn_astore_n (pc := 1) (ls' := [(3, vR 6 none), (0, vR 7 (some i0)), (1, vI x1), (2, vI x2)]) dX6_inForce_1 rfl (Nat.le_of_ble_eq_true rfl) rfl ?_
  refine zn_iconst (pc := 2) (x := 0) dX6_inForce_2 (by decide) ?_
  refine zn_istore (pc := 3) (ls' := [(4, vI 0), (3, vR 6 none), (0, vR 7 (some i0)), (1, vI x1), (2, vI x2)]) dX6_inForce_3 (Nat.le_of_ble_eq_true rfl) rfl ?_
  refine zn_pick [2, 3, 4, 1, 0] rfl ?_
  exact b_X6_inForce_5  fu _ _ _ _ _ _ _ h0 hp
theorem b_J7_fill_d0a16_6 {G : zG} {Post : Option zV → zH → Prop} : ∀ (n : Nat) (r0 : Option Nat) (x1 : Int64) (x3 : Int32) (x4 : Int32) (S : zH) (out : zH), f_J7_fill_d0a16_6 n r0 x1 x3 x4 S = some out → Post none out → zn G M_J7_fill_d0a16 0 0 0 6 [(0, vR 26 r0), (1, vJ x1), (3, vI x3), (4, vI x4)] [] S Post := by
  intro n
  induction n with
  | zero => intro r0 x1 x3 x4 S out h0 hp; exact (nomatch (show (none : Option _) = some out from h0))
  | succ n ih =>
    intro r0 x1 x3 x4 S out h0 hp
    rw [f_J7_fill_d0a16_6] at h0
    refine zn_iload_n (pc := 6) 2 dJ7_fill_d0a16_6 rfl rfl ?_
    refine zn_iload (pc := 7) 3 dJ7_fill_d0a16_7 rfl ?_
    have h2 := h0; clear h0
    refine zn_icmp_ge (pc := 9) (tgt := 22) dJ7_fill_d0a16_9 (by decide) (fun c1 => ?_) (fun c1 => ?_)
    · replace h2 := zif_t c1 h2
      have hz := Option.some.inj h2; clear h2; subst hz
      exact zn_return (pc := 22) dJ7_fill_d0a16_22 rfl hp
    · replace h2 := zif_f c1 h2
      refine zn_aload_n (pc := 12) 0 dJ7_fill_d0a16_12 rfl rfl ?_
      refine zn_iload_n (pc := 13) 2 dJ7_fill_d0a16_13 rfl rfl ?_
      refine zn_lload_n (pc := 14) 1 dJ7_fill_d0a16_14 rfl rfl ?_
      obtain ⟨i3, hi4, h5⟩ := zbd h2; clear h2
      rw [hi4]
      obtain ⟨hb6, h7⟩ := zgdd h5; clear h5
      obtain ⟨S8, hS9, h10⟩ := zltd h7; clear h7
      refine zn_lastore (pc := 15) zk_26 dJ7_fill_d0a16_15 (zib_in hb6) hS9 ?_
      refine zn_iinc (pc := 16) 2 (y := x3 + 1) (ls' := [(3, vI (x3 + 1)), (0, vR 26 (some i3)), (1, vJ x1), (4, vI x4)]) dJ7_fill_d0a16_16 rfl rfl (Nat.le_of_ble_eq_true rfl) rfl ?_
      refine zn_goto (pc := 19) (tgt := 6) dJ7_fill_d0a16_19 (by decide) ?_
      refine zn_pick [1, 2, 0, 3] rfl ?_
      exact ih _ _ _ _ _ _ h10 hp
theorem c_J7_fill_d0a16 {G : zG} {r0 : Option Nat} {x1 : Int64} {S : zH} {out : zH} (h0 : f_J7_fill_d0a16 r0 x1 S = some out) : zct G M_J7_fill_d0a16 0 0 0 [vR 26 r0, vJ x1] S (zpo none out) := by
  refine zct_of (by decide) (Nat.le_of_ble_eq_true rfl) ?_
  show zn G M_J7_fill_d0a16 0 0 0 0 [(0, vR 26 r0), (1, vJ x1)] [] S _
  have hp : zpo none out none out := ⟨rfl, rfl⟩
  unfold f_J7_fill_d0a16 at h0
  refine zn_iconst (pc := 0) (x := 0) dJ7_fill_d0a16_0 (by decide) ?_
  refine zn_istore_n (pc := 1) (ls' := [(3, vI 0), (0, vR 26 r0), (1, vJ x1)]) dJ7_fill_d0a16_1 rfl (Nat.le_of_ble_eq_true rfl) rfl ?_
  refine zn_aload_n (pc := 2) 1 dJ7_fill_d0a16_2 rfl rfl ?_
  obtain ⟨i11, hi12, h13⟩ := zbd h0; clear h0
  rw [hi12]
  refine zn_alen (pc := 3) zk_26 rfl dJ7_fill_d0a16_3 ?_
  refine zn_istore (pc := 4) (ls' := [(4, vI (Int32.ofNat (zL S 26 i11))), (3, vI 0), (0, vR 26 (some i11)), (1, vJ x1)]) dJ7_fill_d0a16_4 (Nat.le_of_ble_eq_true rfl) rfl ?_
  refine zn_pick [2, 3, 1, 0] rfl ?_
  exact b_J7_fill_d0a16_6  fu _ _ _ _ _ _ h13 hp
theorem c_X6_freshLetters {G : zG} {i0 : Nat} {S : zH} {out : ((Option Nat) × zH)} (h0 : f_X6_freshLetters i0 S = some out) : zct G M_X6_freshLetters 1 0 0 [vR 7 (some i0)] S (zpo (some (vR 26 out.1)) out.2) := by
  refine zct_of (by decide) (Nat.le_of_ble_eq_true rfl) ?_
  show zn G M_X6_freshLetters 1 0 0 0 [(0, vR 7 (some i0))] [] S _
  have hp : zpo (some (vR 26 out.1)) out.2 (some (vR 26 out.1)) out.2 := ⟨rfl, rfl⟩
  unfold f_X6_freshLetters at h0
  refine zn_aload_n (pc := 0) 0 dX6_freshLetters_0 rfl rfl ?_
  refine zn_getR (pc := 1) fa_X6_26_7.1 fa_X6_26_7.2 dX6_freshLetters_1 ?_
  refine zn_lconst (pc := 4) (x := 0) dX6_freshLetters_4 (by decide) ?_
  obtain ⟨o1, e2, h3⟩ := zbd h0; clear h0
  refine zn_cS0 (pc := 5) (kc := 0) (ks := 0) (kc' := 0) (ks' := 0) (As := [vR 26 (zR S 7 i0 1), vJ 0]) (st := []) dX6_freshLetters_5 cs_X6_53 rfl rfl (Nat.le_of_ble_eq_true rfl) ((c_J7_fill_d0a16 e2).mono (Nat.le_of_ble_eq_true rfl)) ?_
  refine zn_aload_n (pc := 8) 0 dX6_freshLetters_8 rfl rfl ?_
  refine zn_getR (pc := 9) fa_X6_26_7.1 fa_X6_26_7.2 dX6_freshLetters_9 ?_
  have hz := Option.some.inj h3; clear h3; subst hz
  exact zn_areturn (pc := 12) dX6_freshLetters_12 rfl (Or.inr ⟨_, rfl⟩) hp
theorem b_X9_linesNotEnded_4 {G : zG} {Post : Option zV → zH → Prop} : ∀ (n : Nat) (i0 : Nat) (r1 : Option Nat) (x2 : Int32) (x3 : Int32) (S : zH) (out : Int32), f_X9_linesNotEnded_4 n i0 r1 x2 x3 S = some out → Post (some (vI out)) S → zn G M_X9_linesNotEnded 4 0 0 4 [(0, vR 0 (some i0)), (1, vR 3 r1), (2, vI x2), (3, vI x3)] [] S Post := by
  intro n
  induction n with
  | zero => intro i0 r1 x2 x3 S out h0 hp; exact (nomatch (show (none : Option _) = some out from h0))
  | succ n ih =>
    intro i0 r1 x2 x3 S out h0 hp
    rw [f_X9_linesNotEnded_4] at h0
    refine zn_iload_n (pc := 4) 3 dX9_linesNotEnded_4 rfl rfl ?_
    refine zn_aload_n (pc := 5) 0 dX9_linesNotEnded_5 rfl rfl ?_
    refine zn_getR (pc := 6) fa_X9_32_0.1 fa_X9_32_0.2 dX9_linesNotEnded_6 ?_
    obtain ⟨i1, hi2, h3⟩ := zbd h0; clear h0
    rw [hi2]
    obtain ⟨o4, e5, h6⟩ := zbd h3; clear h3
    refine zn_cVv (pc := 9) (kc := 0) (ks := 0) (kc' := 0) (ks' := 0) (As := []) (st := [vI x3]) dX9_linesNotEnded_9 cls_X9_142 pc_11 rfl rfl (Nat.le_of_ble_eq_true rfl) (zc_size (p := 11) (by decide) (Nat.le_of_ble_eq_true rfl) e5) ?_
    have h8 := h6; clear h6
    refine zn_icmp_ge (pc := 12) (tgt := 58) dX9_linesNotEnded_12 (by decide) (fun c7 => ?_) (fun c7 => ?_)
    · replace h8 := zif_t c7 h8
      refine zn_iload_n (pc := 58) 2 dX9_linesNotEnded_58 rfl rfl ?_
      have hz := Option.some.inj h8; clear h8; subst hz
      exact zn_ireturn (pc := 59) dX9_linesNotEnded_59 rfl hp
    · replace h8 := zif_f c7 h8
      refine zn_aload_n (pc := 15) 0 dX9_linesNotEnded_15 rfl rfl ?_
      refine zn_getR (pc := 16) fa_X9_32_0.1 fa_X9_32_0.2 dX9_linesNotEnded_16 ?_
      refine zn_iload_n (pc := 19) 3 dX9_linesNotEnded_19 rfl rfl ?_
      obtain ⟨i9, hi10, h11⟩ := zbd h8; clear h8
      rw [hi10]
      obtain ⟨o12, e13, h14⟩ := zbd h11; clear h11
      refine zn_cVv (pc := 20) (kc := 0) (ks := 0) (kc' := 0) (ks' := 0) (As := [vI x3]) (st := []) dX9_linesNotEnded_20 clg_X9_353 pc_11 rfl rfl (Nat.le_of_ble_eq_true rfl) (zc_get (p := 11) (by decide) rfl (Nat.le_of_ble_eq_true rfl) e13) ?_
      refine zn_cast (pc := 23) cl_X9_224 pc_4 dX9_linesNotEnded_23 ?_
      refine zn_astore (pc := 26) (ls' := [(4, vR 4 o12), (0, vR 0 (some i0)), (1, vR 3 r1), (2, vI x2), (3, vI x3)]) dX9_linesNotEnded_26 (Nat.le_of_ble_eq_true rfl) rfl ?_
      refine zn_aload (pc := 28) 0 dX9_linesNotEnded_28 rfl ?_
      obtain ⟨i15, hi16, h17⟩ := zbd h14; clear h14
      rw [hi16]
      refine zn_getI (pc := 30) fa_X9_236_4.1 fa_X9_236_4.2 dX9_linesNotEnded_30 ?_
      have h19 := h17; clear h17
      refine zn_if_ne (pc := 33) (tgt := 52) dX9_linesNotEnded_33 (by decide) (fun c18 => ?_) (fun c18 => ?_)
      · replace h19 := zif_f c18 h19
        refine zn_iinc (pc := 52) 4 (y := x3 + 1) (ls' := [(3, vI (x3 + 1)), (4, vR 4 (some i15)), (0, vR 0 (some i0)), (1, vR 3 r1), (2, vI x2)]) dX9_linesNotEnded_52 rfl rfl (Nat.le_of_ble_eq_true rfl) rfl ?_
        refine zn_goto (pc := 55) (tgt := 4) dX9_linesNotEnded_55 (by decide) ?_
        refine zn_pick [2, 3, 4, 0] rfl ?_
        exact ih _ _ _ _ _ _ h19 hp
      · replace h19 := zif_t c18 h19
        refine zn_aload_n (pc := 36) 2 dX9_linesNotEnded_36 rfl rfl ?_
        have h22 := h19; clear h19
        refine zn_ifnull (pc := 37) (tgt := 49) dX9_linesNotEnded_37 (by decide) (fun hr20 => ?_) (fun i21 hr20 => ?_)
        · replace h22 := zop_n hr20 h22
          rw [hr20]
          refine zn_iinc (pc := 49) 3 (y := x2 + 1) (ls' := [(2, vI (x2 + 1)), (4, vR 4 (some i15)), (0, vR 0 (some i0)), (1, vR 3 none), (3, vI x3)]) dX9_linesNotEnded_49 rfl rfl (Nat.le_of_ble_eq_true rfl) rfl ?_
          refine zn_iinc (pc := 52) 4 (y := x3 + 1) (ls' := [(3, vI (x3 + 1)), (2, vI (x2 + 1)), (4, vR 4 (some i15)), (0, vR 0 (some i0)), (1, vR 3 none)]) dX9_linesNotEnded_52 rfl rfl (Nat.le_of_ble_eq_true rfl) rfl ?_
          refine zn_goto (pc := 55) (tgt := 4) dX9_linesNotEnded_55 (by decide) ?_
          refine zn_pick [3, 4, 1, 0] rfl ?_
          exact ih _ _ _ _ _ _ h22 hp
        · replace h22 := zop_s hr20 h22
          rw [hr20]
          refine zn_aload (pc := 40) 0 dX9_linesNotEnded_40 rfl ?_
          refine zn_getR (pc := 42) fa_X9_246_4.1 fa_X9_246_4.2 dX9_linesNotEnded_42 ?_
          refine zn_aload_n (pc := 45) 2 dX9_linesNotEnded_45 rfl rfl ?_
          have h24 := h22; clear h22
          refine zn_acmp_ne (pc := 46) (tgt := 52) rfl dX9_linesNotEnded_46 (by decide) (fun c23 => ?_) (fun c23 => ?_)
          · replace h24 := zif_f c23 h24
            refine zn_iinc (pc := 52) 4 (y := x3 + 1) (ls' := [(3, vI (x3 + 1)), (4, vR 4 (some i15)), (0, vR 0 (some i0)), (1, vR 3 (some i21)), (2, vI x2)]) dX9_linesNotEnded_52 rfl rfl (Nat.le_of_ble_eq_true rfl) rfl ?_
            refine zn_goto (pc := 55) (tgt := 4) dX9_linesNotEnded_55 (by decide) ?_
            refine zn_pick [2, 3, 4, 0] rfl ?_
            exact ih _ _ _ _ _ _ h24 hp
          · replace h24 := zif_t c23 h24
            refine zn_iinc (pc := 49) 3 (y := x2 + 1) (ls' := [(2, vI (x2 + 1)), (4, vR 4 (some i15)), (0, vR 0 (some i0)), (1, vR 3 (some i21)), (3, vI x3)]) dX9_linesNotEnded_49 rfl rfl (Nat.le_of_ble_eq_true rfl) rfl ?_
            refine zn_iinc (pc := 52) 4 (y := x3 + 1) (ls' := [(3, vI (x3 + 1)), (2, vI (x2 + 1)), (4, vR 4 (some i15)), (0, vR 0 (some i0)), (1, vR 3 (some i21))]) dX9_linesNotEnded_52 rfl rfl (Nat.le_of_ble_eq_true rfl) rfl ?_
            refine zn_goto (pc := 55) (tgt := 4) dX9_linesNotEnded_55 (by decide) ?_
            refine zn_pick [3, 4, 1, 0] rfl ?_
            exact ih _ _ _ _ _ _ h24 hp
theorem c_X9_linesNotEnded {G : zG} {i0 : Nat} {r1 : Option Nat} {S : zH} {out : Int32} (h0 : f_X9_linesNotEnded i0 r1 S = some out) : zct G M_X9_linesNotEnded 4 0 0 [vR 0 (some i0), vR 3 r1] S (zpo (some (vI out)) S) := by
  refine zct_of (by decide) (Nat.le_of_ble_eq_true rfl) ?_
  show zn G M_X9_linesNotEnded 4 0 0 0 [(0, vR 0 (some i0)), (1, vR 3 r1)] [] S _
  have hp : zpo (some (vI out)) S (some (vI out)) S := ⟨rfl, rfl⟩
  unfold f_X9_linesNotEnded at h0
  refine zn_iconst (pc := 0) (x := 0) dX9_linesNotEnded_0 (by decide) ?_
  refine zn_istore_n (pc := 1) (ls' := [(2, vI 0), (0, vR 0 (some i0)), (1, vR 3 r1)]) dX9_linesNotEnded_1 rfl (Nat.le_of_ble_eq_true rfl) rfl ?_
  refine zn_iconst (pc := 2) (x := 0) dX9_linesNotEnded_2 (by decide) ?_
  refine zn_istore_n (pc := 3) (ls' := [(3, vI 0), (2, vI 0), (0, vR 0 (some i0)), (1, vR 3 r1)]) dX9_linesNotEnded_3 rfl (Nat.le_of_ble_eq_true rfl) rfl ?_
  refine zn_pick [2, 3, 1, 0] rfl ?_
  exact b_X9_linesNotEnded_4  fu _ _ _ _ _ _ h0 hp
theorem b_X9_lettersOfLeaving_56 {G : zG} {Post : Option zV → zH → Prop} {i0 : Nat} {r1 : Option Nat} {r3 : Option Nat} {xs0 : Int64} {xs1 : Int32} {rs2 : Option Nat} {S : zH} {out : ((Option Nat) × zH)} (h0 : f_X9_lettersOfLeaving_56 i0 r1 r3 xs0 xs1 rs2 S = some out) (hp : Post (some (vR 26 out.1)) out.2) : zn G M_X9_lettersOfLeaving 5 0 0 56 [(0, vR 0 (some i0)), (1, vR 3 r1), (3, vR 26 r3)] [vJ xs0, vI xs1, vR 26 rs2] S Post := by
  unfold f_X9_lettersOfLeaving_56 at h0
  obtain ⟨i1, hi2, h3⟩ := zbd h0; clear h0
  rw [hi2]
  obtain ⟨hb4, h5⟩ := zgdd h3; clear h3
  obtain ⟨S6, hS7, h8⟩ := zltd h5; clear h5
  refine zn_lastore (pc := 56) zk_26 dX9_lettersOfLeaving_56 (zib_in hb4) hS7 ?_
  refine zn_aload_n (pc := 57) 2 dX9_lettersOfLeaving_57 rfl rfl ?_
  refine zn_iconst (pc := 58) (x := 5) dX9_lettersOfLeaving_58 (by decide) ?_
  refine zn_aload_n (pc := 59) 0 dX9_lettersOfLeaving_59 rfl rfl ?_
  refine zn_aload_n (pc := 60) 1 dX9_lettersOfLeaving_60 rfl rfl ?_
  obtain ⟨o9, e10, h11⟩ := zbd h8; clear h8
  refine zn_cVv (pc := 61) (kc := 0) (ks := 0) (kc' := 0) (ks' := 0) (As := [vR 3 r1]) (st := [vI 5, vR 26 r3]) dX9_lettersOfLeaving_61 cs_X9_340 pc_0 rfl rfl (Nat.le_of_ble_eq_true rfl) ((c_X9_linesNotEnded e10).mono (Nat.le_of_ble_eq_true rfl)) ?_
  refine zn_i2l (pc := 64) dX9_lettersOfLeaving_64 ?_
  obtain ⟨i12, hi13, h14⟩ := zbd h11; clear h11
  rw [hi13]
  obtain ⟨hb15, h16⟩ := zgdd h14; clear h14
  obtain ⟨S17, hS18, h19⟩ := zltd h16; clear h16
  refine zn_lastore (pc := 65) zk_26 dX9_lettersOfLeaving_65 (zib_in hb15) hS18 ?_
  refine zn_aload_n (pc := 66) 2 dX9_lettersOfLeaving_66 rfl rfl ?_
  have hz := Option.some.inj h19; clear h19; subst hz
  exact zn_areturn (pc := 67) dX9_lettersOfLeaving_67 rfl (Or.inr ⟨_, rfl⟩) hp
theorem c_X9_lettersOfLeaving {G : zG} {i0 : Nat} {r1 : Option Nat} {r2 : Option Nat} {S : zH} {out : ((Option Nat) × zH)} (h0 : f_X9_lettersOfLeaving i0 r1 r2 S = some out) : zct G M_X9_lettersOfLeaving 5 0 0 [vR 0 (some i0), vR 3 r1, vR 2 r2] S (zpo (some (vR 26 out.1)) out.2) := by
  refine zct_of (by decide) (Nat.le_of_ble_eq_true rfl) ?_
  show zn G M_X9_lettersOfLeaving 5 0 0 0 [(0, vR 0 (some i0)), (1, vR 3 r1), (2, vR 2 r2)] [] S _
  have hp : zpo (some (vR 26 out.1)) out.2 (some (vR 26 out.1)) out.2 := ⟨rfl, rfl⟩
  unfold f_X9_lettersOfLeaving at h0
  refine zn_aload_n (pc := 0) 0 dX9_lettersOfLeaving_0 rfl rfl ?_
  refine zn_getR (pc := 1) fa_X9_41_0.1 fa_X9_41_0.2 dX9_lettersOfLeaving_1 ?_
  obtain ⟨i20, hi21, h22⟩ := zbd h0; clear h0
  rw [hi21]
  obtain ⟨o23, e24, h25⟩ := zbd h22; clear h22
  refine zn_cVv (pc := 4) (kc := 0) (ks := 0) (kc' := 0) (ks' := 0) (As := []) (st := []) dX9_lettersOfLeaving_4 cs_X9_373 pc_7 rfl rfl (Nat.le_of_ble_eq_true rfl) ((c_X6_freshLetters e24).mono (Nat.le_of_ble_eq_true rfl)) ?_
  refine zn_astore_n (pc := 7) (ls' := [(3, vR 26 o23.1), (0, vR 0 (some i0)), (1, vR 3 r1), (2, vR 2 r2)]) dX9_lettersOfLeaving_7 rfl (Nat.le_of_ble_eq_true rfl) rfl ?_
  refine zn_aload_n (pc := 8) 0 dX9_lettersOfLeaving_8 rfl rfl ?_
  refine zn_iconst (pc := 9) (x := 0) dX9_lettersOfLeaving_9 (by decide) ?_
  refine zn_aload_n (pc := 10) 2 dX9_lettersOfLeaving_10 rfl rfl ?_
  obtain ⟨i26, hi27, h28⟩ := zbd h25; clear h25
  rw [hi27]
  refine zn_getR (pc := 11) fa_X9_176_3.1 fa_X9_176_3.2 dX9_lettersOfLeaving_11 ?_
  obtain ⟨i29, hi30, h31⟩ := zbd h28; clear h28
  rw [hi30]
  refine zn_getI (pc := 14) fa_X9_180_2.1 fa_X9_180_2.2 dX9_lettersOfLeaving_14 ?_
  refine zn_i2l (pc := 17) dX9_lettersOfLeaving_17 ?_
  obtain ⟨i32, hi33, h34⟩ := zbd h31; clear h31
  rw [hi33]
  obtain ⟨hb35, h36⟩ := zgdd h34; clear h34
  obtain ⟨S37, hS38, h39⟩ := zltd h36; clear h36
  refine zn_lastore (pc := 18) zk_26 dX9_lettersOfLeaving_18 (zib_in hb35) hS38 ?_
  refine zn_aload_n (pc := 19) 0 dX9_lettersOfLeaving_19 rfl rfl ?_
  refine zn_iconst (pc := 20) (x := 1) dX9_lettersOfLeaving_20 (by decide) ?_
  refine zn_aload_n (pc := 21) 3 dX9_lettersOfLeaving_21 rfl rfl ?_
  obtain ⟨i40, hi41, h42⟩ := zbd h39; clear h39
  rw [hi41]
  refine zn_getI (pc := 22) fa_X9_180_2.1 fa_X9_180_2.2 dX9_lettersOfLeaving_22 ?_
  refine zn_i2l (pc := 25) dX9_lettersOfLeaving_25 ?_
  obtain ⟨hb43, h44⟩ := zgdd h42; clear h42
  obtain ⟨S45, hS46, h47⟩ := zltd h44; clear h44
  refine zn_lastore (pc := 26) zk_26 dX9_lettersOfLeaving_26 (zib_in hb43) hS46 ?_
  refine zn_aload_n (pc := 27) 0 dX9_lettersOfLeaving_27 rfl rfl ?_
  refine zn_iconst (pc := 28) (x := 2) dX9_lettersOfLeaving_28 (by decide) ?_
  refine zn_aload_n (pc := 29) 2 dX9_lettersOfLeaving_29 rfl rfl ?_
  refine zn_getJ (pc := 30) fa_X9_163_3.1 fa_X9_163_3.2 dX9_lettersOfLeaving_30 ?_
  obtain ⟨hb48, h49⟩ := zgdd h47; clear h47
  obtain ⟨S50, hS51, h52⟩ := zltd h49; clear h49
  refine zn_lastore (pc := 33) zk_26 dX9_lettersOfLeaving_33 (zib_in hb48) hS51 ?_
  refine zn_aload_n (pc := 34) 0 dX9_lettersOfLeaving_34 rfl rfl ?_
  refine zn_iconst (pc := 35) (x := 3) dX9_lettersOfLeaving_35 (by decide) ?_
  refine zn_aload_n (pc := 36) 2 dX9_lettersOfLeaving_36 rfl rfl ?_
  refine zn_getI (pc := 37) fa_X9_166_3.1 fa_X9_166_3.2 dX9_lettersOfLeaving_37 ?_
  refine zn_i2l (pc := 40) dX9_lettersOfLeaving_40 ?_
  obtain ⟨hb53, h54⟩ := zgdd h52; clear h52
  obtain ⟨S55, hS56, h57⟩ := zltd h54; clear h54
  refine zn_lastore (pc := 41) zk_26 dX9_lettersOfLeaving_41 (zib_in hb53) hS56 ?_
  refine zn_aload_n (pc := 42) 0 dX9_lettersOfLeaving_42 rfl rfl ?_
  refine zn_iconst (pc := 43) (x := 4) dX9_lettersOfLeaving_43 (by decide) ?_
  refine zn_aload_n (pc := 44) 2 dX9_lettersOfLeaving_44 rfl rfl ?_
  obtain ⟨o58, e59, h60⟩ := zbd h57; clear h57
  refine zn_cVv (pc := 45) (kc := 0) (ks := 0) (kc' := 0) (ks' := 0) (As := []) (st := [vI 4, vR 26 (some i32)]) dX9_lettersOfLeaving_45 cs_X9_283 pc_3 rfl rfl (Nat.le_of_ble_eq_true rfl) ((c_X0_isJoint e59).mono (Nat.le_of_ble_eq_true rfl)) ?_
  have h62 := h60; clear h60
  refine zn_if_eq (pc := 48) (tgt := 55) dX9_lettersOfLeaving_48 (by decide) (fun c61 => ?_) (fun c61 => ?_)
  · replace h62 := zif_t c61 h62
    refine zn_lconst (pc := 55) (x := 0) dX9_lettersOfLeaving_55 (by decide) ?_
    refine zn_pick [1, 2, 0] rfl ?_
    exact b_X9_lettersOfLeaving_56  h62 hp
  · replace h62 := zif_f c61 h62
    refine zn_lconst (pc := 51) (x := 1) dX9_lettersOfLeaving_51 (by decide) ?_
    refine zn_goto (pc := 52) (tgt := 56) dX9_lettersOfLeaving_52 (by decide) ?_
    refine zn_pick [1, 2, 0] rfl ?_
    exact b_X9_lettersOfLeaving_56  h62 hp
theorem c_X5_join {G : zG} {x0 : Int32} {x1 : Int64} {x3 : Int64} {S : zH} {out : Int64} (h0 : f_X5_join x0 x1 x3 S = some out) : zct G M_X5_join 0 0 0 [vI x0, vJ x1, vJ x3] S (zpo (some (vJ out)) S) := by
  refine zct_of (by decide) (Nat.le_of_ble_eq_true rfl) ?_
  show zn G M_X5_join 0 0 0 0 [(0, vI x0), (1, vJ x1), (3, vJ x3)] [] S _
  have hp : zpo (some (vJ out)) S (some (vJ out)) S := ⟨rfl, rfl⟩
  unfold f_X5_join at h0
  refine zn_iload_n (pc := 0) 0 dX5_join_0 rfl rfl ?_
  have h2 := h0; clear h0
  by_cases c1 : x0 = 42
  · replace h2 := zif_t c1 h2
    refine zn_tsIn (pc := 1) (tgt := 108) (off := 107) dX5_join_1 c1 (by decide) (by decide) ?_
    refine zn_lload_n (pc := 108) 1 dX5_join_108 rfl rfl ?_
    refine zn_lload_n (pc := 109) 2 dX5_join_109 rfl rfl ?_
    refine zn_lmul (pc := 110) dX5_join_110 ?_
    have hz := Option.some.inj h2; clear h2; subst hz
    exact zn_lreturn (pc := 111) dX5_join_111 rfl hp
  · replace h2 := zif_f c1 h2
    have h4 := h2; clear h2
    by_cases c3 : x0 = 43
    · replace h4 := zif_t c3 h4
      refine zn_tsIn (pc := 1) (tgt := 100) (off := 99) dX5_join_1 c3 (by decide) (by decide) ?_
      refine zn_lload_n (pc := 100) 1 dX5_join_100 rfl rfl ?_
      refine zn_lload_n (pc := 101) 2 dX5_join_101 rfl rfl ?_
      refine zn_ladd (pc := 102) dX5_join_102 ?_
      have hz := Option.some.inj h4; clear h4; subst hz
      exact zn_lreturn (pc := 103) dX5_join_103 rfl hp
    · replace h4 := zif_f c3 h4
      have h6 := h4; clear h4
      by_cases c5 : x0 = 44
      · replace h6 := zif_t c5 h6
        refine zn_tsIn (pc := 1) (tgt := 162) (off := 161) dX5_join_1 c5 (by decide) (by decide) ?_
        refine zn_lconst (pc := 162) (x := 0) dX5_join_162 (by decide) ?_
        have hz := Option.some.inj h6; clear h6; subst hz
        exact zn_lreturn (pc := 163) dX5_join_163 rfl hp
      · replace h6 := zif_f c5 h6
        have h8 := h6; clear h6
        by_cases c7 : x0 = 45
        · replace h8 := zif_t c7 h8
          refine zn_tsIn (pc := 1) (tgt := 104) (off := 103) dX5_join_1 c7 (by decide) (by decide) ?_
          refine zn_lload_n (pc := 104) 1 dX5_join_104 rfl rfl ?_
          refine zn_lload_n (pc := 105) 2 dX5_join_105 rfl rfl ?_
          refine zn_lsub (pc := 106) dX5_join_106 ?_
          have hz := Option.some.inj h8; clear h8; subst hz
          exact zn_lreturn (pc := 107) dX5_join_107 rfl hp
        · replace h8 := zif_f c7 h8
          have h10 := h8; clear h8
          by_cases c9 : x0 = 46
          · replace h10 := zif_t c9 h10
            refine zn_tsIn (pc := 1) (tgt := 162) (off := 161) dX5_join_1 c9 (by decide) (by decide) ?_
            refine zn_lconst (pc := 162) (x := 0) dX5_join_162 (by decide) ?_
            have hz := Option.some.inj h10; clear h10; subst hz
            exact zn_lreturn (pc := 163) dX5_join_163 rfl hp
          · replace h10 := zif_f c9 h10
            have h12 := h10; clear h10
            by_cases c11 : x0 = 47
            · replace h12 := zif_t c11 h12
              refine zn_tsIn (pc := 1) (tgt := 112) (off := 111) dX5_join_1 c11 (by decide) (by decide) ?_
              refine zn_lload_n (pc := 112) 2 dX5_join_112 rfl rfl ?_
              refine zn_lconst (pc := 113) (x := 0) dX5_join_113 (by decide) ?_
              refine zn_lcmp (pc := 114) dX5_join_114 ?_
              have h14 := h12; clear h12
              refine zn_if_ne (pc := 115) (tgt := 122) dX5_join_115 (by decide) (fun c13 => ?_) (fun c13 => ?_)
              · replace h14 := zif_f c13 h14
                refine zn_lload_n (pc := 122) 1 dX5_join_122 rfl rfl ?_
                refine zn_lload_n (pc := 123) 2 dX5_join_123 rfl rfl ?_
                obtain ⟨hb15, h16⟩ := zgdd h14; clear h14
                refine zn_ldiv (pc := 124) dX5_join_124 (zneL_of hb15) ?_
                have hz := Option.some.inj h16; clear h16; subst hz
                exact zn_lreturn (pc := 125) dX5_join_125 rfl hp
              · replace h14 := zif_t c13 h14
                refine zn_lconst (pc := 118) (x := 0) dX5_join_118 (by decide) ?_
                refine zn_goto (pc := 119) (tgt := 125) dX5_join_119 (by decide) ?_
                have hz := Option.some.inj h14; clear h14; subst hz
                exact zn_lreturn (pc := 125) dX5_join_125 rfl hp
            · replace h12 := zif_f c11 h12
              have h18 := h12; clear h12
              by_cases c17 : x0 = 48
              · replace h18 := zif_t c17 h18
                refine zn_tsIn (pc := 1) (tgt := 162) (off := 161) dX5_join_1 c17 (by decide) (by decide) ?_
                refine zn_lconst (pc := 162) (x := 0) dX5_join_162 (by decide) ?_
                have hz := Option.some.inj h18; clear h18; subst hz
                exact zn_lreturn (pc := 163) dX5_join_163 rfl hp
              · replace h18 := zif_f c17 h18
                have h20 := h18; clear h18
                by_cases c19 : x0 = 49
                · replace h20 := zif_t c19 h20
                  refine zn_tsIn (pc := 1) (tgt := 162) (off := 161) dX5_join_1 c19 (by decide) (by decide) ?_
                  refine zn_lconst (pc := 162) (x := 0) dX5_join_162 (by decide) ?_
                  have hz := Option.some.inj h20; clear h20; subst hz
                  exact zn_lreturn (pc := 163) dX5_join_163 rfl hp
                · replace h20 := zif_f c19 h20
                  have h22 := h20; clear h20
                  by_cases c21 : x0 = 50
                  · replace h22 := zif_t c21 h22
                    refine zn_tsIn (pc := 1) (tgt := 162) (off := 161) dX5_join_1 c21 (by decide) (by decide) ?_
                    refine zn_lconst (pc := 162) (x := 0) dX5_join_162 (by decide) ?_
                    have hz := Option.some.inj h22; clear h22; subst hz
                    exact zn_lreturn (pc := 163) dX5_join_163 rfl hp
                  · replace h22 := zif_f c21 h22
                    have h24 := h22; clear h22
                    by_cases c23 : x0 = 51
                    · replace h24 := zif_t c23 h24
                      refine zn_tsIn (pc := 1) (tgt := 162) (off := 161) dX5_join_1 c23 (by decide) (by decide) ?_
                      refine zn_lconst (pc := 162) (x := 0) dX5_join_162 (by decide) ?_
                      have hz := Option.some.inj h24; clear h24; subst hz
                      exact zn_lreturn (pc := 163) dX5_join_163 rfl hp
                    · replace h24 := zif_f c23 h24
                      have h26 := h24; clear h24
                      by_cases c25 : x0 = 52
                      · replace h26 := zif_t c25 h26
                        refine zn_tsIn (pc := 1) (tgt := 162) (off := 161) dX5_join_1 c25 (by decide) (by decide) ?_
                        refine zn_lconst (pc := 162) (x := 0) dX5_join_162 (by decide) ?_
                        have hz := Option.some.inj h26; clear h26; subst hz
                        exact zn_lreturn (pc := 163) dX5_join_163 rfl hp
                      · replace h26 := zif_f c25 h26
                        have h28 := h26; clear h26
                        by_cases c27 : x0 = 53
                        · replace h28 := zif_t c27 h28
                          refine zn_tsIn (pc := 1) (tgt := 162) (off := 161) dX5_join_1 c27 (by decide) (by decide) ?_
                          refine zn_lconst (pc := 162) (x := 0) dX5_join_162 (by decide) ?_
                          have hz := Option.some.inj h28; clear h28; subst hz
                          exact zn_lreturn (pc := 163) dX5_join_163 rfl hp
                        · replace h28 := zif_f c27 h28
                          have h30 := h28; clear h28
                          by_cases c29 : x0 = 54
                          · replace h30 := zif_t c29 h30
                            refine zn_tsIn (pc := 1) (tgt := 162) (off := 161) dX5_join_1 c29 (by decide) (by decide) ?_
                            refine zn_lconst (pc := 162) (x := 0) dX5_join_162 (by decide) ?_
                            have hz := Option.some.inj h30; clear h30; subst hz
                            exact zn_lreturn (pc := 163) dX5_join_163 rfl hp
                          · replace h30 := zif_f c29 h30
                            have h32 := h30; clear h30
                            by_cases c31 : x0 = 55
                            · replace h32 := zif_t c31 h32
                              refine zn_tsIn (pc := 1) (tgt := 162) (off := 161) dX5_join_1 c31 (by decide) (by decide) ?_
                              refine zn_lconst (pc := 162) (x := 0) dX5_join_162 (by decide) ?_
                              have hz := Option.some.inj h32; clear h32; subst hz
                              exact zn_lreturn (pc := 163) dX5_join_163 rfl hp
                            · replace h32 := zif_f c31 h32
                              have h34 := h32; clear h32
                              by_cases c33 : x0 = 56
                              · replace h34 := zif_t c33 h34
                                refine zn_tsIn (pc := 1) (tgt := 162) (off := 161) dX5_join_1 c33 (by decide) (by decide) ?_
                                refine zn_lconst (pc := 162) (x := 0) dX5_join_162 (by decide) ?_
                                have hz := Option.some.inj h34; clear h34; subst hz
                                exact zn_lreturn (pc := 163) dX5_join_163 rfl hp
                              · replace h34 := zif_f c33 h34
                                have h36 := h34; clear h34
                                by_cases c35 : x0 = 57
                                · replace h36 := zif_t c35 h36
                                  refine zn_tsIn (pc := 1) (tgt := 162) (off := 161) dX5_join_1 c35 (by decide) (by decide) ?_
                                  refine zn_lconst (pc := 162) (x := 0) dX5_join_162 (by decide) ?_
                                  have hz := Option.some.inj h36; clear h36; subst hz
                                  exact zn_lreturn (pc := 163) dX5_join_163 rfl hp
                                · replace h36 := zif_f c35 h36
                                  have h38 := h36; clear h36
                                  by_cases c37 : x0 = 58
                                  · replace h38 := zif_t c37 h38
                                    refine zn_tsIn (pc := 1) (tgt := 162) (off := 161) dX5_join_1 c37 (by decide) (by decide) ?_
                                    refine zn_lconst (pc := 162) (x := 0) dX5_join_162 (by decide) ?_
                                    have hz := Option.some.inj h38; clear h38; subst hz
                                    exact zn_lreturn (pc := 163) dX5_join_163 rfl hp
                                  · replace h38 := zif_f c37 h38
                                    have h40 := h38; clear h38
                                    by_cases c39 : x0 = 59
                                    · replace h40 := zif_t c39 h40
                                      refine zn_tsIn (pc := 1) (tgt := 162) (off := 161) dX5_join_1 c39 (by decide) (by decide) ?_
                                      refine zn_lconst (pc := 162) (x := 0) dX5_join_162 (by decide) ?_
                                      have hz := Option.some.inj h40; clear h40; subst hz
                                      exact zn_lreturn (pc := 163) dX5_join_163 rfl hp
                                    · replace h40 := zif_f c39 h40
                                      have h42 := h40; clear h40
                                      by_cases c41 : x0 = 60
                                      · replace h42 := zif_t c41 h42
                                        refine zn_tsIn (pc := 1) (tgt := 126) (off := 125) dX5_join_1 c41 (by decide) (by decide) ?_
                                        refine zn_lload_n (pc := 126) 1 dX5_join_126 rfl rfl ?_
                                        refine zn_lload_n (pc := 127) 2 dX5_join_127 rfl rfl ?_
                                        refine zn_lcmp (pc := 128) dX5_join_128 ?_
                                        have h44 := h42; clear h42
                                        refine zn_if_ge (pc := 129) (tgt := 136) dX5_join_129 (by decide) (fun c43 => ?_) (fun c43 => ?_)
                                        · replace h44 := zif_t c43 h44
                                          refine zn_lconst (pc := 136) (x := 0) dX5_join_136 (by decide) ?_
                                          have hz := Option.some.inj h44; clear h44; subst hz
                                          exact zn_lreturn (pc := 137) dX5_join_137 rfl hp
                                        · replace h44 := zif_f c43 h44
                                          refine zn_lconst (pc := 132) (x := 1) dX5_join_132 (by decide) ?_
                                          refine zn_goto (pc := 133) (tgt := 137) dX5_join_133 (by decide) ?_
                                          have hz := Option.some.inj h44; clear h44; subst hz
                                          exact zn_lreturn (pc := 137) dX5_join_137 rfl hp
                                      · replace h42 := zif_f c41 h42
                                        have h46 := h42; clear h42
                                        by_cases c45 : x0 = 61
                                        · replace h46 := zif_t c45 h46
                                          refine zn_tsIn (pc := 1) (tgt := 138) (off := 137) dX5_join_1 c45 (by decide) (by decide) ?_
                                          refine zn_lload_n (pc := 138) 1 dX5_join_138 rfl rfl ?_
                                          refine zn_lload_n (pc := 139) 2 dX5_join_139 rfl rfl ?_
                                          refine zn_lcmp (pc := 140) dX5_join_140 ?_
                                          have h48 := h46; clear h46
                                          refine zn_if_ne (pc := 141) (tgt := 148) dX5_join_141 (by decide) (fun c47 => ?_) (fun c47 => ?_)
                                          · replace h48 := zif_f c47 h48
                                            refine zn_lconst (pc := 148) (x := 0) dX5_join_148 (by decide) ?_
                                            have hz := Option.some.inj h48; clear h48; subst hz
                                            exact zn_lreturn (pc := 149) dX5_join_149 rfl hp
                                          · replace h48 := zif_t c47 h48
                                            refine zn_lconst (pc := 144) (x := 1) dX5_join_144 (by decide) ?_
                                            refine zn_goto (pc := 145) (tgt := 149) dX5_join_145 (by decide) ?_
                                            have hz := Option.some.inj h48; clear h48; subst hz
                                            exact zn_lreturn (pc := 149) dX5_join_149 rfl hp
                                        · replace h46 := zif_f c45 h46
                                          have h50 := h46; clear h46
                                          by_cases c49 : x0 = 62
                                          · replace h50 := zif_t c49 h50
                                            refine zn_tsIn (pc := 1) (tgt := 150) (off := 149) dX5_join_1 c49 (by decide) (by decide) ?_
                                            refine zn_lload_n (pc := 150) 1 dX5_join_150 rfl rfl ?_
                                            refine zn_lload_n (pc := 151) 2 dX5_join_151 rfl rfl ?_
                                            refine zn_lcmp (pc := 152) dX5_join_152 ?_
                                            have h52 := h50; clear h50
                                            refine zn_if_le (pc := 153) (tgt := 160) dX5_join_153 (by decide) (fun c51 => ?_) (fun c51 => ?_)
                                            · replace h52 := zif_t c51 h52
                                              refine zn_lconst (pc := 160) (x := 0) dX5_join_160 (by decide) ?_
                                              have hz := Option.some.inj h52; clear h52; subst hz
                                              exact zn_lreturn (pc := 161) dX5_join_161 rfl hp
                                            · replace h52 := zif_f c51 h52
                                              refine zn_lconst (pc := 156) (x := 1) dX5_join_156 (by decide) ?_
                                              refine zn_goto (pc := 157) (tgt := 161) dX5_join_157 (by decide) ?_
                                              have hz := Option.some.inj h52; clear h52; subst hz
                                              exact zn_lreturn (pc := 161) dX5_join_161 rfl hp
                                          · replace h50 := zif_f c49 h50
                                            refine zn_tsOut (pc := 1) (tgt := 162) dX5_join_1 ?_ (by decide) ?_
                                            · have t0 := lv_neT c1 (show (42 : Int32).toInt = 42 by decide)
                                              have t1 := lv_neT c3 (show (43 : Int32).toInt = 43 by decide)
                                              have t2 := lv_neT c5 (show (44 : Int32).toInt = 44 by decide)
                                              have t3 := lv_neT c7 (show (45 : Int32).toInt = 45 by decide)
                                              have t4 := lv_neT c9 (show (46 : Int32).toInt = 46 by decide)
                                              have t5 := lv_neT c11 (show (47 : Int32).toInt = 47 by decide)
                                              have t6 := lv_neT c17 (show (48 : Int32).toInt = 48 by decide)
                                              have t7 := lv_neT c19 (show (49 : Int32).toInt = 49 by decide)
                                              have t8 := lv_neT c21 (show (50 : Int32).toInt = 50 by decide)
                                              have t9 := lv_neT c23 (show (51 : Int32).toInt = 51 by decide)
                                              have t10 := lv_neT c25 (show (52 : Int32).toInt = 52 by decide)
                                              have t11 := lv_neT c27 (show (53 : Int32).toInt = 53 by decide)
                                              have t12 := lv_neT c29 (show (54 : Int32).toInt = 54 by decide)
                                              have t13 := lv_neT c31 (show (55 : Int32).toInt = 55 by decide)
                                              have t14 := lv_neT c33 (show (56 : Int32).toInt = 56 by decide)
                                              have t15 := lv_neT c35 (show (57 : Int32).toInt = 57 by decide)
                                              have t16 := lv_neT c37 (show (58 : Int32).toInt = 58 by decide)
                                              have t17 := lv_neT c39 (show (59 : Int32).toInt = 59 by decide)
                                              have t18 := lv_neT c41 (show (60 : Int32).toInt = 60 by decide)
                                              have t19 := lv_neT c45 (show (61 : Int32).toInt = 61 by decide)
                                              have t20 := lv_neT c49 (show (62 : Int32).toInt = 62 by decide)
                                              omega
                                            · refine zn_lconst (pc := 162) (x := 0) dX5_join_162 (by decide) ?_
                                              have hz := Option.some.inj h50; clear h50; subst hz
                                              exact zn_lreturn (pc := 163) dX5_join_163 rfl hp
