theorem c_X9_worthOfGood {G : zG} {i0 : Nat} {r1 : Option Nat} {x2 : Int64} {x4 : Int32} {S : zH} {out : (Int64 × zH)} (h0 : f_X9_worthOfGood i0 r1 x2 x4 S = some out) : zct G M_X9_worthOfGood 5 0 0 [vR 0 (some i0), vR 2 r1, vJ x2, vI x4] S (zpo (some (vJ out.1)) out.2) := by
  refine zct_of (by decide) (Nat.le_of_ble_eq_true rfl) ?_
  show zn G M_X9_worthOfGood 5 0 0 0 [(0, vR 0 (some i0)), (1, vR 2 r1), (2, vJ x2), (4, vI x4)] [] S _
  have hp : zpo (some (vJ out.1)) out.2 (some (vJ out.1)) out.2 := ⟨rfl, rfl⟩
  unfold f_X9_worthOfGood at h0
  refine zn_aload_n (pc := 0) 0 dX9_worthOfGood_0 rfl rfl ?_
  refine zn_getR (pc := 1) fa_X9_41_0.1 fa_X9_41_0.2 dX9_worthOfGood_1 ?_
  refine zn_iconst (pc := 4) (x := 3) dX9_worthOfGood_4 (by decide) ?_
  refine zn_aload_n (pc := 5) 0 dX9_worthOfGood_5 rfl rfl ?_
  refine zn_getR (pc := 6) fa_X9_10_0.1 fa_X9_10_0.2 dX9_worthOfGood_6 ?_
  obtain ⟨i1, hi2, h3⟩ := zbd h0; clear h0
  rw [hi2]
  refine zn_getI (pc := 9) fa_X9_71_1.1 fa_X9_71_1.2 dX9_worthOfGood_9 ?_
  obtain ⟨i4, hi5, h6⟩ := zbd h3; clear h3
  rw [hi5]
  obtain ⟨o7, e8, h9⟩ := zbd h6; clear h6
  refine zn_cVv (pc := 12) (kc := 0) (ks := 0) (kc' := 0) (ks' := 0) (As := [vI 3, vI (zI S 1 i1 4)]) (st := []) dX9_worthOfGood_12 cs_X9_365 pc_7 rfl rfl (Nat.le_of_ble_eq_true rfl) ((c_X6_inForce e8).mono (Nat.le_of_ble_eq_true rfl)) ?_
  refine zn_astore (pc := 15) (ls' := [(5, vR 6 o7), (0, vR 0 (some i0)), (1, vR 2 r1), (2, vJ x2), (4, vI x4)]) dX9_worthOfGood_15 (Nat.le_of_ble_eq_true rfl) rfl ?_
  refine zn_aload (pc := 17) 0 dX9_worthOfGood_17 rfl ?_
  have h12 := h9; clear h9
  refine zn_ifnonnull (pc := 19) (tgt := 28) dX9_worthOfGood_19 (by decide) (fun i11 hr10 => ?_) (fun hr10 => ?_)
  · replace h12 := zop_s hr10 h12
    rw [hr10]
    refine zn_aload_n (pc := 28) 1 dX9_worthOfGood_28 rfl rfl ?_
    refine zn_getR (pc := 29) fa_X9_41_0.1 fa_X9_41_0.2 dX9_worthOfGood_29 ?_
    obtain ⟨i16, hi17, h18⟩ := zbd h12; clear h12
    rw [hi17]
    obtain ⟨o19, e20, h21⟩ := zbd h18; clear h18
    refine zn_cVv (pc := 32) (kc := 0) (ks := 0) (kc' := 0) (ks' := 0) (As := []) (st := []) dX9_worthOfGood_32 cs_X9_373 pc_7 rfl rfl (Nat.le_of_ble_eq_true rfl) ((c_X6_freshLetters e20).mono (Nat.le_of_ble_eq_true rfl)) ?_
    refine zn_astore (pc := 35) (ls' := [(6, vR 26 o19.1), (5, vR 6 (some i11)), (0, vR 0 (some i0)), (1, vR 2 r1), (2, vJ x2), (4, vI x4)]) dX9_worthOfGood_35 (Nat.le_of_ble_eq_true rfl) rfl ?_
    refine zn_aload (pc := 37) 0 dX9_worthOfGood_37 rfl ?_
    refine zn_iconst (pc := 39) (x := 0) dX9_worthOfGood_39 (by decide) ?_
    refine zn_aload_n (pc := 40) 3 dX9_worthOfGood_40 rfl rfl ?_
    obtain ⟨i22, hi23, h24⟩ := zbd h21; clear h21
    rw [hi23]
    refine zn_getI (pc := 41) fa_X9_180_2.1 fa_X9_180_2.2 dX9_worthOfGood_41 ?_
    refine zn_i2l (pc := 44) dX9_worthOfGood_44 ?_
    obtain ⟨i25, hi26, h27⟩ := zbd h24; clear h24
    rw [hi26]
    obtain ⟨hb28, h29⟩ := zgdd h27; clear h27
    obtain ⟨S30, hS31, h32⟩ := zltd h29; clear h29
    refine zn_lastore (pc := 45) zk_26 dX9_worthOfGood_45 (zib_in hb28) hS31 ?_
    refine zn_aload (pc := 46) 0 dX9_worthOfGood_46 rfl ?_
    refine zn_bipush (pc := 48) (x := 6) dX9_worthOfGood_48 (by decide) ?_
    refine zn_lload_n (pc := 50) 4 dX9_worthOfGood_50 rfl rfl ?_
    obtain ⟨hb33, h34⟩ := zgdd h32; clear h32
    obtain ⟨S35, hS36, h37⟩ := zltd h34; clear h34
    refine zn_lastore (pc := 51) zk_26 dX9_worthOfGood_51 (zib_in hb33) hS36 ?_
    refine zn_aload (pc := 52) 0 dX9_worthOfGood_52 rfl ?_
    refine zn_bipush (pc := 54) (x := 7) dX9_worthOfGood_54 (by decide) ?_
    refine zn_aload_n (pc := 56) 3 dX9_worthOfGood_56 rfl rfl ?_
    refine zn_getI (pc := 57) fa_X9_462_2.1 fa_X9_462_2.2 dX9_worthOfGood_57 ?_
    refine zn_i2l (pc := 60) dX9_worthOfGood_60 ?_
    obtain ⟨hb38, h39⟩ := zgdd h37; clear h37
    obtain ⟨S40, hS41, h42⟩ := zltd h39; clear h39
    refine zn_lastore (pc := 61) zk_26 dX9_worthOfGood_61 (zib_in hb38) hS41 ?_
    refine zn_aload (pc := 62) 0 dX9_worthOfGood_62 rfl ?_
    refine zn_bipush (pc := 64) (x := 8) dX9_worthOfGood_64 (by decide) ?_
    refine zn_iload (pc := 66) 5 dX9_worthOfGood_66 rfl ?_
    refine zn_i2l (pc := 68) dX9_worthOfGood_68 ?_
    obtain ⟨hb43, h44⟩ := zgdd h42; clear h42
    obtain ⟨S45, hS46, h47⟩ := zltd h44; clear h44
    refine zn_lastore (pc := 69) zk_26 dX9_worthOfGood_69 (zib_in hb43) hS46 ?_
    refine zn_aload (pc := 70) 1 dX9_worthOfGood_70 rfl ?_
    refine zn_aload (pc := 72) 0 dX9_worthOfGood_72 rfl ?_
    refine zn_aload_n (pc := 74) 2 dX9_worthOfGood_74 rfl rfl ?_
    refine zn_getR (pc := 75) fa_X9_41_0.1 fa_X9_41_0.2 dX9_worthOfGood_75 ?_
    obtain ⟨i48, hi49, h50⟩ := zbd h47; clear h47
    rw [hi49]
    refine zn_getR (pc := 78) fa_X9_377_7.1 fa_X9_377_7.2 dX9_worthOfGood_78 ?_
    obtain ⟨o51, e52, h53⟩ := zbd h50; clear h50
    refine zn_cVv (pc := 81) (kc := 0) (ks := 0) (kc' := 0) (ks' := 0) (As := [vR 26 (some i25), vR 27 (zR S45 7 i48 2)]) (st := []) dX9_worthOfGood_81 cs_X9_380 pc_6 rfl rfl (Nat.le_of_ble_eq_true rfl) ((c_X5_worth e52).mono (Nat.le_of_ble_eq_true rfl)) ?_
    have hz := Option.some.inj h53; clear h53; subst hz
    exact zn_lreturn (pc := 84) dX9_worthOfGood_84 rfl hp
  · replace h12 := zop_n hr10 h12
    rw [hr10]
    refine zn_aload_n (pc := 22) 2 dX9_worthOfGood_22 rfl rfl ?_
    obtain ⟨i13, hi14, h15⟩ := zbd h12; clear h12
    rw [hi14]
    refine zn_getI (pc := 23) fa_X9_462_2.1 fa_X9_462_2.2 dX9_worthOfGood_23 ?_
    refine zn_i2l (pc := 26) dX9_worthOfGood_26 ?_
    have hz := Option.some.inj h15; clear h15; subst hz
    exact zn_lreturn (pc := 27) dX9_worthOfGood_27 rfl hp
theorem b_X9_comeBack_23 {G : zG} {Post : Option zV → zH → Prop} {i0 : Nat} {r1 : Option Nat} {x2 : Int64} {x4 : Int32} {S : zH} {out : zH} (h0 : f_X9_comeBack_23 i0 r1 x2 x4 S = some out) (hp : Post none out) : zn G M_X9_comeBack 6 0 0 23 [(0, vR 0 (some i0)), (1, vR 3 r1), (2, vJ x2), (4, vI x4)] [] S Post := by
  unfold f_X9_comeBack_23 at h0
  refine zn_aload_n (pc := 23) 0 dX9_comeBack_23 rfl rfl ?_
  refine zn_aload_n (pc := 24) 1 dX9_comeBack_24 rfl rfl ?_
  obtain ⟨o1, e2, h3⟩ := zbd h0; clear h0
  refine zn_cVv (pc := 25) (kc := 0) (ks := 0) (kc' := 0) (ks' := 0) (As := [vR 3 r1]) (st := []) dX9_comeBack_25 cs_X9_465 pc_0 rfl rfl (Nat.le_of_ble_eq_true rfl) ((c_X9_bankAtFault e2).mono (Nat.le_of_ble_eq_true rfl)) ?_
  refine zn_astore (pc := 28) (ls' := [(5, vR 2 o1), (0, vR 0 (some i0)), (1, vR 3 r1), (2, vJ x2), (4, vI x4)]) dX9_comeBack_28 (Nat.le_of_ble_eq_true rfl) rfl ?_
  refine zn_aload (pc := 30) 0 dX9_comeBack_30 rfl ?_
  have h6 := h3; clear h3
  refine zn_ifnonnull (pc := 32) (tgt := 36) dX9_comeBack_32 (by decide) (fun i5 hr4 => ?_) (fun hr4 => ?_)
  · replace h6 := zop_s hr4 h6
    rw [hr4]
    refine zn_lconst (pc := 36) (x := 0) dX9_comeBack_36 (by decide) ?_
    refine zn_aload_n (pc := 37) 1 dX9_comeBack_37 rfl rfl ?_
    refine zn_aload_n (pc := 38) 2 dX9_comeBack_38 rfl rfl ?_
    obtain ⟨i7, hi8, h9⟩ := zbd h6; clear h6
    rw [hi8]
    refine zn_getR (pc := 39) fa_X9_176_3.1 fa_X9_176_3.2 dX9_comeBack_39 ?_
    refine zn_lload_n (pc := 42) 3 dX9_comeBack_42 rfl rfl ?_
    refine zn_iload (pc := 43) 4 dX9_comeBack_43 rfl ?_
    obtain ⟨o10, e11, h12⟩ := zbd h9; clear h9
    refine zn_cVv (pc := 45) (kc := 0) (ks := 0) (kc' := 0) (ks' := 0) (As := [vR 2 (zR S 3 i7 1), vJ x2, vI x4]) (st := [vJ 0]) dX9_comeBack_45 cs_X9_469 pc_0 rfl rfl (Nat.le_of_ble_eq_true rfl) ((c_X9_worthOfGood e11).mono (Nat.le_of_ble_eq_true rfl)) ?_
    refine zn_mmaxJ (pc := 48) dX9_comeBack_48 ml_X9_473 ws_maxJ.1 ws_maxJ.2.1 ws_maxJ.2.2 (Nat.le_of_ble_eq_true rfl) ?_
    refine zn_lstore (pc := 51) (ls' := [(6, vJ (if o10.1 < 0 then 0 else o10.1)), (5, vR 2 (some i5)), (0, vR 0 (some i0)), (1, vR 3 (some i7)), (2, vJ x2), (4, vI x4)]) dX9_comeBack_51 (Nat.le_of_ble_eq_true rfl) rfl ?_
    refine zn_aload_n (pc := 53) 3 dX9_comeBack_53 rfl rfl ?_
    refine zn_dup (pc := 54) dX9_comeBack_54 rfl ?_
    refine zn_getJ (pc := 55) fa_X9_163_3.1 fa_X9_163_3.2 dX9_comeBack_55 ?_
    refine zn_lload (pc := 58) 0 dX9_comeBack_58 rfl ?_
    refine zn_ladd (pc := 60) dX9_comeBack_60 ?_
    obtain ⟨S13, hS14, h15⟩ := zltd h12; clear h12
    refine zn_putJ (pc := 61) fp_X9_163_3.1 (fp_X9_163_3 (nm := "")).2 dX9_comeBack_61 hS14 ?_
    refine zn_aload_n (pc := 64) 3 dX9_comeBack_64 rfl rfl ?_
    refine zn_ldc2 (pc := 65) dX9_comeBack_65 w2_X9_476 ?_
    refine zn_aload_n (pc := 68) 3 dX9_comeBack_68 rfl rfl ?_
    refine zn_getI (pc := 69) fa_X9_192_3.1 fa_X9_192_3.2 dX9_comeBack_69 ?_
    refine zn_i2l (pc := 72) dX9_comeBack_72 ?_
    refine zn_lload (pc := 73) 0 dX9_comeBack_73 rfl ?_
    refine zn_ladd (pc := 75) dX9_comeBack_75 ?_
    refine zn_mminJ (pc := 76) dX9_comeBack_76 ml_X9_478 ws_minJ.1 ws_minJ.2.1 ws_minJ.2.2 (Nat.le_of_ble_eq_true rfl) ?_
    refine zn_l2i (pc := 79) dX9_comeBack_79 ?_
    obtain ⟨S16, hS17, h18⟩ := zltd h15; clear h15
    refine zn_putI (pc := 80) fp_X9_192_3.1 (fp_X9_192_3 (nm := "")).2 dX9_comeBack_80 hS17 ?_
    refine zn_aload (pc := 83) 1 dX9_comeBack_83 rfl ?_
    refine zn_ldc2 (pc := 85) dX9_comeBack_85 w2_X9_476 ?_
    refine zn_aload (pc := 88) 1 dX9_comeBack_88 rfl ?_
    refine zn_getI (pc := 90) fa_X9_131_2.1 fa_X9_131_2.2 dX9_comeBack_90 ?_
    refine zn_i2l (pc := 93) dX9_comeBack_93 ?_
    refine zn_lload (pc := 94) 0 dX9_comeBack_94 rfl ?_
    refine zn_ladd (pc := 96) dX9_comeBack_96 ?_
    refine zn_mminJ (pc := 97) dX9_comeBack_97 ml_X9_478 ws_minJ.1 ws_minJ.2.1 ws_minJ.2.2 (Nat.le_of_ble_eq_true rfl) ?_
    refine zn_l2i (pc := 100) dX9_comeBack_100 ?_
    obtain ⟨S19, hS20, h21⟩ := zltd h18; clear h18
    refine zn_putI (pc := 101) fp_X9_131_2.1 (fp_X9_131_2 (nm := "")).2 dX9_comeBack_101 hS20 ?_
    have hz := Option.some.inj h21; clear h21; subst hz
    exact zn_return (pc := 104) dX9_comeBack_104 rfl hp
  · replace h6 := zop_n hr4 h6
    rw [hr4]
    have hz := Option.some.inj h6; clear h6; subst hz
    exact zn_return (pc := 35) dX9_comeBack_35 rfl hp
theorem c_X9_comeBack {G : zG} {i0 : Nat} {r1 : Option Nat} {x2 : Int64} {x4 : Int32} {S : zH} {out : zH} (h0 : f_X9_comeBack i0 r1 x2 x4 S = some out) : zct G M_X9_comeBack 6 0 0 [vR 0 (some i0), vR 3 r1, vJ x2, vI x4] S (zpo none out) := by
  refine zct_of (by decide) (Nat.le_of_ble_eq_true rfl) ?_
  show zn G M_X9_comeBack 6 0 0 0 [(0, vR 0 (some i0)), (1, vR 3 r1), (2, vJ x2), (4, vI x4)] [] S _
  have hp : zpo none out none out := ⟨rfl, rfl⟩
  unfold f_X9_comeBack at h0
  refine zn_iload (pc := 0) 3 dX9_comeBack_0 rfl ?_
  refine zn_iconst (pc := 2) (x := 1) dX9_comeBack_2 (by decide) ?_
  have h23 := h0; clear h0
  refine zn_icmp_ne (pc := 3) (tgt := 23) dX9_comeBack_3 (by decide) (fun c22 => ?_) (fun c22 => ?_)
  · replace h23 := zif_f c22 h23
    exact b_X9_comeBack_23  h23 hp
  · replace h23 := zif_t c22 h23
    refine zn_aload_n (pc := 6) 1 dX9_comeBack_6 rfl rfl ?_
    refine zn_dup (pc := 7) dX9_comeBack_7 rfl ?_
    obtain ⟨i24, hi25, h26⟩ := zbd h23; clear h23
    rw [hi25]
    refine zn_getJ (pc := 8) fa_X9_163_3.1 fa_X9_163_3.2 dX9_comeBack_8 ?_
    refine zn_aload_n (pc := 11) 1 dX9_comeBack_11 rfl rfl ?_
    refine zn_getR (pc := 12) fa_X9_176_3.1 fa_X9_176_3.2 dX9_comeBack_12 ?_
    obtain ⟨i27, hi28, h29⟩ := zbd h26; clear h26
    rw [hi28]
    refine zn_getI (pc := 15) fa_X9_462_2.1 fa_X9_462_2.2 dX9_comeBack_15 ?_
    refine zn_i2l (pc := 18) dX9_comeBack_18 ?_
    refine zn_lsub (pc := 19) dX9_comeBack_19 ?_
    obtain ⟨S30, hS31, h32⟩ := zltd h29; clear h29
    refine zn_putJ (pc := 20) fp_X9_163_3.1 (fp_X9_163_3 (nm := "")).2 dX9_comeBack_20 hS31 ?_
    exact b_X9_comeBack_23  h32 hp
theorem b_X9_doLine_113 {G : zG} {Post : Option zV → zH → Prop} {r1 : Option Nat} {x4 : Int32} {rs0 : Option Nat} {is1 : Nat} {S : zH} {out : zH} (h0 : f_X9_doLine_113 r1 x4 rs0 is1 S = some out) (hp : Post none out) : zn G M_X9_doLine 7 0 0 113 [(1, vR 4 r1), (4, vI x4)] [vR 3 rs0, vR 0 (some is1)] S Post := by
  unfold f_X9_doLine_113 at h0
  refine zn_aload_n (pc := 113) 0 dX9_doLine_113 rfl rfl ?_
  obtain ⟨i1, hi2, h3⟩ := zbd h0; clear h0
  rw [hi2]
  refine zn_getI (pc := 114) fa_X9_449_4.1 fa_X9_449_4.2 dX9_doLine_114 ?_
  refine zn_i2l (pc := 117) dX9_doLine_117 ?_
  refine zn_iload (pc := 118) 1 dX9_doLine_118 rfl ?_
  obtain ⟨o4, e5, h6⟩ := zbd h3; clear h3
  refine zn_cV0 (pc := 120) (kc := 0) (ks := 0) (kc' := 0) (ks' := 0) (As := [vR 3 rs0, vJ (Int32.toInt64 (zI S 4 i1 3)), vI x4]) (st := []) dX9_doLine_120 cs_X9_458 pc_0 rfl rfl (Nat.le_of_ble_eq_true rfl) ((c_X9_comeBack e5).mono (Nat.le_of_ble_eq_true rfl)) ?_
  have hz := Option.some.inj h6; clear h6; subst hz
  exact zn_return (pc := 123) dX9_doLine_123 rfl hp
theorem b_X9_doLine_94 {G : zG} {Post : Option zV → zH → Prop} {i0 : Nat} {r1 : Option Nat} {r2 : Option Nat} {x4 : Int32} {S : zH} {out : zH} (h0 : f_X9_doLine_94 i0 r1 r2 x4 S = some out) (hp : Post none out) : zn G M_X9_doLine 7 0 0 94 [(0, vR 0 (some i0)), (1, vR 4 r1), (2, vR 3 r2), (4, vI x4)] [] S Post := by
  unfold f_X9_doLine_94 at h0
  refine zn_aload_n (pc := 94) 1 dX9_doLine_94 rfl rfl ?_
  refine zn_iload (pc := 95) 3 dX9_doLine_95 rfl ?_
  obtain ⟨i1, hi2, h3⟩ := zbd h0; clear h0
  rw [hi2]
  obtain ⟨o4, e5, h6⟩ := zbd h3; clear h3
  refine zn_cV0 (pc := 97) (kc := 0) (ks := 0) (kc' := 0) (ks' := 0) (As := [vI x4]) (st := []) dX9_doLine_97 cs_X9_455 pc_4 rfl rfl (Nat.le_of_ble_eq_true rfl) ((c_X3_addBack e5).mono (Nat.le_of_ble_eq_true rfl)) ?_
  refine zn_aload_n (pc := 100) 0 dX9_doLine_100 rfl rfl ?_
  refine zn_aload_n (pc := 101) 2 dX9_doLine_101 rfl rfl ?_
  have h9 := h6; clear h6
  refine zn_ifnonnull (pc := 102) (tgt := 112) dX9_doLine_102 (by decide) (fun i8 hr7 => ?_) (fun hr7 => ?_)
  · replace h9 := zop_s hr7 h9
    rw [hr7]
    refine zn_aload_n (pc := 112) 2 dX9_doLine_112 rfl rfl ?_
    refine zn_pick [1, 3] rfl ?_
    exact b_X9_doLine_113  h9 hp
  · replace h9 := zop_n hr7 h9
    rw [hr7]
    refine zn_aload_n (pc := 105) 1 dX9_doLine_105 rfl rfl ?_
    refine zn_getR (pc := 106) fa_X9_246_4.1 fa_X9_246_4.2 dX9_doLine_106 ?_
    refine zn_goto (pc := 109) (tgt := 113) dX9_doLine_109 (by decide) ?_
    refine zn_pick [1, 3] rfl ?_
    exact b_X9_doLine_113  h9 hp
theorem b_X9_doLine_25 {G : zG} {Post : Option zV → zH → Prop} {i0 : Nat} {r1 : Option Nat} {rs0 : Option Nat} {S : zH} {out : zH} (h0 : f_X9_doLine_25 i0 r1 rs0 S = some out) (hp : Post none out) : zn G M_X9_doLine 7 0 0 25 [(0, vR 0 (some i0)), (1, vR 4 r1)] [vR 3 rs0] S Post := by
  unfold f_X9_doLine_25 at h0
  refine zn_astore_n (pc := 25) (ls' := [(2, vR 3 rs0), (0, vR 0 (some i0)), (1, vR 4 r1)]) dX9_doLine_25 rfl (Nat.le_of_ble_eq_true rfl) rfl ?_
  refine zn_aload_n (pc := 26) 2 dX9_doLine_26 rfl rfl ?_
  obtain ⟨i1, hi2, h3⟩ := zbd h0; clear h0
  rw [hi2]
  refine zn_getR (pc := 27) fa_X9_249_4.1 fa_X9_249_4.2 dX9_doLine_27 ?_
  obtain ⟨i4, hi5, h6⟩ := zbd h3; clear h3
  rw [hi5]
  refine zn_getR (pc := 30) fa_X9_195_3.1 fa_X9_195_3.2 dX9_doLine_30 ?_
  refine zn_astore_n (pc := 33) (ls' := [(3, vR 3 (zR S 3 i4 12)), (2, vR 3 rs0), (0, vR 0 (some i0)), (1, vR 4 (some i1))]) dX9_doLine_33 rfl (Nat.le_of_ble_eq_true rfl) rfl ?_
  refine zn_iconst (pc := 34) (x := 3) dX9_doLine_34 (by decide) ?_
  refine zn_istore (pc := 35) (ls' := [(4, vI 3), (3, vR 3 (zR S 3 i4 12)), (2, vR 3 rs0), (0, vR 0 (some i0)), (1, vR 4 (some i1))]) dX9_doLine_35 (Nat.le_of_ble_eq_true rfl) rfl ?_
  refine zn_aload_n (pc := 37) 2 dX9_doLine_37 rfl rfl ?_
  have h9 := h6; clear h6
  refine zn_ifnull (pc := 38) (tgt := 94) dX9_doLine_38 (by decide) (fun hr7 => ?_) (fun i8 hr7 => ?_)
  · replace h9 := zop_n hr7 h9
    rw [hr7]
    refine zn_pick [3, 4, 2, 0] rfl ?_
    exact b_X9_doLine_94  h9 hp
  · replace h9 := zop_s hr7 h9
    rw [hr7]
    refine zn_aload_n (pc := 41) 1 dX9_doLine_41 rfl rfl ?_
    have h12 := h9; clear h9
    refine zn_ifnull (pc := 42) (tgt := 94) dX9_doLine_42 (by decide) (fun hr10 => ?_) (fun i11 hr10 => ?_)
    · replace h12 := zop_n hr10 h12
      rw [hr10]
      refine zn_pick [3, 4, 2, 0] rfl ?_
      exact b_X9_doLine_94  h12 hp
    · replace h12 := zop_s hr10 h12
      rw [hr10]
      refine zn_aload_n (pc := 45) 2 dX9_doLine_45 rfl rfl ?_
      refine zn_aload_n (pc := 46) 1 dX9_doLine_46 rfl rfl ?_
      refine zn_aload_n (pc := 47) 4 dX9_doLine_47 rfl rfl ?_
      refine zn_getI (pc := 48) fa_X9_449_4.1 fa_X9_449_4.2 dX9_doLine_48 ?_
      refine zn_i2l (pc := 51) dX9_doLine_51 ?_
      obtain ⟨o13, e14, h15⟩ := zbd h12; clear h12
      refine zn_cSv (pc := 52) (kc := 0) (ks := 0) (kc' := 0) (ks' := 0) (As := [vR 3 (some i8), vR 3 (some i11), vJ (Int32.toInt64 (zI S 4 i1 3))]) (st := []) dX9_doLine_52 cs_X9_451 rfl rfl (Nat.le_of_ble_eq_true rfl) ((c_X9_whyBack e14).mono (Nat.le_of_ble_eq_true rfl)) ?_
      refine zn_istore (pc := 55) (ls' := [(4, vI o13), (3, vR 3 (some i11)), (2, vR 3 (some i8)), (0, vR 0 (some i0)), (1, vR 4 (some i1))]) dX9_doLine_55 (Nat.le_of_ble_eq_true rfl) rfl ?_
      refine zn_iload (pc := 57) 0 dX9_doLine_57 rfl ?_
      have h17 := h15; clear h15
      refine zn_if_ne (pc := 59) (tgt := 94) dX9_doLine_59 (by decide) (fun c16 => ?_) (fun c16 => ?_)
      · replace h17 := zif_f c16 h17
        refine zn_pick [3, 4, 2, 0] rfl ?_
        exact b_X9_doLine_94  h17 hp
      · replace h17 := zif_t c16 h17
        refine zn_aload_n (pc := 62) 2 dX9_doLine_62 rfl rfl ?_
        refine zn_aload_n (pc := 63) 1 dX9_doLine_63 rfl rfl ?_
        refine zn_aload_n (pc := 64) 4 dX9_doLine_64 rfl rfl ?_
        refine zn_getI (pc := 65) fa_X9_449_4.1 fa_X9_449_4.2 dX9_doLine_65 ?_
        refine zn_i2l (pc := 68) dX9_doLine_68 ?_
        obtain ⟨o18, e19, h20⟩ := zbd h17; clear h17
        refine zn_cS0 (pc := 69) (kc := 0) (ks := 0) (kc' := 0) (ks' := 0) (As := [vR 3 (some i8), vR 3 (some i11), vJ (Int32.toInt64 (zI S 4 i1 3))]) (st := []) dX9_doLine_69 cs_X9_424 rfl rfl (Nat.le_of_ble_eq_true rfl) ((c_X9_carry e19).mono (Nat.le_of_ble_eq_true rfl)) ?_
        refine zn_aload_n (pc := 72) 4 dX9_doLine_72 rfl rfl ?_
        refine zn_dup (pc := 73) dX9_doLine_73 rfl ?_
        refine zn_getI (pc := 74) fa_X9_252_4.1 fa_X9_252_4.2 dX9_doLine_74 ?_
        refine zn_iconst (pc := 77) (x := 1) dX9_doLine_77 (by decide) ?_
        refine zn_iadd (pc := 78) dX9_doLine_78 ?_
        obtain ⟨S21, hS22, h23⟩ := zltd h20; clear h20
        refine zn_putI (pc := 79) fp_X9_252_4.1 (fp_X9_252_4 (nm := "")).2 dX9_doLine_79 hS22 ?_
        refine zn_aload_n (pc := 82) 4 dX9_doLine_82 rfl rfl ?_
        refine zn_aload_n (pc := 83) 3 dX9_doLine_83 rfl rfl ?_
        refine zn_getR (pc := 84) fa_X9_10_0.1 fa_X9_10_0.2 dX9_doLine_84 ?_
        obtain ⟨i24, hi25, h26⟩ := zbd h23; clear h23
        rw [hi25]
        refine zn_getI (pc := 87) fa_X9_71_1.1 fa_X9_71_1.2 dX9_doLine_87 ?_
        obtain ⟨S27, hS28, h29⟩ := zltd h26; clear h26
        refine zn_putI (pc := 90) fp_X9_258_4.1 (fp_X9_258_4 (nm := "")).2 dX9_doLine_90 hS28 ?_
        have hz := Option.some.inj h29; clear h29; subst hz
        exact zn_return (pc := 93) dX9_doLine_93 rfl hp
theorem c_X9_doLine {G : zG} {i0 : Nat} {r1 : Option Nat} {S : zH} {out : zH} (h0 : f_X9_doLine i0 r1 S = some out) : zct G M_X9_doLine 7 0 0 [vR 0 (some i0), vR 4 r1] S (zpo none out) := by
  refine zct_of (by decide) (Nat.le_of_ble_eq_true rfl) ?_
  show zn G M_X9_doLine 7 0 0 0 [(0, vR 0 (some i0)), (1, vR 4 r1)] [] S _
  have hp : zpo none out none out := ⟨rfl, rfl⟩
  unfold f_X9_doLine at h0
  refine zn_aload_n (pc := 0) 1 dX9_doLine_0 rfl rfl ?_
  obtain ⟨i30, hi31, h32⟩ := zbd h0; clear h0
  rw [hi31]
  refine zn_getI (pc := 1) fa_X9_243_4.1 fa_X9_243_4.2 dX9_doLine_1 ?_
  refine zn_iconst (pc := 4) (x := 2) dX9_doLine_4 (by decide) ?_
  have h34 := h32; clear h32
  refine zn_icmp_ne (pc := 5) (tgt := 18) dX9_doLine_5 (by decide) (fun c33 => ?_) (fun c33 => ?_)
  · replace h34 := zif_f c33 h34
    refine zn_aload_n (pc := 18) 1 dX9_doLine_18 rfl rfl ?_
    refine zn_getR (pc := 19) fa_X9_246_4.1 fa_X9_246_4.2 dX9_doLine_19 ?_
    obtain ⟨o35, e36, h37⟩ := zbd h34; clear h34
    refine zn_cSv (pc := 22) (kc := 0) (ks := 0) (kc' := 0) (ks' := 0) (As := [vR 3 (zR S 4 i30 1)]) (st := []) dX9_doLine_22 cs_X9_188 rfl rfl (Nat.le_of_ble_eq_true rfl) ((c_X9_lastOf e36).mono (Nat.le_of_ble_eq_true rfl)) ?_
    exact b_X9_doLine_25  h37 hp
  · replace h34 := zif_t c33 h34
    refine zn_aload_n (pc := 8) 1 dX9_doLine_8 rfl rfl ?_
    refine zn_getR (pc := 9) fa_X9_246_4.1 fa_X9_246_4.2 dX9_doLine_9 ?_
    obtain ⟨i38, hi39, h40⟩ := zbd h34; clear h34
    rw [hi39]
    refine zn_getR (pc := 12) fa_X9_195_3.1 fa_X9_195_3.2 dX9_doLine_12 ?_
    refine zn_goto (pc := 15) (tgt := 25) dX9_doLine_15 (by decide) ?_
    exact b_X9_doLine_25  h40 hp
theorem b_X9_doLines_21 {G : zG} {Post : Option zV → zH → Prop} {k8 : Nat → Int32 → zH → Option zH} (hk8 : ∀ (i0 : Nat) (x1 : Int32) (S : zH) (out : zH), k8 i0 x1 S = some out → Post none out → zn G M_X9_doLines 8 0 0 8 [(0, vR 0 (some i0)), (1, vI x1)] [] S Post) : ∀ (n : Nat) (i0 : Nat) (x1 : Int32) (x2 : Int32) (S : zH) (out : zH), f_X9_doLines_21 k8 n i0 x1 x2 S = some out → Post none out → zn G M_X9_doLines 8 0 0 21 [(0, vR 0 (some i0)), (1, vI x1), (2, vI x2)] [] S Post := by
  intro n
  induction n with
  | zero => intro i0 x1 x2 S out h0 hp; exact (nomatch (show (none : Option _) = some out from h0))
  | succ n ih =>
    intro i0 x1 x2 S out h0 hp
    rw [f_X9_doLines_21] at h0
    refine zn_iload_n (pc := 21) 2 dX9_doLines_21 rfl rfl ?_
    refine zn_aload_n (pc := 22) 0 dX9_doLines_22 rfl rfl ?_
    refine zn_getR (pc := 23) fa_X9_32_0.1 fa_X9_32_0.2 dX9_doLines_23 ?_
    obtain ⟨i1, hi2, h3⟩ := zbd h0; clear h0
    rw [hi2]
    obtain ⟨o4, e5, h6⟩ := zbd h3; clear h3
    refine zn_cVv (pc := 26) (kc := 0) (ks := 0) (kc' := 0) (ks' := 0) (As := []) (st := [vI x2]) dX9_doLines_26 cls_X9_142 pc_11 rfl rfl (Nat.le_of_ble_eq_true rfl) (zc_size (p := 11) (by decide) (Nat.le_of_ble_eq_true rfl) e5) ?_
    have h8 := h6; clear h6
    refine zn_icmp_ge (pc := 29) (tgt := 67) dX9_doLines_29 (by decide) (fun c7 => ?_) (fun c7 => ?_)
    · replace h8 := zif_t c7 h8
      refine zn_iinc (pc := 67) 1 (y := x1 + 1) (ls' := [(1, vI (x1 + 1)), (0, vR 0 (some i0)), (2, vI x2)]) dX9_doLines_67 rfl rfl (Nat.le_of_ble_eq_true rfl) rfl ?_
      refine zn_goto (pc := 70) (tgt := 8) dX9_doLines_70 (by decide) ?_
      refine zn_pick [1, 0] rfl ?_
      exact hk8 _ _ _ _ h8 hp
    · replace h8 := zif_f c7 h8
      refine zn_aload_n (pc := 32) 0 dX9_doLines_32 rfl rfl ?_
      refine zn_getR (pc := 33) fa_X9_32_0.1 fa_X9_32_0.2 dX9_doLines_33 ?_
      refine zn_iload_n (pc := 36) 2 dX9_doLines_36 rfl rfl ?_
      obtain ⟨i9, hi10, h11⟩ := zbd h8; clear h8
      rw [hi10]
      obtain ⟨o12, e13, h14⟩ := zbd h11; clear h11
      refine zn_cVv (pc := 37) (kc := 0) (ks := 0) (kc' := 0) (ks' := 0) (As := [vI x2]) (st := []) dX9_doLines_37 clg_X9_353 pc_11 rfl rfl (Nat.le_of_ble_eq_true rfl) (zc_get (p := 11) (by decide) rfl (Nat.le_of_ble_eq_true rfl) e13) ?_
      refine zn_cast (pc := 40) cl_X9_224 pc_4 dX9_doLines_40 ?_
      refine zn_astore_n (pc := 43) (ls' := [(3, vR 4 o12), (0, vR 0 (some i0)), (1, vI x1), (2, vI x2)]) dX9_doLines_43 rfl (Nat.le_of_ble_eq_true rfl) rfl ?_
      refine zn_aload_n (pc := 44) 0 dX9_doLines_44 rfl rfl ?_
      refine zn_iload_n (pc := 45) 2 dX9_doLines_45 rfl rfl ?_
      obtain ⟨i15, hi16, h17⟩ := zbd h14; clear h14
      rw [hi16]
      obtain ⟨o18, e19, h20⟩ := zbd h17; clear h17
      refine zn_cVv (pc := 46) (kc := 0) (ks := 0) (kc' := 0) (ks' := 0) (As := [vI x1]) (st := []) dX9_doLines_46 cs_X9_439 pc_4 rfl rfl (Nat.le_of_ble_eq_true rfl) ((c_X3_isDue e19).mono (Nat.le_of_ble_eq_true rfl)) ?_
      have h22 := h20; clear h20
      refine zn_if_eq (pc := 49) (tgt := 61) dX9_doLines_49 (by decide) (fun c21 => ?_) (fun c21 => ?_)
      · replace h22 := zif_t c21 h22
        refine zn_iinc (pc := 61) 3 (y := x2 + 1) (ls' := [(2, vI (x2 + 1)), (3, vR 4 (some i15)), (0, vR 0 (some i0)), (1, vI x1)]) dX9_doLines_61 rfl rfl (Nat.le_of_ble_eq_true rfl) rfl ?_
        refine zn_goto (pc := 64) (tgt := 21) dX9_doLines_64 (by decide) ?_
        refine zn_pick [2, 3, 0] rfl ?_
        exact ih _ _ _ _ _ h22 hp
      · replace h22 := zif_f c21 h22
        refine zn_aload_n (pc := 52) 0 dX9_doLines_52 rfl rfl ?_
        obtain ⟨o23, e24, h25⟩ := zbd h22; clear h22
        refine zn_cV0 (pc := 53) (kc := 0) (ks := 0) (kc' := 0) (ks' := 0) (As := []) (st := []) dX9_doLines_53 cs_X9_442 pc_4 rfl rfl (Nat.le_of_ble_eq_true rfl) ((c_X3_setNextDue e24).mono (Nat.le_of_ble_eq_true rfl)) ?_
        refine zn_aload_n (pc := 56) 1 dX9_doLines_56 rfl rfl ?_
        refine zn_aload_n (pc := 57) 0 dX9_doLines_57 rfl rfl ?_
        obtain ⟨o26, e27, h28⟩ := zbd h25; clear h25
        refine zn_cV0 (pc := 58) (kc := 0) (ks := 0) (kc' := 0) (ks' := 0) (As := [vR 4 (some i15)]) (st := []) dX9_doLines_58 cs_X9_445 pc_0 rfl rfl (Nat.le_of_ble_eq_true rfl) ((c_X9_doLine e27).mono (Nat.le_of_ble_eq_true rfl)) ?_
        refine zn_iinc (pc := 61) 3 (y := x2 + 1) (ls' := [(2, vI (x2 + 1)), (3, vR 4 (some i15)), (0, vR 0 (some i0)), (1, vI x1)]) dX9_doLines_61 rfl rfl (Nat.le_of_ble_eq_true rfl) rfl ?_
        refine zn_goto (pc := 64) (tgt := 21) dX9_doLines_64 (by decide) ?_
        refine zn_pick [2, 3, 0] rfl ?_
        exact ih _ _ _ _ _ h28 hp
theorem b_X9_doLines_8 {G : zG} {Post : Option zV → zH → Prop} : ∀ (n : Nat) (i0 : Nat) (x1 : Int32) (S : zH) (out : zH), f_X9_doLines_8 n i0 x1 S = some out → Post none out → zn G M_X9_doLines 8 0 0 8 [(0, vR 0 (some i0)), (1, vI x1)] [] S Post := by
  intro n
  induction n with
  | zero => intro i0 x1 S out h0 hp; exact (nomatch (show (none : Option _) = some out from h0))
  | succ n ih =>
    intro i0 x1 S out h0 hp
    rw [f_X9_doLines_8] at h0
    refine zn_iload_n (pc := 8) 1 dX9_doLines_8 rfl rfl ?_
    refine zn_aload_n (pc := 9) 0 dX9_doLines_9 rfl rfl ?_
    refine zn_getR (pc := 10) fa_X9_10_0.1 fa_X9_10_0.2 dX9_doLines_10 ?_
    obtain ⟨i1, hi2, h3⟩ := zbd h0; clear h0
    rw [hi2]
    refine zn_getI (pc := 13) fa_X9_71_1.1 fa_X9_71_1.2 dX9_doLines_13 ?_
    have h5 := h3; clear h3
    refine zn_icmp_gt (pc := 16) (tgt := 73) dX9_doLines_16 (by decide) (fun c4 => ?_) (fun c4 => ?_)
    · replace h5 := zif_t c4 h5
      refine zn_aload_n (pc := 73) 0 dX9_doLines_73 rfl rfl ?_
      refine zn_getR (pc := 74) fa_X9_10_0.1 fa_X9_10_0.2 dX9_doLines_74 ?_
      refine zn_aload_n (pc := 77) 0 dX9_doLines_77 rfl rfl ?_
      refine zn_getR (pc := 78) fa_X9_10_0.1 fa_X9_10_0.2 dX9_doLines_78 ?_
      obtain ⟨i6, hi7, h8⟩ := zbd h5; clear h5
      rw [hi7]
      refine zn_getI (pc := 81) fa_X9_71_1.1 fa_X9_71_1.2 dX9_doLines_81 ?_
      refine zn_iconst (pc := 84) (x := 1) dX9_doLines_84 (by decide) ?_
      refine zn_iadd (pc := 85) dX9_doLines_85 ?_
      obtain ⟨S9, hS10, h11⟩ := zltd h8; clear h8
      refine zn_putI (pc := 86) fp_X9_436_1.1 (fp_X9_436_1 (nm := "")).2 dX9_doLines_86 hS10 ?_
      have hz := Option.some.inj h11; clear h11; subst hz
      exact zn_return (pc := 89) dX9_doLines_89 rfl hp
    · replace h5 := zif_f c4 h5
      refine zn_iconst (pc := 19) (x := 0) dX9_doLines_19 (by decide) ?_
      refine zn_istore_n (pc := 20) (ls' := [(2, vI 0), (0, vR 0 (some i0)), (1, vI x1)]) dX9_doLines_20 rfl (Nat.le_of_ble_eq_true rfl) rfl ?_
      refine zn_pick [1, 2, 0] rfl ?_
      exact b_X9_doLines_21 ih fu _ _ _ _ _ h5 hp
theorem c_X9_doLines {G : zG} {i0 : Nat} {S : zH} {out : zH} (h0 : f_X9_doLines i0 S = some out) : zct G M_X9_doLines 8 0 0 [vR 0 (some i0)] S (zpo none out) := by
  refine zct_of (by decide) (Nat.le_of_ble_eq_true rfl) ?_
  show zn G M_X9_doLines 8 0 0 0 [(0, vR 0 (some i0))] [] S _
  have hp : zpo none out none out := ⟨rfl, rfl⟩
  unfold f_X9_doLines at h0
  refine zn_aload_n (pc := 0) 0 dX9_doLines_0 rfl rfl ?_
  refine zn_getR (pc := 1) fa_X9_10_0.1 fa_X9_10_0.2 dX9_doLines_1 ?_
  obtain ⟨i12, hi13, h14⟩ := zbd h0; clear h0
  rw [hi13]
  refine zn_getI (pc := 4) fa_X9_436_1.1 fa_X9_436_1.2 dX9_doLines_4 ?_
  refine zn_istore_n (pc := 7) (ls' := [(1, vI (zI S 1 i12 6)), (0, vR 0 (some i0))]) dX9_doLines_7 rfl (Nat.le_of_ble_eq_true rfl) rfl ?_
  refine zn_pick [1, 0] rfl ?_
  exact b_X9_doLines_8  fu _ _ _ _ h14 hp
theorem c_X0_keepSum {G : zG} {i0 : Nat} {x1 : Int32} {S : zH} {out : zH} (h0 : f_X0_keepSum i0 x1 S = some out) : zct G M_X0_keepSum 0 0 0 [vR 3 (some i0), vI x1] S (zpo none out) := by
  refine zct_of (by decide) (Nat.le_of_ble_eq_true rfl) ?_
  show zn G M_X0_keepSum 0 0 0 0 [(0, vR 3 (some i0)), (1, vI x1)] [] S _
  have hp : zpo none out none out := ⟨rfl, rfl⟩
  unfold f_X0_keepSum at h0
  refine zn_iload_n (pc := 0) 1 dX0_keepSum_0 rfl rfl ?_
  refine zn_aload_n (pc := 1) 0 dX0_keepSum_1 rfl rfl ?_
  refine zn_getI (pc := 2) fa_X0_25_3.1 fa_X0_25_3.2 dX0_keepSum_2 ?_
  refine zn_isub (pc := 5) dX0_keepSum_5 ?_
  refine zn_istore_n (pc := 6) (ls' := [(2, vI (x1 - (zI S 3 i0 4))), (0, vR 3 (some i0)), (1, vI x1)]) dX0_keepSum_6 rfl (Nat.le_of_ble_eq_true rfl) rfl ?_
  refine zn_iload_n (pc := 7) 0 dX0_keepSum_7 rfl rfl ?_
  have h2 := h0; clear h0
  refine zn_if_lt (pc := 8) (tgt := 30) dX0_keepSum_8 (by decide) (fun c1 => ?_) (fun c1 => ?_)
  · replace h2 := zif_t c1 h2
    have hz := Option.some.inj h2; clear h2; subst hz
    exact zn_return (pc := 30) dX0_keepSum_30 rfl hp
  · replace h2 := zif_f c1 h2
    refine zn_iload_n (pc := 11) 0 dX0_keepSum_11 rfl rfl ?_
    refine zn_aload_n (pc := 12) 1 dX0_keepSum_12 rfl rfl ?_
    refine zn_getR (pc := 13) fa_X0_28_3.1 fa_X0_28_3.2 dX0_keepSum_13 ?_
    obtain ⟨i3, hi4, h5⟩ := zbd h2; clear h2
    rw [hi4]
    refine zn_alen (pc := 16) zk_23 rfl dX0_keepSum_16 ?_
    have h7 := h5; clear h5
    refine zn_icmp_ge (pc := 17) (tgt := 30) dX0_keepSum_17 (by decide) (fun c6 => ?_) (fun c6 => ?_)
    · replace h7 := zif_t c6 h7
      have hz := Option.some.inj h7; clear h7; subst hz
      exact zn_return (pc := 30) dX0_keepSum_30 rfl hp
    · replace h7 := zif_f c6 h7
      refine zn_aload_n (pc := 20) 1 dX0_keepSum_20 rfl rfl ?_
      refine zn_getR (pc := 21) fa_X0_28_3.1 fa_X0_28_3.2 dX0_keepSum_21 ?_
      refine zn_iload_n (pc := 24) 0 dX0_keepSum_24 rfl rfl ?_
      refine zn_aload_n (pc := 25) 1 dX0_keepSum_25 rfl rfl ?_
      refine zn_getJ (pc := 26) fa_X0_32_3.1 fa_X0_32_3.2 dX0_keepSum_26 ?_
      obtain ⟨i8, hi9, h10⟩ := zbd h7; clear h7
      rw [hi9]
      obtain ⟨hb11, h12⟩ := zgdd h10; clear h10
      obtain ⟨S13, hS14, h15⟩ := zltd h12; clear h12
      refine zn_lastore (pc := 29) zk_23 dX0_keepSum_29 (zib_in hb11) hS14 ?_
      have hz := Option.some.inj h15; clear h15; subst hz
      exact zn_return (pc := 30) dX0_keepSum_30 rfl hp
theorem b_X9_keepSums_2 {G : zG} {Post : Option zV → zH → Prop} : ∀ (n : Nat) (i0 : Nat) (x1 : Int32) (S : zH) (out : zH), f_X9_keepSums_2 n i0 x1 S = some out → Post none out → zn G M_X9_keepSums 4 0 0 2 [(0, vR 0 (some i0)), (1, vI x1)] [] S Post := by
  intro n
  induction n with
  | zero => intro i0 x1 S out h0 hp; exact (nomatch (show (none : Option _) = some out from h0))
  | succ n ih =>
    intro i0 x1 S out h0 hp
    rw [f_X9_keepSums_2] at h0
    refine zn_iload_n (pc := 2) 1 dX9_keepSums_2 rfl rfl ?_
    refine zn_aload_n (pc := 3) 0 dX9_keepSums_3 rfl rfl ?_
    refine zn_getR (pc := 4) fa_X9_28_0.1 fa_X9_28_0.2 dX9_keepSums_4 ?_
    obtain ⟨i1, hi2, h3⟩ := zbd h0; clear h0
    rw [hi2]
    obtain ⟨o4, e5, h6⟩ := zbd h3; clear h3
    refine zn_cVv (pc := 7) (kc := 0) (ks := 0) (kc' := 0) (ks' := 0) (As := []) (st := [vI x1]) dX9_keepSums_7 cls_X9_142 pc_10 rfl rfl (Nat.le_of_ble_eq_true rfl) (zc_size (p := 10) (by decide) (Nat.le_of_ble_eq_true rfl) e5) ?_
    have h8 := h6; clear h6
    refine zn_icmp_ge (pc := 10) (tgt := 40) dX9_keepSums_10 (by decide) (fun c7 => ?_) (fun c7 => ?_)
    · replace h8 := zif_t c7 h8
      have hz := Option.some.inj h8; clear h8; subst hz
      exact zn_return (pc := 40) dX9_keepSums_40 rfl hp
    · replace h8 := zif_f c7 h8
      refine zn_aload_n (pc := 13) 0 dX9_keepSums_13 rfl rfl ?_
      refine zn_getR (pc := 14) fa_X9_28_0.1 fa_X9_28_0.2 dX9_keepSums_14 ?_
      refine zn_iload_n (pc := 17) 1 dX9_keepSums_17 rfl rfl ?_
      obtain ⟨i9, hi10, h11⟩ := zbd h8; clear h8
      rw [hi10]
      obtain ⟨o12, e13, h14⟩ := zbd h11; clear h11
      refine zn_cVv (pc := 18) (kc := 0) (ks := 0) (kc' := 0) (ks' := 0) (As := [vI x1]) (st := []) dX9_keepSums_18 clg_X9_353 pc_10 rfl rfl (Nat.le_of_ble_eq_true rfl) (zc_get (p := 10) (by decide) rfl (Nat.le_of_ble_eq_true rfl) e13) ?_
      refine zn_cast (pc := 21) cl_X9_151 pc_3 dX9_keepSums_21 ?_
      refine zn_aload_n (pc := 24) 0 dX9_keepSums_24 rfl rfl ?_
      refine zn_getR (pc := 25) fa_X9_10_0.1 fa_X9_10_0.2 dX9_keepSums_25 ?_
      obtain ⟨i15, hi16, h17⟩ := zbd h14; clear h14
      rw [hi16]
      refine zn_getI (pc := 28) fa_X9_71_1.1 fa_X9_71_1.2 dX9_keepSums_28 ?_
      obtain ⟨i18, hi19, h20⟩ := zbd h17; clear h17
      rw [hi19]
      obtain ⟨o21, e22, h23⟩ := zbd h20; clear h20
      refine zn_cV0 (pc := 31) (kc := 0) (ks := 0) (kc' := 0) (ks' := 0) (As := [vI (zI S 1 i15 4)]) (st := []) dX9_keepSums_31 cs_X9_397 pc_3 rfl rfl (Nat.le_of_ble_eq_true rfl) ((c_X0_keepSum e22).mono (Nat.le_of_ble_eq_true rfl)) ?_
      refine zn_iinc (pc := 34) 1 (y := x1 + 1) (ls' := [(1, vI (x1 + 1)), (0, vR 0 (some i0))]) dX9_keepSums_34 rfl rfl (Nat.le_of_ble_eq_true rfl) rfl ?_
      refine zn_goto (pc := 37) (tgt := 2) dX9_keepSums_37 (by decide) ?_
      refine zn_pick [1, 0] rfl ?_
      exact ih _ _ _ _ h23 hp
theorem c_X9_keepSums {G : zG} {i0 : Nat} {S : zH} {out : zH} (h0 : f_X9_keepSums i0 S = some out) : zct G M_X9_keepSums 4 0 0 [vR 0 (some i0)] S (zpo none out) := by
  refine zct_of (by decide) (Nat.le_of_ble_eq_true rfl) ?_
  show zn G M_X9_keepSums 4 0 0 0 [(0, vR 0 (some i0))] [] S _
  have hp : zpo none out none out := ⟨rfl, rfl⟩
  unfold f_X9_keepSums at h0
  refine zn_iconst (pc := 0) (x := 0) dX9_keepSums_0 (by decide) ?_
  refine zn_istore_n (pc := 1) (ls' := [(1, vI 0), (0, vR 0 (some i0))]) dX9_keepSums_1 rfl (Nat.le_of_ble_eq_true rfl) rfl ?_
  refine zn_pick [1, 0] rfl ?_
  exact b_X9_keepSums_2  fu _ _ _ _ h0 hp
theorem b_X9_days_74 {G : zG} {Post : Option zV → zH → Prop} {k29 : Nat → Int32 → Int32 → zH → Option (Int32 × zH)} {i0 : Nat} {x1 : Int32} {x3 : Int32} {S : zH} {out : (Int32 × zH)} (hk29 : ∀ (i0 : Nat) (x1 : Int32) (x3 : Int32) (S : zH) (out : (Int32 × zH)), k29 i0 x1 x3 S = some out → Post (some (vI out.1)) out.2 → zn G M_X9_days 10 0 0 29 [(0, vR 0 (some i0)), (1, vI x1), (3, vI x3)] [] S Post) (h0 : f_X9_days_74 k29 i0 x1 x3 S = some out) (hp : Post (some (vI out.1)) out.2) : zn G M_X9_days 10 0 0 74 [(0, vR 0 (some i0)), (1, vI x1), (3, vI x3)] [] S Post := by
  unfold f_X9_days_74 at h0
  refine zn_aload_n (pc := 74) 0 dX9_days_74 rfl rfl ?_
  obtain ⟨o1, e2, h3⟩ := zbd h0; clear h0
  refine zn_cV0 (pc := 75) (kc := 0) (ks := 0) (kc' := 0) (ks' := 0) (As := []) (st := []) dX9_days_75 cs_X9_98 pc_0 rfl rfl (Nat.le_of_ble_eq_true rfl) ((c_X9_keepSums e2).mono (Nat.le_of_ble_eq_true rfl)) ?_
  refine zn_aload_n (pc := 78) 0 dX9_days_78 rfl rfl ?_
  refine zn_getR (pc := 79) fa_X9_10_0.1 fa_X9_10_0.2 dX9_days_79 ?_
  refine zn_dup (pc := 82) dX9_days_82 rfl ?_
  obtain ⟨i4, hi5, h6⟩ := zbd h3; clear h3
  rw [hi5]
  refine zn_getI (pc := 83) fa_X9_71_1.1 fa_X9_71_1.2 dX9_days_83 ?_
  refine zn_iconst (pc := 86) (x := 1) dX9_days_86 (by decide) ?_
  refine zn_iadd (pc := 87) dX9_days_87 ?_
  obtain ⟨S7, hS8, h9⟩ := zltd h6; clear h6
  refine zn_putI (pc := 88) fp_X9_71_1.1 (fp_X9_71_1 (nm := "")).2 dX9_days_88 hS8 ?_
  refine zn_iinc (pc := 91) 2 (y := x3 + 1) (ls' := [(3, vI (x3 + 1)), (0, vR 0 (some i0)), (1, vI x1)]) dX9_days_91 rfl rfl (Nat.le_of_ble_eq_true rfl) rfl ?_
  refine zn_goto (pc := 94) (tgt := 29) dX9_days_94 (by decide) ?_
  refine zn_pick [1, 2, 0] rfl ?_
  exact hk29 _ _ _ _ _ h9 hp
theorem b_X9_days_29 {G : zG} {Post : Option zV → zH → Prop} : ∀ (n : Nat) (i0 : Nat) (x1 : Int32) (x3 : Int32) (S : zH) (out : (Int32 × zH)), f_X9_days_29 n i0 x1 x3 S = some out → Post (some (vI out.1)) out.2 → zn G M_X9_days 10 0 0 29 [(0, vR 0 (some i0)), (1, vI x1), (3, vI x3)] [] S Post := by
  intro n
  induction n with
  | zero => intro i0 x1 x3 S out h0 hp; exact (nomatch (show (none : Option _) = some out from h0))
  | succ n ih =>
    intro i0 x1 x3 S out h0 hp
    rw [f_X9_days_29] at h0
    refine zn_iload_n (pc := 29) 2 dX9_days_29 rfl rfl ?_
    refine zn_iload_n (pc := 30) 1 dX9_days_30 rfl rfl ?_
    have h2 := h0; clear h0
    refine zn_icmp_ge (pc := 31) (tgt := 97) dX9_days_31 (by decide) (fun c1 => ?_) (fun c1 => ?_)
    · replace h2 := zif_t c1 h2
      refine zn_aload_n (pc := 97) 0 dX9_days_97 rfl rfl ?_
      refine zn_getR (pc := 98) fa_X9_10_0.1 fa_X9_10_0.2 dX9_days_98 ?_
      obtain ⟨i3, hi4, h5⟩ := zbd h2; clear h2
      rw [hi4]
      refine zn_getI (pc := 101) fa_X9_71_1.1 fa_X9_71_1.2 dX9_days_101 ?_
      have hz := Option.some.inj h5; clear h5; subst hz
      exact zn_ireturn (pc := 104) dX9_days_104 rfl hp
    · replace h2 := zif_f c1 h2
      refine zn_aload_n (pc := 34) 0 dX9_days_34 rfl rfl ?_
      refine zn_getR (pc := 35) fa_X9_10_0.1 fa_X9_10_0.2 dX9_days_35 ?_
      refine zn_aload_n (pc := 38) 0 dX9_days_38 rfl rfl ?_
      refine zn_getR (pc := 39) fa_X9_10_0.1 fa_X9_10_0.2 dX9_days_39 ?_
      obtain ⟨i6, hi7, h8⟩ := zbd h2; clear h2
      rw [hi7]
      refine zn_getI (pc := 42) fa_X9_71_1.1 fa_X9_71_1.2 dX9_days_42 ?_
      obtain ⟨o9, e10, h11⟩ := zbd h8; clear h8
      refine zn_cVv (pc := 45) (kc := 0) (ks := 0) (kc' := 0) (ks' := 0) (As := [vI (zI S 1 i6 4)]) (st := []) dX9_days_45 cs_X9_82 pc_1 rfl rfl (Nat.le_of_ble_eq_true rfl) ((c_X2_works e10).mono (Nat.le_of_ble_eq_true rfl)) ?_
      have h13 := h11; clear h11
      refine zn_if_eq (pc := 48) (tgt := 74) dX9_days_48 (by decide) (fun c12 => ?_) (fun c12 => ?_)
      · replace h13 := zif_t c12 h13
        exact b_X9_days_74 ih h13 hp
      · replace h13 := zif_f c12 h13
        refine zn_aload_n (pc := 51) 0 dX9_days_51 rfl rfl ?_
        obtain ⟨o14, e15, h16⟩ := zbd h13; clear h13
        refine zn_cV0 (pc := 52) (kc := 0) (ks := 0) (kc' := 0) (ks' := 0) (As := []) (st := []) dX9_days_52 cs_X9_86 pc_0 rfl rfl (Nat.le_of_ble_eq_true rfl) ((c_X9_beginNight e15).mono (Nat.le_of_ble_eq_true rfl)) ?_
        refine zn_aload_n (pc := 55) 0 dX9_days_55 rfl rfl ?_
        obtain ⟨o17, e18, h19⟩ := zbd h16; clear h16
        refine zn_cV0 (pc := 56) (kc := 0) (ks := 0) (kc' := 0) (ks' := 0) (As := []) (st := []) dX9_days_56 cs_X9_89 pc_0 rfl rfl (Nat.le_of_ble_eq_true rfl) ((c_X9_doMoves e18).mono (Nat.le_of_ble_eq_true rfl)) ?_
        refine zn_aload_n (pc := 59) 0 dX9_days_59 rfl rfl ?_
        refine zn_aload_n (pc := 60) 0 dX9_days_60 rfl rfl ?_
        refine zn_getR (pc := 61) fa_X9_10_0.1 fa_X9_10_0.2 dX9_days_61 ?_
        obtain ⟨i20, hi21, h22⟩ := zbd h19; clear h19
        rw [hi21]
        refine zn_getI (pc := 64) fa_X9_71_1.1 fa_X9_71_1.2 dX9_days_64 ?_
        obtain ⟨o23, e24, h25⟩ := zbd h22; clear h22
        refine zn_cV0 (pc := 67) (kc := 0) (ks := 0) (kc' := 0) (ks' := 0) (As := [vI (zI o17 1 i20 4)]) (st := []) dX9_days_67 cs_X9_92 pc_0 rfl rfl (Nat.le_of_ble_eq_true rfl) ((c_X9_findRoutes e24).mono (Nat.le_of_ble_eq_true rfl)) ?_
        refine zn_aload_n (pc := 70) 0 dX9_days_70 rfl rfl ?_
        obtain ⟨o26, e27, h28⟩ := zbd h25; clear h25
        refine zn_cV0 (pc := 71) (kc := 0) (ks := 0) (kc' := 0) (ks' := 0) (As := []) (st := []) dX9_days_71 cs_X9_95 pc_0 rfl rfl (Nat.le_of_ble_eq_true rfl) ((c_X9_doLines e27).mono (Nat.le_of_ble_eq_true rfl)) ?_
        exact b_X9_days_74 ih h28 hp
theorem c_X9_days {G : zG} {i0 : Nat} {x1 : Int32} {S : zH} {out : (Int32 × zH)} (h0 : f_X9_days i0 x1 S = some out) : zct G M_X9_days 10 0 0 [vR 0 (some i0), vI x1] S (zpo (some (vI out.1)) out.2) := by
  refine zct_of (by decide) (Nat.le_of_ble_eq_true rfl) ?_
  show zn G M_X9_days 10 0 0 0 [(0, vR 0 (some i0)), (1, vI x1)] [] S _
  have hp : zpo (some (vI out.1)) out.2 (some (vI out.1)) out.2 := ⟨rfl, rfl⟩
  unfold f_X9_days at h0
  refine zn_iload_n (pc := 0) 1 dX9_days_0 rfl rfl ?_
  refine zn_iconst (pc := 1) (x := 1) dX9_days_1 (by decide) ?_
  refine zn_sipush (pc := 2) (x := 1500) dX9_days_2 (by decide) ?_
  refine zn_aload_n (pc := 5) 0 dX9_days_5 rfl rfl ?_
  refine zn_getR (pc := 6) fa_X9_10_0.1 fa_X9_10_0.2 dX9_days_6 ?_
  obtain ⟨i29, hi30, h31⟩ := zbd h0; clear h0
  rw [hi30]
  refine zn_getI (pc := 9) fa_X9_71_1.1 fa_X9_71_1.2 dX9_days_9 ?_
  refine zn_isub (pc := 12) dX9_days_12 ?_
  obtain ⟨o32, e33, h34⟩ := zbd h31; clear h31
  refine zn_cSv (pc := 13) (kc := 0) (ks := 0) (kc' := 0) (ks' := 0) (As := [vI x1, vI 1, vI (1500 - (zI S 1 i29 4))]) (st := []) dX9_days_13 cs_X9_74 rfl rfl (Nat.le_of_ble_eq_true rfl) ((c_X9_outside e33).mono (Nat.le_of_ble_eq_true rfl)) ?_
  refine zn_istore_n (pc := 16) (ls' := [(2, vI o32), (0, vR 0 (some i0)), (1, vI x1)]) dX9_days_16 rfl (Nat.le_of_ble_eq_true rfl) rfl ?_
  refine zn_iload_n (pc := 17) 0 dX9_days_17 rfl rfl ?_
  have h36 := h34; clear h34
  refine zn_if_eq (pc := 18) (tgt := 27) dX9_days_18 (by decide) (fun c35 => ?_) (fun c35 => ?_)
  · replace h36 := zif_t c35 h36
    refine zn_iconst (pc := 27) (x := 0) dX9_days_27 (by decide) ?_
    refine zn_istore_n (pc := 28) (ls' := [(3, vI 0), (2, vI o32), (0, vR 0 (some i0)), (1, vI x1)]) dX9_days_28 rfl (Nat.le_of_ble_eq_true rfl) rfl ?_
    refine zn_pick [2, 3, 0] rfl ?_
    exact b_X9_days_29  fu _ _ _ _ _ h36 hp
  · replace h36 := zif_f c35 h36
    refine zn_aload_n (pc := 21) 1 dX9_days_21 rfl rfl ?_
    refine zn_iload_n (pc := 22) 0 dX9_days_22 rfl rfl ?_
    obtain ⟨o37, e38, h39⟩ := zbd h36; clear h36
    refine zn_cVv (pc := 23) (kc := 0) (ks := 0) (kc' := 0) (ks' := 0) (As := [vI o32]) (st := []) dX9_days_23 cs_X9_78 pc_0 rfl rfl (Nat.le_of_ble_eq_true rfl) ((c_X9_refuse e38).mono (Nat.le_of_ble_eq_true rfl)) ?_
    have hz := Option.some.inj h39; clear h39; subst hz
    exact zn_ireturn (pc := 26) dX9_days_26 rfl hp
theorem c_X2_addHoliday {G : zG} {i0 : Nat} {x1 : Int32} {S : zH} {out : (Int32 × zH)} (h0 : f_X2_addHoliday i0 x1 S = some out) : zct G M_X2_addHoliday 0 0 0 [vR 1 (some i0), vI x1] S (zpo (some (vI out.1)) out.2) := by
  refine zct_of (by decide) (Nat.le_of_ble_eq_true rfl) ?_
  show zn G M_X2_addHoliday 0 0 0 0 [(0, vR 1 (some i0)), (1, vI x1)] [] S _
  have hp : zpo (some (vI out.1)) out.2 (some (vI out.1)) out.2 := ⟨rfl, rfl⟩
  unfold f_X2_addHoliday at h0
  refine zn_iload_n (pc := 0) 1 dX2_addHoliday_0 rfl rfl ?_
  have h2 := h0; clear h0
  refine zn_if_lt (pc := 1) (tgt := 30) dX2_addHoliday_1 (by decide) (fun c1 => ?_) (fun c1 => ?_)
  · replace h2 := zif_t c1 h2
    refine zn_aload_n (pc := 30) 0 dX2_addHoliday_30 rfl rfl ?_
    refine zn_getI (pc := 31) fa_X2_23_1.1 fa_X2_23_1.2 dX2_addHoliday_31 ?_
    have hz := Option.some.inj h2; clear h2; subst hz
    exact zn_ireturn (pc := 34) dX2_addHoliday_34 rfl hp
  · replace h2 := zif_f c1 h2
    refine zn_iload_n (pc := 4) 1 dX2_addHoliday_4 rfl rfl ?_
    refine zn_aload_n (pc := 5) 0 dX2_addHoliday_5 rfl rfl ?_
    refine zn_getR (pc := 6) fa_X2_9_1.1 fa_X2_9_1.2 dX2_addHoliday_6 ?_
    obtain ⟨i3, hi4, h5⟩ := zbd h2; clear h2
    rw [hi4]
    refine zn_alen (pc := 9) zk_21 rfl dX2_addHoliday_9 ?_
    have h7 := h5; clear h5
    refine zn_icmp_ge (pc := 10) (tgt := 30) dX2_addHoliday_10 (by decide) (fun c6 => ?_) (fun c6 => ?_)
    · replace h7 := zif_t c6 h7
      refine zn_aload_n (pc := 30) 0 dX2_addHoliday_30 rfl rfl ?_
      refine zn_getI (pc := 31) fa_X2_23_1.1 fa_X2_23_1.2 dX2_addHoliday_31 ?_
      have hz := Option.some.inj h7; clear h7; subst hz
      exact zn_ireturn (pc := 34) dX2_addHoliday_34 rfl hp
    · replace h7 := zif_f c6 h7
      refine zn_aload_n (pc := 13) 0 dX2_addHoliday_13 rfl rfl ?_
      refine zn_getR (pc := 14) fa_X2_9_1.1 fa_X2_9_1.2 dX2_addHoliday_14 ?_
      refine zn_iload_n (pc := 17) 1 dX2_addHoliday_17 rfl rfl ?_
      refine zn_iconst (pc := 18) (x := 1) dX2_addHoliday_18 (by decide) ?_
      obtain ⟨i8, hi9, h10⟩ := zbd h7; clear h7
      rw [hi9]
      obtain ⟨hb11, h12⟩ := zgdd h10; clear h10
      obtain ⟨S13, hS14, h15⟩ := zltd h12; clear h12
      refine zn_bastore (pc := 19) zk_21 dX2_addHoliday_19 (zib_in hb11) hS14 ?_
      refine zn_aload_n (pc := 20) 0 dX2_addHoliday_20 rfl rfl ?_
      refine zn_dup (pc := 21) dX2_addHoliday_21 rfl ?_
      refine zn_getI (pc := 22) fa_X2_23_1.1 fa_X2_23_1.2 dX2_addHoliday_22 ?_
      refine zn_iconst (pc := 25) (x := 1) dX2_addHoliday_25 (by decide) ?_
      refine zn_iadd (pc := 26) dX2_addHoliday_26 ?_
      obtain ⟨S16, hS17, h18⟩ := zltd h15; clear h15
      refine zn_putI (pc := 27) fp_X2_23_1.1 (fp_X2_23_1 (nm := "")).2 dX2_addHoliday_27 hS17 ?_
      refine zn_aload_n (pc := 30) 0 dX2_addHoliday_30 rfl rfl ?_
      refine zn_getI (pc := 31) fa_X2_23_1.1 fa_X2_23_1.2 dX2_addHoliday_31 ?_
      have hz := Option.some.inj h18; clear h18; subst hz
      exact zn_ireturn (pc := 34) dX2_addHoliday_34 rfl hp
theorem b_X9_holiday_37 {G : zG} {Post : Option zV → zH → Prop} {i0 : Nat} {S : zH} {out : (Int32 × zH)} (h0 : f_X9_holiday_37 i0 S = some out) (hp : Post (some (vI out.1)) out.2) : zn G M_X9_holiday 1 0 0 37 [(0, vR 0 (some i0))] [] S Post := by
  unfold f_X9_holiday_37 at h0
  refine zn_aload_n (pc := 37) 0 dX9_holiday_37 rfl rfl ?_
  refine zn_bipush (pc := 38) (x := (-6)) dX9_holiday_38 (by decide) ?_
  obtain ⟨o1, e2, h3⟩ := zbd h0; clear h0
  refine zn_cVv (pc := 40) (kc := 0) (ks := 0) (kc' := 0) (ks' := 0) (As := [vI (-6)]) (st := []) dX9_holiday_40 cs_X9_78 pc_0 rfl rfl (Nat.le_of_ble_eq_true rfl) ((c_X9_refuse e2).mono (Nat.le_of_ble_eq_true rfl)) ?_
  have hz := Option.some.inj h3; clear h3; subst hz
  exact zn_ireturn (pc := 43) dX9_holiday_43 rfl hp
theorem c_X9_holiday {G : zG} {i0 : Nat} {x1 : Int32} {S : zH} {out : (Int32 × zH)} (h0 : f_X9_holiday i0 x1 S = some out) : zct G M_X9_holiday 1 0 0 [vR 0 (some i0), vI x1] S (zpo (some (vI out.1)) out.2) := by
  refine zct_of (by decide) (Nat.le_of_ble_eq_true rfl) ?_
  show zn G M_X9_holiday 1 0 0 0 [(0, vR 0 (some i0)), (1, vI x1)] [] S _
  have hp : zpo (some (vI out.1)) out.2 (some (vI out.1)) out.2 := ⟨rfl, rfl⟩
  unfold f_X9_holiday at h0
  refine zn_iload_n (pc := 0) 1 dX9_holiday_0 rfl rfl ?_
  refine zn_aload_n (pc := 1) 0 dX9_holiday_1 rfl rfl ?_
  refine zn_getR (pc := 2) fa_X9_10_0.1 fa_X9_10_0.2 dX9_holiday_2 ?_
  obtain ⟨i4, hi5, h6⟩ := zbd h0; clear h0
  rw [hi5]
  refine zn_getI (pc := 5) fa_X9_71_1.1 fa_X9_71_1.2 dX9_holiday_5 ?_
  have h8 := h6; clear h6
  refine zn_icmp_ge (pc := 8) (tgt := 18) dX9_holiday_8 (by decide) (fun c7 => ?_) (fun c7 => ?_)
  · replace h8 := zif_t c7 h8
    refine zn_iload_n (pc := 18) 1 dX9_holiday_18 rfl rfl ?_
    refine zn_sipush (pc := 19) (x := 1500) dX9_holiday_19 (by decide) ?_
    have h10 := h8; clear h8
    refine zn_icmp_gt (pc := 22) (tgt := 37) dX9_holiday_22 (by decide) (fun c9 => ?_) (fun c9 => ?_)
    · replace h10 := zif_t c9 h10
      refine zn_pick [0] rfl ?_
      exact b_X9_holiday_37  h10 hp
    · replace h10 := zif_f c9 h10
      refine zn_aload_n (pc := 25) 0 dX9_holiday_25 rfl rfl ?_
      refine zn_getR (pc := 26) fa_X9_10_0.1 fa_X9_10_0.2 dX9_holiday_26 ?_
      obtain ⟨i11, hi12, h13⟩ := zbd h10; clear h10
      rw [hi12]
      refine zn_getI (pc := 29) fa_X9_101_1.1 fa_X9_101_1.2 dX9_holiday_29 ?_
      refine zn_bipush (pc := 32) (x := 20) dX9_holiday_32 (by decide) ?_
      have h15 := h13; clear h13
      refine zn_icmp_lt (pc := 34) (tgt := 44) dX9_holiday_34 (by decide) (fun c14 => ?_) (fun c14 => ?_)
      · replace h15 := zif_t c14 h15
        refine zn_aload_n (pc := 44) 0 dX9_holiday_44 rfl rfl ?_
        refine zn_getR (pc := 45) fa_X9_10_0.1 fa_X9_10_0.2 dX9_holiday_45 ?_
        refine zn_iload_n (pc := 48) 1 dX9_holiday_48 rfl rfl ?_
        obtain ⟨i16, hi17, h18⟩ := zbd h15; clear h15
        rw [hi17]
        obtain ⟨o19, e20, h21⟩ := zbd h18; clear h18
        refine zn_cVv (pc := 49) (kc := 0) (ks := 0) (kc' := 0) (ks' := 0) (As := [vI x1]) (st := []) dX9_holiday_49 cs_X9_104 pc_1 rfl rfl (Nat.le_of_ble_eq_true rfl) ((c_X2_rests e20).mono (Nat.le_of_ble_eq_true rfl)) ?_
        have h23 := h21; clear h21
        refine zn_if_eq (pc := 52) (tgt := 62) dX9_holiday_52 (by decide) (fun c22 => ?_) (fun c22 => ?_)
        · replace h23 := zif_t c22 h23
          refine zn_aload_n (pc := 62) 0 dX9_holiday_62 rfl rfl ?_
          refine zn_getR (pc := 63) fa_X9_10_0.1 fa_X9_10_0.2 dX9_holiday_63 ?_
          refine zn_iload_n (pc := 66) 1 dX9_holiday_66 rfl rfl ?_
          obtain ⟨i24, hi25, h26⟩ := zbd h23; clear h23
          rw [hi25]
          obtain ⟨o27, e28, h29⟩ := zbd h26; clear h26
          refine zn_cVv (pc := 67) (kc := 0) (ks := 0) (kc' := 0) (ks' := 0) (As := [vI x1]) (st := []) dX9_holiday_67 cs_X9_107 pc_1 rfl rfl (Nat.le_of_ble_eq_true rfl) ((c_X2_addHoliday e28).mono (Nat.le_of_ble_eq_true rfl)) ?_
          have hz := Option.some.inj h29; clear h29; subst hz
          exact zn_ireturn (pc := 70) dX9_holiday_70 rfl hp
        · replace h23 := zif_f c22 h23
          refine zn_aload_n (pc := 55) 0 dX9_holiday_55 rfl rfl ?_
          refine zn_bipush (pc := 56) (x := (-3)) dX9_holiday_56 (by decide) ?_
          obtain ⟨o30, e31, h32⟩ := zbd h23; clear h23
          refine zn_cVv (pc := 58) (kc := 0) (ks := 0) (kc' := 0) (ks' := 0) (As := [vI (-3)]) (st := []) dX9_holiday_58 cs_X9_78 pc_0 rfl rfl (Nat.le_of_ble_eq_true rfl) ((c_X9_refuse e31).mono (Nat.le_of_ble_eq_true rfl)) ?_
          have hz := Option.some.inj h32; clear h32; subst hz
          exact zn_ireturn (pc := 61) dX9_holiday_61 rfl hp
      · replace h15 := zif_f c14 h15
        refine zn_pick [0] rfl ?_
        exact b_X9_holiday_37  h15 hp
  · replace h8 := zif_f c7 h8
    refine zn_aload_n (pc := 11) 0 dX9_holiday_11 rfl rfl ?_
    refine zn_bipush (pc := 12) (x := (-4)) dX9_holiday_12 (by decide) ?_
    obtain ⟨o33, e34, h35⟩ := zbd h8; clear h8
    refine zn_cVv (pc := 14) (kc := 0) (ks := 0) (kc' := 0) (ks' := 0) (As := [vI (-4)]) (st := []) dX9_holiday_14 cs_X9_78 pc_0 rfl rfl (Nat.le_of_ble_eq_true rfl) ((c_X9_refuse e34).mono (Nat.le_of_ble_eq_true rfl)) ?_
    have hz := Option.some.inj h35; clear h35; subst hz
    exact zn_ireturn (pc := 17) dX9_holiday_17 rfl hp
theorem c_X9_isWorking {G : zG} {i0 : Nat} {x1 : Int32} {S : zH} {out : (Int32 × zH)} (h0 : f_X9_isWorking i0 x1 S = some out) : zct G M_X9_isWorking 2 0 0 [vR 0 (some i0), vI x1] S (zpo (some (vI out.1)) out.2) := by
  refine zct_of (by decide) (Nat.le_of_ble_eq_true rfl) ?_
  show zn G M_X9_isWorking 2 0 0 0 [(0, vR 0 (some i0)), (1, vI x1)] [] S _
  have hp : zpo (some (vI out.1)) out.2 (some (vI out.1)) out.2 := ⟨rfl, rfl⟩
  unfold f_X9_isWorking at h0
  refine zn_iload_n (pc := 0) 1 dX9_isWorking_0 rfl rfl ?_
  refine zn_iconst (pc := 1) (x := 0) dX9_isWorking_1 (by decide) ?_
  refine zn_sipush (pc := 2) (x := 1500) dX9_isWorking_2 (by decide) ?_
  obtain ⟨o1, e2, h3⟩ := zbd h0; clear h0
  refine zn_cSv (pc := 5) (kc := 0) (ks := 0) (kc' := 0) (ks' := 0) (As := [vI x1, vI 0, vI 1500]) (st := []) dX9_isWorking_5 cs_X9_74 rfl rfl (Nat.le_of_ble_eq_true rfl) ((c_X9_outside e2).mono (Nat.le_of_ble_eq_true rfl)) ?_
  refine zn_istore_n (pc := 8) (ls' := [(2, vI o1), (0, vR 0 (some i0)), (1, vI x1)]) dX9_isWorking_8 rfl (Nat.le_of_ble_eq_true rfl) rfl ?_
  refine zn_iload_n (pc := 9) 0 dX9_isWorking_9 rfl rfl ?_
  have h5 := h3; clear h3
  refine zn_if_eq (pc := 10) (tgt := 19) dX9_isWorking_10 (by decide) (fun c4 => ?_) (fun c4 => ?_)
  · replace h5 := zif_t c4 h5
    refine zn_aload_n (pc := 19) 1 dX9_isWorking_19 rfl rfl ?_
    refine zn_getR (pc := 20) fa_X9_10_0.1 fa_X9_10_0.2 dX9_isWorking_20 ?_
    refine zn_iload_n (pc := 23) 2 dX9_isWorking_23 rfl rfl ?_
    obtain ⟨i6, hi7, h8⟩ := zbd h5; clear h5
    rw [hi7]
    obtain ⟨o9, e10, h11⟩ := zbd h8; clear h8
    refine zn_cVv (pc := 24) (kc := 0) (ks := 0) (kc' := 0) (ks' := 0) (As := [vI x1]) (st := []) dX9_isWorking_24 cs_X9_82 pc_1 rfl rfl (Nat.le_of_ble_eq_true rfl) ((c_X2_works e10).mono (Nat.le_of_ble_eq_true rfl)) ?_
    have h13 := h11; clear h11
    refine zn_if_eq (pc := 27) (tgt := 34) dX9_isWorking_27 (by decide) (fun c12 => ?_) (fun c12 => ?_)
    · replace h13 := zif_t c12 h13
      refine zn_iconst (pc := 34) (x := 0) dX9_isWorking_34 (by decide) ?_
      have hz := Option.some.inj h13; clear h13; subst hz
      exact zn_ireturn (pc := 35) dX9_isWorking_35 rfl hp
    · replace h13 := zif_f c12 h13
      refine zn_iconst (pc := 30) (x := 1) dX9_isWorking_30 (by decide) ?_
      refine zn_goto (pc := 31) (tgt := 35) dX9_isWorking_31 (by decide) ?_
      have hz := Option.some.inj h13; clear h13; subst hz
      exact zn_ireturn (pc := 35) dX9_isWorking_35 rfl hp
  · replace h5 := zif_f c4 h5
    refine zn_aload_n (pc := 13) 1 dX9_isWorking_13 rfl rfl ?_
    refine zn_iload_n (pc := 14) 0 dX9_isWorking_14 rfl rfl ?_
    obtain ⟨o14, e15, h16⟩ := zbd h5; clear h5
    refine zn_cVv (pc := 15) (kc := 0) (ks := 0) (kc' := 0) (ks' := 0) (As := [vI o1]) (st := []) dX9_isWorking_15 cs_X9_78 pc_0 rfl rfl (Nat.le_of_ble_eq_true rfl) ((c_X9_refuse e15).mono (Nat.le_of_ble_eq_true rfl)) ?_
    have hz := Option.some.inj h16; clear h16; subst hz
    exact zn_ireturn (pc := 18) dX9_isWorking_18 rfl hp
theorem c_X9_bankAt {G : zG} {i0 : Nat} {x1 : Int32} {S : zH} {out : (Option Nat)} (h0 : f_X9_bankAt i0 x1 S = some out) : zct G M_X9_bankAt 0 0 0 [vR 0 (some i0), vI x1] S (zpo (some (vR 2 out)) S) := by
  refine zct_of (by decide) (Nat.le_of_ble_eq_true rfl) ?_
  show zn G M_X9_bankAt 0 0 0 0 [(0, vR 0 (some i0)), (1, vI x1)] [] S _
  have hp : zpo (some (vR 2 out)) S (some (vR 2 out)) S := ⟨rfl, rfl⟩
  unfold f_X9_bankAt at h0
  refine zn_iload_n (pc := 0) 1 dX9_bankAt_0 rfl rfl ?_
  have h2 := h0; clear h0
  refine zn_if_lt (pc := 1) (tgt := 22) dX9_bankAt_1 (by decide) (fun c1 => ?_) (fun c1 => ?_)
  · replace h2 := zif_t c1 h2
    refine zn_null (pc := 22) 2 dX9_bankAt_22 ?_
    have hz := Option.some.inj h2; clear h2; subst hz
    exact zn_areturn (pc := 23) dX9_bankAt_23 rfl (Or.inl ⟨_, rfl⟩) hp
  · replace h2 := zif_f c1 h2
    refine zn_iload_n (pc := 4) 1 dX9_bankAt_4 rfl rfl ?_
    refine zn_aload_n (pc := 5) 0 dX9_bankAt_5 rfl rfl ?_
    refine zn_getR (pc := 6) fa_X9_18_0.1 fa_X9_18_0.2 dX9_bankAt_6 ?_
    obtain ⟨i3, hi4, h5⟩ := zbd h2; clear h2
    rw [hi4]
    refine zn_alen (pc := 9) zk_18 rfl dX9_bankAt_9 ?_
    have h7 := h5; clear h5
    refine zn_icmp_ge (pc := 10) (tgt := 22) dX9_bankAt_10 (by decide) (fun c6 => ?_) (fun c6 => ?_)
    · replace h7 := zif_t c6 h7
      refine zn_null (pc := 22) 2 dX9_bankAt_22 ?_
      have hz := Option.some.inj h7; clear h7; subst hz
      exact zn_areturn (pc := 23) dX9_bankAt_23 rfl (Or.inl ⟨_, rfl⟩) hp
    · replace h7 := zif_f c6 h7
      refine zn_aload_n (pc := 13) 0 dX9_bankAt_13 rfl rfl ?_
      refine zn_getR (pc := 14) fa_X9_18_0.1 fa_X9_18_0.2 dX9_bankAt_14 ?_
      refine zn_iload_n (pc := 17) 1 dX9_bankAt_17 rfl rfl ?_
      obtain ⟨i8, hi9, h10⟩ := zbd h7; clear h7
      rw [hi9]
      obtain ⟨hb11, h12⟩ := zgdd h10; clear h10
      refine zn_aaload (pc := 18) zk_18 rfl dX9_bankAt_18 (zib_in hb11) ?_
      refine zn_goto (pc := 19) (tgt := 23) dX9_bankAt_19 (by decide) ?_
      have hz := Option.some.inj h12; clear h12; subst hz
      exact zn_areturn (pc := 23) dX9_bankAt_23 rfl (Or.inl ⟨_, rfl⟩) hp
theorem c_X1_changeFee {G : zG} {i0 : Nat} {x1 : Int32} {S : zH} {out : (Int32 × zH)} (h0 : f_X1_changeFee i0 x1 S = some out) : zct G M_X1_changeFee 0 0 0 [vR 2 (some i0), vI x1] S (zpo (some (vI out.1)) out.2) := by
  refine zct_of (by decide) (Nat.le_of_ble_eq_true rfl) ?_
  show zn G M_X1_changeFee 0 0 0 0 [(0, vR 2 (some i0)), (1, vI x1)] [] S _
  have hp : zpo (some (vI out.1)) out.2 (some (vI out.1)) out.2 := ⟨rfl, rfl⟩
  unfold f_X1_changeFee at h0
  refine zn_aload_n (pc := 0) 0 dX1_changeFee_0 rfl rfl ?_
  refine zn_getI (pc := 1) fa_X1_18_2.1 fa_X1_18_2.2 dX1_changeFee_1 ?_
  refine zn_istore_n (pc := 4) (ls' := [(2, vI (zI S 2 i0 1)), (0, vR 2 (some i0)), (1, vI x1)]) dX1_changeFee_4 rfl (Nat.le_of_ble_eq_true rfl) rfl ?_
  refine zn_aload_n (pc := 5) 1 dX1_changeFee_5 rfl rfl ?_
  refine zn_iload_n (pc := 6) 2 dX1_changeFee_6 rfl rfl ?_
  obtain ⟨S1, hS2, h3⟩ := zltd h0; clear h0
  refine zn_putI (pc := 7) fp_X1_18_2.1 (fp_X1_18_2 (nm := "")).2 dX1_changeFee_7 hS2 ?_
  refine zn_iload_n (pc := 10) 0 dX1_changeFee_10 rfl rfl ?_
  have hz := Option.some.inj h3; clear h3; subst hz
  exact zn_ireturn (pc := 11) dX1_changeFee_11 rfl hp
theorem c_X1_changeCap {G : zG} {i0 : Nat} {x1 : Int32} {S : zH} {out : (Int32 × zH)} (h0 : f_X1_changeCap i0 x1 S = some out) : zct G M_X1_changeCap 0 0 0 [vR 2 (some i0), vI x1] S (zpo (some (vI out.1)) out.2) := by
  refine zct_of (by decide) (Nat.le_of_ble_eq_true rfl) ?_
  show zn G M_X1_changeCap 0 0 0 0 [(0, vR 2 (some i0)), (1, vI x1)] [] S _
  have hp : zpo (some (vI out.1)) out.2 (some (vI out.1)) out.2 := ⟨rfl, rfl⟩
  unfold f_X1_changeCap at h0
  refine zn_aload_n (pc := 0) 0 dX1_changeCap_0 rfl rfl ?_
  refine zn_getI (pc := 1) fa_X1_9_2.1 fa_X1_9_2.2 dX1_changeCap_1 ?_
  refine zn_istore_n (pc := 4) (ls' := [(2, vI (zI S 2 i0 2)), (0, vR 2 (some i0)), (1, vI x1)]) dX1_changeCap_4 rfl (Nat.le_of_ble_eq_true rfl) rfl ?_
  refine zn_aload_n (pc := 5) 1 dX1_changeCap_5 rfl rfl ?_
  refine zn_iload_n (pc := 6) 2 dX1_changeCap_6 rfl rfl ?_
  obtain ⟨S1, hS2, h3⟩ := zltd h0; clear h0
  refine zn_putI (pc := 7) fp_X1_9_2.1 (fp_X1_9_2 (nm := "")).2 dX1_changeCap_7 hS2 ?_
  refine zn_iload_n (pc := 10) 0 dX1_changeCap_10 rfl rfl ?_
  have hz := Option.some.inj h3; clear h3; subst hz
  exact zn_ireturn (pc := 11) dX1_changeCap_11 rfl hp
theorem b_X9_bank_27 {G : zG} {Post : Option zV → zH → Prop} {i0 : Nat} {S : zH} {out : (Int32 × zH)} (h0 : f_X9_bank_27 i0 S = some out) (hp : Post (some (vI out.1)) out.2) : zn G M_X9_bank 1 0 0 27 [(0, vR 0 (some i0))] [] S Post := by
  unfold f_X9_bank_27 at h0
  refine zn_aload_n (pc := 27) 0 dX9_bank_27 rfl rfl ?_
  refine zn_bipush (pc := 28) (x := (-2)) dX9_bank_28 (by decide) ?_
  obtain ⟨o1, e2, h3⟩ := zbd h0; clear h0
  refine zn_cVv (pc := 30) (kc := 0) (ks := 0) (kc' := 0) (ks' := 0) (As := [vI (-2)]) (st := []) dX9_bank_30 cs_X9_78 pc_0 rfl rfl (Nat.le_of_ble_eq_true rfl) ((c_X9_refuse e2).mono (Nat.le_of_ble_eq_true rfl)) ?_
  have hz := Option.some.inj h3; clear h3; subst hz
  exact zn_ireturn (pc := 33) dX9_bank_33 rfl hp
theorem b_X9_bank_48 {G : zG} {Post : Option zV → zH → Prop} {i0 : Nat} {x2 : Int32} {x3 : Int32} {i4 : Nat} {xs0 : Int32} {xs1 : Int32} {xs2 : Int32} {S : zH} {out : (Int32 × zH)} (h0 : f_X9_bank_48 i0 x2 x3 i4 xs0 xs1 xs2 S = some out) (hp : Post (some (vI out.1)) out.2) : zn G M_X9_bank 1 0 0 48 [(0, vR 0 (some i0)), (2, vI x2), (3, vI x3), (4, vR 2 (some i4))] [vI xs0, vI xs1, vI xs2] S Post := by
  unfold f_X9_bank_48 at h0
  obtain ⟨o1, e2, h3⟩ := zbd h0; clear h0
  refine zn_cSv (pc := 48) (kc := 0) (ks := 0) (kc' := 0) (ks' := 0) (As := [vI xs2, vI xs1, vI xs0]) (st := []) dX9_bank_48 cs_X9_74 rfl rfl (Nat.le_of_ble_eq_true rfl) ((c_X9_outside e2).mono (Nat.le_of_ble_eq_true rfl)) ?_
  refine zn_istore (pc := 51) (ls' := [(5, vI o1), (0, vR 0 (some i0)), (2, vI x2), (3, vI x3), (4, vR 2 (some i4))]) dX9_bank_51 (Nat.le_of_ble_eq_true rfl) rfl ?_
  refine zn_iload (pc := 53) 0 dX9_bank_53 rfl ?_
  have h5 := h3; clear h3
  refine zn_if_eq (pc := 55) (tgt := 65) dX9_bank_55 (by decide) (fun c4 => ?_) (fun c4 => ?_)
  · replace h5 := zif_t c4 h5
    refine zn_iload_n (pc := 65) 2 dX9_bank_65 rfl rfl ?_
    have h7 := h5; clear h5
    refine zn_if_ne (pc := 66) (tgt := 78) dX9_bank_66 (by decide) (fun c6 => ?_) (fun c6 => ?_)
    · replace h7 := zif_f c6 h7
      refine zn_aload (pc := 78) 4 dX9_bank_78 rfl ?_
      refine zn_iload_n (pc := 80) 3 dX9_bank_80 rfl rfl ?_
      obtain ⟨o8, e9, h10⟩ := zbd h7; clear h7
      refine zn_cVv (pc := 81) (kc := 0) (ks := 0) (kc' := 0) (ks' := 0) (As := [vI x3]) (st := []) dX9_bank_81 cs_X9_117 pc_2 rfl rfl (Nat.le_of_ble_eq_true rfl) ((c_X1_changeCap e9).mono (Nat.le_of_ble_eq_true rfl)) ?_
      have hz := Option.some.inj h10; clear h10; subst hz
      exact zn_ireturn (pc := 84) dX9_bank_84 rfl hp
    · replace h7 := zif_t c6 h7
      refine zn_aload (pc := 69) 4 dX9_bank_69 rfl ?_
      refine zn_iload_n (pc := 71) 3 dX9_bank_71 rfl rfl ?_
      obtain ⟨o11, e12, h13⟩ := zbd h7; clear h7
      refine zn_cVv (pc := 72) (kc := 0) (ks := 0) (kc' := 0) (ks' := 0) (As := [vI x3]) (st := []) dX9_bank_72 cs_X9_114 pc_2 rfl rfl (Nat.le_of_ble_eq_true rfl) ((c_X1_changeFee e12).mono (Nat.le_of_ble_eq_true rfl)) ?_
      refine zn_goto (pc := 75) (tgt := 84) dX9_bank_75 (by decide) ?_
      have hz := Option.some.inj h13; clear h13; subst hz
      exact zn_ireturn (pc := 84) dX9_bank_84 rfl hp
  · replace h5 := zif_f c4 h5
    refine zn_aload_n (pc := 58) 1 dX9_bank_58 rfl rfl ?_
    refine zn_iload (pc := 59) 0 dX9_bank_59 rfl ?_
    obtain ⟨o14, e15, h16⟩ := zbd h5; clear h5
    refine zn_cVv (pc := 61) (kc := 0) (ks := 0) (kc' := 0) (ks' := 0) (As := [vI o1]) (st := []) dX9_bank_61 cs_X9_78 pc_0 rfl rfl (Nat.le_of_ble_eq_true rfl) ((c_X9_refuse e15).mono (Nat.le_of_ble_eq_true rfl)) ?_
    have hz := Option.some.inj h16; clear h16; subst hz
    exact zn_ireturn (pc := 64) dX9_bank_64 rfl hp
theorem c_X9_bank {G : zG} {i0 : Nat} {x1 : Int32} {x2 : Int32} {x3 : Int32} {S : zH} {out : (Int32 × zH)} (h0 : f_X9_bank i0 x1 x2 x3 S = some out) : zct G M_X9_bank 1 0 0 [vR 0 (some i0), vI x1, vI x2, vI x3] S (zpo (some (vI out.1)) out.2) := by
  refine zct_of (by decide) (Nat.le_of_ble_eq_true rfl) ?_
  show zn G M_X9_bank 1 0 0 0 [(0, vR 0 (some i0)), (1, vI x1), (2, vI x2), (3, vI x3)] [] S _
  have hp : zpo (some (vI out.1)) out.2 (some (vI out.1)) out.2 := ⟨rfl, rfl⟩
  unfold f_X9_bank at h0
  refine zn_aload_n (pc := 0) 0 dX9_bank_0 rfl rfl ?_
  refine zn_iload_n (pc := 1) 1 dX9_bank_1 rfl rfl ?_
  obtain ⟨o17, e18, h19⟩ := zbd h0; clear h0
  refine zn_cVv (pc := 2) (kc := 0) (ks := 0) (kc' := 0) (ks' := 0) (As := [vI x1]) (st := []) dX9_bank_2 cs_X9_110 pc_0 rfl rfl (Nat.le_of_ble_eq_true rfl) ((c_X9_bankAt e18).mono (Nat.le_of_ble_eq_true rfl)) ?_
  refine zn_astore (pc := 5) (ls' := [(4, vR 2 o17), (0, vR 0 (some i0)), (1, vI x1), (2, vI x2), (3, vI x3)]) dX9_bank_5 (Nat.le_of_ble_eq_true rfl) rfl ?_
  refine zn_aload (pc := 7) 0 dX9_bank_7 rfl ?_
  have h22 := h19; clear h19
  refine zn_ifnonnull (pc := 9) (tgt := 18) dX9_bank_9 (by decide) (fun i21 hr20 => ?_) (fun hr20 => ?_)
  · replace h22 := zop_s hr20 h22
    rw [hr20]
    refine zn_iload_n (pc := 18) 3 dX9_bank_18 rfl rfl ?_
    have h27 := h22; clear h22
    refine zn_if_lt (pc := 19) (tgt := 27) dX9_bank_19 (by decide) (fun c26 => ?_) (fun c26 => ?_)
    · replace h27 := zif_t c26 h27
      refine zn_pick [1] rfl ?_
      exact b_X9_bank_27  h27 hp
    · replace h27 := zif_f c26 h27
      refine zn_iload_n (pc := 22) 3 dX9_bank_22 rfl rfl ?_
      refine zn_iconst (pc := 23) (x := 1) dX9_bank_23 (by decide) ?_
      have h29 := h27; clear h27
      refine zn_icmp_le (pc := 24) (tgt := 34) dX9_bank_24 (by decide) (fun c28 => ?_) (fun c28 => ?_)
      · replace h29 := zif_t c28 h29
        refine zn_iload_n (pc := 34) 4 dX9_bank_34 rfl rfl ?_
        refine zn_iconst (pc := 35) (x := 0) dX9_bank_35 (by decide) ?_
        refine zn_iload_n (pc := 36) 3 dX9_bank_36 rfl rfl ?_
        have h31 := h29; clear h29
        refine zn_if_ne (pc := 37) (tgt := 46) dX9_bank_37 (by decide) (fun c30 => ?_) (fun c30 => ?_)
        · replace h31 := zif_f c30 h31
          refine zn_bipush (pc := 46) (x := 99) dX9_bank_46 (by decide) ?_
          refine zn_pick [1, 3, 4, 0] rfl ?_
          exact b_X9_bank_48  h31 hp
        · replace h31 := zif_t c30 h31
          refine zn_sipush (pc := 40) (x := 999) dX9_bank_40 (by decide) ?_
          refine zn_goto (pc := 43) (tgt := 48) dX9_bank_43 (by decide) ?_
          refine zn_pick [1, 3, 4, 0] rfl ?_
          exact b_X9_bank_48  h31 hp
      · replace h29 := zif_f c28 h29
        refine zn_pick [1] rfl ?_
        exact b_X9_bank_27  h29 hp
  · replace h22 := zop_n hr20 h22
    rw [hr20]
    refine zn_aload_n (pc := 12) 1 dX9_bank_12 rfl rfl ?_
    refine zn_iconst (pc := 13) (x := (-1)) dX9_bank_13 (by decide) ?_
    obtain ⟨o23, e24, h25⟩ := zbd h22; clear h22
    refine zn_cVv (pc := 14) (kc := 0) (ks := 0) (kc' := 0) (ks' := 0) (As := [vI (-1)]) (st := []) dX9_bank_14 cs_X9_78 pc_0 rfl rfl (Nat.le_of_ble_eq_true rfl) ((c_X9_refuse e24).mono (Nat.le_of_ble_eq_true rfl)) ?_
    have hz := Option.some.inj h25; clear h25; subst hz
    exact zn_ireturn (pc := 17) dX9_bank_17 rfl hp
theorem c_X2_addLate {G : zG} {i0 : Nat} {x1 : Int32} {x2 : Int32} {S : zH} {out : (Int32 × zH)} (h0 : f_X2_addLate i0 x1 x2 S = some out) : zct G M_X2_addLate 0 0 0 [vR 1 (some i0), vI x1, vI x2] S (zpo (some (vI out.1)) out.2) := by
  refine zct_of (by decide) (Nat.le_of_ble_eq_true rfl) ?_
  show zn G M_X2_addLate 0 0 0 0 [(0, vR 1 (some i0)), (1, vI x1), (2, vI x2)] [] S _
  have hp : zpo (some (vI out.1)) out.2 (some (vI out.1)) out.2 := ⟨rfl, rfl⟩
  unfold f_X2_addLate at h0
  refine zn_iload_n (pc := 0) 2 dX2_addLate_0 rfl rfl ?_
  have h2 := h0; clear h0
  refine zn_if_lt (pc := 1) (tgt := 35) dX2_addLate_1 (by decide) (fun c1 => ?_) (fun c1 => ?_)
  · replace h2 := zif_t c1 h2
    refine zn_aload_n (pc := 35) 0 dX2_addLate_35 rfl rfl ?_
    refine zn_getI (pc := 36) fa_X2_27_1.1 fa_X2_27_1.2 dX2_addLate_36 ?_
    have hz := Option.some.inj h2; clear h2; subst hz
    exact zn_ireturn (pc := 39) dX2_addLate_39 rfl hp
  · replace h2 := zif_f c1 h2
    refine zn_iload_n (pc := 4) 2 dX2_addLate_4 rfl rfl ?_
    refine zn_aload_n (pc := 5) 0 dX2_addLate_5 rfl rfl ?_
    refine zn_getR (pc := 6) fa_X2_15_1.1 fa_X2_15_1.2 dX2_addLate_6 ?_
    obtain ⟨i3, hi4, h5⟩ := zbd h2; clear h2
    rw [hi4]
    refine zn_alen (pc := 9) zk_22 rfl dX2_addLate_9 ?_
    have h7 := h5; clear h5
    refine zn_icmp_ge (pc := 10) (tgt := 35) dX2_addLate_10 (by decide) (fun c6 => ?_) (fun c6 => ?_)
    · replace h7 := zif_t c6 h7
      refine zn_aload_n (pc := 35) 0 dX2_addLate_35 rfl rfl ?_
      refine zn_getI (pc := 36) fa_X2_27_1.1 fa_X2_27_1.2 dX2_addLate_36 ?_
      have hz := Option.some.inj h7; clear h7; subst hz
      exact zn_ireturn (pc := 39) dX2_addLate_39 rfl hp
    · replace h7 := zif_f c6 h7
      refine zn_aload_n (pc := 13) 0 dX2_addLate_13 rfl rfl ?_
      refine zn_getR (pc := 14) fa_X2_15_1.1 fa_X2_15_1.2 dX2_addLate_14 ?_
      refine zn_iload_n (pc := 17) 2 dX2_addLate_17 rfl rfl ?_
      refine zn_dup2 (pc := 18) dX2_addLate_18 rfl rfl ?_
      obtain ⟨i8, hi9, h10⟩ := zbd h7; clear h7
      rw [hi9]
      obtain ⟨hb11, h12⟩ := zgdd h10; clear h10
      refine zn_iaload (pc := 19) zk_22 dX2_addLate_19 (zib_in hb11) ?_
      refine zn_iconst (pc := 20) (x := 1) dX2_addLate_20 (by decide) ?_
      refine zn_iload_n (pc := 21) 1 dX2_addLate_21 rfl rfl ?_
      refine zn_ishl (pc := 22) dX2_addLate_22 ?_
      refine zn_ior (pc := 23) dX2_addLate_23 ?_
      obtain ⟨hb13, h14⟩ := zgdd h12; clear h12
      obtain ⟨S15, hS16, h17⟩ := zltd h14; clear h14
      refine zn_iastore (pc := 24) zk_22 dX2_addLate_24 (zib_in hb13) hS16 ?_
      refine zn_aload_n (pc := 25) 0 dX2_addLate_25 rfl rfl ?_
      refine zn_dup (pc := 26) dX2_addLate_26 rfl ?_
      refine zn_getI (pc := 27) fa_X2_27_1.1 fa_X2_27_1.2 dX2_addLate_27 ?_
      refine zn_iconst (pc := 30) (x := 1) dX2_addLate_30 (by decide) ?_
      refine zn_iadd (pc := 31) dX2_addLate_31 ?_
      obtain ⟨S18, hS19, h20⟩ := zltd h17; clear h17
      refine zn_putI (pc := 32) fp_X2_27_1.1 (fp_X2_27_1 (nm := "")).2 dX2_addLate_32 hS19 ?_
      refine zn_aload_n (pc := 35) 0 dX2_addLate_35 rfl rfl ?_
      refine zn_getI (pc := 36) fa_X2_27_1.1 fa_X2_27_1.2 dX2_addLate_36 ?_
      have hz := Option.some.inj h20; clear h20; subst hz
      exact zn_ireturn (pc := 39) dX2_addLate_39 rfl hp
theorem b_X9_late_70 {G : zG} {Post : Option zV → zH → Prop} {i0 : Nat} {S : zH} {out : (Int32 × zH)} (h0 : f_X9_late_70 i0 S = some out) (hp : Post (some (vI out.1)) out.2) : zn G M_X9_late 1 0 0 70 [(0, vR 0 (some i0))] [] S Post := by
  unfold f_X9_late_70 at h0
  refine zn_aload_n (pc := 70) 0 dX9_late_70 rfl rfl ?_
  refine zn_bipush (pc := 71) (x := (-6)) dX9_late_71 (by decide) ?_
  obtain ⟨o1, e2, h3⟩ := zbd h0; clear h0
  refine zn_cVv (pc := 73) (kc := 0) (ks := 0) (kc' := 0) (ks' := 0) (As := [vI (-6)]) (st := []) dX9_late_73 cs_X9_78 pc_0 rfl rfl (Nat.le_of_ble_eq_true rfl) ((c_X9_refuse e2).mono (Nat.le_of_ble_eq_true rfl)) ?_
  have hz := Option.some.inj h3; clear h3; subst hz
  exact zn_ireturn (pc := 76) dX9_late_76 rfl hp
theorem c_X9_late {G : zG} {i0 : Nat} {x1 : Int32} {x2 : Int32} {S : zH} {out : (Int32 × zH)} (h0 : f_X9_late i0 x1 x2 S = some out) : zct G M_X9_late 1 0 0 [vR 0 (some i0), vI x1, vI x2] S (zpo (some (vI out.1)) out.2) := by
  refine zct_of (by decide) (Nat.le_of_ble_eq_true rfl) ?_
  show zn G M_X9_late 1 0 0 0 [(0, vR 0 (some i0)), (1, vI x1), (2, vI x2)] [] S _
  have hp : zpo (some (vI out.1)) out.2 (some (vI out.1)) out.2 := ⟨rfl, rfl⟩
  unfold f_X9_late at h0
  refine zn_aload_n (pc := 0) 0 dX9_late_0 rfl rfl ?_
  refine zn_iload_n (pc := 1) 1 dX9_late_1 rfl rfl ?_
  obtain ⟨o4, e5, h6⟩ := zbd h0; clear h0
  refine zn_cVv (pc := 2) (kc := 0) (ks := 0) (kc' := 0) (ks' := 0) (As := [vI x1]) (st := []) dX9_late_2 cs_X9_110 pc_0 rfl rfl (Nat.le_of_ble_eq_true rfl) ((c_X9_bankAt e5).mono (Nat.le_of_ble_eq_true rfl)) ?_
  have h9 := h6; clear h6
  refine zn_ifnonnull (pc := 5) (tgt := 14) dX9_late_5 (by decide) (fun i8 hr7 => ?_) (fun hr7 => ?_)
  · replace h9 := zop_s hr7 h9
    refine zn_aload_n (pc := 14) 0 dX9_late_14 rfl rfl ?_
    refine zn_getR (pc := 15) fa_X9_10_0.1 fa_X9_10_0.2 dX9_late_15 ?_
    refine zn_iload_n (pc := 18) 1 dX9_late_18 rfl rfl ?_
    refine zn_iload_n (pc := 19) 2 dX9_late_19 rfl rfl ?_
    obtain ⟨i13, hi14, h15⟩ := zbd h9; clear h9
    rw [hi14]
    obtain ⟨o16, e17, h18⟩ := zbd h15; clear h15
    refine zn_cVv (pc := 20) (kc := 0) (ks := 0) (kc' := 0) (ks' := 0) (As := [vI x1, vI x2]) (st := []) dX9_late_20 cs_X9_120 pc_1 rfl rfl (Nat.le_of_ble_eq_true rfl) ((c_X2_isLate e17).mono (Nat.le_of_ble_eq_true rfl)) ?_
    have h20 := h18; clear h18
    refine zn_if_eq (pc := 23) (tgt := 33) dX9_late_23 (by decide) (fun c19 => ?_) (fun c19 => ?_)
    · replace h20 := zif_t c19 h20
      refine zn_iload_n (pc := 33) 2 dX9_late_33 rfl rfl ?_
      refine zn_aload_n (pc := 34) 0 dX9_late_34 rfl rfl ?_
      refine zn_getR (pc := 35) fa_X9_10_0.1 fa_X9_10_0.2 dX9_late_35 ?_
      obtain ⟨i21, hi22, h23⟩ := zbd h20; clear h20
      rw [hi22]
      refine zn_getI (pc := 38) fa_X9_71_1.1 fa_X9_71_1.2 dX9_late_38 ?_
      have h25 := h23; clear h23
      refine zn_icmp_ge (pc := 41) (tgt := 51) dX9_late_41 (by decide) (fun c24 => ?_) (fun c24 => ?_)
      · replace h25 := zif_t c24 h25
        refine zn_iload_n (pc := 51) 2 dX9_late_51 rfl rfl ?_
        refine zn_sipush (pc := 52) (x := 1500) dX9_late_52 (by decide) ?_
        have h27 := h25; clear h25
        refine zn_icmp_gt (pc := 55) (tgt := 70) dX9_late_55 (by decide) (fun c26 => ?_) (fun c26 => ?_)
        · replace h27 := zif_t c26 h27
          refine zn_pick [0] rfl ?_
          exact b_X9_late_70  h27 hp
        · replace h27 := zif_f c26 h27
          refine zn_aload_n (pc := 58) 0 dX9_late_58 rfl rfl ?_
          refine zn_getR (pc := 59) fa_X9_10_0.1 fa_X9_10_0.2 dX9_late_59 ?_
          obtain ⟨i28, hi29, h30⟩ := zbd h27; clear h27
          rw [hi29]
          refine zn_getI (pc := 62) fa_X9_124_1.1 fa_X9_124_1.2 dX9_late_62 ?_
          refine zn_bipush (pc := 65) (x := 60) dX9_late_65 (by decide) ?_
          have h32 := h30; clear h30
          refine zn_icmp_lt (pc := 67) (tgt := 77) dX9_late_67 (by decide) (fun c31 => ?_) (fun c31 => ?_)
          · replace h32 := zif_t c31 h32
            refine zn_aload_n (pc := 77) 0 dX9_late_77 rfl rfl ?_
            refine zn_getR (pc := 78) fa_X9_10_0.1 fa_X9_10_0.2 dX9_late_78 ?_
            refine zn_iload_n (pc := 81) 1 dX9_late_81 rfl rfl ?_
            refine zn_iload_n (pc := 82) 2 dX9_late_82 rfl rfl ?_
            obtain ⟨i33, hi34, h35⟩ := zbd h32; clear h32
            rw [hi34]
            obtain ⟨o36, e37, h38⟩ := zbd h35; clear h35
            refine zn_cVv (pc := 83) (kc := 0) (ks := 0) (kc' := 0) (ks' := 0) (As := [vI x1, vI x2]) (st := []) dX9_late_83 cs_X9_127 pc_1 rfl rfl (Nat.le_of_ble_eq_true rfl) ((c_X2_addLate e37).mono (Nat.le_of_ble_eq_true rfl)) ?_
            have hz := Option.some.inj h38; clear h38; subst hz
            exact zn_ireturn (pc := 86) dX9_late_86 rfl hp
          · replace h32 := zif_f c31 h32
            refine zn_pick [0] rfl ?_
            exact b_X9_late_70  h32 hp
      · replace h25 := zif_f c24 h25
        refine zn_aload_n (pc := 44) 0 dX9_late_44 rfl rfl ?_
        refine zn_bipush (pc := 45) (x := (-4)) dX9_late_45 (by decide) ?_
        obtain ⟨o39, e40, h41⟩ := zbd h25; clear h25
        refine zn_cVv (pc := 47) (kc := 0) (ks := 0) (kc' := 0) (ks' := 0) (As := [vI (-4)]) (st := []) dX9_late_47 cs_X9_78 pc_0 rfl rfl (Nat.le_of_ble_eq_true rfl) ((c_X9_refuse e40).mono (Nat.le_of_ble_eq_true rfl)) ?_
        have hz := Option.some.inj h41; clear h41; subst hz
        exact zn_ireturn (pc := 50) dX9_late_50 rfl hp
    · replace h20 := zif_f c19 h20
      refine zn_aload_n (pc := 26) 0 dX9_late_26 rfl rfl ?_
      refine zn_bipush (pc := 27) (x := (-3)) dX9_late_27 (by decide) ?_
      obtain ⟨o42, e43, h44⟩ := zbd h20; clear h20
      refine zn_cVv (pc := 29) (kc := 0) (ks := 0) (kc' := 0) (ks' := 0) (As := [vI (-3)]) (st := []) dX9_late_29 cs_X9_78 pc_0 rfl rfl (Nat.le_of_ble_eq_true rfl) ((c_X9_refuse e43).mono (Nat.le_of_ble_eq_true rfl)) ?_
      have hz := Option.some.inj h44; clear h44; subst hz
      exact zn_ireturn (pc := 32) dX9_late_32 rfl hp
  · replace h9 := zop_n hr7 h9
    refine zn_aload_n (pc := 8) 0 dX9_late_8 rfl rfl ?_
    refine zn_iconst (pc := 9) (x := (-1)) dX9_late_9 (by decide) ?_
    obtain ⟨o10, e11, h12⟩ := zbd h9; clear h9
    refine zn_cVv (pc := 10) (kc := 0) (ks := 0) (kc' := 0) (ks' := 0) (As := [vI (-1)]) (st := []) dX9_late_10 cs_X9_78 pc_0 rfl rfl (Nat.le_of_ble_eq_true rfl) ((c_X9_refuse e11).mono (Nat.le_of_ble_eq_true rfl)) ?_
    have hz := Option.some.inj h12; clear h12; subst hz
    exact zn_ireturn (pc := 13) dX9_late_13 rfl hp
theorem c_X9_owes {G : zG} {i0 : Nat} {x1 : Int32} {S : zH} {out : (Int32 × zH)} (h0 : f_X9_owes i0 x1 S = some out) : zct G M_X9_owes 1 0 0 [vR 0 (some i0), vI x1] S (zpo (some (vI out.1)) out.2) := by
  refine zct_of (by decide) (Nat.le_of_ble_eq_true rfl) ?_
  show zn G M_X9_owes 1 0 0 0 [(0, vR 0 (some i0)), (1, vI x1)] [] S _
  have hp : zpo (some (vI out.1)) out.2 (some (vI out.1)) out.2 := ⟨rfl, rfl⟩
  unfold f_X9_owes at h0
  refine zn_aload_n (pc := 0) 0 dX9_owes_0 rfl rfl ?_
  refine zn_iload_n (pc := 1) 1 dX9_owes_1 rfl rfl ?_
  obtain ⟨o1, e2, h3⟩ := zbd h0; clear h0
  refine zn_cVv (pc := 2) (kc := 0) (ks := 0) (kc' := 0) (ks' := 0) (As := [vI x1]) (st := []) dX9_owes_2 cs_X9_110 pc_0 rfl rfl (Nat.le_of_ble_eq_true rfl) ((c_X9_bankAt e2).mono (Nat.le_of_ble_eq_true rfl)) ?_
  refine zn_astore_n (pc := 5) (ls' := [(2, vR 2 o1), (0, vR 0 (some i0)), (1, vI x1)]) dX9_owes_5 rfl (Nat.le_of_ble_eq_true rfl) rfl ?_
  refine zn_aload_n (pc := 6) 0 dX9_owes_6 rfl rfl ?_
  have h6 := h3; clear h3
  refine zn_ifnonnull (pc := 7) (tgt := 18) dX9_owes_7 (by decide) (fun i5 hr4 => ?_) (fun hr4 => ?_)
  · replace h6 := zop_s hr4 h6
    rw [hr4]
    refine zn_aload_n (pc := 18) 0 dX9_owes_18 rfl rfl ?_
    refine zn_getI (pc := 19) fa_X9_131_2.1 fa_X9_131_2.2 dX9_owes_19 ?_
    have hz := Option.some.inj h6; clear h6; subst hz
    exact zn_ireturn (pc := 22) dX9_owes_22 rfl hp
  · replace h6 := zop_n hr4 h6
    rw [hr4]
    refine zn_aload_n (pc := 10) 1 dX9_owes_10 rfl rfl ?_
    refine zn_iconst (pc := 11) (x := (-1)) dX9_owes_11 (by decide) ?_
    obtain ⟨o7, e8, h9⟩ := zbd h6; clear h6
    refine zn_cVv (pc := 12) (kc := 0) (ks := 0) (kc' := 0) (ks' := 0) (As := [vI (-1)]) (st := []) dX9_owes_12 cs_X9_78 pc_0 rfl rfl (Nat.le_of_ble_eq_true rfl) ((c_X9_refuse e8).mono (Nat.le_of_ble_eq_true rfl)) ?_
    refine zn_goto (pc := 15) (tgt := 22) dX9_owes_15 (by decide) ?_
    have hz := Option.some.inj h9; clear h9; subst hz
    exact zn_ireturn (pc := 22) dX9_owes_22 rfl hp
theorem c_X9_refuseLong {G : zG} {i0 : Nat} {x1 : Int32} {S : zH} {out : (Int64 × zH)} (h0 : f_X9_refuseLong i0 x1 S = some out) : zct G M_X9_refuseLong 1 0 0 [vR 0 (some i0), vI x1] S (zpo (some (vJ out.1)) out.2) := by
  refine zct_of (by decide) (Nat.le_of_ble_eq_true rfl) ?_
  show zn G M_X9_refuseLong 1 0 0 0 [(0, vR 0 (some i0)), (1, vI x1)] [] S _
  have hp : zpo (some (vJ out.1)) out.2 (some (vJ out.1)) out.2 := ⟨rfl, rfl⟩
  unfold f_X9_refuseLong at h0
  refine zn_ldc2 (pc := 0) dX9_refuseLong_0 w2_X9_357 ?_
  refine zn_aload_n (pc := 3) 0 dX9_refuseLong_3 rfl rfl ?_
  refine zn_iload_n (pc := 4) 1 dX9_refuseLong_4 rfl rfl ?_
  obtain ⟨o1, e2, h3⟩ := zbd h0; clear h0
  refine zn_cVv (pc := 5) (kc := 0) (ks := 0) (kc' := 0) (ks' := 0) (As := [vI x1]) (st := [vJ 4000000000000000000]) dX9_refuseLong_5 cs_X9_78 pc_0 rfl rfl (Nat.le_of_ble_eq_true rfl) ((c_X9_refuse e2).mono (Nat.le_of_ble_eq_true rfl)) ?_
  refine zn_i2l (pc := 8) dX9_refuseLong_8 ?_
  refine zn_lsub (pc := 9) dX9_refuseLong_9 ?_
  have hz := Option.some.inj h3; clear h3; subst hz
  exact zn_lreturn (pc := 10) dX9_refuseLong_10 rfl hp
theorem c_X9_net {G : zG} {i0 : Nat} {x1 : Int32} {S : zH} {out : (Int64 × zH)} (h0 : f_X9_net i0 x1 S = some out) : zct G M_X9_net 2 0 0 [vR 0 (some i0), vI x1] S (zpo (some (vJ out.1)) out.2) := by
  refine zct_of (by decide) (Nat.le_of_ble_eq_true rfl) ?_
  show zn G M_X9_net 2 0 0 0 [(0, vR 0 (some i0)), (1, vI x1)] [] S _
  have hp : zpo (some (vJ out.1)) out.2 (some (vJ out.1)) out.2 := ⟨rfl, rfl⟩
  unfold f_X9_net at h0
  refine zn_aload_n (pc := 0) 0 dX9_net_0 rfl rfl ?_
  refine zn_iload_n (pc := 1) 1 dX9_net_1 rfl rfl ?_
  obtain ⟨o1, e2, h3⟩ := zbd h0; clear h0
  refine zn_cVv (pc := 2) (kc := 0) (ks := 0) (kc' := 0) (ks' := 0) (As := [vI x1]) (st := []) dX9_net_2 cs_X9_110 pc_0 rfl rfl (Nat.le_of_ble_eq_true rfl) ((c_X9_bankAt e2).mono (Nat.le_of_ble_eq_true rfl)) ?_
  refine zn_astore_n (pc := 5) (ls' := [(2, vR 2 o1), (0, vR 0 (some i0)), (1, vI x1)]) dX9_net_5 rfl (Nat.le_of_ble_eq_true rfl) rfl ?_
  refine zn_aload_n (pc := 6) 0 dX9_net_6 rfl rfl ?_
  have h6 := h3; clear h3
  refine zn_ifnonnull (pc := 7) (tgt := 18) dX9_net_7 (by decide) (fun i5 hr4 => ?_) (fun hr4 => ?_)
  · replace h6 := zop_s hr4 h6
    rw [hr4]
    refine zn_aload_n (pc := 18) 0 dX9_net_18 rfl rfl ?_
    refine zn_getJ (pc := 19) fa_X9_138_2.1 fa_X9_138_2.2 dX9_net_19 ?_
    have hz := Option.some.inj h6; clear h6; subst hz
    exact zn_lreturn (pc := 22) dX9_net_22 rfl hp
  · replace h6 := zop_n hr4 h6
    rw [hr4]
    refine zn_aload_n (pc := 10) 1 dX9_net_10 rfl rfl ?_
    refine zn_iconst (pc := 11) (x := (-1)) dX9_net_11 (by decide) ?_
    obtain ⟨o7, e8, h9⟩ := zbd h6; clear h6
    refine zn_cVv (pc := 12) (kc := 0) (ks := 0) (kc' := 0) (ks' := 0) (As := [vI (-1)]) (st := []) dX9_net_12 cs_X9_134 pc_0 rfl rfl (Nat.le_of_ble_eq_true rfl) ((c_X9_refuseLong e8).mono (Nat.le_of_ble_eq_true rfl)) ?_
    refine zn_goto (pc := 15) (tgt := 22) dX9_net_15 (by decide) ?_
    have hz := Option.some.inj h9; clear h9; subst hz
    exact zn_lreturn (pc := 22) dX9_net_22 rfl hp
theorem c_X0_init {G : zG} {i0 : Nat} {x1 : Int32} {r2 : Option Nat} {x3 : Int32} {x4 : Int32} {x5 : Int32} {S : zH} {out : zH} (h0 : f_X0_init i0 x1 r2 x3 x4 x5 S = some out) : zct G M_X0_init 1 1 1500 [vR 3 (some i0), vI x1, vR 2 r2, vI x3, vI x4, vI x5] S (zpo none out) := by
  refine zct_of (by decide) (Nat.le_of_ble_eq_true rfl) ?_
  show zn G M_X0_init 1 1 1500 0 [(0, vR 3 (some i0)), (1, vI x1), (2, vR 2 r2), (3, vI x3), (4, vI x4), (5, vI x5)] [] S _
  have hp : zpo none out none out := ⟨rfl, rfl⟩
  unfold f_X0_init at h0
  refine zn_aload_n (pc := 0) 0 dX0_init_0 rfl rfl ?_
  refine zn_objInit (pc := 1) dX0_init_1 ol_X0_3 ws_obj.1 ws_obj.2 (Nat.le_of_ble_eq_true rfl) ?_
  refine zn_aload_n (pc := 4) 0 dX0_init_4 rfl rfl ?_
  refine zn_iload_n (pc := 5) 1 dX0_init_5 rfl rfl ?_
  obtain ⟨S1, hS2, h3⟩ := zltd h0; clear h0
  refine zn_putI (pc := 6) fp_X0_9_3.1 fp_X0_9_3.2 dX0_init_6 hS2 ?_
  refine zn_aload_n (pc := 9) 0 dX0_init_9 rfl rfl ?_
  refine zn_aload_n (pc := 10) 2 dX0_init_10 rfl rfl ?_
  obtain ⟨S4, hS5, h6⟩ := zltd h3; clear h3
  refine zn_putR (pc := 11) fp_X0_15_3.1 fp_X0_15_3.2.2 fp_X0_15_3.2.1 dX0_init_11 hS5 ?_
  refine zn_aload_n (pc := 14) 0 dX0_init_14 rfl rfl ?_
  refine zn_iload_n (pc := 15) 3 dX0_init_15 rfl rfl ?_
  obtain ⟨S7, hS8, h9⟩ := zltd h6; clear h6
  refine zn_putI (pc := 16) fp_X0_19_3.1 fp_X0_19_3.2 dX0_init_16 hS8 ?_
  refine zn_aload_n (pc := 19) 0 dX0_init_19 rfl rfl ?_
  refine zn_iload (pc := 20) 4 dX0_init_20 rfl ?_
  obtain ⟨S10, hS11, h12⟩ := zltd h9; clear h9
  refine zn_putI (pc := 22) fp_X0_22_3.1 fp_X0_22_3.2 dX0_init_22 hS11 ?_
  refine zn_aload_n (pc := 25) 0 dX0_init_25 rfl rfl ?_
  refine zn_iload (pc := 26) 5 dX0_init_26 rfl ?_
  obtain ⟨S13, hS14, h15⟩ := zltd h12; clear h12
  refine zn_putI (pc := 28) fp_X0_25_3.1 fp_X0_25_3.2 dX0_init_28 hS14 ?_
  refine zn_aload_n (pc := 31) 0 dX0_init_31 rfl rfl ?_
  refine zn_iload (pc := 32) 5 dX0_init_32 rfl ?_
  refine zn_sipush (pc := 34) (x := 1500) dX0_init_34 (by decide) ?_
  have h17 := h15; clear h15
  refine zn_icmp_ge (pc := 37) (tgt := 49) dX0_init_37 (by decide) (fun c16 => ?_) (fun c16 => ?_)
  · replace h17 := zif_t c16 h17
    refine zn_iconst (pc := 49) (x := 0) dX0_init_49 (by decide) ?_
    obtain ⟨S18, hS19, h20⟩ := zltd h17; clear h17
    refine zn_newJ (pc := 50) (M := M_X0_init) (kc := 0) (ks := 0) zk_23 w_arrJ dX0_init_50 (by decide) (by decide) (Nat.le_of_ble_eq_true rfl) hS19 (ks0 := 1500) (Nat.le_of_ble_eq_true rfl) ?_
    obtain ⟨S21, hS22, h23⟩ := zltd h20; clear h20
    refine zn_putR (pc := 52) fp_X0_28_3.1 fp_X0_28_3.2.2 fp_X0_28_3.2.1 dX0_init_52 hS22 ?_
    have hz := Option.some.inj h23; clear h23; subst hz
    exact zn_return (pc := 55) dX0_init_55 rfl hp
  · replace h17 := zif_f c16 h17
    refine zn_sipush (pc := 40) (x := 1500) dX0_init_40 (by decide) ?_
    refine zn_iload (pc := 43) 5 dX0_init_43 rfl ?_
    refine zn_isub (pc := 45) dX0_init_45 ?_
    refine zn_goto (pc := 46) (tgt := 50) dX0_init_46 (by decide) ?_
    obtain ⟨hb27, h28⟩ := zgdd h17; clear h17
    obtain ⟨S24, hS25, h26⟩ := zltd h28; clear h28
    refine zn_newJ (pc := 50) (M := M_X0_init) (kc := 0) (ks := 0) zk_23 w_arrJ dX0_init_50 (zib_0 hb27) rfl (Nat.le_trans (zib_le hb27) (Nat.le_of_ble_eq_true rfl)) hS25 (ks0 := 1500) (zib_le hb27) ?_
    obtain ⟨S29, hS30, h31⟩ := zltd h26; clear h26
    refine zn_putR (pc := 52) fp_X0_28_3.1 fp_X0_28_3.2.2 fp_X0_28_3.2.1 dX0_init_52 hS30 ?_
    have hz := Option.some.inj h31; clear h31; subst hz
    exact zn_return (pc := 55) dX0_init_55 rfl hp
theorem c_X9_openAccount {G : zG} {i0 : Nat} {r1 : Option Nat} {x2 : Int32} {x3 : Int32} {S : zH} {out : ((Option Nat) × zH)} (h0 : f_X9_openAccount i0 r1 x2 x3 S = some out) : zct G M_X9_openAccount 10 3 1593 [vR 0 (some i0), vR 2 r1, vI x2, vI x3] S (zpo (some (vR 3 out.1)) out.2) := by
  refine zct_of (by decide) (Nat.le_of_ble_eq_true rfl) ?_
  show zn G M_X9_openAccount 10 3 1593 0 [(0, vR 0 (some i0)), (1, vR 2 r1), (2, vI x2), (3, vI x3)] [] S _
  have hp : zpo (some (vR 3 out.1)) out.2 (some (vR 3 out.1)) out.2 := ⟨rfl, rfl⟩
  unfold f_X9_openAccount at h0
  obtain ⟨S1, hS2, h3⟩ := zltd h0; clear h0
  refine zn_new (pc := 0) (M := M_X9_openAccount) (kc := 2) (ks := 1580) (N := 13) nw_X9_151_3 dX9_openAccount_0 hS2 ?_
  refine zn_dup (pc := 3) dX9_openAccount_3 rfl ?_
  refine zn_aload_n (pc := 4) 0 dX9_openAccount_4 rfl rfl ?_
  refine zn_getR (pc := 5) fa_X9_28_0.1 fa_X9_28_0.2 dX9_openAccount_5 ?_
  obtain ⟨i4, hi5, h6⟩ := zbd h3; clear h3
  rw [hi5]
  obtain ⟨o7, e8, h9⟩ := zbd h6; clear h6
  refine zn_cVv (pc := 8) (kc := 2) (ks := 1580) (kc' := 0) (ks' := 0) (As := []) (st := [vR 3 (some (zN S 3)), vR 3 (some (zN S 3))]) dX9_openAccount_8 cls_X9_142 pc_10 rfl rfl (Nat.le_of_ble_eq_true rfl) (zc_size (p := 10) (by decide) (Nat.le_of_ble_eq_true rfl) e8) ?_
  refine zn_aload_n (pc := 11) 1 dX9_openAccount_11 rfl rfl ?_
  refine zn_iload_n (pc := 12) 2 dX9_openAccount_12 rfl rfl ?_
  refine zn_iload_n (pc := 13) 3 dX9_openAccount_13 rfl rfl ?_
  refine zn_aload_n (pc := 14) 0 dX9_openAccount_14 rfl rfl ?_
  refine zn_getR (pc := 15) fa_X9_10_0.1 fa_X9_10_0.2 dX9_openAccount_15 ?_
  obtain ⟨i10, hi11, h12⟩ := zbd h9; clear h9
  rw [hi11]
  refine zn_getI (pc := 18) fa_X9_71_1.1 fa_X9_71_1.2 dX9_openAccount_18 ?_
  obtain ⟨o13, e14, h15⟩ := zbd h12; clear h12
  refine zn_cI0 (pc := 21) (kc := 1) (ks := 80) (kc' := 1) (ks' := 1500) (As := [vI o7, vR 2 r1, vI x2, vI x3, vI (zI S1 1 i10 4)]) (st := [vR 3 (some (zN S 3))]) dX9_openAccount_21 cs_X9_359 rfl rfl (Nat.le_of_ble_eq_true rfl) ((c_X0_init e14).mono (Nat.le_of_ble_eq_true rfl)) ?_
  refine zn_astore (pc := 24) (ls' := [(4, vR 3 (some (zN S 3))), (0, vR 0 (some i0)), (1, vR 2 r1), (2, vI x2), (3, vI x3)]) dX9_openAccount_24 (Nat.le_of_ble_eq_true rfl) rfl ?_
  refine zn_aload_n (pc := 26) 1 dX9_openAccount_26 rfl rfl ?_
  refine zn_getR (pc := 27) fa_X9_28_0.1 fa_X9_28_0.2 dX9_openAccount_27 ?_
  refine zn_aload (pc := 30) 0 dX9_openAccount_30 rfl ?_
  obtain ⟨i16, hi17, h18⟩ := zbd h15; clear h15
  rw [hi17]
  obtain ⟨o19, e20, h21⟩ := zbd h18; clear h18
  refine zn_cVv (pc := 32) (kc := 0) (ks := 0) (kc' := 1) (ks' := 80) (As := [vR 3 (some (zN S 3))]) (st := []) dX9_openAccount_32 cla_X9_229 pc_10 rfl rfl (Nat.le_of_ble_eq_true rfl) (zc_add (p := 10) (by decide) rfl (Nat.le_of_ble_eq_true rfl) e20) ?_
  refine zn_pop (pc := 35) dX9_openAccount_35 rfl ?_
  refine zn_aload (pc := 36) 0 dX9_openAccount_36 rfl ?_
  have hz := Option.some.inj h21; clear h21; subst hz
  exact zn_areturn (pc := 38) dX9_openAccount_38 rfl (Or.inl ⟨_, rfl⟩) hp
theorem b_X9_account_27 {G : zG} {Post : Option zV → zH → Prop} {i0 : Nat} {S : zH} {out : (Int32 × zH)} (h0 : f_X9_account_27 i0 S = some out) (hp : Post (some (vI out.1)) out.2) : zn G M_X9_account 11 0 0 27 [(0, vR 0 (some i0))] [] S Post := by
  unfold f_X9_account_27 at h0
  refine zn_aload_n (pc := 27) 0 dX9_account_27 rfl rfl ?_
  refine zn_bipush (pc := 28) (x := (-4)) dX9_account_28 (by decide) ?_
  obtain ⟨o1, e2, h3⟩ := zbd h0; clear h0
  refine zn_cVv (pc := 30) (kc := 0) (ks := 0) (kc' := 0) (ks' := 0) (As := [vI (-4)]) (st := []) dX9_account_30 cs_X9_78 pc_0 rfl rfl (Nat.le_of_ble_eq_true rfl) ((c_X9_refuse e2).mono (Nat.le_of_ble_eq_true rfl)) ?_
  have hz := Option.some.inj h3; clear h3; subst hz
  exact zn_ireturn (pc := 33) dX9_account_33 rfl hp
theorem b_X9_account_60 {G : zG} {Post : Option zV → zH → Prop} {i0 : Nat} {S : zH} {out : (Int32 × zH)} (h0 : f_X9_account_60 i0 S = some out) (hp : Post (some (vI out.1)) out.2) : zn G M_X9_account 11 0 0 60 [(0, vR 0 (some i0))] [] S Post := by
  unfold f_X9_account_60 at h0
  refine zn_aload_n (pc := 60) 0 dX9_account_60 rfl rfl ?_
  refine zn_bipush (pc := 61) (x := (-6)) dX9_account_61 (by decide) ?_
  obtain ⟨o1, e2, h3⟩ := zbd h0; clear h0
  refine zn_cVv (pc := 63) (kc := 0) (ks := 0) (kc' := 0) (ks' := 0) (As := [vI (-6)]) (st := []) dX9_account_63 cs_X9_78 pc_0 rfl rfl (Nat.le_of_ble_eq_true rfl) ((c_X9_refuse e2).mono (Nat.le_of_ble_eq_true rfl)) ?_
  have hz := Option.some.inj h3; clear h3; subst hz
  exact zn_ireturn (pc := 66) dX9_account_66 rfl hp
theorem c_X9_account {G : zG} {i0 : Nat} {x1 : Int32} {x2 : Int32} {x3 : Int32} {S : zH} {out : (Int32 × zH)} (h0 : f_X9_account i0 x1 x2 x3 S = some out) : zct G M_X9_account 11 3 1593 [vR 0 (some i0), vI x1, vI x2, vI x3] S (zpo (some (vI out.1)) out.2) := by
  refine zct_of (by decide) (Nat.le_of_ble_eq_true rfl) ?_
  show zn G M_X9_account 11 3 1593 0 [(0, vR 0 (some i0)), (1, vI x1), (2, vI x2), (3, vI x3)] [] S _
  have hp : zpo (some (vI out.1)) out.2 (some (vI out.1)) out.2 := ⟨rfl, rfl⟩
  unfold f_X9_account at h0
  refine zn_aload_n (pc := 0) 0 dX9_account_0 rfl rfl ?_
  refine zn_iload_n (pc := 1) 1 dX9_account_1 rfl rfl ?_
  obtain ⟨o4, e5, h6⟩ := zbd h0; clear h0
  refine zn_cVv (pc := 2) (kc := 3) (ks := 1593) (kc' := 0) (ks' := 0) (As := [vI x1]) (st := []) dX9_account_2 cs_X9_110 pc_0 rfl rfl (Nat.le_of_ble_eq_true rfl) ((c_X9_bankAt e5).mono (Nat.le_of_ble_eq_true rfl)) ?_
  refine zn_astore (pc := 5) (ls' := [(4, vR 2 o4), (0, vR 0 (some i0)), (1, vI x1), (2, vI x2), (3, vI x3)]) dX9_account_5 (Nat.le_of_ble_eq_true rfl) rfl ?_
  refine zn_aload (pc := 7) 0 dX9_account_7 rfl ?_
  have h9 := h6; clear h6
  refine zn_ifnonnull (pc := 9) (tgt := 18) dX9_account_9 (by decide) (fun i8 hr7 => ?_) (fun hr7 => ?_)
  · replace h9 := zop_s hr7 h9
    rw [hr7]
    refine zn_iload_n (pc := 18) 3 dX9_account_18 rfl rfl ?_
    have h14 := h9; clear h9
    refine zn_if_lt (pc := 19) (tgt := 27) dX9_account_19 (by decide) (fun c13 => ?_) (fun c13 => ?_)
    · replace h14 := zif_t c13 h14
      refine zn_pick [1] rfl ?_
      refine zn_wid (kc0 := 0) (ks0 := 0) (Nat.le_of_ble_eq_true rfl) (Nat.le_of_ble_eq_true rfl) ?_
      exact b_X9_account_27  h14 hp
    · replace h14 := zif_f c13 h14
      refine zn_iload_n (pc := 22) 4 dX9_account_22 rfl rfl ?_
      refine zn_iconst (pc := 23) (x := (-1)) dX9_account_23 (by decide) ?_
      have h16 := h14; clear h14
      refine zn_icmp_ge (pc := 24) (tgt := 34) dX9_account_24 (by decide) (fun c15 => ?_) (fun c15 => ?_)
      · replace h16 := zif_t c15 h16
        refine zn_iload_n (pc := 34) 3 dX9_account_34 rfl rfl ?_
        refine zn_sipush (pc := 35) (x := 9999) dX9_account_35 (by decide) ?_
        have h18 := h16; clear h16
        refine zn_icmp_gt (pc := 38) (tgt := 60) dX9_account_38 (by decide) (fun c17 => ?_) (fun c17 => ?_)
        · replace h18 := zif_t c17 h18
          refine zn_pick [1] rfl ?_
          refine zn_wid (kc0 := 0) (ks0 := 0) (Nat.le_of_ble_eq_true rfl) (Nat.le_of_ble_eq_true rfl) ?_
          exact b_X9_account_60  h18 hp
        · replace h18 := zif_f c17 h18
          refine zn_iload_n (pc := 41) 4 dX9_account_41 rfl rfl ?_
          refine zn_sipush (pc := 42) (x := 9999) dX9_account_42 (by decide) ?_
          have h20 := h18; clear h18
          refine zn_icmp_gt (pc := 45) (tgt := 60) dX9_account_45 (by decide) (fun c19 => ?_) (fun c19 => ?_)
          · replace h20 := zif_t c19 h20
            refine zn_pick [1] rfl ?_
            refine zn_wid (kc0 := 0) (ks0 := 0) (Nat.le_of_ble_eq_true rfl) (Nat.le_of_ble_eq_true rfl) ?_
            exact b_X9_account_60  h20 hp
          · replace h20 := zif_f c19 h20
            refine zn_aload_n (pc := 48) 1 dX9_account_48 rfl rfl ?_
            refine zn_getR (pc := 49) fa_X9_28_0.1 fa_X9_28_0.2 dX9_account_49 ?_
            obtain ⟨i21, hi22, h23⟩ := zbd h20; clear h20
            rw [hi22]
            obtain ⟨o24, e25, h26⟩ := zbd h23; clear h23
            refine zn_cVv (pc := 52) (kc := 3) (ks := 1593) (kc' := 0) (ks' := 0) (As := []) (st := []) dX9_account_52 cls_X9_142 pc_10 rfl rfl (Nat.le_of_ble_eq_true rfl) (zc_size (p := 10) (by decide) (Nat.le_of_ble_eq_true rfl) e25) ?_
            refine zn_bipush (pc := 55) (x := 40) dX9_account_55 (by decide) ?_
            have h28 := h26; clear h26
            refine zn_icmp_lt (pc := 57) (tgt := 67) dX9_account_57 (by decide) (fun c27 => ?_) (fun c27 => ?_)
            · replace h28 := zif_t c27 h28
              refine zn_aload_n (pc := 67) 1 dX9_account_67 rfl rfl ?_
              refine zn_aload (pc := 68) 0 dX9_account_68 rfl ?_
              refine zn_iload_n (pc := 70) 3 dX9_account_70 rfl rfl ?_
              refine zn_iload_n (pc := 71) 4 dX9_account_71 rfl rfl ?_
              obtain ⟨o29, e30, h31⟩ := zbd h28; clear h28
              refine zn_cVv (pc := 72) (kc := 0) (ks := 0) (kc' := 3) (ks' := 1593) (As := [vR 2 (some i8), vI x2, vI x3]) (st := []) dX9_account_72 cs_X9_146 pc_0 rfl rfl (Nat.le_of_ble_eq_true rfl) ((c_X9_openAccount e30).mono (Nat.le_of_ble_eq_true rfl)) ?_
              obtain ⟨i32, hi33, h34⟩ := zbd h31; clear h31
              rw [hi33]
              refine zn_getI (pc := 75) fa_X9_150_3.1 fa_X9_150_3.2 dX9_account_75 ?_
              have hz := Option.some.inj h34; clear h34; subst hz
              exact zn_ireturn (pc := 78) dX9_account_78 rfl hp
            · replace h28 := zif_f c27 h28
              refine zn_pick [1] rfl ?_
              refine zn_wid (kc0 := 0) (ks0 := 0) (Nat.le_of_ble_eq_true rfl) (Nat.le_of_ble_eq_true rfl) ?_
              exact b_X9_account_60  h28 hp
      · replace h16 := zif_f c15 h16
        refine zn_pick [1] rfl ?_
        refine zn_wid (kc0 := 0) (ks0 := 0) (Nat.le_of_ble_eq_true rfl) (Nat.le_of_ble_eq_true rfl) ?_
        exact b_X9_account_27  h16 hp
  · replace h9 := zop_n hr7 h9
    rw [hr7]
    refine zn_aload_n (pc := 12) 1 dX9_account_12 rfl rfl ?_
    refine zn_iconst (pc := 13) (x := (-1)) dX9_account_13 (by decide) ?_
    obtain ⟨o10, e11, h12⟩ := zbd h9; clear h9
    refine zn_cVv (pc := 14) (kc := 3) (ks := 1593) (kc' := 0) (ks' := 0) (As := [vI (-1)]) (st := []) dX9_account_14 cs_X9_78 pc_0 rfl rfl (Nat.le_of_ble_eq_true rfl) ((c_X9_refuse e11).mono (Nat.le_of_ble_eq_true rfl)) ?_
    have hz := Option.some.inj h12; clear h12; subst hz
    exact zn_ireturn (pc := 17) dX9_account_17 rfl hp
