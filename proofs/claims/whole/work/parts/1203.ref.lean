theorem c_X9_accountAt {G : zG} {i0 : Nat} {x1 : Int32} {S : zH} {out : (Option Nat)} (h0 : f_X9_accountAt i0 x1 S = some out) : zct G M_X9_accountAt 4 0 0 [vR 0 (some i0), vI x1] S (zpo (some (vR 3 out)) S) := by
  refine zct_of (by decide) (Nat.le_of_ble_eq_true rfl) ?_
  show zn G M_X9_accountAt 4 0 0 0 [(0, vR 0 (some i0)), (1, vI x1)] [] S _
  have hp : zpo (some (vR 3 out)) S (some (vR 3 out)) S := ⟨rfl, rfl⟩
  unfold f_X9_accountAt at h0
  refine zn_iload_n (pc := 0) 1 dX9_accountAt_0 rfl rfl ?_
  have h2 := h0; clear h0
  refine zn_if_lt (pc := 1) (tgt := 29) dX9_accountAt_1 (by decide) (fun c1 => ?_) (fun c1 => ?_)
  · replace h2 := zif_t c1 h2
    refine zn_null (pc := 29) 3 dX9_accountAt_29 ?_
    have hz := Option.some.inj h2; clear h2; subst hz
    exact zn_areturn (pc := 30) dX9_accountAt_30 rfl (Or.inl ⟨_, rfl⟩) hp
  · replace h2 := zif_f c1 h2
    refine zn_iload_n (pc := 4) 1 dX9_accountAt_4 rfl rfl ?_
    refine zn_aload_n (pc := 5) 0 dX9_accountAt_5 rfl rfl ?_
    refine zn_getR (pc := 6) fa_X9_28_0.1 fa_X9_28_0.2 dX9_accountAt_6 ?_
    obtain ⟨i3, hi4, h5⟩ := zbd h2; clear h2
    rw [hi4]
    obtain ⟨o6, e7, h8⟩ := zbd h5; clear h5
    refine zn_cVv (pc := 9) (kc := 0) (ks := 0) (kc' := 0) (ks' := 0) (As := []) (st := [vI x1]) dX9_accountAt_9 cls_X9_142 pc_10 rfl rfl (Nat.le_of_ble_eq_true rfl) (zc_size (p := 10) (by decide) (Nat.le_of_ble_eq_true rfl) e7) ?_
    have h10 := h8; clear h8
    refine zn_icmp_ge (pc := 12) (tgt := 29) dX9_accountAt_12 (by decide) (fun c9 => ?_) (fun c9 => ?_)
    · replace h10 := zif_t c9 h10
      refine zn_null (pc := 29) 3 dX9_accountAt_29 ?_
      have hz := Option.some.inj h10; clear h10; subst hz
      exact zn_areturn (pc := 30) dX9_accountAt_30 rfl (Or.inl ⟨_, rfl⟩) hp
    · replace h10 := zif_f c9 h10
      refine zn_aload_n (pc := 15) 0 dX9_accountAt_15 rfl rfl ?_
      refine zn_getR (pc := 16) fa_X9_28_0.1 fa_X9_28_0.2 dX9_accountAt_16 ?_
      refine zn_iload_n (pc := 19) 1 dX9_accountAt_19 rfl rfl ?_
      obtain ⟨i11, hi12, h13⟩ := zbd h10; clear h10
      rw [hi12]
      obtain ⟨o14, e15, h16⟩ := zbd h13; clear h13
      refine zn_cVv (pc := 20) (kc := 0) (ks := 0) (kc' := 0) (ks' := 0) (As := [vI x1]) (st := []) dX9_accountAt_20 clg_X9_353 pc_10 rfl rfl (Nat.le_of_ble_eq_true rfl) (zc_get (p := 10) (by decide) rfl (Nat.le_of_ble_eq_true rfl) e15) ?_
      refine zn_cast (pc := 23) cl_X9_151 pc_3 dX9_accountAt_23 ?_
      refine zn_goto (pc := 26) (tgt := 30) dX9_accountAt_26 (by decide) ?_
      have hz := Option.some.inj h16; clear h16; subst hz
      exact zn_areturn (pc := 30) dX9_accountAt_30 rfl (Or.inl ⟨_, rfl⟩) hp
theorem c_X9_put {G : zG} {i0 : Nat} {x1 : Int32} {x2 : Int32} {S : zH} {out : (Int64 × zH)} (h0 : f_X9_put i0 x1 x2 S = some out) : zct G M_X9_put 5 0 0 [vR 0 (some i0), vI x1, vI x2] S (zpo (some (vJ out.1)) out.2) := by
  refine zct_of (by decide) (Nat.le_of_ble_eq_true rfl) ?_
  show zn G M_X9_put 5 0 0 0 [(0, vR 0 (some i0)), (1, vI x1), (2, vI x2)] [] S _
  have hp : zpo (some (vJ out.1)) out.2 (some (vJ out.1)) out.2 := ⟨rfl, rfl⟩
  unfold f_X9_put at h0
  refine zn_aload_n (pc := 0) 0 dX9_put_0 rfl rfl ?_
  refine zn_iload_n (pc := 1) 1 dX9_put_1 rfl rfl ?_
  obtain ⟨o1, e2, h3⟩ := zbd h0; clear h0
  refine zn_cVv (pc := 2) (kc := 0) (ks := 0) (kc' := 0) (ks' := 0) (As := [vI x1]) (st := []) dX9_put_2 cs_X9_155 pc_0 rfl rfl (Nat.le_of_ble_eq_true rfl) ((c_X9_accountAt e2).mono (Nat.le_of_ble_eq_true rfl)) ?_
  refine zn_astore_n (pc := 5) (ls' := [(3, vR 3 o1), (0, vR 0 (some i0)), (1, vI x1), (2, vI x2)]) dX9_put_5 rfl (Nat.le_of_ble_eq_true rfl) rfl ?_
  refine zn_aload_n (pc := 6) 0 dX9_put_6 rfl rfl ?_
  have h6 := h3; clear h3
  refine zn_ifnonnull (pc := 7) (tgt := 16) dX9_put_7 (by decide) (fun i5 hr4 => ?_) (fun hr4 => ?_)
  · replace h6 := zop_s hr4 h6
    rw [hr4]
    refine zn_aload_n (pc := 16) 0 dX9_put_16 rfl rfl ?_
    refine zn_getI (pc := 17) fa_X9_159_3.1 fa_X9_159_3.2 dX9_put_17 ?_
    have h11 := h6; clear h6
    refine zn_if_eq (pc := 20) (tgt := 30) dX9_put_20 (by decide) (fun c10 => ?_) (fun c10 => ?_)
    · replace h11 := zif_t c10 h11
      refine zn_iload_n (pc := 30) 3 dX9_put_30 rfl rfl ?_
      refine zn_iconst (pc := 31) (x := 1) dX9_put_31 (by decide) ?_
      refine zn_ldc (pc := 32) dX9_put_32 w1_X9_162 ?_
      obtain ⟨o12, e13, h14⟩ := zbd h11; clear h11
      refine zn_cSv (pc := 34) (kc := 0) (ks := 0) (kc' := 0) (ks' := 0) (As := [vI x2, vI 1, vI 99999]) (st := []) dX9_put_34 cs_X9_74 rfl rfl (Nat.le_of_ble_eq_true rfl) ((c_X9_outside e13).mono (Nat.le_of_ble_eq_true rfl)) ?_
      refine zn_istore (pc := 37) (ls' := [(4, vI o12), (3, vR 3 (some i5)), (0, vR 0 (some i0)), (1, vI x1), (2, vI x2)]) dX9_put_37 (Nat.le_of_ble_eq_true rfl) rfl ?_
      refine zn_iload (pc := 39) 0 dX9_put_39 rfl ?_
      have h16 := h14; clear h14
      refine zn_if_eq (pc := 41) (tgt := 51) dX9_put_41 (by decide) (fun c15 => ?_) (fun c15 => ?_)
      · replace h16 := zif_t c15 h16
        refine zn_aload_n (pc := 51) 1 dX9_put_51 rfl rfl ?_
        refine zn_dup (pc := 52) dX9_put_52 rfl ?_
        refine zn_getJ (pc := 53) fa_X9_163_3.1 fa_X9_163_3.2 dX9_put_53 ?_
        refine zn_iload_n (pc := 56) 4 dX9_put_56 rfl rfl ?_
        refine zn_i2l (pc := 57) dX9_put_57 ?_
        refine zn_ladd (pc := 58) dX9_put_58 ?_
        obtain ⟨S17, hS18, h19⟩ := zltd h16; clear h16
        refine zn_putJ (pc := 59) fp_X9_163_3.1 (fp_X9_163_3 (nm := "")).2 dX9_put_59 hS18 ?_
        refine zn_aload_n (pc := 62) 1 dX9_put_62 rfl rfl ?_
        refine zn_getJ (pc := 63) fa_X9_163_3.1 fa_X9_163_3.2 dX9_put_63 ?_
        have hz := Option.some.inj h19; clear h19; subst hz
        exact zn_lreturn (pc := 66) dX9_put_66 rfl hp
      · replace h16 := zif_f c15 h16
        refine zn_aload_n (pc := 44) 2 dX9_put_44 rfl rfl ?_
        refine zn_iload (pc := 45) 0 dX9_put_45 rfl ?_
        obtain ⟨o20, e21, h22⟩ := zbd h16; clear h16
        refine zn_cVv (pc := 47) (kc := 0) (ks := 0) (kc' := 0) (ks' := 0) (As := [vI o12]) (st := []) dX9_put_47 cs_X9_134 pc_0 rfl rfl (Nat.le_of_ble_eq_true rfl) ((c_X9_refuseLong e21).mono (Nat.le_of_ble_eq_true rfl)) ?_
        have hz := Option.some.inj h22; clear h22; subst hz
        exact zn_lreturn (pc := 50) dX9_put_50 rfl hp
    · replace h11 := zif_f c10 h11
      refine zn_aload_n (pc := 23) 1 dX9_put_23 rfl rfl ?_
      refine zn_bipush (pc := 24) (x := (-3)) dX9_put_24 (by decide) ?_
      obtain ⟨o23, e24, h25⟩ := zbd h11; clear h11
      refine zn_cVv (pc := 26) (kc := 0) (ks := 0) (kc' := 0) (ks' := 0) (As := [vI (-3)]) (st := []) dX9_put_26 cs_X9_134 pc_0 rfl rfl (Nat.le_of_ble_eq_true rfl) ((c_X9_refuseLong e24).mono (Nat.le_of_ble_eq_true rfl)) ?_
      have hz := Option.some.inj h25; clear h25; subst hz
      exact zn_lreturn (pc := 29) dX9_put_29 rfl hp
  · replace h6 := zop_n hr4 h6
    rw [hr4]
    refine zn_aload_n (pc := 10) 1 dX9_put_10 rfl rfl ?_
    refine zn_iconst (pc := 11) (x := (-1)) dX9_put_11 (by decide) ?_
    obtain ⟨o7, e8, h9⟩ := zbd h6; clear h6
    refine zn_cVv (pc := 12) (kc := 0) (ks := 0) (kc' := 0) (ks' := 0) (As := [vI (-1)]) (st := []) dX9_put_12 cs_X9_134 pc_0 rfl rfl (Nat.le_of_ble_eq_true rfl) ((c_X9_refuseLong e8).mono (Nat.le_of_ble_eq_true rfl)) ?_
    have hz := Option.some.inj h9; clear h9; subst hz
    exact zn_lreturn (pc := 15) dX9_put_15 rfl hp
theorem c_X9_over {G : zG} {i0 : Nat} {x1 : Int32} {x2 : Int32} {S : zH} {out : (Int32 × zH)} (h0 : f_X9_over i0 x1 x2 S = some out) : zct G M_X9_over 5 0 0 [vR 0 (some i0), vI x1, vI x2] S (zpo (some (vI out.1)) out.2) := by
  refine zct_of (by decide) (Nat.le_of_ble_eq_true rfl) ?_
  show zn G M_X9_over 5 0 0 0 [(0, vR 0 (some i0)), (1, vI x1), (2, vI x2)] [] S _
  have hp : zpo (some (vI out.1)) out.2 (some (vI out.1)) out.2 := ⟨rfl, rfl⟩
  unfold f_X9_over at h0
  refine zn_aload_n (pc := 0) 0 dX9_over_0 rfl rfl ?_
  refine zn_iload_n (pc := 1) 1 dX9_over_1 rfl rfl ?_
  obtain ⟨o1, e2, h3⟩ := zbd h0; clear h0
  refine zn_cVv (pc := 2) (kc := 0) (ks := 0) (kc' := 0) (ks' := 0) (As := [vI x1]) (st := []) dX9_over_2 cs_X9_155 pc_0 rfl rfl (Nat.le_of_ble_eq_true rfl) ((c_X9_accountAt e2).mono (Nat.le_of_ble_eq_true rfl)) ?_
  refine zn_astore_n (pc := 5) (ls' := [(3, vR 3 o1), (0, vR 0 (some i0)), (1, vI x1), (2, vI x2)]) dX9_over_5 rfl (Nat.le_of_ble_eq_true rfl) rfl ?_
  refine zn_aload_n (pc := 6) 0 dX9_over_6 rfl rfl ?_
  have h6 := h3; clear h3
  refine zn_ifnonnull (pc := 7) (tgt := 16) dX9_over_7 (by decide) (fun i5 hr4 => ?_) (fun hr4 => ?_)
  · replace h6 := zop_s hr4 h6
    rw [hr4]
    refine zn_iload_n (pc := 16) 3 dX9_over_16 rfl rfl ?_
    refine zn_iconst (pc := 17) (x := 0) dX9_over_17 (by decide) ?_
    refine zn_ldc (pc := 18) dX9_over_18 w1_X9_162 ?_
    obtain ⟨o10, e11, h12⟩ := zbd h6; clear h6
    refine zn_cSv (pc := 20) (kc := 0) (ks := 0) (kc' := 0) (ks' := 0) (As := [vI x2, vI 0, vI 99999]) (st := []) dX9_over_20 cs_X9_74 rfl rfl (Nat.le_of_ble_eq_true rfl) ((c_X9_outside e11).mono (Nat.le_of_ble_eq_true rfl)) ?_
    refine zn_istore (pc := 23) (ls' := [(4, vI o10), (3, vR 3 (some i5)), (0, vR 0 (some i0)), (1, vI x1), (2, vI x2)]) dX9_over_23 (Nat.le_of_ble_eq_true rfl) rfl ?_
    refine zn_iload (pc := 25) 0 dX9_over_25 rfl ?_
    have h14 := h12; clear h12
    refine zn_if_eq (pc := 27) (tgt := 37) dX9_over_27 (by decide) (fun c13 => ?_) (fun c13 => ?_)
    · replace h14 := zif_t c13 h14
      refine zn_aload_n (pc := 37) 1 dX9_over_37 rfl rfl ?_
      refine zn_getI (pc := 38) fa_X9_166_3.1 fa_X9_166_3.2 dX9_over_38 ?_
      refine zn_istore (pc := 41) (ls' := [(5, vI (zI S 3 i5 7)), (4, vI o10), (3, vR 3 (some i5)), (0, vR 0 (some i0)), (1, vI x1), (2, vI x2)]) dX9_over_41 (Nat.le_of_ble_eq_true rfl) rfl ?_
      refine zn_aload_n (pc := 43) 2 dX9_over_43 rfl rfl ?_
      refine zn_iload_n (pc := 44) 5 dX9_over_44 rfl rfl ?_
      obtain ⟨S15, hS16, h17⟩ := zltd h14; clear h14
      refine zn_putI (pc := 45) fp_X9_166_3.1 (fp_X9_166_3 (nm := "")).2 dX9_over_45 hS16 ?_
      refine zn_iload (pc := 48) 0 dX9_over_48 rfl ?_
      have hz := Option.some.inj h17; clear h17; subst hz
      exact zn_ireturn (pc := 50) dX9_over_50 rfl hp
    · replace h14 := zif_f c13 h14
      refine zn_aload_n (pc := 30) 2 dX9_over_30 rfl rfl ?_
      refine zn_iload (pc := 31) 0 dX9_over_31 rfl ?_
      obtain ⟨o18, e19, h20⟩ := zbd h14; clear h14
      refine zn_cVv (pc := 33) (kc := 0) (ks := 0) (kc' := 0) (ks' := 0) (As := [vI o10]) (st := []) dX9_over_33 cs_X9_78 pc_0 rfl rfl (Nat.le_of_ble_eq_true rfl) ((c_X9_refuse e19).mono (Nat.le_of_ble_eq_true rfl)) ?_
      have hz := Option.some.inj h20; clear h20; subst hz
      exact zn_ireturn (pc := 36) dX9_over_36 rfl hp
  · replace h6 := zop_n hr4 h6
    rw [hr4]
    refine zn_aload_n (pc := 10) 1 dX9_over_10 rfl rfl ?_
    refine zn_iconst (pc := 11) (x := (-1)) dX9_over_11 (by decide) ?_
    obtain ⟨o7, e8, h9⟩ := zbd h6; clear h6
    refine zn_cVv (pc := 12) (kc := 0) (ks := 0) (kc' := 0) (ks' := 0) (As := [vI (-1)]) (st := []) dX9_over_12 cs_X9_78 pc_0 rfl rfl (Nat.le_of_ble_eq_true rfl) ((c_X9_refuse e8).mono (Nat.le_of_ble_eq_true rfl)) ?_
    have hz := Option.some.inj h9; clear h9; subst hz
    exact zn_ireturn (pc := 15) dX9_over_15 rfl hp
theorem b_X9_isInMove_2 {G : zG} {Post : Option zV → zH → Prop} : ∀ (n : Nat) (i0 : Nat) (r1 : Option Nat) (x2 : Int32) (S : zH) (out : Int32), f_X9_isInMove_2 n i0 r1 x2 S = some out → Post (some (vI out)) S → zn G M_X9_isInMove 4 0 0 2 [(0, vR 0 (some i0)), (1, vR 3 r1), (2, vI x2)] [] S Post := by
  intro n
  induction n with
  | zero => intro i0 r1 x2 S out h0 hp; exact (nomatch (show (none : Option _) = some out from h0))
  | succ n ih =>
    intro i0 r1 x2 S out h0 hp
    rw [f_X9_isInMove_2] at h0
    refine zn_iload_n (pc := 2) 2 dX9_isInMove_2 rfl rfl ?_
    refine zn_aload_n (pc := 3) 0 dX9_isInMove_3 rfl rfl ?_
    refine zn_getR (pc := 4) fa_X9_35_0.1 fa_X9_35_0.2 dX9_isInMove_4 ?_
    obtain ⟨i1, hi2, h3⟩ := zbd h0; clear h0
    rw [hi2]
    obtain ⟨o4, e5, h6⟩ := zbd h3; clear h3
    refine zn_cVv (pc := 7) (kc := 0) (ks := 0) (kc' := 0) (ks' := 0) (As := []) (st := [vI x2]) dX9_isInMove_7 cls_X9_142 pc_12 rfl rfl (Nat.le_of_ble_eq_true rfl) (zc_size (p := 12) (by decide) (Nat.le_of_ble_eq_true rfl) e5) ?_
    have h8 := h6; clear h6
    refine zn_icmp_ge (pc := 10) (tgt := 48) dX9_isInMove_10 (by decide) (fun c7 => ?_) (fun c7 => ?_)
    · replace h8 := zif_t c7 h8
      refine zn_iconst (pc := 48) (x := 0) dX9_isInMove_48 (by decide) ?_
      have hz := Option.some.inj h8; clear h8; subst hz
      exact zn_zreturn (pc := 49) dX9_isInMove_49 rfl (by decide) hp
    · replace h8 := zif_f c7 h8
      refine zn_aload_n (pc := 13) 0 dX9_isInMove_13 rfl rfl ?_
      refine zn_getR (pc := 14) fa_X9_35_0.1 fa_X9_35_0.2 dX9_isInMove_14 ?_
      refine zn_iload_n (pc := 17) 2 dX9_isInMove_17 rfl rfl ?_
      obtain ⟨i9, hi10, h11⟩ := zbd h8; clear h8
      rw [hi10]
      obtain ⟨o12, e13, h14⟩ := zbd h11; clear h11
      refine zn_cVv (pc := 18) (kc := 0) (ks := 0) (kc' := 0) (ks' := 0) (As := [vI x2]) (st := []) dX9_isInMove_18 clg_X9_353 pc_12 rfl rfl (Nat.le_of_ble_eq_true rfl) (zc_get (p := 12) (by decide) rfl (Nat.le_of_ble_eq_true rfl) e13) ?_
      refine zn_cast (pc := 21) cl_X9_271 pc_5 dX9_isInMove_21 ?_
      refine zn_astore_n (pc := 24) (ls' := [(3, vR 5 o12), (0, vR 0 (some i0)), (1, vR 3 r1), (2, vI x2)]) dX9_isInMove_24 rfl (Nat.le_of_ble_eq_true rfl) rfl ?_
      refine zn_aload_n (pc := 25) 0 dX9_isInMove_25 rfl rfl ?_
      obtain ⟨i15, hi16, h17⟩ := zbd h14; clear h14
      rw [hi16]
      refine zn_getI (pc := 26) fa_X9_290_5.1 fa_X9_290_5.2 dX9_isInMove_26 ?_
      have h19 := h17; clear h17
      refine zn_if_eq (pc := 29) (tgt := 42) dX9_isInMove_29 (by decide) (fun c18 => ?_) (fun c18 => ?_)
      · replace h19 := zif_t c18 h19
        refine zn_iinc (pc := 42) 3 (y := x2 + 1) (ls' := [(2, vI (x2 + 1)), (3, vR 5 (some i15)), (0, vR 0 (some i0)), (1, vR 3 r1)]) dX9_isInMove_42 rfl rfl (Nat.le_of_ble_eq_true rfl) rfl ?_
        refine zn_goto (pc := 45) (tgt := 2) dX9_isInMove_45 (by decide) ?_
        refine zn_pick [2, 3, 0] rfl ?_
        exact ih _ _ _ _ _ h19 hp
      · replace h19 := zif_f c18 h19
        refine zn_aload_n (pc := 32) 0 dX9_isInMove_32 rfl rfl ?_
        refine zn_aload_n (pc := 33) 2 dX9_isInMove_33 rfl rfl ?_
        obtain ⟨o20, e21, h22⟩ := zbd h19; clear h19
        refine zn_cVv (pc := 34) (kc := 0) (ks := 0) (kc' := 0) (ks' := 0) (As := [vR 3 r1]) (st := []) dX9_isInMove_34 cs_X9_362 pc_5 rfl rfl (Nat.le_of_ble_eq_true rfl) ((c_X4_has e21).mono (Nat.le_of_ble_eq_true rfl)) ?_
        have h24 := h22; clear h22
        refine zn_if_eq (pc := 37) (tgt := 42) dX9_isInMove_37 (by decide) (fun c23 => ?_) (fun c23 => ?_)
        · replace h24 := zif_t c23 h24
          refine zn_iinc (pc := 42) 3 (y := x2 + 1) (ls' := [(2, vI (x2 + 1)), (3, vR 5 (some i15)), (0, vR 0 (some i0)), (1, vR 3 r1)]) dX9_isInMove_42 rfl rfl (Nat.le_of_ble_eq_true rfl) rfl ?_
          refine zn_goto (pc := 45) (tgt := 2) dX9_isInMove_45 (by decide) ?_
          refine zn_pick [2, 3, 0] rfl ?_
          exact ih _ _ _ _ _ h24 hp
        · replace h24 := zif_f c23 h24
          refine zn_iconst (pc := 40) (x := 1) dX9_isInMove_40 (by decide) ?_
          have hz := Option.some.inj h24; clear h24; subst hz
          exact zn_zreturn (pc := 41) dX9_isInMove_41 rfl (by decide) hp
theorem c_X9_isInMove {G : zG} {i0 : Nat} {r1 : Option Nat} {S : zH} {out : Int32} (h0 : f_X9_isInMove i0 r1 S = some out) : zct G M_X9_isInMove 4 0 0 [vR 0 (some i0), vR 3 r1] S (zpo (some (vI out)) S) := by
  refine zct_of (by decide) (Nat.le_of_ble_eq_true rfl) ?_
  show zn G M_X9_isInMove 4 0 0 0 [(0, vR 0 (some i0)), (1, vR 3 r1)] [] S _
  have hp : zpo (some (vI out)) S (some (vI out)) S := ⟨rfl, rfl⟩
  unfold f_X9_isInMove at h0
  refine zn_iconst (pc := 0) (x := 0) dX9_isInMove_0 (by decide) ?_
  refine zn_istore_n (pc := 1) (ls' := [(2, vI 0), (0, vR 0 (some i0)), (1, vR 3 r1)]) dX9_isInMove_1 rfl (Nat.le_of_ble_eq_true rfl) rfl ?_
  refine zn_pick [1, 2, 0] rfl ?_
  exact b_X9_isInMove_2  fu _ _ _ _ _ h0 hp
theorem b_X9_close_40 {G : zG} {Post : Option zV → zH → Prop} {i0 : Nat} {S : zH} {out : (Int32 × zH)} (h0 : f_X9_close_40 i0 S = some out) (hp : Post (some (vI out.1)) out.2) : zn G M_X9_close 5 0 0 40 [(0, vR 0 (some i0))] [] S Post := by
  unfold f_X9_close_40 at h0
  refine zn_aload_n (pc := 40) 0 dX9_close_40 rfl rfl ?_
  refine zn_bipush (pc := 41) (x := (-3)) dX9_close_41 (by decide) ?_
  obtain ⟨o1, e2, h3⟩ := zbd h0; clear h0
  refine zn_cVv (pc := 43) (kc := 0) (ks := 0) (kc' := 0) (ks' := 0) (As := [vI (-3)]) (st := []) dX9_close_43 cs_X9_78 pc_0 rfl rfl (Nat.le_of_ble_eq_true rfl) ((c_X9_refuse e2).mono (Nat.le_of_ble_eq_true rfl)) ?_
  have hz := Option.some.inj h3; clear h3; subst hz
  exact zn_ireturn (pc := 46) dX9_close_46 rfl hp
theorem c_X9_close {G : zG} {i0 : Nat} {x1 : Int32} {S : zH} {out : (Int32 × zH)} (h0 : f_X9_close i0 x1 S = some out) : zct G M_X9_close 5 0 0 [vR 0 (some i0), vI x1] S (zpo (some (vI out.1)) out.2) := by
  refine zct_of (by decide) (Nat.le_of_ble_eq_true rfl) ?_
  show zn G M_X9_close 5 0 0 0 [(0, vR 0 (some i0)), (1, vI x1)] [] S _
  have hp : zpo (some (vI out.1)) out.2 (some (vI out.1)) out.2 := ⟨rfl, rfl⟩
  unfold f_X9_close at h0
  refine zn_aload_n (pc := 0) 0 dX9_close_0 rfl rfl ?_
  refine zn_iload_n (pc := 1) 1 dX9_close_1 rfl rfl ?_
  obtain ⟨o4, e5, h6⟩ := zbd h0; clear h0
  refine zn_cVv (pc := 2) (kc := 0) (ks := 0) (kc' := 0) (ks' := 0) (As := [vI x1]) (st := []) dX9_close_2 cs_X9_155 pc_0 rfl rfl (Nat.le_of_ble_eq_true rfl) ((c_X9_accountAt e5).mono (Nat.le_of_ble_eq_true rfl)) ?_
  refine zn_astore_n (pc := 5) (ls' := [(2, vR 3 o4), (0, vR 0 (some i0)), (1, vI x1)]) dX9_close_5 rfl (Nat.le_of_ble_eq_true rfl) rfl ?_
  refine zn_aload_n (pc := 6) 0 dX9_close_6 rfl rfl ?_
  have h9 := h6; clear h6
  refine zn_ifnonnull (pc := 7) (tgt := 16) dX9_close_7 (by decide) (fun i8 hr7 => ?_) (fun hr7 => ?_)
  · replace h9 := zop_s hr7 h9
    rw [hr7]
    refine zn_aload_n (pc := 16) 0 dX9_close_16 rfl rfl ?_
    refine zn_getI (pc := 17) fa_X9_159_3.1 fa_X9_159_3.2 dX9_close_17 ?_
    have h14 := h9; clear h9
    refine zn_if_ne (pc := 20) (tgt := 40) dX9_close_20 (by decide) (fun c13 => ?_) (fun c13 => ?_)
    · replace h14 := zif_f c13 h14
      refine zn_pick [1] rfl ?_
      exact b_X9_close_40  h14 hp
    · replace h14 := zif_t c13 h14
      refine zn_aload_n (pc := 23) 0 dX9_close_23 rfl rfl ?_
      refine zn_getJ (pc := 24) fa_X9_163_3.1 fa_X9_163_3.2 dX9_close_24 ?_
      refine zn_lconst (pc := 27) (x := 0) dX9_close_27 (by decide) ?_
      refine zn_lcmp (pc := 28) dX9_close_28 ?_
      have h16 := h14; clear h14
      refine zn_if_ne (pc := 29) (tgt := 40) dX9_close_29 (by decide) (fun c15 => ?_) (fun c15 => ?_)
      · replace h16 := zif_f c15 h16
        refine zn_pick [1] rfl ?_
        exact b_X9_close_40  h16 hp
      · replace h16 := zif_t c15 h16
        refine zn_aload_n (pc := 32) 1 dX9_close_32 rfl rfl ?_
        refine zn_aload_n (pc := 33) 0 dX9_close_33 rfl rfl ?_
        obtain ⟨o17, e18, h19⟩ := zbd h16; clear h16
        refine zn_cVv (pc := 34) (kc := 0) (ks := 0) (kc' := 0) (ks' := 0) (As := [vR 3 (some i8)]) (st := []) dX9_close_34 cs_X9_169 pc_0 rfl rfl (Nat.le_of_ble_eq_true rfl) ((c_X9_isInMove e18).mono (Nat.le_of_ble_eq_true rfl)) ?_
        have h21 := h19; clear h19
        refine zn_if_eq (pc := 37) (tgt := 47) dX9_close_37 (by decide) (fun c20 => ?_) (fun c20 => ?_)
        · replace h21 := zif_t c20 h21
          refine zn_aload_n (pc := 47) 0 dX9_close_47 rfl rfl ?_
          refine zn_iconst (pc := 48) (x := 1) dX9_close_48 (by decide) ?_
          obtain ⟨S22, hS23, h24⟩ := zltd h21; clear h21
          refine zn_putI (pc := 49) fp_X9_159_3.1 (fp_X9_159_3 (nm := "")).2 dX9_close_49 hS23 ?_
          refine zn_iconst (pc := 52) (x := 1) dX9_close_52 (by decide) ?_
          have hz := Option.some.inj h24; clear h24; subst hz
          exact zn_ireturn (pc := 53) dX9_close_53 rfl hp
        · replace h21 := zif_f c20 h21
          refine zn_pick [1] rfl ?_
          exact b_X9_close_40  h21 hp
  · replace h9 := zop_n hr7 h9
    rw [hr7]
    refine zn_aload_n (pc := 10) 1 dX9_close_10 rfl rfl ?_
    refine zn_iconst (pc := 11) (x := (-1)) dX9_close_11 (by decide) ?_
    obtain ⟨o10, e11, h12⟩ := zbd h9; clear h9
    refine zn_cVv (pc := 12) (kc := 0) (ks := 0) (kc' := 0) (ks' := 0) (As := [vI (-1)]) (st := []) dX9_close_12 cs_X9_78 pc_0 rfl rfl (Nat.le_of_ble_eq_true rfl) ((c_X9_refuse e11).mono (Nat.le_of_ble_eq_true rfl)) ?_
    have hz := Option.some.inj h12; clear h12; subst hz
    exact zn_ireturn (pc := 15) dX9_close_15 rfl hp
theorem c_X9_sum {G : zG} {i0 : Nat} {x1 : Int32} {S : zH} {out : (Int64 × zH)} (h0 : f_X9_sum i0 x1 S = some out) : zct G M_X9_sum 5 0 0 [vR 0 (some i0), vI x1] S (zpo (some (vJ out.1)) out.2) := by
  refine zct_of (by decide) (Nat.le_of_ble_eq_true rfl) ?_
  show zn G M_X9_sum 5 0 0 0 [(0, vR 0 (some i0)), (1, vI x1)] [] S _
  have hp : zpo (some (vJ out.1)) out.2 (some (vJ out.1)) out.2 := ⟨rfl, rfl⟩
  unfold f_X9_sum at h0
  refine zn_aload_n (pc := 0) 0 dX9_sum_0 rfl rfl ?_
  refine zn_iload_n (pc := 1) 1 dX9_sum_1 rfl rfl ?_
  obtain ⟨o1, e2, h3⟩ := zbd h0; clear h0
  refine zn_cVv (pc := 2) (kc := 0) (ks := 0) (kc' := 0) (ks' := 0) (As := [vI x1]) (st := []) dX9_sum_2 cs_X9_155 pc_0 rfl rfl (Nat.le_of_ble_eq_true rfl) ((c_X9_accountAt e2).mono (Nat.le_of_ble_eq_true rfl)) ?_
  refine zn_astore_n (pc := 5) (ls' := [(2, vR 3 o1), (0, vR 0 (some i0)), (1, vI x1)]) dX9_sum_5 rfl (Nat.le_of_ble_eq_true rfl) rfl ?_
  refine zn_aload_n (pc := 6) 0 dX9_sum_6 rfl rfl ?_
  have h6 := h3; clear h3
  refine zn_ifnonnull (pc := 7) (tgt := 18) dX9_sum_7 (by decide) (fun i5 hr4 => ?_) (fun hr4 => ?_)
  · replace h6 := zop_s hr4 h6
    rw [hr4]
    refine zn_aload_n (pc := 18) 0 dX9_sum_18 rfl rfl ?_
    refine zn_getJ (pc := 19) fa_X9_163_3.1 fa_X9_163_3.2 dX9_sum_19 ?_
    have hz := Option.some.inj h6; clear h6; subst hz
    exact zn_lreturn (pc := 22) dX9_sum_22 rfl hp
  · replace h6 := zop_n hr4 h6
    rw [hr4]
    refine zn_aload_n (pc := 10) 1 dX9_sum_10 rfl rfl ?_
    refine zn_iconst (pc := 11) (x := (-1)) dX9_sum_11 (by decide) ?_
    obtain ⟨o7, e8, h9⟩ := zbd h6; clear h6
    refine zn_cVv (pc := 12) (kc := 0) (ks := 0) (kc' := 0) (ks' := 0) (As := [vI (-1)]) (st := []) dX9_sum_12 cs_X9_134 pc_0 rfl rfl (Nat.le_of_ble_eq_true rfl) ((c_X9_refuseLong e8).mono (Nat.le_of_ble_eq_true rfl)) ?_
    refine zn_goto (pc := 15) (tgt := 22) dX9_sum_15 (by decide) ?_
    have hz := Option.some.inj h9; clear h9; subst hz
    exact zn_lreturn (pc := 22) dX9_sum_22 rfl hp
theorem c_X0_keptSum {G : zG} {i0 : Nat} {x1 : Int32} {S : zH} {out : Int64} (h0 : f_X0_keptSum i0 x1 S = some out) : zct G M_X0_keptSum 0 0 0 [vR 3 (some i0), vI x1] S (zpo (some (vJ out)) S) := by
  refine zct_of (by decide) (Nat.le_of_ble_eq_true rfl) ?_
  show zn G M_X0_keptSum 0 0 0 0 [(0, vR 3 (some i0)), (1, vI x1)] [] S _
  have hp : zpo (some (vJ out)) S (some (vJ out)) S := ⟨rfl, rfl⟩
  unfold f_X0_keptSum at h0
  refine zn_iload_n (pc := 0) 1 dX0_keptSum_0 rfl rfl ?_
  refine zn_aload_n (pc := 1) 0 dX0_keptSum_1 rfl rfl ?_
  refine zn_getI (pc := 2) fa_X0_25_3.1 fa_X0_25_3.2 dX0_keptSum_2 ?_
  refine zn_isub (pc := 5) dX0_keptSum_5 ?_
  refine zn_istore_n (pc := 6) (ls' := [(2, vI (x1 - (zI S 3 i0 4))), (0, vR 3 (some i0)), (1, vI x1)]) dX0_keptSum_6 rfl (Nat.le_of_ble_eq_true rfl) rfl ?_
  refine zn_iload_n (pc := 7) 0 dX0_keptSum_7 rfl rfl ?_
  have h2 := h0; clear h0
  refine zn_if_lt (pc := 8) (tgt := 29) dX0_keptSum_8 (by decide) (fun c1 => ?_) (fun c1 => ?_)
  · replace h2 := zif_t c1 h2
    refine zn_lconst (pc := 29) (x := 0) dX0_keptSum_29 (by decide) ?_
    have hz := Option.some.inj h2; clear h2; subst hz
    exact zn_lreturn (pc := 30) dX0_keptSum_30 rfl hp
  · replace h2 := zif_f c1 h2
    refine zn_iload_n (pc := 11) 0 dX0_keptSum_11 rfl rfl ?_
    refine zn_aload_n (pc := 12) 1 dX0_keptSum_12 rfl rfl ?_
    refine zn_getR (pc := 13) fa_X0_28_3.1 fa_X0_28_3.2 dX0_keptSum_13 ?_
    obtain ⟨i3, hi4, h5⟩ := zbd h2; clear h2
    rw [hi4]
    refine zn_alen (pc := 16) zk_23 rfl dX0_keptSum_16 ?_
    have h7 := h5; clear h5
    refine zn_icmp_ge (pc := 17) (tgt := 29) dX0_keptSum_17 (by decide) (fun c6 => ?_) (fun c6 => ?_)
    · replace h7 := zif_t c6 h7
      refine zn_lconst (pc := 29) (x := 0) dX0_keptSum_29 (by decide) ?_
      have hz := Option.some.inj h7; clear h7; subst hz
      exact zn_lreturn (pc := 30) dX0_keptSum_30 rfl hp
    · replace h7 := zif_f c6 h7
      refine zn_aload_n (pc := 20) 1 dX0_keptSum_20 rfl rfl ?_
      refine zn_getR (pc := 21) fa_X0_28_3.1 fa_X0_28_3.2 dX0_keptSum_21 ?_
      refine zn_iload_n (pc := 24) 0 dX0_keptSum_24 rfl rfl ?_
      obtain ⟨i8, hi9, h10⟩ := zbd h7; clear h7
      rw [hi9]
      obtain ⟨hb11, h12⟩ := zgdd h10; clear h10
      refine zn_laload (pc := 25) zk_23 dX0_keptSum_25 (zib_in hb11) ?_
      refine zn_goto (pc := 26) (tgt := 30) dX0_keptSum_26 (by decide) ?_
      have hz := Option.some.inj h12; clear h12; subst hz
      exact zn_lreturn (pc := 30) dX0_keptSum_30 rfl hp
theorem c_X9_was {G : zG} {i0 : Nat} {x1 : Int32} {x2 : Int32} {S : zH} {out : (Int64 × zH)} (h0 : f_X9_was i0 x1 x2 S = some out) : zct G M_X9_was 5 0 0 [vR 0 (some i0), vI x1, vI x2] S (zpo (some (vJ out.1)) out.2) := by
  refine zct_of (by decide) (Nat.le_of_ble_eq_true rfl) ?_
  show zn G M_X9_was 5 0 0 0 [(0, vR 0 (some i0)), (1, vI x1), (2, vI x2)] [] S _
  have hp : zpo (some (vJ out.1)) out.2 (some (vJ out.1)) out.2 := ⟨rfl, rfl⟩
  unfold f_X9_was at h0
  refine zn_aload_n (pc := 0) 0 dX9_was_0 rfl rfl ?_
  refine zn_iload_n (pc := 1) 1 dX9_was_1 rfl rfl ?_
  obtain ⟨o1, e2, h3⟩ := zbd h0; clear h0
  refine zn_cVv (pc := 2) (kc := 0) (ks := 0) (kc' := 0) (ks' := 0) (As := [vI x1]) (st := []) dX9_was_2 cs_X9_155 pc_0 rfl rfl (Nat.le_of_ble_eq_true rfl) ((c_X9_accountAt e2).mono (Nat.le_of_ble_eq_true rfl)) ?_
  refine zn_astore_n (pc := 5) (ls' := [(3, vR 3 o1), (0, vR 0 (some i0)), (1, vI x1), (2, vI x2)]) dX9_was_5 rfl (Nat.le_of_ble_eq_true rfl) rfl ?_
  refine zn_aload_n (pc := 6) 0 dX9_was_6 rfl rfl ?_
  have h6 := h3; clear h3
  refine zn_ifnonnull (pc := 7) (tgt := 16) dX9_was_7 (by decide) (fun i5 hr4 => ?_) (fun hr4 => ?_)
  · replace h6 := zop_s hr4 h6
    rw [hr4]
    refine zn_iload_n (pc := 16) 3 dX9_was_16 rfl rfl ?_
    refine zn_iconst (pc := 17) (x := 0) dX9_was_17 (by decide) ?_
    refine zn_aload_n (pc := 18) 1 dX9_was_18 rfl rfl ?_
    refine zn_getR (pc := 19) fa_X9_10_0.1 fa_X9_10_0.2 dX9_was_19 ?_
    obtain ⟨i10, hi11, h12⟩ := zbd h6; clear h6
    rw [hi11]
    refine zn_getI (pc := 22) fa_X9_71_1.1 fa_X9_71_1.2 dX9_was_22 ?_
    refine zn_iconst (pc := 25) (x := 1) dX9_was_25 (by decide) ?_
    refine zn_isub (pc := 26) dX9_was_26 ?_
    obtain ⟨o13, e14, h15⟩ := zbd h12; clear h12
    refine zn_cSv (pc := 27) (kc := 0) (ks := 0) (kc' := 0) (ks' := 0) (As := [vI x2, vI 0, vI ((zI S 1 i10 4) - 1)]) (st := []) dX9_was_27 cs_X9_74 rfl rfl (Nat.le_of_ble_eq_true rfl) ((c_X9_outside e14).mono (Nat.le_of_ble_eq_true rfl)) ?_
    refine zn_istore (pc := 30) (ls' := [(4, vI o13), (3, vR 3 (some i5)), (0, vR 0 (some i0)), (1, vI x1), (2, vI x2)]) dX9_was_30 (Nat.le_of_ble_eq_true rfl) rfl ?_
    refine zn_iload (pc := 32) 0 dX9_was_32 rfl ?_
    have h17 := h15; clear h15
    refine zn_if_eq (pc := 34) (tgt := 44) dX9_was_34 (by decide) (fun c16 => ?_) (fun c16 => ?_)
    · replace h17 := zif_t c16 h17
      refine zn_aload_n (pc := 44) 1 dX9_was_44 rfl rfl ?_
      refine zn_iload_n (pc := 45) 4 dX9_was_45 rfl rfl ?_
      obtain ⟨o18, e19, h20⟩ := zbd h17; clear h17
      refine zn_cVv (pc := 46) (kc := 0) (ks := 0) (kc' := 0) (ks' := 0) (As := [vI x2]) (st := []) dX9_was_46 cs_X9_173 pc_3 rfl rfl (Nat.le_of_ble_eq_true rfl) ((c_X0_keptSum e19).mono (Nat.le_of_ble_eq_true rfl)) ?_
      have hz := Option.some.inj h20; clear h20; subst hz
      exact zn_lreturn (pc := 49) dX9_was_49 rfl hp
    · replace h17 := zif_f c16 h17
      refine zn_aload_n (pc := 37) 2 dX9_was_37 rfl rfl ?_
      refine zn_iload (pc := 38) 0 dX9_was_38 rfl ?_
      obtain ⟨o21, e22, h23⟩ := zbd h17; clear h17
      refine zn_cVv (pc := 40) (kc := 0) (ks := 0) (kc' := 0) (ks' := 0) (As := [vI o13]) (st := []) dX9_was_40 cs_X9_134 pc_0 rfl rfl (Nat.le_of_ble_eq_true rfl) ((c_X9_refuseLong e22).mono (Nat.le_of_ble_eq_true rfl)) ?_
      have hz := Option.some.inj h23; clear h23; subst hz
      exact zn_lreturn (pc := 43) dX9_was_43 rfl hp
  · replace h6 := zop_n hr4 h6
    rw [hr4]
    refine zn_aload_n (pc := 10) 1 dX9_was_10 rfl rfl ?_
    refine zn_iconst (pc := 11) (x := (-1)) dX9_was_11 (by decide) ?_
    obtain ⟨o7, e8, h9⟩ := zbd h6; clear h6
    refine zn_cVv (pc := 12) (kc := 0) (ks := 0) (kc' := 0) (ks' := 0) (As := [vI (-1)]) (st := []) dX9_was_12 cs_X9_134 pc_0 rfl rfl (Nat.le_of_ble_eq_true rfl) ((c_X9_refuseLong e8).mono (Nat.le_of_ble_eq_true rfl)) ?_
    have hz := Option.some.inj h9; clear h9; subst hz
    exact zn_lreturn (pc := 15) dX9_was_15 rfl hp
theorem c_X9_accountOf {G : zG} {i0 : Nat} {x1 : Int32} {x2 : Int32} {S : zH} {out : (Int32 × zH)} (h0 : f_X9_accountOf i0 x1 x2 S = some out) : zct G M_X9_accountOf 5 0 0 [vR 0 (some i0), vI x1, vI x2] S (zpo (some (vI out.1)) out.2) := by
  refine zct_of (by decide) (Nat.le_of_ble_eq_true rfl) ?_
  show zn G M_X9_accountOf 5 0 0 0 [(0, vR 0 (some i0)), (1, vI x1), (2, vI x2)] [] S _
  have hp : zpo (some (vI out.1)) out.2 (some (vI out.1)) out.2 := ⟨rfl, rfl⟩
  unfold f_X9_accountOf at h0
  refine zn_aload_n (pc := 0) 0 dX9_accountOf_0 rfl rfl ?_
  refine zn_iload_n (pc := 1) 1 dX9_accountOf_1 rfl rfl ?_
  obtain ⟨o1, e2, h3⟩ := zbd h0; clear h0
  refine zn_cVv (pc := 2) (kc := 0) (ks := 0) (kc' := 0) (ks' := 0) (As := [vI x1]) (st := []) dX9_accountOf_2 cs_X9_155 pc_0 rfl rfl (Nat.le_of_ble_eq_true rfl) ((c_X9_accountAt e2).mono (Nat.le_of_ble_eq_true rfl)) ?_
  refine zn_astore_n (pc := 5) (ls' := [(3, vR 3 o1), (0, vR 0 (some i0)), (1, vI x1), (2, vI x2)]) dX9_accountOf_5 rfl (Nat.le_of_ble_eq_true rfl) rfl ?_
  refine zn_aload_n (pc := 6) 0 dX9_accountOf_6 rfl rfl ?_
  have h6 := h3; clear h3
  refine zn_ifnonnull (pc := 7) (tgt := 16) dX9_accountOf_7 (by decide) (fun i5 hr4 => ?_) (fun hr4 => ?_)
  · replace h6 := zop_s hr4 h6
    rw [hr4]
    refine zn_iload_n (pc := 16) 3 dX9_accountOf_16 rfl rfl ?_
    have h11 := h6; clear h6
    by_cases c10 : x2 = 0
    · replace h11 := zif_t c10 h11
      refine zn_tsIn (pc := 17) (tgt := 60) (off := 43) dX9_accountOf_17 c10 (by decide) (by decide) ?_
      refine zn_aload_n (pc := 60) 0 dX9_accountOf_60 rfl rfl ?_
      refine zn_getR (pc := 61) fa_X9_176_3.1 fa_X9_176_3.2 dX9_accountOf_61 ?_
      obtain ⟨i12, hi13, h14⟩ := zbd h11; clear h11
      rw [hi13]
      refine zn_getI (pc := 64) fa_X9_180_2.1 fa_X9_180_2.2 dX9_accountOf_64 ?_
      have hz := Option.some.inj h14; clear h14; subst hz
      exact zn_ireturn (pc := 67) dX9_accountOf_67 rfl hp
    · replace h11 := zif_f c10 h11
      have h16 := h11; clear h11
      by_cases c15 : x2 = 1
      · replace h16 := zif_t c15 h16
        refine zn_tsIn (pc := 17) (tgt := 68) (off := 51) dX9_accountOf_17 c15 (by decide) (by decide) ?_
        refine zn_aload_n (pc := 68) 0 dX9_accountOf_68 rfl rfl ?_
        refine zn_getI (pc := 69) fa_X9_159_3.1 fa_X9_159_3.2 dX9_accountOf_69 ?_
        have hz := Option.some.inj h16; clear h16; subst hz
        exact zn_ireturn (pc := 72) dX9_accountOf_72 rfl hp
      · replace h16 := zif_f c15 h16
        have h18 := h16; clear h16
        by_cases c17 : x2 = 2
        · replace h18 := zif_t c17 h18
          refine zn_tsIn (pc := 17) (tgt := 73) (off := 56) dX9_accountOf_17 c17 (by decide) (by decide) ?_
          refine zn_aload_n (pc := 73) 0 dX9_accountOf_73 rfl rfl ?_
          refine zn_getR (pc := 74) fa_X9_181_3.1 fa_X9_181_3.2 dX9_accountOf_74 ?_
          have h21 := h18; clear h18
          refine zn_ifnonnull (pc := 77) (tgt := 85) dX9_accountOf_77 (by decide) (fun i20 hr19 => ?_) (fun hr19 => ?_)
          · replace h21 := zop_s hr19 h21
            refine zn_aload_n (pc := 85) 0 dX9_accountOf_85 rfl rfl ?_
            refine zn_getR (pc := 86) fa_X9_181_3.1 fa_X9_181_3.2 dX9_accountOf_86 ?_
            obtain ⟨i22, hi23, h24⟩ := zbd h21; clear h21
            rw [hi23]
            refine zn_getI (pc := 89) fa_X9_150_3.1 fa_X9_150_3.2 dX9_accountOf_89 ?_
            have hz := Option.some.inj h24; clear h24; subst hz
            exact zn_ireturn (pc := 92) dX9_accountOf_92 rfl hp
          · replace h21 := zop_n hr19 h21
            refine zn_bipush (pc := 80) (x := (-9)) dX9_accountOf_80 (by decide) ?_
            refine zn_goto (pc := 82) (tgt := 92) dX9_accountOf_82 (by decide) ?_
            have hz := Option.some.inj h21; clear h21; subst hz
            exact zn_ireturn (pc := 92) dX9_accountOf_92 rfl hp
        · replace h18 := zif_f c17 h18
          have h26 := h18; clear h18
          by_cases c25 : x2 = 3
          · replace h26 := zif_t c25 h26
            refine zn_tsIn (pc := 17) (tgt := 93) (off := 76) dX9_accountOf_17 c25 (by decide) (by decide) ?_
            refine zn_aload_n (pc := 93) 0 dX9_accountOf_93 rfl rfl ?_
            refine zn_getR (pc := 94) fa_X9_181_3.1 fa_X9_181_3.2 dX9_accountOf_94 ?_
            have h29 := h26; clear h26
            refine zn_ifnonnull (pc := 97) (tgt := 105) dX9_accountOf_97 (by decide) (fun i28 hr27 => ?_) (fun hr27 => ?_)
            · replace h29 := zop_s hr27 h29
              refine zn_aload_n (pc := 105) 0 dX9_accountOf_105 rfl rfl ?_
              refine zn_getI (pc := 106) fa_X9_185_3.1 fa_X9_185_3.2 dX9_accountOf_106 ?_
              have hz := Option.some.inj h29; clear h29; subst hz
              exact zn_ireturn (pc := 109) dX9_accountOf_109 rfl hp
            · replace h29 := zop_n hr27 h29
              refine zn_bipush (pc := 100) (x := (-9)) dX9_accountOf_100 (by decide) ?_
              refine zn_goto (pc := 102) (tgt := 109) dX9_accountOf_102 (by decide) ?_
              have hz := Option.some.inj h29; clear h29; subst hz
              exact zn_ireturn (pc := 109) dX9_accountOf_109 rfl hp
          · replace h26 := zif_f c25 h26
            have h31 := h26; clear h26
            by_cases c30 : x2 = 4
            · replace h31 := zif_t c30 h31
              refine zn_tsIn (pc := 17) (tgt := 110) (off := 93) dX9_accountOf_17 c30 (by decide) (by decide) ?_
              refine zn_aload_n (pc := 110) 0 dX9_accountOf_110 rfl rfl ?_
              obtain ⟨o32, e33, h34⟩ := zbd h31; clear h31
              refine zn_cSv (pc := 111) (kc := 0) (ks := 0) (kc' := 0) (ks' := 0) (As := [vR 3 (some i5)]) (st := []) dX9_accountOf_111 cs_X9_188 rfl rfl (Nat.le_of_ble_eq_true rfl) ((c_X9_lastOf e33).mono (Nat.le_of_ble_eq_true rfl)) ?_
              obtain ⟨i35, hi36, h37⟩ := zbd h34; clear h34
              rw [hi36]
              refine zn_getI (pc := 114) fa_X9_150_3.1 fa_X9_150_3.2 dX9_accountOf_114 ?_
              have hz := Option.some.inj h37; clear h37; subst hz
              exact zn_ireturn (pc := 117) dX9_accountOf_117 rfl hp
            · replace h31 := zif_f c30 h31
              have h39 := h31; clear h31
              by_cases c38 : x2 = 5
              · replace h39 := zif_t c38 h39
                refine zn_tsIn (pc := 17) (tgt := 118) (off := 101) dX9_accountOf_17 c38 (by decide) (by decide) ?_
                refine zn_aload_n (pc := 118) 0 dX9_accountOf_118 rfl rfl ?_
                refine zn_getI (pc := 119) fa_X9_166_3.1 fa_X9_166_3.2 dX9_accountOf_119 ?_
                have hz := Option.some.inj h39; clear h39; subst hz
                exact zn_ireturn (pc := 122) dX9_accountOf_122 rfl hp
              · replace h39 := zif_f c38 h39
                have h41 := h39; clear h39
                by_cases c40 : x2 = 6
                · replace h41 := zif_t c40 h41
                  refine zn_tsIn (pc := 17) (tgt := 123) (off := 106) dX9_accountOf_17 c40 (by decide) (by decide) ?_
                  refine zn_aload_n (pc := 123) 0 dX9_accountOf_123 rfl rfl ?_
                  refine zn_getI (pc := 124) fa_X9_192_3.1 fa_X9_192_3.2 dX9_accountOf_124 ?_
                  have hz := Option.some.inj h41; clear h41; subst hz
                  exact zn_ireturn (pc := 127) dX9_accountOf_127 rfl hp
                · replace h41 := zif_f c40 h41
                  refine zn_tsOut (pc := 17) (tgt := 128) dX9_accountOf_17 ?_ (by decide) ?_
                  · have t0 := lv_neT c10 (show (0 : Int32).toInt = 0 by decide)
                    have t1 := lv_neT c15 (show (1 : Int32).toInt = 1 by decide)
                    have t2 := lv_neT c17 (show (2 : Int32).toInt = 2 by decide)
                    have t3 := lv_neT c25 (show (3 : Int32).toInt = 3 by decide)
                    have t4 := lv_neT c30 (show (4 : Int32).toInt = 4 by decide)
                    have t5 := lv_neT c38 (show (5 : Int32).toInt = 5 by decide)
                    have t6 := lv_neT c40 (show (6 : Int32).toInt = 6 by decide)
                    omega
                  · refine zn_aload_n (pc := 128) 1 dX9_accountOf_128 rfl rfl ?_
                    refine zn_bipush (pc := 129) (x := (-2)) dX9_accountOf_129 (by decide) ?_
                    obtain ⟨o42, e43, h44⟩ := zbd h41; clear h41
                    refine zn_cVv (pc := 131) (kc := 0) (ks := 0) (kc' := 0) (ks' := 0) (As := [vI (-2)]) (st := []) dX9_accountOf_131 cs_X9_78 pc_0 rfl rfl (Nat.le_of_ble_eq_true rfl) ((c_X9_refuse e43).mono (Nat.le_of_ble_eq_true rfl)) ?_
                    have hz := Option.some.inj h44; clear h44; subst hz
                    exact zn_ireturn (pc := 134) dX9_accountOf_134 rfl hp
  · replace h6 := zop_n hr4 h6
    rw [hr4]
    refine zn_aload_n (pc := 10) 1 dX9_accountOf_10 rfl rfl ?_
    refine zn_iconst (pc := 11) (x := (-1)) dX9_accountOf_11 (by decide) ?_
    obtain ⟨o7, e8, h9⟩ := zbd h6; clear h6
    refine zn_cVv (pc := 12) (kc := 0) (ks := 0) (kc' := 0) (ks' := 0) (As := [vI (-1)]) (st := []) dX9_accountOf_12 cs_X9_78 pc_0 rfl rfl (Nat.le_of_ble_eq_true rfl) ((c_X9_refuse e8).mono (Nat.le_of_ble_eq_true rfl)) ?_
    have hz := Option.some.inj h9; clear h9; subst hz
    exact zn_ireturn (pc := 15) dX9_accountOf_15 rfl hp
theorem c_X9_sends {G : zG} {i0 : Nat} {x1 : Int32} {x2 : Int32} {S : zH} {out : (Int32 × zH)} (h0 : f_X9_sends i0 x1 x2 S = some out) : zct G M_X9_sends 6 0 0 [vR 0 (some i0), vI x1, vI x2] S (zpo (some (vI out.1)) out.2) := by
  refine zct_of (by decide) (Nat.le_of_ble_eq_true rfl) ?_
  show zn G M_X9_sends 6 0 0 0 [(0, vR 0 (some i0)), (1, vI x1), (2, vI x2)] [] S _
  have hp : zpo (some (vI out.1)) out.2 (some (vI out.1)) out.2 := ⟨rfl, rfl⟩
  unfold f_X9_sends at h0
  refine zn_aload_n (pc := 0) 0 dX9_sends_0 rfl rfl ?_
  refine zn_iload_n (pc := 1) 1 dX9_sends_1 rfl rfl ?_
  obtain ⟨o1, e2, h3⟩ := zbd h0; clear h0
  refine zn_cVv (pc := 2) (kc := 0) (ks := 0) (kc' := 0) (ks' := 0) (As := [vI x1]) (st := []) dX9_sends_2 cs_X9_155 pc_0 rfl rfl (Nat.le_of_ble_eq_true rfl) ((c_X9_accountAt e2).mono (Nat.le_of_ble_eq_true rfl)) ?_
  refine zn_astore_n (pc := 5) (ls' := [(3, vR 3 o1), (0, vR 0 (some i0)), (1, vI x1), (2, vI x2)]) dX9_sends_5 rfl (Nat.le_of_ble_eq_true rfl) rfl ?_
  refine zn_aload_n (pc := 6) 0 dX9_sends_6 rfl rfl ?_
  have h6 := h3; clear h3
  refine zn_ifnonnull (pc := 7) (tgt := 16) dX9_sends_7 (by decide) (fun i5 hr4 => ?_) (fun hr4 => ?_)
  · replace h6 := zop_s hr4 h6
    rw [hr4]
    refine zn_iload_n (pc := 16) 3 dX9_sends_16 rfl rfl ?_
    refine zn_iconst (pc := 17) (x := 0) dX9_sends_17 (by decide) ?_
    refine zn_sipush (pc := 18) (x := 1500) dX9_sends_18 (by decide) ?_
    obtain ⟨o10, e11, h12⟩ := zbd h6; clear h6
    refine zn_cSv (pc := 21) (kc := 0) (ks := 0) (kc' := 0) (ks' := 0) (As := [vI x2, vI 0, vI 1500]) (st := []) dX9_sends_21 cs_X9_74 rfl rfl (Nat.le_of_ble_eq_true rfl) ((c_X9_outside e11).mono (Nat.le_of_ble_eq_true rfl)) ?_
    refine zn_istore (pc := 24) (ls' := [(4, vI o10), (3, vR 3 (some i5)), (0, vR 0 (some i0)), (1, vI x1), (2, vI x2)]) dX9_sends_24 (Nat.le_of_ble_eq_true rfl) rfl ?_
    refine zn_iload (pc := 26) 0 dX9_sends_26 rfl ?_
    have h14 := h12; clear h12
    refine zn_if_eq (pc := 28) (tgt := 38) dX9_sends_28 (by decide) (fun c13 => ?_) (fun c13 => ?_)
    · replace h14 := zif_t c13 h14
      refine zn_aload_n (pc := 38) 2 dX9_sends_38 rfl rfl ?_
      refine zn_iload_n (pc := 39) 4 dX9_sends_39 rfl rfl ?_
      obtain ⟨o15, e16, h17⟩ := zbd h14; clear h14
      refine zn_cV0 (pc := 40) (kc := 0) (ks := 0) (kc' := 0) (ks' := 0) (As := [vI x2]) (st := []) dX9_sends_40 cs_X9_92 pc_0 rfl rfl (Nat.le_of_ble_eq_true rfl) ((c_X9_findRoutes e16).mono (Nat.le_of_ble_eq_true rfl)) ?_
      refine zn_aload_n (pc := 43) 1 dX9_sends_43 rfl rfl ?_
      refine zn_getR (pc := 44) fa_X9_195_3.1 fa_X9_195_3.2 dX9_sends_44 ?_
      have h20 := h17; clear h17
      refine zn_ifnonnull (pc := 47) (tgt := 55) dX9_sends_47 (by decide) (fun i19 hr18 => ?_) (fun hr18 => ?_)
      · replace h20 := zop_s hr18 h20
        refine zn_aload_n (pc := 55) 1 dX9_sends_55 rfl rfl ?_
        refine zn_getR (pc := 56) fa_X9_195_3.1 fa_X9_195_3.2 dX9_sends_56 ?_
        obtain ⟨i21, hi22, h23⟩ := zbd h20; clear h20
        rw [hi22]
        refine zn_getI (pc := 59) fa_X9_150_3.1 fa_X9_150_3.2 dX9_sends_59 ?_
        have hz := Option.some.inj h23; clear h23; subst hz
        exact zn_ireturn (pc := 62) dX9_sends_62 rfl hp
      · replace h20 := zop_n hr18 h20
        refine zn_bipush (pc := 50) (x := (-9)) dX9_sends_50 (by decide) ?_
        refine zn_goto (pc := 52) (tgt := 62) dX9_sends_52 (by decide) ?_
        have hz := Option.some.inj h20; clear h20; subst hz
        exact zn_ireturn (pc := 62) dX9_sends_62 rfl hp
    · replace h14 := zif_f c13 h14
      refine zn_aload_n (pc := 31) 2 dX9_sends_31 rfl rfl ?_
      refine zn_iload (pc := 32) 0 dX9_sends_32 rfl ?_
      obtain ⟨o24, e25, h26⟩ := zbd h14; clear h14
      refine zn_cVv (pc := 34) (kc := 0) (ks := 0) (kc' := 0) (ks' := 0) (As := [vI o10]) (st := []) dX9_sends_34 cs_X9_78 pc_0 rfl rfl (Nat.le_of_ble_eq_true rfl) ((c_X9_refuse e25).mono (Nat.le_of_ble_eq_true rfl)) ?_
      have hz := Option.some.inj h26; clear h26; subst hz
      exact zn_ireturn (pc := 37) dX9_sends_37 rfl hp
  · replace h6 := zop_n hr4 h6
    rw [hr4]
    refine zn_aload_n (pc := 10) 1 dX9_sends_10 rfl rfl ?_
    refine zn_iconst (pc := 11) (x := (-1)) dX9_sends_11 (by decide) ?_
    obtain ⟨o7, e8, h9⟩ := zbd h6; clear h6
    refine zn_cVv (pc := 12) (kc := 0) (ks := 0) (kc' := 0) (ks' := 0) (As := [vI (-1)]) (st := []) dX9_sends_12 cs_X9_78 pc_0 rfl rfl (Nat.le_of_ble_eq_true rfl) ((c_X9_refuse e8).mono (Nat.le_of_ble_eq_true rfl)) ?_
    have hz := Option.some.inj h9; clear h9; subst hz
    exact zn_ireturn (pc := 15) dX9_sends_15 rfl hp
theorem c_X8_add {G : zG} {i0 : Nat} {x1 : Int32} {S : zH} {out : zH} (h0 : f_X8_add i0 x1 S = some out) : zct G M_X8_add 0 0 0 [vR 8 (some i0), vI x1] S (zpo none out) := by
  refine zct_of (by decide) (Nat.le_of_ble_eq_true rfl) ?_
  show zn G M_X8_add 0 0 0 0 [(0, vR 8 (some i0)), (1, vI x1)] [] S _
  have hp : zpo none out none out := ⟨rfl, rfl⟩
  unfold f_X8_add at h0
  refine zn_aload_n (pc := 0) 0 dX8_add_0 rfl rfl ?_
  refine zn_getI (pc := 1) fa_X8_18_8.1 fa_X8_18_8.2 dX8_add_1 ?_
  have h2 := h0; clear h0
  refine zn_if_lt (pc := 4) (tgt := 39) dX8_add_4 (by decide) (fun c1 => ?_) (fun c1 => ?_)
  · replace h2 := zif_t c1 h2
    have hz := Option.some.inj h2; clear h2; subst hz
    exact zn_return (pc := 39) dX8_add_39 rfl hp
  · replace h2 := zif_f c1 h2
    refine zn_aload_n (pc := 7) 0 dX8_add_7 rfl rfl ?_
    refine zn_getI (pc := 8) fa_X8_18_8.1 fa_X8_18_8.2 dX8_add_8 ?_
    refine zn_aload_n (pc := 11) 0 dX8_add_11 rfl rfl ?_
    refine zn_getR (pc := 12) fa_X8_9_8.1 fa_X8_9_8.2 dX8_add_12 ?_
    obtain ⟨i3, hi4, h5⟩ := zbd h2; clear h2
    rw [hi4]
    refine zn_alen (pc := 15) zk_28 rfl dX8_add_15 ?_
    have h7 := h5; clear h5
    refine zn_icmp_ge (pc := 16) (tgt := 39) dX8_add_16 (by decide) (fun c6 => ?_) (fun c6 => ?_)
    · replace h7 := zif_t c6 h7
      have hz := Option.some.inj h7; clear h7; subst hz
      exact zn_return (pc := 39) dX8_add_39 rfl hp
    · replace h7 := zif_f c6 h7
      refine zn_aload_n (pc := 19) 0 dX8_add_19 rfl rfl ?_
      refine zn_getR (pc := 20) fa_X8_9_8.1 fa_X8_9_8.2 dX8_add_20 ?_
      refine zn_aload_n (pc := 23) 0 dX8_add_23 rfl rfl ?_
      refine zn_getI (pc := 24) fa_X8_18_8.1 fa_X8_18_8.2 dX8_add_24 ?_
      refine zn_iload_n (pc := 27) 1 dX8_add_27 rfl rfl ?_
      obtain ⟨i8, hi9, h10⟩ := zbd h7; clear h7
      rw [hi9]
      obtain ⟨hb11, h12⟩ := zgdd h10; clear h10
      obtain ⟨S13, hS14, h15⟩ := zltd h12; clear h12
      refine zn_iastore (pc := 28) zk_28 dX8_add_28 (zib_in hb11) hS14 ?_
      refine zn_aload_n (pc := 29) 0 dX8_add_29 rfl rfl ?_
      refine zn_dup (pc := 30) dX8_add_30 rfl ?_
      refine zn_getI (pc := 31) fa_X8_18_8.1 fa_X8_18_8.2 dX8_add_31 ?_
      refine zn_iconst (pc := 34) (x := 1) dX8_add_34 (by decide) ?_
      refine zn_iadd (pc := 35) dX8_add_35 ?_
      obtain ⟨S16, hS17, h18⟩ := zltd h15; clear h15
      refine zn_putI (pc := 36) fp_X8_18_8.1 (fp_X8_18_8 (nm := "")).2 dX8_add_36 hS17 ?_
      have hz := Option.some.inj h18; clear h18; subst hz
      exact zn_return (pc := 39) dX8_add_39 rfl hp
theorem b_X9_feed_32 {G : zG} {Post : Option zV → zH → Prop} {i0 : Nat} {S : zH} {out : (Int32 × zH)} (h0 : f_X9_feed_32 i0 S = some out) (hp : Post (some (vI out.1)) out.2) : zn G M_X9_feed 1 0 0 32 [(0, vR 0 (some i0))] [] S Post := by
  unfold f_X9_feed_32 at h0
  refine zn_aload_n (pc := 32) 0 dX9_feed_32 rfl rfl ?_
  refine zn_bipush (pc := 33) (x := (-6)) dX9_feed_33 (by decide) ?_
  obtain ⟨o1, e2, h3⟩ := zbd h0; clear h0
  refine zn_cVv (pc := 35) (kc := 0) (ks := 0) (kc' := 0) (ks' := 0) (As := [vI (-6)]) (st := []) dX9_feed_35 cs_X9_78 pc_0 rfl rfl (Nat.le_of_ble_eq_true rfl) ((c_X9_refuse e2).mono (Nat.le_of_ble_eq_true rfl)) ?_
  have hz := Option.some.inj h3; clear h3; subst hz
  exact zn_ireturn (pc := 38) dX9_feed_38 rfl hp
theorem b_X9_feed_42 {G : zG} {Post : Option zV → zH → Prop} : ∀ (n : Nat) (i0 : Nat) (x1 : Int32) (x2 : Int64) (x4 : Int32) (S : zH) (out : (Int32 × zH)), f_X9_feed_42 n i0 x1 x2 x4 S = some out → Post (some (vI out.1)) out.2 → zn G M_X9_feed 1 0 0 42 [(0, vR 0 (some i0)), (1, vI x1), (2, vJ x2), (4, vI x4)] [] S Post := by
  intro n
  induction n with
  | zero => intro i0 x1 x2 x4 S out h0 hp; exact (nomatch (show (none : Option _) = some out from h0))
  | succ n ih =>
    intro i0 x1 x2 x4 S out h0 hp
    rw [f_X9_feed_42] at h0
    refine zn_iload (pc := 42) 3 dX9_feed_42 rfl ?_
    refine zn_iload_n (pc := 44) 1 dX9_feed_44 rfl rfl ?_
    have h2 := h0; clear h0
    refine zn_icmp_ge (pc := 45) (tgt := 73) dX9_feed_45 (by decide) (fun c1 => ?_) (fun c1 => ?_)
    · replace h2 := zif_t c1 h2
      refine zn_aload_n (pc := 73) 0 dX9_feed_73 rfl rfl ?_
      refine zn_getR (pc := 74) fa_X9_48_0.1 fa_X9_48_0.2 dX9_feed_74 ?_
      obtain ⟨i3, hi4, h5⟩ := zbd h2; clear h2
      rw [hi4]
      refine zn_getI (pc := 77) fa_X9_198_8.1 fa_X9_198_8.2 dX9_feed_77 ?_
      have hz := Option.some.inj h5; clear h5; subst hz
      exact zn_ireturn (pc := 80) dX9_feed_80 rfl hp
    · replace h2 := zif_f c1 h2
      refine zn_aload_n (pc := 48) 0 dX9_feed_48 rfl rfl ?_
      refine zn_getR (pc := 49) fa_X9_48_0.1 fa_X9_48_0.2 dX9_feed_49 ?_
      refine zn_lload_n (pc := 52) 2 dX9_feed_52 rfl rfl ?_
      refine zn_bipush (pc := 53) (x := 8) dX9_feed_53 (by decide) ?_
      refine zn_iload (pc := 55) 3 dX9_feed_55 rfl ?_
      refine zn_imul (pc := 57) dX9_feed_57 ?_
      refine zn_lshr (pc := 58) dX9_feed_58 ?_
      refine zn_ldc2 (pc := 59) dX9_feed_59 w2_X9_200 ?_
      refine zn_land (pc := 62) dX9_feed_62 ?_
      refine zn_l2i (pc := 63) dX9_feed_63 ?_
      obtain ⟨i6, hi7, h8⟩ := zbd h2; clear h2
      rw [hi7]
      obtain ⟨o9, e10, h11⟩ := zbd h8; clear h8
      refine zn_cV0 (pc := 64) (kc := 0) (ks := 0) (kc' := 0) (ks' := 0) (As := [vI (Int64.toInt32 ((x2 >>> (Int32.toInt64 (8 * x4) &&& 63)) &&& 255))]) (st := []) dX9_feed_64 cs_X9_202 pc_8 rfl rfl (Nat.le_of_ble_eq_true rfl) ((c_X8_add e10).mono (Nat.le_of_ble_eq_true rfl)) ?_
      refine zn_iinc (pc := 67) 3 (y := x4 + 1) (ls' := [(4, vI (x4 + 1)), (0, vR 0 (some i0)), (1, vI x1), (2, vJ x2)]) dX9_feed_67 rfl rfl (Nat.le_of_ble_eq_true rfl) rfl ?_
      refine zn_goto (pc := 70) (tgt := 42) dX9_feed_70 (by decide) ?_
      refine zn_pick [1, 2, 3, 0] rfl ?_
      exact ih _ _ _ _ _ _ h11 hp
theorem c_X9_feed {G : zG} {i0 : Nat} {x1 : Int32} {x2 : Int64} {S : zH} {out : (Int32 × zH)} (h0 : f_X9_feed i0 x1 x2 S = some out) : zct G M_X9_feed 1 0 0 [vR 0 (some i0), vI x1, vJ x2] S (zpo (some (vI out.1)) out.2) := by
  refine zct_of (by decide) (Nat.le_of_ble_eq_true rfl) ?_
  show zn G M_X9_feed 1 0 0 0 [(0, vR 0 (some i0)), (1, vI x1), (2, vJ x2)] [] S _
  have hp : zpo (some (vI out.1)) out.2 (some (vI out.1)) out.2 := ⟨rfl, rfl⟩
  unfold f_X9_feed at h0
  refine zn_iload_n (pc := 0) 1 dX9_feed_0 rfl rfl ?_
  refine zn_iconst (pc := 1) (x := 1) dX9_feed_1 (by decide) ?_
  have h13 := h0; clear h0
  refine zn_icmp_ge (pc := 2) (tgt := 12) dX9_feed_2 (by decide) (fun c12 => ?_) (fun c12 => ?_)
  · replace h13 := zif_t c12 h13
    refine zn_iload_n (pc := 12) 1 dX9_feed_12 rfl rfl ?_
    refine zn_bipush (pc := 13) (x := 8) dX9_feed_13 (by decide) ?_
    have h15 := h13; clear h13
    refine zn_icmp_gt (pc := 15) (tgt := 32) dX9_feed_15 (by decide) (fun c14 => ?_) (fun c14 => ?_)
    · replace h15 := zif_t c14 h15
      refine zn_pick [0] rfl ?_
      exact b_X9_feed_32  h15 hp
    · replace h15 := zif_f c14 h15
      refine zn_aload_n (pc := 18) 0 dX9_feed_18 rfl rfl ?_
      refine zn_getR (pc := 19) fa_X9_48_0.1 fa_X9_48_0.2 dX9_feed_19 ?_
      obtain ⟨i16, hi17, h18⟩ := zbd h15; clear h15
      rw [hi17]
      refine zn_getI (pc := 22) fa_X9_198_8.1 fa_X9_198_8.2 dX9_feed_22 ?_
      refine zn_iload_n (pc := 25) 1 dX9_feed_25 rfl rfl ?_
      refine zn_iadd (pc := 26) dX9_feed_26 ?_
      refine zn_bipush (pc := 27) (x := 60) dX9_feed_27 (by decide) ?_
      have h20 := h18; clear h18
      refine zn_icmp_le (pc := 29) (tgt := 39) dX9_feed_29 (by decide) (fun c19 => ?_) (fun c19 => ?_)
      · replace h20 := zif_t c19 h20
        refine zn_iconst (pc := 39) (x := 0) dX9_feed_39 (by decide) ?_
        refine zn_istore (pc := 40) (ls' := [(4, vI 0), (0, vR 0 (some i0)), (1, vI x1), (2, vJ x2)]) dX9_feed_40 (Nat.le_of_ble_eq_true rfl) rfl ?_
        refine zn_pick [1, 2, 3, 0] rfl ?_
        exact b_X9_feed_42  fu _ _ _ _ _ _ h20 hp
      · replace h20 := zif_f c19 h20
        refine zn_pick [0] rfl ?_
        exact b_X9_feed_32  h20 hp
  · replace h13 := zif_f c12 h13
    refine zn_aload_n (pc := 5) 0 dX9_feed_5 rfl rfl ?_
    refine zn_bipush (pc := 6) (x := (-4)) dX9_feed_6 (by decide) ?_
    obtain ⟨o21, e22, h23⟩ := zbd h13; clear h13
    refine zn_cVv (pc := 8) (kc := 0) (ks := 0) (kc' := 0) (ks' := 0) (As := [vI (-4)]) (st := []) dX9_feed_8 cs_X9_78 pc_0 rfl rfl (Nat.le_of_ble_eq_true rfl) ((c_X9_refuse e22).mono (Nat.le_of_ble_eq_true rfl)) ?_
    have hz := Option.some.inj h23; clear h23; subst hz
    exact zn_ireturn (pc := 11) dX9_feed_11 rfl hp
theorem c_X6_size {G : zG} {i0 : Nat} {S : zH} {out : Int32} (h0 : f_X6_size i0 S = some out) : zct G M_X6_size 1 0 0 [vR 7 (some i0)] S (zpo (some (vI out)) S) := by
  refine zct_of (by decide) (Nat.le_of_ble_eq_true rfl) ?_
  show zn G M_X6_size 1 0 0 0 [(0, vR 7 (some i0))] [] S _
  have hp : zpo (some (vI out)) S (some (vI out)) S := ⟨rfl, rfl⟩
  unfold f_X6_size at h0
  refine zn_aload_n (pc := 0) 0 dX6_size_0 rfl rfl ?_
  refine zn_getR (pc := 1) fa_X6_12_7.1 fa_X6_12_7.2 dX6_size_1 ?_
  obtain ⟨i1, hi2, h3⟩ := zbd h0; clear h0
  rw [hi2]
  obtain ⟨o4, e5, h6⟩ := zbd h3; clear h3
  refine zn_cVv (pc := 4) (kc := 0) (ks := 0) (kc' := 0) (ks' := 0) (As := []) (st := []) dX6_size_4 cls_X6_33 pc_13 rfl rfl (Nat.le_of_ble_eq_true rfl) (zc_size (p := 13) (by decide) (Nat.le_of_ble_eq_true rfl) e5) ?_
  have hz := Option.some.inj h6; clear h6; subst hz
  exact zn_ireturn (pc := 7) dX6_size_7 rfl hp
theorem c_X8_next {G : zG} {i0 : Nat} {S : zH} {out : Int32} (h0 : f_X8_next i0 S = some out) : zct G M_X8_next 0 0 0 [vR 8 (some i0)] S (zpo (some (vI out)) S) := by
  refine zct_of (by decide) (Nat.le_of_ble_eq_true rfl) ?_
  show zn G M_X8_next 0 0 0 0 [(0, vR 8 (some i0))] [] S _
  have hp : zpo (some (vI out)) S (some (vI out)) S := ⟨rfl, rfl⟩
  unfold f_X8_next at h0
  refine zn_aload_n (pc := 0) 0 dX8_next_0 rfl rfl ?_
  refine zn_getI (pc := 1) fa_X8_40_8.1 fa_X8_40_8.2 dX8_next_1 ?_
  refine zn_bipush (pc := 4) (x := (-9)) dX8_next_4 (by decide) ?_
  have h2 := h0; clear h0
  refine zn_icmp_ne (pc := 6) (tgt := 51) dX8_next_6 (by decide) (fun c1 => ?_) (fun c1 => ?_)
  · replace h2 := zif_f c1 h2
    refine zn_iconst (pc := 51) (x := (-1)) dX8_next_51 (by decide) ?_
    have hz := Option.some.inj h2; clear h2; subst hz
    exact zn_ireturn (pc := 52) dX8_next_52 rfl hp
  · replace h2 := zif_t c1 h2
    refine zn_aload_n (pc := 9) 0 dX8_next_9 rfl rfl ?_
    refine zn_getI (pc := 10) fa_X8_37_8.1 fa_X8_37_8.2 dX8_next_10 ?_
    have h4 := h2; clear h2
    refine zn_if_lt (pc := 13) (tgt := 51) dX8_next_13 (by decide) (fun c3 => ?_) (fun c3 => ?_)
    · replace h4 := zif_t c3 h4
      refine zn_iconst (pc := 51) (x := (-1)) dX8_next_51 (by decide) ?_
      have hz := Option.some.inj h4; clear h4; subst hz
      exact zn_ireturn (pc := 52) dX8_next_52 rfl hp
    · replace h4 := zif_f c3 h4
      refine zn_aload_n (pc := 16) 0 dX8_next_16 rfl rfl ?_
      refine zn_getI (pc := 17) fa_X8_37_8.1 fa_X8_37_8.2 dX8_next_17 ?_
      refine zn_aload_n (pc := 20) 0 dX8_next_20 rfl rfl ?_
      refine zn_getI (pc := 21) fa_X8_18_8.1 fa_X8_18_8.2 dX8_next_21 ?_
      have h6 := h4; clear h4
      refine zn_icmp_ge (pc := 24) (tgt := 51) dX8_next_24 (by decide) (fun c5 => ?_) (fun c5 => ?_)
      · replace h6 := zif_t c5 h6
        refine zn_iconst (pc := 51) (x := (-1)) dX8_next_51 (by decide) ?_
        have hz := Option.some.inj h6; clear h6; subst hz
        exact zn_ireturn (pc := 52) dX8_next_52 rfl hp
      · replace h6 := zif_f c5 h6
        refine zn_aload_n (pc := 27) 0 dX8_next_27 rfl rfl ?_
        refine zn_getI (pc := 28) fa_X8_37_8.1 fa_X8_37_8.2 dX8_next_28 ?_
        refine zn_aload_n (pc := 31) 0 dX8_next_31 rfl rfl ?_
        refine zn_getR (pc := 32) fa_X8_9_8.1 fa_X8_9_8.2 dX8_next_32 ?_
        obtain ⟨i7, hi8, h9⟩ := zbd h6; clear h6
        rw [hi8]
        refine zn_alen (pc := 35) zk_28 rfl dX8_next_35 ?_
        have h11 := h9; clear h9
        refine zn_icmp_ge (pc := 36) (tgt := 51) dX8_next_36 (by decide) (fun c10 => ?_) (fun c10 => ?_)
        · replace h11 := zif_t c10 h11
          refine zn_iconst (pc := 51) (x := (-1)) dX8_next_51 (by decide) ?_
          have hz := Option.some.inj h11; clear h11; subst hz
          exact zn_ireturn (pc := 52) dX8_next_52 rfl hp
        · replace h11 := zif_f c10 h11
          refine zn_aload_n (pc := 39) 0 dX8_next_39 rfl rfl ?_
          refine zn_getR (pc := 40) fa_X8_9_8.1 fa_X8_9_8.2 dX8_next_40 ?_
          refine zn_aload_n (pc := 43) 0 dX8_next_43 rfl rfl ?_
          refine zn_getI (pc := 44) fa_X8_37_8.1 fa_X8_37_8.2 dX8_next_44 ?_
          obtain ⟨i12, hi13, h14⟩ := zbd h11; clear h11
          rw [hi13]
          obtain ⟨hb15, h16⟩ := zgdd h14; clear h14
          refine zn_iaload (pc := 47) zk_28 dX8_next_47 (zib_in hb15) ?_
          refine zn_goto (pc := 48) (tgt := 52) dX8_next_48 (by decide) ?_
          have hz := Option.some.inj h16; clear h16; subst hz
          exact zn_ireturn (pc := 52) dX8_next_52 rfl hp
theorem c_X8_emit {G : zG} {i0 : Nat} {x1 : Int32} {S : zH} {out : zH} (h0 : f_X8_emit i0 x1 S = some out) : zct G M_X8_emit 0 0 0 [vR 8 (some i0), vI x1] S (zpo none out) := by
  refine zct_of (by decide) (Nat.le_of_ble_eq_true rfl) ?_
  show zn G M_X8_emit 0 0 0 0 [(0, vR 8 (some i0)), (1, vI x1)] [] S _
  have hp : zpo none out none out := ⟨rfl, rfl⟩
  unfold f_X8_emit at h0
  refine zn_aload_n (pc := 0) 0 dX8_emit_0 rfl rfl ?_
  refine zn_getI (pc := 1) fa_X8_22_8.1 fa_X8_22_8.2 dX8_emit_1 ?_
  have h2 := h0; clear h0
  refine zn_if_lt (pc := 4) (tgt := 39) dX8_emit_4 (by decide) (fun c1 => ?_) (fun c1 => ?_)
  · replace h2 := zif_t c1 h2
    have hz := Option.some.inj h2; clear h2; subst hz
    exact zn_return (pc := 39) dX8_emit_39 rfl hp
  · replace h2 := zif_f c1 h2
    refine zn_aload_n (pc := 7) 0 dX8_emit_7 rfl rfl ?_
    refine zn_getI (pc := 8) fa_X8_22_8.1 fa_X8_22_8.2 dX8_emit_8 ?_
    refine zn_aload_n (pc := 11) 0 dX8_emit_11 rfl rfl ?_
    refine zn_getR (pc := 12) fa_X8_15_8.1 fa_X8_15_8.2 dX8_emit_12 ?_
    obtain ⟨i3, hi4, h5⟩ := zbd h2; clear h2
    rw [hi4]
    refine zn_alen (pc := 15) zk_29 rfl dX8_emit_15 ?_
    have h7 := h5; clear h5
    refine zn_icmp_ge (pc := 16) (tgt := 39) dX8_emit_16 (by decide) (fun c6 => ?_) (fun c6 => ?_)
    · replace h7 := zif_t c6 h7
      have hz := Option.some.inj h7; clear h7; subst hz
      exact zn_return (pc := 39) dX8_emit_39 rfl hp
    · replace h7 := zif_f c6 h7
      refine zn_aload_n (pc := 19) 0 dX8_emit_19 rfl rfl ?_
      refine zn_getR (pc := 20) fa_X8_15_8.1 fa_X8_15_8.2 dX8_emit_20 ?_
      refine zn_aload_n (pc := 23) 0 dX8_emit_23 rfl rfl ?_
      refine zn_getI (pc := 24) fa_X8_22_8.1 fa_X8_22_8.2 dX8_emit_24 ?_
      refine zn_iload_n (pc := 27) 1 dX8_emit_27 rfl rfl ?_
      obtain ⟨i8, hi9, h10⟩ := zbd h7; clear h7
      rw [hi9]
      obtain ⟨hb11, h12⟩ := zgdd h10; clear h10
      obtain ⟨S13, hS14, h15⟩ := zltd h12; clear h12
      refine zn_iastore (pc := 28) zk_29 dX8_emit_28 (zib_in hb11) hS14 ?_
      refine zn_aload_n (pc := 29) 0 dX8_emit_29 rfl rfl ?_
      refine zn_dup (pc := 30) dX8_emit_30 rfl ?_
      refine zn_getI (pc := 31) fa_X8_22_8.1 fa_X8_22_8.2 dX8_emit_31 ?_
      refine zn_iconst (pc := 34) (x := 1) dX8_emit_34 (by decide) ?_
      refine zn_iadd (pc := 35) dX8_emit_35 ?_
      obtain ⟨S16, hS17, h18⟩ := zltd h15; clear h15
      refine zn_putI (pc := 36) fp_X8_22_8.1 (fp_X8_22_8 (nm := "")).2 dX8_emit_36 hS17 ?_
      have hz := Option.some.inj h18; clear h18; subst hz
      exact zn_return (pc := 39) dX8_emit_39 rfl hp
theorem b_X8_readNumber_56 {G : zG} {Post : Option zV → zH → Prop} {i0 : Nat} {x1 : Int32} {S : zH} {out : zH} (h0 : f_X8_readNumber_56 i0 x1 S = some out) (hp : Post none out) : zn G M_X8_readNumber 1 0 0 56 [(0, vR 8 (some i0)), (1, vI x1)] [] S Post := by
  unfold f_X8_readNumber_56 at h0
  refine zn_aload_n (pc := 56) 0 dX8_readNumber_56 rfl rfl ?_
  refine zn_iload_n (pc := 57) 1 dX8_readNumber_57 rfl rfl ?_
  obtain ⟨o1, e2, h3⟩ := zbd h0; clear h0
  refine zn_cV0 (pc := 58) (kc := 0) (ks := 0) (kc' := 0) (ks' := 0) (As := [vI x1]) (st := []) dX8_readNumber_58 cs_X8_57 pc_8 rfl rfl (Nat.le_of_ble_eq_true rfl) ((c_X8_emit e2).mono (Nat.le_of_ble_eq_true rfl)) ?_
  have hz := Option.some.inj h3; clear h3; subst hz
  exact zn_return (pc := 61) dX8_readNumber_61 rfl hp
theorem b_X8_readNumber_4 {G : zG} {Post : Option zV → zH → Prop} : ∀ (n : Nat) (i0 : Nat) (x1 : Int32) (x2 : Int32) (S : zH) (out : zH), f_X8_readNumber_4 n i0 x1 x2 S = some out → Post none out → zn G M_X8_readNumber 1 0 0 4 [(0, vR 8 (some i0)), (1, vI x1), (2, vI x2)] [] S Post := by
  intro n
  induction n with
  | zero => intro i0 x1 x2 S out h0 hp; exact (nomatch (show (none : Option _) = some out from h0))
  | succ n ih =>
    intro i0 x1 x2 S out h0 hp
    rw [f_X8_readNumber_4] at h0
    refine zn_iload_n (pc := 4) 2 dX8_readNumber_4 rfl rfl ?_
    refine zn_iconst (pc := 5) (x := 5) dX8_readNumber_5 (by decide) ?_
    have h2 := h0; clear h0
    refine zn_icmp_ge (pc := 6) (tgt := 56) dX8_readNumber_6 (by decide) (fun c1 => ?_) (fun c1 => ?_)
    · replace h2 := zif_t c1 h2
      refine zn_pick [0, 1] rfl ?_
      exact b_X8_readNumber_56  h2 hp
    · replace h2 := zif_f c1 h2
      refine zn_aload_n (pc := 9) 0 dX8_readNumber_9 rfl rfl ?_
      obtain ⟨o3, e4, h5⟩ := zbd h2; clear h2
      refine zn_cVv (pc := 10) (kc := 0) (ks := 0) (kc' := 0) (ks' := 0) (As := []) (st := []) dX8_readNumber_10 cs_X8_53 pc_8 rfl rfl (Nat.le_of_ble_eq_true rfl) ((c_X8_next e4).mono (Nat.le_of_ble_eq_true rfl)) ?_
      refine zn_bipush (pc := 13) (x := 48) dX8_readNumber_13 (by decide) ?_
      have h7 := h5; clear h5
      refine zn_icmp_lt (pc := 15) (tgt := 56) dX8_readNumber_15 (by decide) (fun c6 => ?_) (fun c6 => ?_)
      · replace h7 := zif_t c6 h7
        refine zn_pick [0, 1] rfl ?_
        exact b_X8_readNumber_56  h7 hp
      · replace h7 := zif_f c6 h7
        refine zn_aload_n (pc := 18) 0 dX8_readNumber_18 rfl rfl ?_
        obtain ⟨o8, e9, h10⟩ := zbd h7; clear h7
        refine zn_cVv (pc := 19) (kc := 0) (ks := 0) (kc' := 0) (ks' := 0) (As := []) (st := []) dX8_readNumber_19 cs_X8_53 pc_8 rfl rfl (Nat.le_of_ble_eq_true rfl) ((c_X8_next e9).mono (Nat.le_of_ble_eq_true rfl)) ?_
        refine zn_bipush (pc := 22) (x := 57) dX8_readNumber_22 (by decide) ?_
        have h12 := h10; clear h10
        refine zn_icmp_gt (pc := 24) (tgt := 56) dX8_readNumber_24 (by decide) (fun c11 => ?_) (fun c11 => ?_)
        · replace h12 := zif_t c11 h12
          refine zn_pick [0, 1] rfl ?_
          exact b_X8_readNumber_56  h12 hp
        · replace h12 := zif_f c11 h12
          refine zn_iload_n (pc := 27) 1 dX8_readNumber_27 rfl rfl ?_
          refine zn_bipush (pc := 28) (x := 10) dX8_readNumber_28 (by decide) ?_
          refine zn_imul (pc := 30) dX8_readNumber_30 ?_
          refine zn_aload_n (pc := 31) 0 dX8_readNumber_31 rfl rfl ?_
          obtain ⟨o13, e14, h15⟩ := zbd h12; clear h12
          refine zn_cVv (pc := 32) (kc := 0) (ks := 0) (kc' := 0) (ks' := 0) (As := []) (st := [vI (x1 * 10)]) dX8_readNumber_32 cs_X8_53 pc_8 rfl rfl (Nat.le_of_ble_eq_true rfl) ((c_X8_next e14).mono (Nat.le_of_ble_eq_true rfl)) ?_
          refine zn_bipush (pc := 35) (x := 48) dX8_readNumber_35 (by decide) ?_
          refine zn_isub (pc := 37) dX8_readNumber_37 ?_
          refine zn_iadd (pc := 38) dX8_readNumber_38 ?_
          refine zn_istore_n (pc := 39) (ls' := [(1, vI ((x1 * 10) + (o13 - 48))), (0, vR 8 (some i0)), (2, vI x2)]) dX8_readNumber_39 rfl (Nat.le_of_ble_eq_true rfl) rfl ?_
          refine zn_aload_n (pc := 40) 1 dX8_readNumber_40 rfl rfl ?_
          refine zn_dup (pc := 41) dX8_readNumber_41 rfl ?_
          refine zn_getI (pc := 42) fa_X8_37_8.1 fa_X8_37_8.2 dX8_readNumber_42 ?_
          refine zn_iconst (pc := 45) (x := 1) dX8_readNumber_45 (by decide) ?_
          refine zn_iadd (pc := 46) dX8_readNumber_46 ?_
          obtain ⟨S16, hS17, h18⟩ := zltd h15; clear h15
          refine zn_putI (pc := 47) fp_X8_37_8.1 (fp_X8_37_8 (nm := "")).2 dX8_readNumber_47 hS17 ?_
          refine zn_iinc (pc := 50) 2 (y := x2 + 1) (ls' := [(2, vI (x2 + 1)), (1, vI ((x1 * 10) + (o13 - 48))), (0, vR 8 (some i0))]) dX8_readNumber_50 rfl rfl (Nat.le_of_ble_eq_true rfl) rfl ?_
          refine zn_goto (pc := 53) (tgt := 4) dX8_readNumber_53 (by decide) ?_
          refine zn_pick [2, 1, 0] rfl ?_
          exact ih _ _ _ _ _ h18 hp
theorem c_X8_readNumber {G : zG} {i0 : Nat} {S : zH} {out : zH} (h0 : f_X8_readNumber i0 S = some out) : zct G M_X8_readNumber 1 0 0 [vR 8 (some i0)] S (zpo none out) := by
  refine zct_of (by decide) (Nat.le_of_ble_eq_true rfl) ?_
  show zn G M_X8_readNumber 1 0 0 0 [(0, vR 8 (some i0))] [] S _
  have hp : zpo none out none out := ⟨rfl, rfl⟩
  unfold f_X8_readNumber at h0
  refine zn_iconst (pc := 0) (x := 0) dX8_readNumber_0 (by decide) ?_
  refine zn_istore_n (pc := 1) (ls' := [(1, vI 0), (0, vR 8 (some i0))]) dX8_readNumber_1 rfl (Nat.le_of_ble_eq_true rfl) rfl ?_
  refine zn_iconst (pc := 2) (x := 0) dX8_readNumber_2 (by decide) ?_
  refine zn_istore_n (pc := 3) (ls' := [(2, vI 0), (1, vI 0), (0, vR 8 (some i0))]) dX8_readNumber_3 rfl (Nat.le_of_ble_eq_true rfl) rfl ?_
  refine zn_pick [2, 1, 0] rfl ?_
  exact b_X8_readNumber_4  fu _ _ _ _ _ h0 hp
theorem c_X8_fail {G : zG} {i0 : Nat} {S : zH} {out : zH} (h0 : f_X8_fail i0 S = some out) : zct G M_X8_fail 0 0 0 [vR 8 (some i0)] S (zpo none out) := by
  refine zct_of (by decide) (Nat.le_of_ble_eq_true rfl) ?_
  show zn G M_X8_fail 0 0 0 0 [(0, vR 8 (some i0))] [] S _
  have hp : zpo none out none out := ⟨rfl, rfl⟩
  unfold f_X8_fail at h0
  refine zn_aload_n (pc := 0) 0 dX8_fail_0 rfl rfl ?_
  refine zn_getI (pc := 1) fa_X8_40_8.1 fa_X8_40_8.2 dX8_fail_1 ?_
  refine zn_bipush (pc := 4) (x := (-9)) dX8_fail_4 (by decide) ?_
  have h2 := h0; clear h0
  refine zn_icmp_ne (pc := 6) (tgt := 17) dX8_fail_6 (by decide) (fun c1 => ?_) (fun c1 => ?_)
  · replace h2 := zif_f c1 h2
    have hz := Option.some.inj h2; clear h2; subst hz
    exact zn_return (pc := 17) dX8_fail_17 rfl hp
  · replace h2 := zif_t c1 h2
    refine zn_aload_n (pc := 9) 0 dX8_fail_9 rfl rfl ?_
    refine zn_aload_n (pc := 10) 0 dX8_fail_10 rfl rfl ?_
    refine zn_getI (pc := 11) fa_X8_37_8.1 fa_X8_37_8.2 dX8_fail_11 ?_
    obtain ⟨S3, hS4, h5⟩ := zltd h2; clear h2
    refine zn_putI (pc := 14) fp_X8_40_8.1 (fp_X8_40_8 (nm := "")).2 dX8_fail_14 hS4 ?_
    have hz := Option.some.inj h5; clear h5; subst hz
    exact zn_return (pc := 17) dX8_fail_17 rfl hp
theorem gb_X8_readSum_31 {G : zG} {Post : Option zV → zH → Prop} {d : Nat} {kp : Nat → Nat → Int32 → zH → Option zH} {k7 : Nat → Int32 → Int32 → zH → Option zH} {i0 : Nat} {x1 : Int32} {x2 : Int32} {S : zH} {out : zH} (hkp_X8_readSum : ∀ {i0 : Nat} {x1 : Int32} {S : zH} {out : zH}, kp 0 i0 x1 S = some out → zct G M_X8_readSum (d + 8) 0 0 [vR 8 (some i0), vI x1] S (zpo none out)) (hkp_X8_readTerm : ∀ {i0 : Nat} {x1 : Int32} {S : zH} {out : zH}, kp 1 i0 x1 S = some out → zct G M_X8_readTerm (d + 8) 0 0 [vR 8 (some i0), vI x1] S (zpo none out)) (hkp_X8_readUnit : ∀ {i0 : Nat} {x1 : Int32} {S : zH} {out : zH}, kp 2 i0 x1 S = some out → zct G M_X8_readUnit (d + 8) 0 0 [vR 8 (some i0), vI x1] S (zpo none out)) (hkp_X8_readBracket : ∀ {i0 : Nat} {x1 : Int32} {S : zH} {out : zH}, kp 3 i0 x1 S = some out → zct G M_X8_readBracket (d + 8) 0 0 [vR 8 (some i0), vI x1] S (zpo none out)) (hk7 : ∀ (i0 : Nat) (x1 : Int32) (x2 : Int32) (S : zH) (out : zH), k7 i0 x1 x2 S = some out → Post none out → zn G M_X8_readSum (d + 9) 0 0 7 [(0, vR 8 (some i0)), (1, vI x1), (2, vI x2)] [] S Post) (h0 : g_X8_readSum_31 kp k7 i0 x1 x2 S = some out) (hp : Post none out) : zn G M_X8_readSum (d + 9) 0 0 31 [(0, vR 8 (some i0)), (1, vI x1), (2, vI x2)] [] S Post := by
  unfold g_X8_readSum_31 at h0
  refine zn_aload_n (pc := 31) 0 dX8_readSum_31 rfl rfl ?_
  obtain ⟨o1, e2, h3⟩ := zbd h0; clear h0
  refine zn_cVv (pc := 32) (kc := 0) (ks := 0) (kc' := 0) (ks' := 0) (As := []) (st := []) dX8_readSum_32 cs_X8_53 pc_8 rfl rfl (Nat.le_of_ble_eq_true rfl) ((c_X8_next e2).mono (by omega)) ?_
  refine zn_istore_n (pc := 35) (ls' := [(3, vI o1), (0, vR 8 (some i0)), (1, vI x1), (2, vI x2)]) dX8_readSum_35 rfl (Nat.le_of_ble_eq_true rfl) rfl ?_
  refine zn_aload_n (pc := 36) 1 dX8_readSum_36 rfl rfl ?_
  refine zn_dup (pc := 37) dX8_readSum_37 rfl ?_
  refine zn_getI (pc := 38) fa_X8_37_8.1 fa_X8_37_8.2 dX8_readSum_38 ?_
  refine zn_iconst (pc := 41) (x := 1) dX8_readSum_41 (by decide) ?_
  refine zn_iadd (pc := 42) dX8_readSum_42 ?_
  obtain ⟨S4, hS5, h6⟩ := zltd h3; clear h3
  refine zn_putI (pc := 43) fp_X8_37_8.1 (fp_X8_37_8 (nm := "")).2 dX8_readSum_43 hS5 ?_
  refine zn_aload_n (pc := 46) 1 dX8_readSum_46 rfl rfl ?_
  refine zn_iload_n (pc := 47) 2 dX8_readSum_47 rfl rfl ?_
  obtain ⟨o7, e8, h9⟩ := zbd h6; clear h6
  refine zn_cV0 (pc := 48) (kc := 0) (ks := 0) (kc' := 0) (ks' := 0) (As := [vI x1]) (st := []) dX8_readSum_48 cs_X8_50 pc_8 rfl rfl (Nat.le_of_ble_eq_true rfl) (hkp_X8_readTerm e8) ?_
  refine zn_aload_n (pc := 51) 1 dX8_readSum_51 rfl rfl ?_
  refine zn_iload_n (pc := 52) 0 dX8_readSum_52 rfl rfl ?_
  refine zn_ineg (pc := 53) dX8_readSum_53 ?_
  obtain ⟨o10, e11, h12⟩ := zbd h9; clear h9
  refine zn_cV0 (pc := 54) (kc := 0) (ks := 0) (kc' := 0) (ks' := 0) (As := [vI (-o1)]) (st := []) dX8_readSum_54 cs_X8_57 pc_8 rfl rfl (Nat.le_of_ble_eq_true rfl) ((c_X8_emit e11).mono (by omega)) ?_
  refine zn_iinc (pc := 57) 3 (y := x2 + 1) (ls' := [(2, vI (x2 + 1)), (3, vI o1), (0, vR 8 (some i0)), (1, vI x1)]) dX8_readSum_57 rfl rfl (Nat.le_of_ble_eq_true rfl) rfl ?_
  refine zn_goto (pc := 60) (tgt := 7) dX8_readSum_60 (by decide) ?_
  refine zn_pick [2, 3, 0] rfl ?_
  exact hk7 _ _ _ _ _ h12 hp
theorem gb_X8_readSum_7 {G : zG} {Post : Option zV → zH → Prop} {d : Nat} {kp : Nat → Nat → Int32 → zH → Option zH} (hkp_X8_readSum : ∀ {i0 : Nat} {x1 : Int32} {S : zH} {out : zH}, kp 0 i0 x1 S = some out → zct G M_X8_readSum (d + 8) 0 0 [vR 8 (some i0), vI x1] S (zpo none out)) (hkp_X8_readTerm : ∀ {i0 : Nat} {x1 : Int32} {S : zH} {out : zH}, kp 1 i0 x1 S = some out → zct G M_X8_readTerm (d + 8) 0 0 [vR 8 (some i0), vI x1] S (zpo none out)) (hkp_X8_readUnit : ∀ {i0 : Nat} {x1 : Int32} {S : zH} {out : zH}, kp 2 i0 x1 S = some out → zct G M_X8_readUnit (d + 8) 0 0 [vR 8 (some i0), vI x1] S (zpo none out)) (hkp_X8_readBracket : ∀ {i0 : Nat} {x1 : Int32} {S : zH} {out : zH}, kp 3 i0 x1 S = some out → zct G M_X8_readBracket (d + 8) 0 0 [vR 8 (some i0), vI x1] S (zpo none out)) : ∀ (n : Nat) (i0 : Nat) (x1 : Int32) (x2 : Int32) (S : zH) (out : zH), g_X8_readSum_7 kp n i0 x1 x2 S = some out → Post none out → zn G M_X8_readSum (d + 9) 0 0 7 [(0, vR 8 (some i0)), (1, vI x1), (2, vI x2)] [] S Post := by
  intro n
  induction n with
  | zero => intro i0 x1 x2 S out h0 hp; exact (nomatch (show (none : Option _) = some out from h0))
  | succ n ih =>
    intro i0 x1 x2 S out h0 hp
    rw [g_X8_readSum_7] at h0
    refine zn_iload_n (pc := 7) 2 dX8_readSum_7 rfl rfl ?_
    refine zn_bipush (pc := 8) (x := 60) dX8_readSum_8 (by decide) ?_
    have h2 := h0; clear h0
    refine zn_icmp_ge (pc := 10) (tgt := 63) dX8_readSum_10 (by decide) (fun c1 => ?_) (fun c1 => ?_)
    · replace h2 := zif_t c1 h2
      have hz := Option.some.inj h2; clear h2; subst hz
      exact zn_return (pc := 63) dX8_readSum_63 rfl hp
    · replace h2 := zif_f c1 h2
      refine zn_aload_n (pc := 13) 0 dX8_readSum_13 rfl rfl ?_
      obtain ⟨o3, e4, h5⟩ := zbd h2; clear h2
      refine zn_cVv (pc := 14) (kc := 0) (ks := 0) (kc' := 0) (ks' := 0) (As := []) (st := []) dX8_readSum_14 cs_X8_53 pc_8 rfl rfl (Nat.le_of_ble_eq_true rfl) ((c_X8_next e4).mono (by omega)) ?_
      refine zn_bipush (pc := 17) (x := 43) dX8_readSum_17 (by decide) ?_
      have h7 := h5; clear h5
      refine zn_icmp_eq (pc := 19) (tgt := 31) dX8_readSum_19 (by decide) (fun c6 => ?_) (fun c6 => ?_)
      · replace h7 := zif_t c6 h7
        exact gb_X8_readSum_31 hkp_X8_readSum hkp_X8_readTerm hkp_X8_readUnit hkp_X8_readBracket ih h7 hp
      · replace h7 := zif_f c6 h7
        refine zn_aload_n (pc := 22) 0 dX8_readSum_22 rfl rfl ?_
        obtain ⟨o8, e9, h10⟩ := zbd h7; clear h7
        refine zn_cVv (pc := 23) (kc := 0) (ks := 0) (kc' := 0) (ks' := 0) (As := []) (st := []) dX8_readSum_23 cs_X8_53 pc_8 rfl rfl (Nat.le_of_ble_eq_true rfl) ((c_X8_next e9).mono (by omega)) ?_
        refine zn_bipush (pc := 26) (x := 45) dX8_readSum_26 (by decide) ?_
        have h12 := h10; clear h10
        refine zn_icmp_ne (pc := 28) (tgt := 63) dX8_readSum_28 (by decide) (fun c11 => ?_) (fun c11 => ?_)
        · replace h12 := zif_f c11 h12
          have hz := Option.some.inj h12; clear h12; subst hz
          exact zn_return (pc := 63) dX8_readSum_63 rfl hp
        · replace h12 := zif_t c11 h12
          exact gb_X8_readSum_31 hkp_X8_readSum hkp_X8_readTerm hkp_X8_readUnit hkp_X8_readBracket ih h12 hp
theorem gc_X8_readSum {G : zG} {d : Nat} {kp : Nat → Nat → Int32 → zH → Option zH} {i0 : Nat} {x1 : Int32} {S : zH} {out : zH} (hkp_X8_readSum : ∀ {i0 : Nat} {x1 : Int32} {S : zH} {out : zH}, kp 0 i0 x1 S = some out → zct G M_X8_readSum (d + 8) 0 0 [vR 8 (some i0), vI x1] S (zpo none out)) (hkp_X8_readTerm : ∀ {i0 : Nat} {x1 : Int32} {S : zH} {out : zH}, kp 1 i0 x1 S = some out → zct G M_X8_readTerm (d + 8) 0 0 [vR 8 (some i0), vI x1] S (zpo none out)) (hkp_X8_readUnit : ∀ {i0 : Nat} {x1 : Int32} {S : zH} {out : zH}, kp 2 i0 x1 S = some out → zct G M_X8_readUnit (d + 8) 0 0 [vR 8 (some i0), vI x1] S (zpo none out)) (hkp_X8_readBracket : ∀ {i0 : Nat} {x1 : Int32} {S : zH} {out : zH}, kp 3 i0 x1 S = some out → zct G M_X8_readBracket (d + 8) 0 0 [vR 8 (some i0), vI x1] S (zpo none out)) (h0 : g_X8_readSum kp i0 x1 S = some out) : zct G M_X8_readSum (d + 9) 0 0 [vR 8 (some i0), vI x1] S (zpo none out) := by
  refine zct_of (by decide) (Nat.le_of_ble_eq_true rfl) ?_
  show zn G M_X8_readSum (d + 9) 0 0 0 [(0, vR 8 (some i0)), (1, vI x1)] [] S _
  have hp : zpo none out none out := ⟨rfl, rfl⟩
  unfold g_X8_readSum at h0
  refine zn_aload_n (pc := 0) 0 dX8_readSum_0 rfl rfl ?_
  refine zn_iload_n (pc := 1) 1 dX8_readSum_1 rfl rfl ?_
  obtain ⟨o13, e14, h15⟩ := zbd h0; clear h0
  refine zn_cV0 (pc := 2) (kc := 0) (ks := 0) (kc' := 0) (ks' := 0) (As := [vI x1]) (st := []) dX8_readSum_2 cs_X8_50 pc_8 rfl rfl (Nat.le_of_ble_eq_true rfl) (hkp_X8_readTerm e14) ?_
  refine zn_iconst (pc := 5) (x := 0) dX8_readSum_5 (by decide) ?_
  refine zn_istore_n (pc := 6) (ls' := [(2, vI 0), (0, vR 8 (some i0)), (1, vI x1)]) dX8_readSum_6 rfl (Nat.le_of_ble_eq_true rfl) rfl ?_
  refine zn_pick [1, 2, 0] rfl ?_
  exact gb_X8_readSum_7 hkp_X8_readSum hkp_X8_readTerm hkp_X8_readUnit hkp_X8_readBracket  fu _ _ _ _ _ h15 hp
theorem gb_X8_readTerm_31 {G : zG} {Post : Option zV → zH → Prop} {d : Nat} {kp : Nat → Nat → Int32 → zH → Option zH} {k7 : Nat → Int32 → Int32 → zH → Option zH} {i0 : Nat} {x1 : Int32} {x2 : Int32} {S : zH} {out : zH} (hkp_X8_readSum : ∀ {i0 : Nat} {x1 : Int32} {S : zH} {out : zH}, kp 0 i0 x1 S = some out → zct G M_X8_readSum (d + 8) 0 0 [vR 8 (some i0), vI x1] S (zpo none out)) (hkp_X8_readTerm : ∀ {i0 : Nat} {x1 : Int32} {S : zH} {out : zH}, kp 1 i0 x1 S = some out → zct G M_X8_readTerm (d + 8) 0 0 [vR 8 (some i0), vI x1] S (zpo none out)) (hkp_X8_readUnit : ∀ {i0 : Nat} {x1 : Int32} {S : zH} {out : zH}, kp 2 i0 x1 S = some out → zct G M_X8_readUnit (d + 8) 0 0 [vR 8 (some i0), vI x1] S (zpo none out)) (hkp_X8_readBracket : ∀ {i0 : Nat} {x1 : Int32} {S : zH} {out : zH}, kp 3 i0 x1 S = some out → zct G M_X8_readBracket (d + 8) 0 0 [vR 8 (some i0), vI x1] S (zpo none out)) (hk7 : ∀ (i0 : Nat) (x1 : Int32) (x2 : Int32) (S : zH) (out : zH), k7 i0 x1 x2 S = some out → Post none out → zn G M_X8_readTerm (d + 9) 0 0 7 [(0, vR 8 (some i0)), (1, vI x1), (2, vI x2)] [] S Post) (h0 : g_X8_readTerm_31 kp k7 i0 x1 x2 S = some out) (hp : Post none out) : zn G M_X8_readTerm (d + 9) 0 0 31 [(0, vR 8 (some i0)), (1, vI x1), (2, vI x2)] [] S Post := by
  unfold g_X8_readTerm_31 at h0
  refine zn_aload_n (pc := 31) 0 dX8_readTerm_31 rfl rfl ?_
  obtain ⟨o1, e2, h3⟩ := zbd h0; clear h0
  refine zn_cVv (pc := 32) (kc := 0) (ks := 0) (kc' := 0) (ks' := 0) (As := []) (st := []) dX8_readTerm_32 cs_X8_53 pc_8 rfl rfl (Nat.le_of_ble_eq_true rfl) ((c_X8_next e2).mono (by omega)) ?_
  refine zn_istore_n (pc := 35) (ls' := [(3, vI o1), (0, vR 8 (some i0)), (1, vI x1), (2, vI x2)]) dX8_readTerm_35 rfl (Nat.le_of_ble_eq_true rfl) rfl ?_
  refine zn_aload_n (pc := 36) 1 dX8_readTerm_36 rfl rfl ?_
  refine zn_dup (pc := 37) dX8_readTerm_37 rfl ?_
  refine zn_getI (pc := 38) fa_X8_37_8.1 fa_X8_37_8.2 dX8_readTerm_38 ?_
  refine zn_iconst (pc := 41) (x := 1) dX8_readTerm_41 (by decide) ?_
  refine zn_iadd (pc := 42) dX8_readTerm_42 ?_
  obtain ⟨S4, hS5, h6⟩ := zltd h3; clear h3
  refine zn_putI (pc := 43) fp_X8_37_8.1 (fp_X8_37_8 (nm := "")).2 dX8_readTerm_43 hS5 ?_
  refine zn_aload_n (pc := 46) 1 dX8_readTerm_46 rfl rfl ?_
  refine zn_iload_n (pc := 47) 2 dX8_readTerm_47 rfl rfl ?_
  obtain ⟨o7, e8, h9⟩ := zbd h6; clear h6
  refine zn_cV0 (pc := 48) (kc := 0) (ks := 0) (kc' := 0) (ks' := 0) (As := [vI x1]) (st := []) dX8_readTerm_48 cs_X8_60 pc_8 rfl rfl (Nat.le_of_ble_eq_true rfl) (hkp_X8_readUnit e8) ?_
  refine zn_aload_n (pc := 51) 1 dX8_readTerm_51 rfl rfl ?_
  refine zn_iload_n (pc := 52) 0 dX8_readTerm_52 rfl rfl ?_
  refine zn_ineg (pc := 53) dX8_readTerm_53 ?_
  obtain ⟨o10, e11, h12⟩ := zbd h9; clear h9
  refine zn_cV0 (pc := 54) (kc := 0) (ks := 0) (kc' := 0) (ks' := 0) (As := [vI (-o1)]) (st := []) dX8_readTerm_54 cs_X8_57 pc_8 rfl rfl (Nat.le_of_ble_eq_true rfl) ((c_X8_emit e11).mono (by omega)) ?_
  refine zn_iinc (pc := 57) 3 (y := x2 + 1) (ls' := [(2, vI (x2 + 1)), (3, vI o1), (0, vR 8 (some i0)), (1, vI x1)]) dX8_readTerm_57 rfl rfl (Nat.le_of_ble_eq_true rfl) rfl ?_
  refine zn_goto (pc := 60) (tgt := 7) dX8_readTerm_60 (by decide) ?_
  refine zn_pick [2, 3, 0] rfl ?_
  exact hk7 _ _ _ _ _ h12 hp
theorem gb_X8_readTerm_7 {G : zG} {Post : Option zV → zH → Prop} {d : Nat} {kp : Nat → Nat → Int32 → zH → Option zH} (hkp_X8_readSum : ∀ {i0 : Nat} {x1 : Int32} {S : zH} {out : zH}, kp 0 i0 x1 S = some out → zct G M_X8_readSum (d + 8) 0 0 [vR 8 (some i0), vI x1] S (zpo none out)) (hkp_X8_readTerm : ∀ {i0 : Nat} {x1 : Int32} {S : zH} {out : zH}, kp 1 i0 x1 S = some out → zct G M_X8_readTerm (d + 8) 0 0 [vR 8 (some i0), vI x1] S (zpo none out)) (hkp_X8_readUnit : ∀ {i0 : Nat} {x1 : Int32} {S : zH} {out : zH}, kp 2 i0 x1 S = some out → zct G M_X8_readUnit (d + 8) 0 0 [vR 8 (some i0), vI x1] S (zpo none out)) (hkp_X8_readBracket : ∀ {i0 : Nat} {x1 : Int32} {S : zH} {out : zH}, kp 3 i0 x1 S = some out → zct G M_X8_readBracket (d + 8) 0 0 [vR 8 (some i0), vI x1] S (zpo none out)) : ∀ (n : Nat) (i0 : Nat) (x1 : Int32) (x2 : Int32) (S : zH) (out : zH), g_X8_readTerm_7 kp n i0 x1 x2 S = some out → Post none out → zn G M_X8_readTerm (d + 9) 0 0 7 [(0, vR 8 (some i0)), (1, vI x1), (2, vI x2)] [] S Post := by
  intro n
  induction n with
  | zero => intro i0 x1 x2 S out h0 hp; exact (nomatch (show (none : Option _) = some out from h0))
  | succ n ih =>
    intro i0 x1 x2 S out h0 hp
    rw [g_X8_readTerm_7] at h0
    refine zn_iload_n (pc := 7) 2 dX8_readTerm_7 rfl rfl ?_
    refine zn_bipush (pc := 8) (x := 60) dX8_readTerm_8 (by decide) ?_
    have h2 := h0; clear h0
    refine zn_icmp_ge (pc := 10) (tgt := 63) dX8_readTerm_10 (by decide) (fun c1 => ?_) (fun c1 => ?_)
    · replace h2 := zif_t c1 h2
      have hz := Option.some.inj h2; clear h2; subst hz
      exact zn_return (pc := 63) dX8_readTerm_63 rfl hp
    · replace h2 := zif_f c1 h2
      refine zn_aload_n (pc := 13) 0 dX8_readTerm_13 rfl rfl ?_
      obtain ⟨o3, e4, h5⟩ := zbd h2; clear h2
      refine zn_cVv (pc := 14) (kc := 0) (ks := 0) (kc' := 0) (ks' := 0) (As := []) (st := []) dX8_readTerm_14 cs_X8_53 pc_8 rfl rfl (Nat.le_of_ble_eq_true rfl) ((c_X8_next e4).mono (by omega)) ?_
      refine zn_bipush (pc := 17) (x := 42) dX8_readTerm_17 (by decide) ?_
      have h7 := h5; clear h5
      refine zn_icmp_eq (pc := 19) (tgt := 31) dX8_readTerm_19 (by decide) (fun c6 => ?_) (fun c6 => ?_)
      · replace h7 := zif_t c6 h7
        exact gb_X8_readTerm_31 hkp_X8_readSum hkp_X8_readTerm hkp_X8_readUnit hkp_X8_readBracket ih h7 hp
      · replace h7 := zif_f c6 h7
        refine zn_aload_n (pc := 22) 0 dX8_readTerm_22 rfl rfl ?_
        obtain ⟨o8, e9, h10⟩ := zbd h7; clear h7
        refine zn_cVv (pc := 23) (kc := 0) (ks := 0) (kc' := 0) (ks' := 0) (As := []) (st := []) dX8_readTerm_23 cs_X8_53 pc_8 rfl rfl (Nat.le_of_ble_eq_true rfl) ((c_X8_next e9).mono (by omega)) ?_
        refine zn_bipush (pc := 26) (x := 47) dX8_readTerm_26 (by decide) ?_
        have h12 := h10; clear h10
        refine zn_icmp_ne (pc := 28) (tgt := 63) dX8_readTerm_28 (by decide) (fun c11 => ?_) (fun c11 => ?_)
        · replace h12 := zif_f c11 h12
          have hz := Option.some.inj h12; clear h12; subst hz
          exact zn_return (pc := 63) dX8_readTerm_63 rfl hp
        · replace h12 := zif_t c11 h12
          exact gb_X8_readTerm_31 hkp_X8_readSum hkp_X8_readTerm hkp_X8_readUnit hkp_X8_readBracket ih h12 hp
theorem gc_X8_readTerm {G : zG} {d : Nat} {kp : Nat → Nat → Int32 → zH → Option zH} {i0 : Nat} {x1 : Int32} {S : zH} {out : zH} (hkp_X8_readSum : ∀ {i0 : Nat} {x1 : Int32} {S : zH} {out : zH}, kp 0 i0 x1 S = some out → zct G M_X8_readSum (d + 8) 0 0 [vR 8 (some i0), vI x1] S (zpo none out)) (hkp_X8_readTerm : ∀ {i0 : Nat} {x1 : Int32} {S : zH} {out : zH}, kp 1 i0 x1 S = some out → zct G M_X8_readTerm (d + 8) 0 0 [vR 8 (some i0), vI x1] S (zpo none out)) (hkp_X8_readUnit : ∀ {i0 : Nat} {x1 : Int32} {S : zH} {out : zH}, kp 2 i0 x1 S = some out → zct G M_X8_readUnit (d + 8) 0 0 [vR 8 (some i0), vI x1] S (zpo none out)) (hkp_X8_readBracket : ∀ {i0 : Nat} {x1 : Int32} {S : zH} {out : zH}, kp 3 i0 x1 S = some out → zct G M_X8_readBracket (d + 8) 0 0 [vR 8 (some i0), vI x1] S (zpo none out)) (h0 : g_X8_readTerm kp i0 x1 S = some out) : zct G M_X8_readTerm (d + 9) 0 0 [vR 8 (some i0), vI x1] S (zpo none out) := by
  refine zct_of (by decide) (Nat.le_of_ble_eq_true rfl) ?_
  show zn G M_X8_readTerm (d + 9) 0 0 0 [(0, vR 8 (some i0)), (1, vI x1)] [] S _
  have hp : zpo none out none out := ⟨rfl, rfl⟩
  unfold g_X8_readTerm at h0
  refine zn_aload_n (pc := 0) 0 dX8_readTerm_0 rfl rfl ?_
  refine zn_iload_n (pc := 1) 1 dX8_readTerm_1 rfl rfl ?_
  obtain ⟨o13, e14, h15⟩ := zbd h0; clear h0
  refine zn_cV0 (pc := 2) (kc := 0) (ks := 0) (kc' := 0) (ks' := 0) (As := [vI x1]) (st := []) dX8_readTerm_2 cs_X8_60 pc_8 rfl rfl (Nat.le_of_ble_eq_true rfl) (hkp_X8_readUnit e14) ?_
  refine zn_iconst (pc := 5) (x := 0) dX8_readTerm_5 (by decide) ?_
  refine zn_istore_n (pc := 6) (ls' := [(2, vI 0), (0, vR 8 (some i0)), (1, vI x1)]) dX8_readTerm_6 rfl (Nat.le_of_ble_eq_true rfl) rfl ?_
  refine zn_pick [1, 2, 0] rfl ?_
  exact gb_X8_readTerm_7 hkp_X8_readSum hkp_X8_readTerm hkp_X8_readUnit hkp_X8_readBracket  fu _ _ _ _ _ h15 hp
theorem gb_X8_readUnit_97 {G : zG} {Post : Option zV → zH → Prop} {d : Nat} {kp : Nat → Nat → Int32 → zH → Option zH} {i0 : Nat} {S : zH} {out : zH} (hkp_X8_readSum : ∀ {i0 : Nat} {x1 : Int32} {S : zH} {out : zH}, kp 0 i0 x1 S = some out → zct G M_X8_readSum (d + 8) 0 0 [vR 8 (some i0), vI x1] S (zpo none out)) (hkp_X8_readTerm : ∀ {i0 : Nat} {x1 : Int32} {S : zH} {out : zH}, kp 1 i0 x1 S = some out → zct G M_X8_readTerm (d + 8) 0 0 [vR 8 (some i0), vI x1] S (zpo none out)) (hkp_X8_readUnit : ∀ {i0 : Nat} {x1 : Int32} {S : zH} {out : zH}, kp 2 i0 x1 S = some out → zct G M_X8_readUnit (d + 8) 0 0 [vR 8 (some i0), vI x1] S (zpo none out)) (hkp_X8_readBracket : ∀ {i0 : Nat} {x1 : Int32} {S : zH} {out : zH}, kp 3 i0 x1 S = some out → zct G M_X8_readBracket (d + 8) 0 0 [vR 8 (some i0), vI x1] S (zpo none out)) (h0 : g_X8_readUnit_97 kp i0 S = some out) (hp : Post none out) : zn G M_X8_readUnit (d + 9) 0 0 97 [(0, vR 8 (some i0))] [] S Post := by
  unfold g_X8_readUnit_97 at h0
  refine zn_aload_n (pc := 97) 0 dX8_readUnit_97 rfl rfl ?_
  obtain ⟨o1, e2, h3⟩ := zbd h0; clear h0
  refine zn_cV0 (pc := 98) (kc := 0) (ks := 0) (kc' := 0) (ks' := 0) (As := []) (st := []) dX8_readUnit_98 cs_X8_47 pc_8 rfl rfl (Nat.le_of_ble_eq_true rfl) ((c_X8_fail e2).mono (by omega)) ?_
  have hz := Option.some.inj h3; clear h3; subst hz
  exact zn_return (pc := 101) dX8_readUnit_101 rfl hp
theorem gb_X8_readUnit_41 {G : zG} {Post : Option zV → zH → Prop} {d : Nat} {kp : Nat → Nat → Int32 → zH → Option zH} {i0 : Nat} {x1 : Int32} {x2 : Int32} {x3 : Int32} {S : zH} {out : zH} (hkp_X8_readSum : ∀ {i0 : Nat} {x1 : Int32} {S : zH} {out : zH}, kp 0 i0 x1 S = some out → zct G M_X8_readSum (d + 8) 0 0 [vR 8 (some i0), vI x1] S (zpo none out)) (hkp_X8_readTerm : ∀ {i0 : Nat} {x1 : Int32} {S : zH} {out : zH}, kp 1 i0 x1 S = some out → zct G M_X8_readTerm (d + 8) 0 0 [vR 8 (some i0), vI x1] S (zpo none out)) (hkp_X8_readUnit : ∀ {i0 : Nat} {x1 : Int32} {S : zH} {out : zH}, kp 2 i0 x1 S = some out → zct G M_X8_readUnit (d + 8) 0 0 [vR 8 (some i0), vI x1] S (zpo none out)) (hkp_X8_readBracket : ∀ {i0 : Nat} {x1 : Int32} {S : zH} {out : zH}, kp 3 i0 x1 S = some out → zct G M_X8_readBracket (d + 8) 0 0 [vR 8 (some i0), vI x1] S (zpo none out)) (h0 : g_X8_readUnit_41 kp i0 x1 x2 x3 S = some out) (hp : Post none out) : zn G M_X8_readUnit (d + 9) 0 0 41 [(0, vR 8 (some i0)), (1, vI x1), (2, vI x2), (3, vI x3)] [] S Post := by
  unfold g_X8_readUnit_41 at h0
  refine zn_iload_n (pc := 41) 3 dX8_readUnit_41 rfl rfl ?_
  have h2 := h0; clear h0
  refine zn_if_lt (pc := 42) (tgt := 66) dX8_readUnit_42 (by decide) (fun c1 => ?_) (fun c1 => ?_)
  · replace h2 := zif_t c1 h2
    refine zn_iload_n (pc := 66) 2 dX8_readUnit_66 rfl rfl ?_
    refine zn_bipush (pc := 67) (x := 40) dX8_readUnit_67 (by decide) ?_
    have h4 := h2; clear h2
    refine zn_icmp_ne (pc := 69) (tgt := 97) dX8_readUnit_69 (by decide) (fun c3 => ?_) (fun c3 => ?_)
    · replace h4 := zif_f c3 h4
      refine zn_pick [0] rfl ?_
      exact gb_X8_readUnit_97 hkp_X8_readSum hkp_X8_readTerm hkp_X8_readUnit hkp_X8_readBracket  h4 hp
    · replace h4 := zif_t c3 h4
      refine zn_iload_n (pc := 72) 1 dX8_readUnit_72 rfl rfl ?_
      refine zn_iconst (pc := 73) (x := 5) dX8_readUnit_73 (by decide) ?_
      have h6 := h4; clear h4
      refine zn_icmp_ge (pc := 74) (tgt := 97) dX8_readUnit_74 (by decide) (fun c5 => ?_) (fun c5 => ?_)
      · replace h6 := zif_t c5 h6
        refine zn_pick [0] rfl ?_
        exact gb_X8_readUnit_97 hkp_X8_readSum hkp_X8_readTerm hkp_X8_readUnit hkp_X8_readBracket  h6 hp
      · replace h6 := zif_f c5 h6
        refine zn_aload_n (pc := 77) 0 dX8_readUnit_77 rfl rfl ?_
        refine zn_dup (pc := 78) dX8_readUnit_78 rfl ?_
        refine zn_getI (pc := 79) fa_X8_37_8.1 fa_X8_37_8.2 dX8_readUnit_79 ?_
        refine zn_iconst (pc := 82) (x := 1) dX8_readUnit_82 (by decide) ?_
        refine zn_iadd (pc := 83) dX8_readUnit_83 ?_
        obtain ⟨S7, hS8, h9⟩ := zltd h6; clear h6
        refine zn_putI (pc := 84) fp_X8_37_8.1 (fp_X8_37_8 (nm := "")).2 dX8_readUnit_84 hS8 ?_
        refine zn_aload_n (pc := 87) 0 dX8_readUnit_87 rfl rfl ?_
        refine zn_iload_n (pc := 88) 1 dX8_readUnit_88 rfl rfl ?_
        refine zn_iconst (pc := 89) (x := 1) dX8_readUnit_89 (by decide) ?_
        refine zn_iadd (pc := 90) dX8_readUnit_90 ?_
        obtain ⟨o10, e11, h12⟩ := zbd h9; clear h9
        refine zn_cV0 (pc := 91) (kc := 0) (ks := 0) (kc' := 0) (ks' := 0) (As := [vI (x1 + 1)]) (st := []) dX8_readUnit_91 cs_X8_77 pc_8 rfl rfl (Nat.le_of_ble_eq_true rfl) (hkp_X8_readBracket e11) ?_
        refine zn_goto (pc := 94) (tgt := 101) dX8_readUnit_94 (by decide) ?_
        have hz := Option.some.inj h12; clear h12; subst hz
        exact zn_return (pc := 101) dX8_readUnit_101 rfl hp
  · replace h2 := zif_f c1 h2
    refine zn_aload_n (pc := 45) 0 dX8_readUnit_45 rfl rfl ?_
    refine zn_ldc (pc := 46) dX8_readUnit_46 w1_X8_76 ?_
    refine zn_iload_n (pc := 48) 3 dX8_readUnit_48 rfl rfl ?_
    refine zn_iadd (pc := 49) dX8_readUnit_49 ?_
    obtain ⟨o13, e14, h15⟩ := zbd h2; clear h2
    refine zn_cV0 (pc := 50) (kc := 0) (ks := 0) (kc' := 0) (ks' := 0) (As := [vI (100000 + x3)]) (st := []) dX8_readUnit_50 cs_X8_57 pc_8 rfl rfl (Nat.le_of_ble_eq_true rfl) ((c_X8_emit e14).mono (by omega)) ?_
    refine zn_aload_n (pc := 53) 0 dX8_readUnit_53 rfl rfl ?_
    refine zn_dup (pc := 54) dX8_readUnit_54 rfl ?_
    refine zn_getI (pc := 55) fa_X8_37_8.1 fa_X8_37_8.2 dX8_readUnit_55 ?_
    refine zn_iconst (pc := 58) (x := 1) dX8_readUnit_58 (by decide) ?_
    refine zn_iadd (pc := 59) dX8_readUnit_59 ?_
    obtain ⟨S16, hS17, h18⟩ := zltd h15; clear h15
    refine zn_putI (pc := 60) fp_X8_37_8.1 (fp_X8_37_8 (nm := "")).2 dX8_readUnit_60 hS17 ?_
    refine zn_goto (pc := 63) (tgt := 101) dX8_readUnit_63 (by decide) ?_
    have hz := Option.some.inj h18; clear h18; subst hz
    exact zn_return (pc := 101) dX8_readUnit_101 rfl hp
theorem gb_X8_readUnit_21 {G : zG} {Post : Option zV → zH → Prop} {d : Nat} {kp : Nat → Nat → Int32 → zH → Option zH} {i0 : Nat} {x1 : Int32} {x2 : Int32} {xs0 : Int32} {S : zH} {out : zH} (hkp_X8_readSum : ∀ {i0 : Nat} {x1 : Int32} {S : zH} {out : zH}, kp 0 i0 x1 S = some out → zct G M_X8_readSum (d + 8) 0 0 [vR 8 (some i0), vI x1] S (zpo none out)) (hkp_X8_readTerm : ∀ {i0 : Nat} {x1 : Int32} {S : zH} {out : zH}, kp 1 i0 x1 S = some out → zct G M_X8_readTerm (d + 8) 0 0 [vR 8 (some i0), vI x1] S (zpo none out)) (hkp_X8_readUnit : ∀ {i0 : Nat} {x1 : Int32} {S : zH} {out : zH}, kp 2 i0 x1 S = some out → zct G M_X8_readUnit (d + 8) 0 0 [vR 8 (some i0), vI x1] S (zpo none out)) (hkp_X8_readBracket : ∀ {i0 : Nat} {x1 : Int32} {S : zH} {out : zH}, kp 3 i0 x1 S = some out → zct G M_X8_readBracket (d + 8) 0 0 [vR 8 (some i0), vI x1] S (zpo none out)) (h0 : g_X8_readUnit_21 kp i0 x1 x2 xs0 S = some out) (hp : Post none out) : zn G M_X8_readUnit (d + 9) 0 0 21 [(0, vR 8 (some i0)), (1, vI x1), (2, vI x2)] [vI xs0] S Post := by
  unfold g_X8_readUnit_21 at h0
  refine zn_istore_n (pc := 21) (ls' := [(3, vI xs0), (0, vR 8 (some i0)), (1, vI x1), (2, vI x2)]) dX8_readUnit_21 rfl (Nat.le_of_ble_eq_true rfl) rfl ?_
  refine zn_iload_n (pc := 22) 3 dX8_readUnit_22 rfl rfl ?_
  refine zn_bipush (pc := 23) (x := 48) dX8_readUnit_23 (by decide) ?_
  have h2 := h0; clear h0
  refine zn_icmp_lt (pc := 25) (tgt := 41) dX8_readUnit_25 (by decide) (fun c1 => ?_) (fun c1 => ?_)
  · replace h2 := zif_t c1 h2
    refine zn_pick [1, 2, 3, 0] rfl ?_
    exact gb_X8_readUnit_41 hkp_X8_readSum hkp_X8_readTerm hkp_X8_readUnit hkp_X8_readBracket  h2 hp
  · replace h2 := zif_f c1 h2
    refine zn_iload_n (pc := 28) 3 dX8_readUnit_28 rfl rfl ?_
    refine zn_bipush (pc := 29) (x := 57) dX8_readUnit_29 (by decide) ?_
    have h4 := h2; clear h2
    refine zn_icmp_gt (pc := 31) (tgt := 41) dX8_readUnit_31 (by decide) (fun c3 => ?_) (fun c3 => ?_)
    · replace h4 := zif_t c3 h4
      refine zn_pick [1, 2, 3, 0] rfl ?_
      exact gb_X8_readUnit_41 hkp_X8_readSum hkp_X8_readTerm hkp_X8_readUnit hkp_X8_readBracket  h4 hp
    · replace h4 := zif_f c3 h4
      refine zn_aload_n (pc := 34) 1 dX8_readUnit_34 rfl rfl ?_
      obtain ⟨o5, e6, h7⟩ := zbd h4; clear h4
      refine zn_cV0 (pc := 35) (kc := 0) (ks := 0) (kc' := 0) (ks' := 0) (As := []) (st := []) dX8_readUnit_35 cs_X8_71 pc_8 rfl rfl (Nat.le_of_ble_eq_true rfl) ((c_X8_readNumber e6).mono (by omega)) ?_
      refine zn_goto (pc := 38) (tgt := 101) dX8_readUnit_38 (by decide) ?_
      have hz := Option.some.inj h7; clear h7; subst hz
      exact zn_return (pc := 101) dX8_readUnit_101 rfl hp
theorem gc_X8_readUnit {G : zG} {d : Nat} {kp : Nat → Nat → Int32 → zH → Option zH} {i0 : Nat} {x1 : Int32} {S : zH} {out : zH} (hkp_X8_readSum : ∀ {i0 : Nat} {x1 : Int32} {S : zH} {out : zH}, kp 0 i0 x1 S = some out → zct G M_X8_readSum (d + 8) 0 0 [vR 8 (some i0), vI x1] S (zpo none out)) (hkp_X8_readTerm : ∀ {i0 : Nat} {x1 : Int32} {S : zH} {out : zH}, kp 1 i0 x1 S = some out → zct G M_X8_readTerm (d + 8) 0 0 [vR 8 (some i0), vI x1] S (zpo none out)) (hkp_X8_readUnit : ∀ {i0 : Nat} {x1 : Int32} {S : zH} {out : zH}, kp 2 i0 x1 S = some out → zct G M_X8_readUnit (d + 8) 0 0 [vR 8 (some i0), vI x1] S (zpo none out)) (hkp_X8_readBracket : ∀ {i0 : Nat} {x1 : Int32} {S : zH} {out : zH}, kp 3 i0 x1 S = some out → zct G M_X8_readBracket (d + 8) 0 0 [vR 8 (some i0), vI x1] S (zpo none out)) (h0 : g_X8_readUnit kp i0 x1 S = some out) : zct G M_X8_readUnit (d + 9) 0 0 [vR 8 (some i0), vI x1] S (zpo none out) := by
  refine zct_of (by decide) (Nat.le_of_ble_eq_true rfl) ?_
  show zn G M_X8_readUnit (d + 9) 0 0 0 [(0, vR 8 (some i0)), (1, vI x1)] [] S _
  have hp : zpo none out none out := ⟨rfl, rfl⟩
  unfold g_X8_readUnit at h0
  refine zn_aload_n (pc := 0) 0 dX8_readUnit_0 rfl rfl ?_
  obtain ⟨o8, e9, h10⟩ := zbd h0; clear h0
  refine zn_cVv (pc := 1) (kc := 0) (ks := 0) (kc' := 0) (ks' := 0) (As := []) (st := []) dX8_readUnit_1 cs_X8_53 pc_8 rfl rfl (Nat.le_of_ble_eq_true rfl) ((c_X8_next e9).mono (by omega)) ?_
  refine zn_istore_n (pc := 4) (ls' := [(2, vI o8), (0, vR 8 (some i0)), (1, vI x1)]) dX8_readUnit_4 rfl (Nat.le_of_ble_eq_true rfl) rfl ?_
  refine zn_iload_n (pc := 5) 0 dX8_readUnit_5 rfl rfl ?_
  refine zn_iconst (pc := 6) (x := (-1)) dX8_readUnit_6 (by decide) ?_
  have h12 := h10; clear h10
  refine zn_icmp_ne (pc := 7) (tgt := 14) dX8_readUnit_7 (by decide) (fun c11 => ?_) (fun c11 => ?_)
  · replace h12 := zif_f c11 h12
    refine zn_letIx 0 dX8_readUnit_14 dX8_readUnit_16 dX8_readUnit_17 dX8_readUnit_18 rfl (Nat.le_of_ble_eq_true rfl) ?_
    refine zn_pick [1, 2, 0] rfl ?_
    exact gb_X8_readUnit_21 hkp_X8_readSum hkp_X8_readTerm hkp_X8_readUnit hkp_X8_readBracket  h12 hp
  · replace h12 := zif_t c11 h12
    refine zn_iconst (pc := 10) (x := (-1)) dX8_readUnit_10 (by decide) ?_
    refine zn_goto (pc := 11) (tgt := 21) dX8_readUnit_11 (by decide) ?_
    refine zn_pick [1, 2, 0] rfl ?_
    exact gb_X8_readUnit_21 hkp_X8_readSum hkp_X8_readTerm hkp_X8_readUnit hkp_X8_readBracket  h12 hp
theorem gb_X8_readBracket_49 {G : zG} {Post : Option zV → zH → Prop} {d : Nat} {kp : Nat → Nat → Int32 → zH → Option zH} {i0 : Nat} {S : zH} {out : zH} (hkp_X8_readSum : ∀ {i0 : Nat} {x1 : Int32} {S : zH} {out : zH}, kp 0 i0 x1 S = some out → zct G M_X8_readSum (d + 8) 0 0 [vR 8 (some i0), vI x1] S (zpo none out)) (hkp_X8_readTerm : ∀ {i0 : Nat} {x1 : Int32} {S : zH} {out : zH}, kp 1 i0 x1 S = some out → zct G M_X8_readTerm (d + 8) 0 0 [vR 8 (some i0), vI x1] S (zpo none out)) (hkp_X8_readUnit : ∀ {i0 : Nat} {x1 : Int32} {S : zH} {out : zH}, kp 2 i0 x1 S = some out → zct G M_X8_readUnit (d + 8) 0 0 [vR 8 (some i0), vI x1] S (zpo none out)) (hkp_X8_readBracket : ∀ {i0 : Nat} {x1 : Int32} {S : zH} {out : zH}, kp 3 i0 x1 S = some out → zct G M_X8_readBracket (d + 8) 0 0 [vR 8 (some i0), vI x1] S (zpo none out)) (h0 : g_X8_readBracket_49 kp i0 S = some out) (hp : Post none out) : zn G M_X8_readBracket (d + 9) 0 0 49 [(0, vR 8 (some i0))] [] S Post := by
  unfold g_X8_readBracket_49 at h0
  refine zn_aload_n (pc := 49) 0 dX8_readBracket_49 rfl rfl ?_
  obtain ⟨o1, e2, h3⟩ := zbd h0; clear h0
  refine zn_cVv (pc := 50) (kc := 0) (ks := 0) (kc' := 0) (ks' := 0) (As := []) (st := []) dX8_readBracket_50 cs_X8_53 pc_8 rfl rfl (Nat.le_of_ble_eq_true rfl) ((c_X8_next e2).mono (by omega)) ?_
  refine zn_bipush (pc := 53) (x := 41) dX8_readBracket_53 (by decide) ?_
  have h5 := h3; clear h3
  refine zn_icmp_ne (pc := 55) (tgt := 71) dX8_readBracket_55 (by decide) (fun c4 => ?_) (fun c4 => ?_)
  · replace h5 := zif_f c4 h5
    refine zn_aload_n (pc := 71) 0 dX8_readBracket_71 rfl rfl ?_
    obtain ⟨o6, e7, h8⟩ := zbd h5; clear h5
    refine zn_cV0 (pc := 72) (kc := 0) (ks := 0) (kc' := 0) (ks' := 0) (As := []) (st := []) dX8_readBracket_72 cs_X8_47 pc_8 rfl rfl (Nat.le_of_ble_eq_true rfl) ((c_X8_fail e7).mono (by omega)) ?_
    have hz := Option.some.inj h8; clear h8; subst hz
    exact zn_return (pc := 75) dX8_readBracket_75 rfl hp
  · replace h5 := zif_t c4 h5
    refine zn_aload_n (pc := 58) 0 dX8_readBracket_58 rfl rfl ?_
    refine zn_dup (pc := 59) dX8_readBracket_59 rfl ?_
    refine zn_getI (pc := 60) fa_X8_37_8.1 fa_X8_37_8.2 dX8_readBracket_60 ?_
    refine zn_iconst (pc := 63) (x := 1) dX8_readBracket_63 (by decide) ?_
    refine zn_iadd (pc := 64) dX8_readBracket_64 ?_
    obtain ⟨S9, hS10, h11⟩ := zltd h5; clear h5
    refine zn_putI (pc := 65) fp_X8_37_8.1 (fp_X8_37_8 (nm := "")).2 dX8_readBracket_65 hS10 ?_
    refine zn_goto (pc := 68) (tgt := 75) dX8_readBracket_68 (by decide) ?_
    have hz := Option.some.inj h11; clear h11; subst hz
    exact zn_return (pc := 75) dX8_readBracket_75 rfl hp
theorem gb_X8_readBracket_28 {G : zG} {Post : Option zV → zH → Prop} {d : Nat} {kp : Nat → Nat → Int32 → zH → Option zH} {i0 : Nat} {x1 : Int32} {x2 : Int32} {S : zH} {out : zH} (hkp_X8_readSum : ∀ {i0 : Nat} {x1 : Int32} {S : zH} {out : zH}, kp 0 i0 x1 S = some out → zct G M_X8_readSum (d + 8) 0 0 [vR 8 (some i0), vI x1] S (zpo none out)) (hkp_X8_readTerm : ∀ {i0 : Nat} {x1 : Int32} {S : zH} {out : zH}, kp 1 i0 x1 S = some out → zct G M_X8_readTerm (d + 8) 0 0 [vR 8 (some i0), vI x1] S (zpo none out)) (hkp_X8_readUnit : ∀ {i0 : Nat} {x1 : Int32} {S : zH} {out : zH}, kp 2 i0 x1 S = some out → zct G M_X8_readUnit (d + 8) 0 0 [vR 8 (some i0), vI x1] S (zpo none out)) (hkp_X8_readBracket : ∀ {i0 : Nat} {x1 : Int32} {S : zH} {out : zH}, kp 3 i0 x1 S = some out → zct G M_X8_readBracket (d + 8) 0 0 [vR 8 (some i0), vI x1] S (zpo none out)) (h0 : g_X8_readBracket_28 kp i0 x1 x2 S = some out) (hp : Post none out) : zn G M_X8_readBracket (d + 9) 0 0 28 [(0, vR 8 (some i0)), (1, vI x1), (2, vI x2)] [] S Post := by
  unfold g_X8_readBracket_28 at h0
  refine zn_aload_n (pc := 28) 0 dX8_readBracket_28 rfl rfl ?_
  refine zn_dup (pc := 29) dX8_readBracket_29 rfl ?_
  refine zn_getI (pc := 30) fa_X8_37_8.1 fa_X8_37_8.2 dX8_readBracket_30 ?_
  refine zn_iconst (pc := 33) (x := 1) dX8_readBracket_33 (by decide) ?_
  refine zn_iadd (pc := 34) dX8_readBracket_34 ?_
  obtain ⟨S1, hS2, h3⟩ := zltd h0; clear h0
  refine zn_putI (pc := 35) fp_X8_37_8.1 (fp_X8_37_8 (nm := "")).2 dX8_readBracket_35 hS2 ?_
  refine zn_aload_n (pc := 38) 0 dX8_readBracket_38 rfl rfl ?_
  refine zn_iload_n (pc := 39) 1 dX8_readBracket_39 rfl rfl ?_
  obtain ⟨o4, e5, h6⟩ := zbd h3; clear h3
  refine zn_cV0 (pc := 40) (kc := 0) (ks := 0) (kc' := 0) (ks' := 0) (As := [vI x1]) (st := []) dX8_readBracket_40 cs_X8_43 pc_8 rfl rfl (Nat.le_of_ble_eq_true rfl) (hkp_X8_readSum e5) ?_
  refine zn_aload_n (pc := 43) 0 dX8_readBracket_43 rfl rfl ?_
  refine zn_iload_n (pc := 44) 2 dX8_readBracket_44 rfl rfl ?_
  refine zn_ineg (pc := 45) dX8_readBracket_45 ?_
  obtain ⟨o7, e8, h9⟩ := zbd h6; clear h6
  refine zn_cV0 (pc := 46) (kc := 0) (ks := 0) (kc' := 0) (ks' := 0) (As := [vI (-x2)]) (st := []) dX8_readBracket_46 cs_X8_57 pc_8 rfl rfl (Nat.le_of_ble_eq_true rfl) ((c_X8_emit e8).mono (by omega)) ?_
  refine zn_pick [0] rfl ?_
  exact gb_X8_readBracket_49 hkp_X8_readSum hkp_X8_readTerm hkp_X8_readUnit hkp_X8_readBracket  h9 hp
theorem gc_X8_readBracket {G : zG} {d : Nat} {kp : Nat → Nat → Int32 → zH → Option zH} {i0 : Nat} {x1 : Int32} {S : zH} {out : zH} (hkp_X8_readSum : ∀ {i0 : Nat} {x1 : Int32} {S : zH} {out : zH}, kp 0 i0 x1 S = some out → zct G M_X8_readSum (d + 8) 0 0 [vR 8 (some i0), vI x1] S (zpo none out)) (hkp_X8_readTerm : ∀ {i0 : Nat} {x1 : Int32} {S : zH} {out : zH}, kp 1 i0 x1 S = some out → zct G M_X8_readTerm (d + 8) 0 0 [vR 8 (some i0), vI x1] S (zpo none out)) (hkp_X8_readUnit : ∀ {i0 : Nat} {x1 : Int32} {S : zH} {out : zH}, kp 2 i0 x1 S = some out → zct G M_X8_readUnit (d + 8) 0 0 [vR 8 (some i0), vI x1] S (zpo none out)) (hkp_X8_readBracket : ∀ {i0 : Nat} {x1 : Int32} {S : zH} {out : zH}, kp 3 i0 x1 S = some out → zct G M_X8_readBracket (d + 8) 0 0 [vR 8 (some i0), vI x1] S (zpo none out)) (h0 : g_X8_readBracket kp i0 x1 S = some out) : zct G M_X8_readBracket (d + 9) 0 0 [vR 8 (some i0), vI x1] S (zpo none out) := by
  refine zct_of (by decide) (Nat.le_of_ble_eq_true rfl) ?_
  show zn G M_X8_readBracket (d + 9) 0 0 0 [(0, vR 8 (some i0)), (1, vI x1)] [] S _
  have hp : zpo none out none out := ⟨rfl, rfl⟩
  unfold g_X8_readBracket at h0
  refine zn_aload_n (pc := 0) 0 dX8_readBracket_0 rfl rfl ?_
  refine zn_iload_n (pc := 1) 1 dX8_readBracket_1 rfl rfl ?_
  obtain ⟨o10, e11, h12⟩ := zbd h0; clear h0
  refine zn_cV0 (pc := 2) (kc := 0) (ks := 0) (kc' := 0) (ks' := 0) (As := [vI x1]) (st := []) dX8_readBracket_2 cs_X8_43 pc_8 rfl rfl (Nat.le_of_ble_eq_true rfl) (hkp_X8_readSum e11) ?_
  refine zn_aload_n (pc := 5) 0 dX8_readBracket_5 rfl rfl ?_
  obtain ⟨o13, e14, h15⟩ := zbd h12; clear h12
  refine zn_cVv (pc := 6) (kc := 0) (ks := 0) (kc' := 0) (ks' := 0) (As := []) (st := []) dX8_readBracket_6 cs_X8_53 pc_8 rfl rfl (Nat.le_of_ble_eq_true rfl) ((c_X8_next e14).mono (by omega)) ?_
  refine zn_istore_n (pc := 9) (ls' := [(2, vI o13), (0, vR 8 (some i0)), (1, vI x1)]) dX8_readBracket_9 rfl (Nat.le_of_ble_eq_true rfl) rfl ?_
  refine zn_iload_n (pc := 10) 0 dX8_readBracket_10 rfl rfl ?_
  refine zn_bipush (pc := 11) (x := 60) dX8_readBracket_11 (by decide) ?_
  have h17 := h15; clear h15
  refine zn_icmp_eq (pc := 13) (tgt := 28) dX8_readBracket_13 (by decide) (fun c16 => ?_) (fun c16 => ?_)
  · replace h17 := zif_t c16 h17
    refine zn_pick [1, 2, 0] rfl ?_
    exact gb_X8_readBracket_28 hkp_X8_readSum hkp_X8_readTerm hkp_X8_readUnit hkp_X8_readBracket  h17 hp
  · replace h17 := zif_f c16 h17
    refine zn_iload_n (pc := 16) 0 dX8_readBracket_16 rfl rfl ?_
    refine zn_bipush (pc := 17) (x := 61) dX8_readBracket_17 (by decide) ?_
    have h19 := h17; clear h17
    refine zn_icmp_eq (pc := 19) (tgt := 28) dX8_readBracket_19 (by decide) (fun c18 => ?_) (fun c18 => ?_)
    · replace h19 := zif_t c18 h19
      refine zn_pick [1, 2, 0] rfl ?_
      exact gb_X8_readBracket_28 hkp_X8_readSum hkp_X8_readTerm hkp_X8_readUnit hkp_X8_readBracket  h19 hp
    · replace h19 := zif_f c18 h19
      refine zn_iload_n (pc := 22) 0 dX8_readBracket_22 rfl rfl ?_
      refine zn_bipush (pc := 23) (x := 62) dX8_readBracket_23 (by decide) ?_
      have h21 := h19; clear h19
      refine zn_icmp_ne (pc := 25) (tgt := 49) dX8_readBracket_25 (by decide) (fun c20 => ?_) (fun c20 => ?_)
      · replace h21 := zif_f c20 h21
        refine zn_pick [1] rfl ?_
        exact gb_X8_readBracket_49 hkp_X8_readSum hkp_X8_readTerm hkp_X8_readUnit hkp_X8_readBracket  h21 hp
      · replace h21 := zif_t c20 h21
        refine zn_pick [1, 2, 0] rfl ?_
        exact gb_X8_readBracket_28 hkp_X8_readSum hkp_X8_readTerm hkp_X8_readUnit hkp_X8_readBracket  h21 hp
theorem par_X8 {G : zG} : ∀ n : Nat, (∀ {i0 : Nat} {x1 : Int32} {S : zH} {out : zH}, f_X8_par n 0 i0 x1 S = some out → zct G M_X8_readSum (n + 8) 0 0 [vR 8 (some i0), vI x1] S (zpo none out)) ∧ (∀ {i0 : Nat} {x1 : Int32} {S : zH} {out : zH}, f_X8_par n 1 i0 x1 S = some out → zct G M_X8_readTerm (n + 8) 0 0 [vR 8 (some i0), vI x1] S (zpo none out)) ∧ (∀ {i0 : Nat} {x1 : Int32} {S : zH} {out : zH}, f_X8_par n 2 i0 x1 S = some out → zct G M_X8_readUnit (n + 8) 0 0 [vR 8 (some i0), vI x1] S (zpo none out)) ∧ (∀ {i0 : Nat} {x1 : Int32} {S : zH} {out : zH}, f_X8_par n 3 i0 x1 S = some out → zct G M_X8_readBracket (n + 8) 0 0 [vR 8 (some i0), vI x1] S (zpo none out)) := by
  intro n
  induction n with
  | zero => exact ⟨fun h => (nomatch (show (none : Option _) = some _ from h)), fun h => (nomatch (show (none : Option _) = some _ from h)), fun h => (nomatch (show (none : Option _) = some _ from h)), fun h => (nomatch (show (none : Option _) = some _ from h))⟩
  | succ n ih =>
    obtain ⟨q0, q1, q2, q3⟩ := ih
    refine ⟨?_, ?_, ?_, ?_⟩
    · intro i0 x1 S out h
      rw [f_X8_par] at h
      exact gc_X8_readSum q0 q1 q2 q3 h
    · intro i0 x1 S out h
      rw [f_X8_par] at h
      exact gc_X8_readTerm q0 q1 q2 q3 h
    · intro i0 x1 S out h
      rw [f_X8_par] at h
      exact gc_X8_readUnit q0 q1 q2 q3 h
    · intro i0 x1 S out h
      rw [f_X8_par] at h
      exact gc_X8_readBracket q0 q1 q2 q3 h
theorem c_X8_readSum {G : zG} {i0 : Nat} {x1 : Int32} {S : zH} {out : zH} (h : f_X8_readSum i0 x1 S = some out) : zct G M_X8_readSum 60 0 0 [vR 8 (some i0), vI x1] S (zpo none out) := ((par_X8 30).1 h).mono (Nat.le_of_ble_eq_true rfl)
theorem c_X8_readTerm {G : zG} {i0 : Nat} {x1 : Int32} {S : zH} {out : zH} (h : f_X8_readTerm i0 x1 S = some out) : zct G M_X8_readTerm 60 0 0 [vR 8 (some i0), vI x1] S (zpo none out) := ((par_X8 30).2.1 h).mono (Nat.le_of_ble_eq_true rfl)
theorem c_X8_readUnit {G : zG} {i0 : Nat} {x1 : Int32} {S : zH} {out : zH} (h : f_X8_readUnit i0 x1 S = some out) : zct G M_X8_readUnit 60 0 0 [vR 8 (some i0), vI x1] S (zpo none out) := ((par_X8 30).2.2.1 h).mono (Nat.le_of_ble_eq_true rfl)
theorem c_X8_readBracket {G : zG} {i0 : Nat} {x1 : Int32} {S : zH} {out : zH} (h : f_X8_readBracket i0 x1 S = some out) : zct G M_X8_readBracket 60 0 0 [vR 8 (some i0), vI x1] S (zpo none out) := ((par_X8 30).2.2.2 h).mono (Nat.le_of_ble_eq_true rfl)
