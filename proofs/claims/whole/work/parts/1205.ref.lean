theorem b_X0_alike_4 {G : zG} {Post : Option zV → zH → Prop} : ∀ (n : Nat) (x0 : Int32) (x1 : Int32) (x2 : Int32) (x3 : Int32) (S : zH) (out : Int32), f_X0_alike_4 n x0 x1 x2 x3 S = some out → Post (some (vI out)) S → zn G M_X0_alike 0 0 0 4 [(0, vI x0), (1, vI x1), (2, vI x2), (3, vI x3)] [] S Post := by
  intro n
  induction n with
  | zero => intro x0 x1 x2 x3 S out h0 hp; exact (nomatch (show (none : Option _) = some out from h0))
  | succ n ih =>
    intro x0 x1 x2 x3 S out h0 hp
    rw [f_X0_alike_4] at h0
    refine zn_iload_n (pc := 4) 3 dX0_alike_4 rfl rfl ?_
    refine zn_sipush (pc := 5) (x := 1000) dX0_alike_5 (by decide) ?_
    have h2 := h0; clear h0
    refine zn_icmp_gt (pc := 8) (tgt := 37) dX0_alike_8 (by decide) (fun c1 => ?_) (fun c1 => ?_)
    · replace h2 := zif_t c1 h2
      refine zn_iload_n (pc := 37) 2 dX0_alike_37 rfl rfl ?_
      have h4 := h2; clear h2
      refine zn_if_ne (pc := 38) (tgt := 45) dX0_alike_38 (by decide) (fun c3 => ?_) (fun c3 => ?_)
      · replace h4 := zif_f c3 h4
        refine zn_iload_n (pc := 45) 2 dX0_alike_45 rfl rfl ?_
        refine zn_iconst (pc := 46) (x := 1) dX0_alike_46 (by decide) ?_
        have h6 := h4; clear h4
        refine zn_icmp_ne (pc := 47) (tgt := 54) dX0_alike_47 (by decide) (fun c5 => ?_) (fun c5 => ?_)
        · replace h6 := zif_f c5 h6
          refine zn_iconst (pc := 54) (x := 0) dX0_alike_54 (by decide) ?_
          have hz := Option.some.inj h6; clear h6; subst hz
          exact zn_ireturn (pc := 55) dX0_alike_55 rfl hp
        · replace h6 := zif_t c5 h6
          refine zn_iconst (pc := 50) (x := 1) dX0_alike_50 (by decide) ?_
          refine zn_goto (pc := 51) (tgt := 55) dX0_alike_51 (by decide) ?_
          have hz := Option.some.inj h6; clear h6; subst hz
          exact zn_ireturn (pc := 55) dX0_alike_55 rfl hp
      · replace h4 := zif_t c3 h4
        refine zn_iconst (pc := 41) (x := 2) dX0_alike_41 (by decide) ?_
        refine zn_goto (pc := 42) (tgt := 55) dX0_alike_42 (by decide) ?_
        have hz := Option.some.inj h4; clear h4; subst hz
        exact zn_ireturn (pc := 55) dX0_alike_55 rfl hp
    · replace h2 := zif_f c1 h2
      refine zn_iload_n (pc := 11) 0 dX0_alike_11 rfl rfl ?_
      refine zn_iload_n (pc := 12) 3 dX0_alike_12 rfl rfl ?_
      obtain ⟨hb7, h8⟩ := zgdd h2; clear h2
      refine zn_idiv (pc := 13) dX0_alike_13 (zne_of hb7) ?_
      refine zn_bipush (pc := 14) (x := 10) dX0_alike_14 (by decide) ?_
      refine zn_irem (pc := 16) dX0_alike_16 (by decide) ?_
      refine zn_iload_n (pc := 17) 1 dX0_alike_17 rfl rfl ?_
      refine zn_iload_n (pc := 18) 3 dX0_alike_18 rfl rfl ?_
      obtain ⟨hb9, h10⟩ := zgdd h8; clear h8
      refine zn_idiv (pc := 19) dX0_alike_19 (zne_of hb9) ?_
      refine zn_bipush (pc := 20) (x := 10) dX0_alike_20 (by decide) ?_
      refine zn_irem (pc := 22) dX0_alike_22 (by decide) ?_
      have h12 := h10; clear h10
      refine zn_icmp_eq (pc := 23) (tgt := 29) dX0_alike_23 (by decide) (fun c11 => ?_) (fun c11 => ?_)
      · replace h12 := zif_t c11 h12
        refine zn_iload_n (pc := 29) 3 dX0_alike_29 rfl rfl ?_
        refine zn_bipush (pc := 30) (x := 10) dX0_alike_30 (by decide) ?_
        refine zn_imul (pc := 32) dX0_alike_32 ?_
        refine zn_istore_n (pc := 33) (ls' := [(3, vI (x3 * 10)), (0, vI x0), (1, vI x1), (2, vI x2)]) dX0_alike_33 rfl (Nat.le_of_ble_eq_true rfl) rfl ?_
        refine zn_goto (pc := 34) (tgt := 4) dX0_alike_34 (by decide) ?_
        refine zn_pick [1, 2, 3, 0] rfl ?_
        exact ih _ _ _ _ _ _ h12 hp
      · replace h12 := zif_f c11 h12
        refine zn_iinc (pc := 26) 2 (y := x2 + 1) (ls' := [(2, vI (x2 + 1)), (0, vI x0), (1, vI x1), (3, vI x3)]) dX0_alike_26 rfl rfl (Nat.le_of_ble_eq_true rfl) rfl ?_
        refine zn_iload_n (pc := 29) 3 dX0_alike_29 rfl rfl ?_
        refine zn_bipush (pc := 30) (x := 10) dX0_alike_30 (by decide) ?_
        refine zn_imul (pc := 32) dX0_alike_32 ?_
        refine zn_istore_n (pc := 33) (ls' := [(3, vI (x3 * 10)), (2, vI (x2 + 1)), (0, vI x0), (1, vI x1)]) dX0_alike_33 rfl (Nat.le_of_ble_eq_true rfl) rfl ?_
        refine zn_goto (pc := 34) (tgt := 4) dX0_alike_34 (by decide) ?_
        refine zn_pick [2, 3, 1, 0] rfl ?_
        exact ih _ _ _ _ _ _ h12 hp
theorem c_X0_alike {G : zG} {x0 : Int32} {x1 : Int32} {S : zH} {out : Int32} (h0 : f_X0_alike x0 x1 S = some out) : zct G M_X0_alike 0 0 0 [vI x0, vI x1] S (zpo (some (vI out)) S) := by
  refine zct_of (by decide) (Nat.le_of_ble_eq_true rfl) ?_
  show zn G M_X0_alike 0 0 0 0 [(0, vI x0), (1, vI x1)] [] S _
  have hp : zpo (some (vI out)) S (some (vI out)) S := ⟨rfl, rfl⟩
  unfold f_X0_alike at h0
  refine zn_iconst (pc := 0) (x := 0) dX0_alike_0 (by decide) ?_
  refine zn_istore_n (pc := 1) (ls' := [(2, vI 0), (0, vI x0), (1, vI x1)]) dX0_alike_1 rfl (Nat.le_of_ble_eq_true rfl) rfl ?_
  refine zn_iconst (pc := 2) (x := 1) dX0_alike_2 (by decide) ?_
  refine zn_istore_n (pc := 3) (ls' := [(3, vI 1), (2, vI 0), (0, vI x0), (1, vI x1)]) dX0_alike_3 rfl (Nat.le_of_ble_eq_true rfl) rfl ?_
  refine zn_pick [2, 3, 1, 0] rfl ?_
  exact b_X0_alike_4  fu _ _ _ _ _ _ h0 hp
theorem c_X0_likeness {G : zG} {i0 : Nat} {x1 : Int32} {S : zH} {out : Int32} (h0 : f_X0_likeness i0 x1 S = some out) : zct G M_X0_likeness 1 0 0 [vR 3 (some i0), vI x1] S (zpo (some (vI out)) S) := by
  refine zct_of (by decide) (Nat.le_of_ble_eq_true rfl) ?_
  show zn G M_X0_likeness 1 0 0 0 [(0, vR 3 (some i0)), (1, vI x1)] [] S _
  have hp : zpo (some (vI out)) S (some (vI out)) S := ⟨rfl, rfl⟩
  unfold f_X0_likeness at h0
  refine zn_aload_n (pc := 0) 0 dX0_likeness_0 rfl rfl ?_
  refine zn_getI (pc := 1) fa_X0_19_3.1 fa_X0_19_3.2 dX0_likeness_1 ?_
  refine zn_iload_n (pc := 4) 1 dX0_likeness_4 rfl rfl ?_
  obtain ⟨o1, e2, h3⟩ := zbd h0; clear h0
  refine zn_cSv (pc := 5) (kc := 0) (ks := 0) (kc' := 0) (ks' := 0) (As := [vI (zI S 3 i0 2), vI x1]) (st := []) dX0_likeness_5 cs_X0_46 rfl rfl (Nat.le_of_ble_eq_true rfl) ((c_X0_alike e2).mono (Nat.le_of_ble_eq_true rfl)) ?_
  refine zn_istore_n (pc := 8) (ls' := [(2, vI o1), (0, vR 3 (some i0)), (1, vI x1)]) dX0_likeness_8 rfl (Nat.le_of_ble_eq_true rfl) rfl ?_
  refine zn_aload_n (pc := 9) 1 dX0_likeness_9 rfl rfl ?_
  obtain ⟨o4, e5, h6⟩ := zbd h3; clear h3
  refine zn_cVv (pc := 10) (kc := 0) (ks := 0) (kc' := 0) (ks' := 0) (As := []) (st := []) dX0_likeness_10 cs_X0_50 pc_3 rfl rfl (Nat.le_of_ble_eq_true rfl) ((c_X0_isJoint e5).mono (Nat.le_of_ble_eq_true rfl)) ?_
  have h8 := h6; clear h6
  refine zn_if_eq (pc := 13) (tgt := 31) dX0_likeness_13 (by decide) (fun c7 => ?_) (fun c7 => ?_)
  · replace h8 := zif_t c7 h8
    refine zn_iload_n (pc := 31) 0 dX0_likeness_31 rfl rfl ?_
    have hz := Option.some.inj h8; clear h8; subst hz
    exact zn_ireturn (pc := 32) dX0_likeness_32 rfl hp
  · replace h8 := zif_f c7 h8
    refine zn_iload_n (pc := 16) 0 dX0_likeness_16 rfl rfl ?_
    refine zn_aload_n (pc := 17) 1 dX0_likeness_17 rfl rfl ?_
    refine zn_getI (pc := 18) fa_X0_22_3.1 fa_X0_22_3.2 dX0_likeness_18 ?_
    refine zn_iload_n (pc := 21) 2 dX0_likeness_21 rfl rfl ?_
    obtain ⟨o9, e10, h11⟩ := zbd h8; clear h8
    refine zn_cSv (pc := 22) (kc := 0) (ks := 0) (kc' := 0) (ks' := 0) (As := [vI (zI S 3 i0 3), vI x1]) (st := [vI o1]) dX0_likeness_22 cs_X0_46 rfl rfl (Nat.le_of_ble_eq_true rfl) ((c_X0_alike e10).mono (Nat.le_of_ble_eq_true rfl)) ?_
    refine zn_mmax (pc := 25) dX0_likeness_25 ml_X0_54 ws_max.1 ws_max.2.1 ws_max.2.2 (Nat.le_of_ble_eq_true rfl) ?_
    refine zn_goto (pc := 28) (tgt := 32) dX0_likeness_28 (by decide) ?_
    have hz := Option.some.inj h11; clear h11; subst hz
    exact zn_ireturn (pc := 32) dX0_likeness_32 rfl hp
theorem c_X9_like {G : zG} {i0 : Nat} {x1 : Int32} {x2 : Int32} {S : zH} {out : (Int32 × zH)} (h0 : f_X9_like i0 x1 x2 S = some out) : zct G M_X9_like 5 0 0 [vR 0 (some i0), vI x1, vI x2] S (zpo (some (vI out.1)) out.2) := by
  refine zct_of (by decide) (Nat.le_of_ble_eq_true rfl) ?_
  show zn G M_X9_like 5 0 0 0 [(0, vR 0 (some i0)), (1, vI x1), (2, vI x2)] [] S _
  have hp : zpo (some (vI out.1)) out.2 (some (vI out.1)) out.2 := ⟨rfl, rfl⟩
  unfold f_X9_like at h0
  refine zn_aload_n (pc := 0) 0 dX9_like_0 rfl rfl ?_
  refine zn_iload_n (pc := 1) 1 dX9_like_1 rfl rfl ?_
  obtain ⟨o1, e2, h3⟩ := zbd h0; clear h0
  refine zn_cVv (pc := 2) (kc := 0) (ks := 0) (kc' := 0) (ks' := 0) (As := [vI x1]) (st := []) dX9_like_2 cs_X9_155 pc_0 rfl rfl (Nat.le_of_ble_eq_true rfl) ((c_X9_accountAt e2).mono (Nat.le_of_ble_eq_true rfl)) ?_
  refine zn_astore_n (pc := 5) (ls' := [(3, vR 3 o1), (0, vR 0 (some i0)), (1, vI x1), (2, vI x2)]) dX9_like_5 rfl (Nat.le_of_ble_eq_true rfl) rfl ?_
  refine zn_aload_n (pc := 6) 0 dX9_like_6 rfl rfl ?_
  have h6 := h3; clear h3
  refine zn_ifnonnull (pc := 7) (tgt := 16) dX9_like_7 (by decide) (fun i5 hr4 => ?_) (fun hr4 => ?_)
  · replace h6 := zop_s hr4 h6
    rw [hr4]
    refine zn_iload_n (pc := 16) 3 dX9_like_16 rfl rfl ?_
    refine zn_iconst (pc := 17) (x := 0) dX9_like_17 (by decide) ?_
    refine zn_sipush (pc := 18) (x := 9999) dX9_like_18 (by decide) ?_
    obtain ⟨o10, e11, h12⟩ := zbd h6; clear h6
    refine zn_cSv (pc := 21) (kc := 0) (ks := 0) (kc' := 0) (ks' := 0) (As := [vI x2, vI 0, vI 9999]) (st := []) dX9_like_21 cs_X9_74 rfl rfl (Nat.le_of_ble_eq_true rfl) ((c_X9_outside e11).mono (Nat.le_of_ble_eq_true rfl)) ?_
    refine zn_istore (pc := 24) (ls' := [(4, vI o10), (3, vR 3 (some i5)), (0, vR 0 (some i0)), (1, vI x1), (2, vI x2)]) dX9_like_24 (Nat.le_of_ble_eq_true rfl) rfl ?_
    refine zn_iload (pc := 26) 0 dX9_like_26 rfl ?_
    have h14 := h12; clear h12
    refine zn_if_eq (pc := 28) (tgt := 38) dX9_like_28 (by decide) (fun c13 => ?_) (fun c13 => ?_)
    · replace h14 := zif_t c13 h14
      refine zn_aload_n (pc := 38) 1 dX9_like_38 rfl rfl ?_
      refine zn_iload_n (pc := 39) 4 dX9_like_39 rfl rfl ?_
      obtain ⟨o15, e16, h17⟩ := zbd h14; clear h14
      refine zn_cVv (pc := 40) (kc := 0) (ks := 0) (kc' := 0) (ks' := 0) (As := [vI x2]) (st := []) dX9_like_40 cs_X9_317 pc_3 rfl rfl (Nat.le_of_ble_eq_true rfl) ((c_X0_likeness e16).mono (Nat.le_of_ble_eq_true rfl)) ?_
      have hz := Option.some.inj h17; clear h17; subst hz
      exact zn_ireturn (pc := 43) dX9_like_43 rfl hp
    · replace h14 := zif_f c13 h14
      refine zn_aload_n (pc := 31) 2 dX9_like_31 rfl rfl ?_
      refine zn_iload (pc := 32) 0 dX9_like_32 rfl ?_
      obtain ⟨o18, e19, h20⟩ := zbd h14; clear h14
      refine zn_cVv (pc := 34) (kc := 0) (ks := 0) (kc' := 0) (ks' := 0) (As := [vI o10]) (st := []) dX9_like_34 cs_X9_78 pc_0 rfl rfl (Nat.le_of_ble_eq_true rfl) ((c_X9_refuse e19).mono (Nat.le_of_ble_eq_true rfl)) ?_
      have hz := Option.some.inj h20; clear h20; subst hz
      exact zn_ireturn (pc := 37) dX9_like_37 rfl hp
  · replace h6 := zop_n hr4 h6
    rw [hr4]
    refine zn_aload_n (pc := 10) 1 dX9_like_10 rfl rfl ?_
    refine zn_iconst (pc := 11) (x := (-1)) dX9_like_11 (by decide) ?_
    obtain ⟨o7, e8, h9⟩ := zbd h6; clear h6
    refine zn_cVv (pc := 12) (kc := 0) (ks := 0) (kc' := 0) (ks' := 0) (As := [vI (-1)]) (st := []) dX9_like_12 cs_X9_78 pc_0 rfl rfl (Nat.le_of_ble_eq_true rfl) ((c_X9_refuse e8).mono (Nat.le_of_ble_eq_true rfl)) ?_
    have hz := Option.some.inj h9; clear h9; subst hz
    exact zn_ireturn (pc := 15) dX9_like_15 rfl hp
theorem b_X9_greatestLikeness_5 {G : zG} {Post : Option zV → zH → Prop} : ∀ (n : Nat) (i0 : Nat) (r1 : Option Nat) (x2 : Int32) (x3 : Int32) (x4 : Int32) (S : zH) (out : Int32), f_X9_greatestLikeness_5 n i0 r1 x2 x3 x4 S = some out → Post (some (vI out)) S → zn G M_X9_greatestLikeness 4 0 0 5 [(0, vR 0 (some i0)), (1, vR 2 r1), (2, vI x2), (3, vI x3), (4, vI x4)] [] S Post := by
  intro n
  induction n with
  | zero => intro i0 r1 x2 x3 x4 S out h0 hp; exact (nomatch (show (none : Option _) = some out from h0))
  | succ n ih =>
    intro i0 r1 x2 x3 x4 S out h0 hp
    rw [f_X9_greatestLikeness_5] at h0
    refine zn_iload (pc := 5) 4 dX9_greatestLikeness_5 rfl ?_
    refine zn_aload_n (pc := 7) 0 dX9_greatestLikeness_7 rfl rfl ?_
    refine zn_getR (pc := 8) fa_X9_28_0.1 fa_X9_28_0.2 dX9_greatestLikeness_8 ?_
    obtain ⟨i1, hi2, h3⟩ := zbd h0; clear h0
    rw [hi2]
    obtain ⟨o4, e5, h6⟩ := zbd h3; clear h3
    refine zn_cVv (pc := 11) (kc := 0) (ks := 0) (kc' := 0) (ks' := 0) (As := []) (st := [vI x4]) dX9_greatestLikeness_11 cls_X9_142 pc_10 rfl rfl (Nat.le_of_ble_eq_true rfl) (zc_size (p := 10) (by decide) (Nat.le_of_ble_eq_true rfl) e5) ?_
    have h8 := h6; clear h6
    refine zn_icmp_ge (pc := 14) (tgt := 65) dX9_greatestLikeness_14 (by decide) (fun c7 => ?_) (fun c7 => ?_)
    · replace h8 := zif_t c7 h8
      refine zn_iload_n (pc := 65) 3 dX9_greatestLikeness_65 rfl rfl ?_
      have hz := Option.some.inj h8; clear h8; subst hz
      exact zn_ireturn (pc := 66) dX9_greatestLikeness_66 rfl hp
    · replace h8 := zif_f c7 h8
      refine zn_aload_n (pc := 17) 0 dX9_greatestLikeness_17 rfl rfl ?_
      refine zn_getR (pc := 18) fa_X9_28_0.1 fa_X9_28_0.2 dX9_greatestLikeness_18 ?_
      refine zn_iload (pc := 21) 4 dX9_greatestLikeness_21 rfl ?_
      obtain ⟨i9, hi10, h11⟩ := zbd h8; clear h8
      rw [hi10]
      obtain ⟨o12, e13, h14⟩ := zbd h11; clear h11
      refine zn_cVv (pc := 23) (kc := 0) (ks := 0) (kc' := 0) (ks' := 0) (As := [vI x4]) (st := []) dX9_greatestLikeness_23 clg_X9_353 pc_10 rfl rfl (Nat.le_of_ble_eq_true rfl) (zc_get (p := 10) (by decide) rfl (Nat.le_of_ble_eq_true rfl) e13) ?_
      refine zn_cast (pc := 26) cl_X9_151 pc_3 dX9_greatestLikeness_26 ?_
      refine zn_astore (pc := 29) (ls' := [(5, vR 3 o12), (0, vR 0 (some i0)), (1, vR 2 r1), (2, vI x2), (3, vI x3), (4, vI x4)]) dX9_greatestLikeness_29 (Nat.le_of_ble_eq_true rfl) rfl ?_
      refine zn_aload (pc := 31) 0 dX9_greatestLikeness_31 rfl ?_
      obtain ⟨i15, hi16, h17⟩ := zbd h14; clear h14
      rw [hi16]
      refine zn_getI (pc := 33) fa_X9_159_3.1 fa_X9_159_3.2 dX9_greatestLikeness_33 ?_
      have h19 := h17; clear h17
      refine zn_if_ne (pc := 36) (tgt := 59) dX9_greatestLikeness_36 (by decide) (fun c18 => ?_) (fun c18 => ?_)
      · replace h19 := zif_f c18 h19
        refine zn_iinc (pc := 59) 5 (y := x4 + 1) (ls' := [(4, vI (x4 + 1)), (5, vR 3 (some i15)), (0, vR 0 (some i0)), (1, vR 2 r1), (2, vI x2), (3, vI x3)]) dX9_greatestLikeness_59 rfl rfl (Nat.le_of_ble_eq_true rfl) rfl ?_
        refine zn_goto (pc := 62) (tgt := 5) dX9_greatestLikeness_62 (by decide) ?_
        refine zn_pick [2, 3, 4, 5, 0] rfl ?_
        exact ih _ _ _ _ _ _ _ h19 hp
      · replace h19 := zif_t c18 h19
        refine zn_aload (pc := 39) 0 dX9_greatestLikeness_39 rfl ?_
        refine zn_getR (pc := 41) fa_X9_176_3.1 fa_X9_176_3.2 dX9_greatestLikeness_41 ?_
        refine zn_aload_n (pc := 44) 2 dX9_greatestLikeness_44 rfl rfl ?_
        have h21 := h19; clear h19
        refine zn_acmp_ne (pc := 45) (tgt := 59) rfl dX9_greatestLikeness_45 (by decide) (fun c20 => ?_) (fun c20 => ?_)
        · replace h21 := zif_f c20 h21
          refine zn_iinc (pc := 59) 5 (y := x4 + 1) (ls' := [(4, vI (x4 + 1)), (5, vR 3 (some i15)), (0, vR 0 (some i0)), (1, vR 2 r1), (2, vI x2), (3, vI x3)]) dX9_greatestLikeness_59 rfl rfl (Nat.le_of_ble_eq_true rfl) rfl ?_
          refine zn_goto (pc := 62) (tgt := 5) dX9_greatestLikeness_62 (by decide) ?_
          refine zn_pick [2, 3, 4, 5, 0] rfl ?_
          exact ih _ _ _ _ _ _ _ h21 hp
        · replace h21 := zif_t c20 h21
          refine zn_iload_n (pc := 48) 4 dX9_greatestLikeness_48 rfl rfl ?_
          refine zn_aload (pc := 49) 0 dX9_greatestLikeness_49 rfl ?_
          refine zn_iload_n (pc := 51) 3 dX9_greatestLikeness_51 rfl rfl ?_
          obtain ⟨o22, e23, h24⟩ := zbd h21; clear h21
          refine zn_cVv (pc := 52) (kc := 0) (ks := 0) (kc' := 0) (ks' := 0) (As := [vI x2]) (st := [vI x3]) dX9_greatestLikeness_52 cs_X9_317 pc_3 rfl rfl (Nat.le_of_ble_eq_true rfl) ((c_X0_likeness e23).mono (Nat.le_of_ble_eq_true rfl)) ?_
          refine zn_mmax (pc := 55) dX9_greatestLikeness_55 ml_X9_384 ws_max.1 ws_max.2.1 ws_max.2.2 (Nat.le_of_ble_eq_true rfl) ?_
          refine zn_istore_n (pc := 58) (ls' := [(3, vI (if x3 < o22 then o22 else x3)), (5, vR 3 (some i15)), (0, vR 0 (some i0)), (1, vR 2 r1), (2, vI x2), (4, vI x4)]) dX9_greatestLikeness_58 rfl (Nat.le_of_ble_eq_true rfl) rfl ?_
          refine zn_iinc (pc := 59) 5 (y := x4 + 1) (ls' := [(4, vI (x4 + 1)), (3, vI (if x3 < o22 then o22 else x3)), (5, vR 3 (some i15)), (0, vR 0 (some i0)), (1, vR 2 r1), (2, vI x2)]) dX9_greatestLikeness_59 rfl rfl (Nat.le_of_ble_eq_true rfl) rfl ?_
          refine zn_goto (pc := 62) (tgt := 5) dX9_greatestLikeness_62 (by decide) ?_
          refine zn_pick [3, 4, 5, 1, 0] rfl ?_
          exact ih _ _ _ _ _ _ _ h24 hp
theorem c_X9_greatestLikeness {G : zG} {i0 : Nat} {r1 : Option Nat} {x2 : Int32} {S : zH} {out : Int32} (h0 : f_X9_greatestLikeness i0 r1 x2 S = some out) : zct G M_X9_greatestLikeness 4 0 0 [vR 0 (some i0), vR 2 r1, vI x2] S (zpo (some (vI out)) S) := by
  refine zct_of (by decide) (Nat.le_of_ble_eq_true rfl) ?_
  show zn G M_X9_greatestLikeness 4 0 0 0 [(0, vR 0 (some i0)), (1, vR 2 r1), (2, vI x2)] [] S _
  have hp : zpo (some (vI out)) S (some (vI out)) S := ⟨rfl, rfl⟩
  unfold f_X9_greatestLikeness at h0
  refine zn_iconst (pc := 0) (x := 0) dX9_greatestLikeness_0 (by decide) ?_
  refine zn_istore_n (pc := 1) (ls' := [(3, vI 0), (0, vR 0 (some i0)), (1, vR 2 r1), (2, vI x2)]) dX9_greatestLikeness_1 rfl (Nat.le_of_ble_eq_true rfl) rfl ?_
  refine zn_iconst (pc := 2) (x := 0) dX9_greatestLikeness_2 (by decide) ?_
  refine zn_istore (pc := 3) (ls' := [(4, vI 0), (3, vI 0), (0, vR 0 (some i0)), (1, vR 2 r1), (2, vI x2)]) dX9_greatestLikeness_3 (Nat.le_of_ble_eq_true rfl) rfl ?_
  refine zn_pick [2, 3, 4, 1, 0] rfl ?_
  exact b_X9_greatestLikeness_5  fu _ _ _ _ _ _ _ h0 hp
theorem c_X0_isRival {G : zG} {i0 : Nat} {r1 : Option Nat} {x2 : Int32} {x3 : Int32} {S : zH} {out : Int32} (h0 : f_X0_isRival i0 r1 x2 x3 S = some out) : zct G M_X0_isRival 2 0 0 [vR 3 (some i0), vR 2 r1, vI x2, vI x3] S (zpo (some (vI out)) S) := by
  refine zct_of (by decide) (Nat.le_of_ble_eq_true rfl) ?_
  show zn G M_X0_isRival 2 0 0 0 [(0, vR 3 (some i0)), (1, vR 2 r1), (2, vI x2), (3, vI x3)] [] S _
  have hp : zpo (some (vI out)) S (some (vI out)) S := ⟨rfl, rfl⟩
  unfold f_X0_isRival at h0
  refine zn_iload_n (pc := 0) 3 dX0_isRival_0 rfl rfl ?_
  refine zn_iconst (pc := 1) (x := 1) dX0_isRival_1 (by decide) ?_
  have h2 := h0; clear h0
  refine zn_icmp_lt (pc := 2) (tgt := 33) dX0_isRival_2 (by decide) (fun c1 => ?_) (fun c1 => ?_)
  · replace h2 := zif_t c1 h2
    refine zn_iconst (pc := 33) (x := 0) dX0_isRival_33 (by decide) ?_
    have hz := Option.some.inj h2; clear h2; subst hz
    exact zn_zreturn (pc := 34) dX0_isRival_34 rfl (by decide) hp
  · replace h2 := zif_f c1 h2
    refine zn_aload_n (pc := 5) 0 dX0_isRival_5 rfl rfl ?_
    refine zn_getI (pc := 6) fa_X0_36_3.1 fa_X0_36_3.2 dX0_isRival_6 ?_
    have h4 := h2; clear h2
    refine zn_if_ne (pc := 9) (tgt := 33) dX0_isRival_9 (by decide) (fun c3 => ?_) (fun c3 => ?_)
    · replace h4 := zif_f c3 h4
      refine zn_iconst (pc := 33) (x := 0) dX0_isRival_33 (by decide) ?_
      have hz := Option.some.inj h4; clear h4; subst hz
      exact zn_zreturn (pc := 34) dX0_isRival_34 rfl (by decide) hp
    · replace h4 := zif_t c3 h4
      refine zn_aload_n (pc := 12) 0 dX0_isRival_12 rfl rfl ?_
      refine zn_getR (pc := 13) fa_X0_15_3.1 fa_X0_15_3.2 dX0_isRival_13 ?_
      refine zn_aload_n (pc := 16) 1 dX0_isRival_16 rfl rfl ?_
      have h6 := h4; clear h4
      refine zn_acmp_ne (pc := 17) (tgt := 33) rfl dX0_isRival_17 (by decide) (fun c5 => ?_) (fun c5 => ?_)
      · replace h6 := zif_f c5 h6
        refine zn_iconst (pc := 33) (x := 0) dX0_isRival_33 (by decide) ?_
        have hz := Option.some.inj h6; clear h6; subst hz
        exact zn_zreturn (pc := 34) dX0_isRival_34 rfl (by decide) hp
      · replace h6 := zif_t c5 h6
        refine zn_aload_n (pc := 20) 0 dX0_isRival_20 rfl rfl ?_
        refine zn_iload_n (pc := 21) 2 dX0_isRival_21 rfl rfl ?_
        obtain ⟨o7, e8, h9⟩ := zbd h6; clear h6
        refine zn_cVv (pc := 22) (kc := 0) (ks := 0) (kc' := 0) (ks' := 0) (As := [vI x2]) (st := []) dX0_isRival_22 cs_X0_59 pc_3 rfl rfl (Nat.le_of_ble_eq_true rfl) ((c_X0_likeness e8).mono (Nat.le_of_ble_eq_true rfl)) ?_
        refine zn_iload_n (pc := 25) 3 dX0_isRival_25 rfl rfl ?_
        have h11 := h9; clear h9
        refine zn_icmp_ne (pc := 26) (tgt := 33) dX0_isRival_26 (by decide) (fun c10 => ?_) (fun c10 => ?_)
        · replace h11 := zif_f c10 h11
          refine zn_iconst (pc := 33) (x := 0) dX0_isRival_33 (by decide) ?_
          have hz := Option.some.inj h11; clear h11; subst hz
          exact zn_zreturn (pc := 34) dX0_isRival_34 rfl (by decide) hp
        · replace h11 := zif_t c10 h11
          refine zn_iconst (pc := 29) (x := 1) dX0_isRival_29 (by decide) ?_
          refine zn_goto (pc := 30) (tgt := 34) dX0_isRival_30 (by decide) ?_
          have hz := Option.some.inj h11; clear h11; subst hz
          exact zn_zreturn (pc := 34) dX0_isRival_34 rfl (by decide) hp
theorem b_X9_countRivals_13 {G : zG} {Post : Option zV → zH → Prop} : ∀ (n : Nat) (i0 : Nat) (r1 : Option Nat) (x2 : Int32) (x3 : Int32) (x4 : Int32) (x5 : Int32) (S : zH) (out : Int32), f_X9_countRivals_13 n i0 r1 x2 x3 x4 x5 S = some out → Post (some (vI out)) S → zn G M_X9_countRivals 5 0 0 13 [(0, vR 0 (some i0)), (1, vR 2 r1), (2, vI x2), (3, vI x3), (4, vI x4), (5, vI x5)] [] S Post := by
  intro n
  induction n with
  | zero => intro i0 r1 x2 x3 x4 x5 S out h0 hp; exact (nomatch (show (none : Option _) = some out from h0))
  | succ n ih =>
    intro i0 r1 x2 x3 x4 x5 S out h0 hp
    rw [f_X9_countRivals_13] at h0
    refine zn_iload (pc := 13) 5 dX9_countRivals_13 rfl ?_
    refine zn_aload_n (pc := 15) 0 dX9_countRivals_15 rfl rfl ?_
    refine zn_getR (pc := 16) fa_X9_28_0.1 fa_X9_28_0.2 dX9_countRivals_16 ?_
    obtain ⟨i1, hi2, h3⟩ := zbd h0; clear h0
    rw [hi2]
    obtain ⟨o4, e5, h6⟩ := zbd h3; clear h3
    refine zn_cVv (pc := 19) (kc := 0) (ks := 0) (kc' := 0) (ks' := 0) (As := []) (st := [vI x5]) dX9_countRivals_19 cls_X9_142 pc_10 rfl rfl (Nat.le_of_ble_eq_true rfl) (zc_size (p := 10) (by decide) (Nat.le_of_ble_eq_true rfl) e5) ?_
    have h8 := h6; clear h6
    refine zn_icmp_ge (pc := 22) (tgt := 55) dX9_countRivals_22 (by decide) (fun c7 => ?_) (fun c7 => ?_)
    · replace h8 := zif_t c7 h8
      refine zn_iload (pc := 55) 4 dX9_countRivals_55 rfl ?_
      have hz := Option.some.inj h8; clear h8; subst hz
      exact zn_ireturn (pc := 57) dX9_countRivals_57 rfl hp
    · replace h8 := zif_f c7 h8
      refine zn_aload_n (pc := 25) 0 dX9_countRivals_25 rfl rfl ?_
      refine zn_getR (pc := 26) fa_X9_28_0.1 fa_X9_28_0.2 dX9_countRivals_26 ?_
      refine zn_iload (pc := 29) 5 dX9_countRivals_29 rfl ?_
      obtain ⟨i9, hi10, h11⟩ := zbd h8; clear h8
      rw [hi10]
      obtain ⟨o12, e13, h14⟩ := zbd h11; clear h11
      refine zn_cVv (pc := 31) (kc := 0) (ks := 0) (kc' := 0) (ks' := 0) (As := [vI x5]) (st := []) dX9_countRivals_31 clg_X9_353 pc_10 rfl rfl (Nat.le_of_ble_eq_true rfl) (zc_get (p := 10) (by decide) rfl (Nat.le_of_ble_eq_true rfl) e13) ?_
      refine zn_cast (pc := 34) cl_X9_151 pc_3 dX9_countRivals_34 ?_
      refine zn_aload_n (pc := 37) 1 dX9_countRivals_37 rfl rfl ?_
      refine zn_iload_n (pc := 38) 2 dX9_countRivals_38 rfl rfl ?_
      refine zn_iload_n (pc := 39) 3 dX9_countRivals_39 rfl rfl ?_
      obtain ⟨i15, hi16, h17⟩ := zbd h14; clear h14
      rw [hi16]
      obtain ⟨o18, e19, h20⟩ := zbd h17; clear h17
      refine zn_cVv (pc := 40) (kc := 0) (ks := 0) (kc' := 0) (ks' := 0) (As := [vR 2 r1, vI x2, vI x3]) (st := []) dX9_countRivals_40 cs_X9_392 pc_3 rfl rfl (Nat.le_of_ble_eq_true rfl) ((c_X0_isRival e19).mono (Nat.le_of_ble_eq_true rfl)) ?_
      have h22 := h20; clear h20
      refine zn_if_eq (pc := 43) (tgt := 49) dX9_countRivals_43 (by decide) (fun c21 => ?_) (fun c21 => ?_)
      · replace h22 := zif_t c21 h22
        refine zn_iinc (pc := 49) 5 (y := x5 + 1) (ls' := [(5, vI (x5 + 1)), (0, vR 0 (some i0)), (1, vR 2 r1), (2, vI x2), (3, vI x3), (4, vI x4)]) dX9_countRivals_49 rfl rfl (Nat.le_of_ble_eq_true rfl) rfl ?_
        refine zn_goto (pc := 52) (tgt := 13) dX9_countRivals_52 (by decide) ?_
        refine zn_pick [1, 2, 3, 4, 5, 0] rfl ?_
        exact ih _ _ _ _ _ _ _ _ h22 hp
      · replace h22 := zif_f c21 h22
        refine zn_iinc (pc := 46) 4 (y := x4 + 1) (ls' := [(4, vI (x4 + 1)), (0, vR 0 (some i0)), (1, vR 2 r1), (2, vI x2), (3, vI x3), (5, vI x5)]) dX9_countRivals_46 rfl rfl (Nat.le_of_ble_eq_true rfl) rfl ?_
        refine zn_iinc (pc := 49) 5 (y := x5 + 1) (ls' := [(5, vI (x5 + 1)), (4, vI (x4 + 1)), (0, vR 0 (some i0)), (1, vR 2 r1), (2, vI x2), (3, vI x3)]) dX9_countRivals_49 rfl rfl (Nat.le_of_ble_eq_true rfl) rfl ?_
        refine zn_goto (pc := 52) (tgt := 13) dX9_countRivals_52 (by decide) ?_
        refine zn_pick [2, 3, 4, 5, 1, 0] rfl ?_
        exact ih _ _ _ _ _ _ _ _ h22 hp
theorem c_X9_countRivals {G : zG} {i0 : Nat} {r1 : Option Nat} {x2 : Int32} {S : zH} {out : Int32} (h0 : f_X9_countRivals i0 r1 x2 S = some out) : zct G M_X9_countRivals 5 0 0 [vR 0 (some i0), vR 2 r1, vI x2] S (zpo (some (vI out)) S) := by
  refine zct_of (by decide) (Nat.le_of_ble_eq_true rfl) ?_
  show zn G M_X9_countRivals 5 0 0 0 [(0, vR 0 (some i0)), (1, vR 2 r1), (2, vI x2)] [] S _
  have hp : zpo (some (vI out)) S (some (vI out)) S := ⟨rfl, rfl⟩
  unfold f_X9_countRivals at h0
  refine zn_aload_n (pc := 0) 0 dX9_countRivals_0 rfl rfl ?_
  refine zn_aload_n (pc := 1) 1 dX9_countRivals_1 rfl rfl ?_
  refine zn_iload_n (pc := 2) 2 dX9_countRivals_2 rfl rfl ?_
  obtain ⟨o23, e24, h25⟩ := zbd h0; clear h0
  refine zn_cVv (pc := 3) (kc := 0) (ks := 0) (kc' := 0) (ks' := 0) (As := [vR 2 r1, vI x2]) (st := []) dX9_countRivals_3 cs_X9_389 pc_0 rfl rfl (Nat.le_of_ble_eq_true rfl) ((c_X9_greatestLikeness e24).mono (Nat.le_of_ble_eq_true rfl)) ?_
  refine zn_istore_n (pc := 6) (ls' := [(3, vI o23), (0, vR 0 (some i0)), (1, vR 2 r1), (2, vI x2)]) dX9_countRivals_6 rfl (Nat.le_of_ble_eq_true rfl) rfl ?_
  refine zn_iconst (pc := 7) (x := 0) dX9_countRivals_7 (by decide) ?_
  refine zn_istore (pc := 8) (ls' := [(4, vI 0), (3, vI o23), (0, vR 0 (some i0)), (1, vR 2 r1), (2, vI x2)]) dX9_countRivals_8 (Nat.le_of_ble_eq_true rfl) rfl ?_
  refine zn_iconst (pc := 10) (x := 0) dX9_countRivals_10 (by decide) ?_
  refine zn_istore (pc := 11) (ls' := [(5, vI 0), (4, vI 0), (3, vI o23), (0, vR 0 (some i0)), (1, vR 2 r1), (2, vI x2)]) dX9_countRivals_11 (Nat.le_of_ble_eq_true rfl) rfl ?_
  refine zn_pick [3, 4, 5, 2, 1, 0] rfl ?_
  exact b_X9_countRivals_13  fu _ _ _ _ _ _ _ _ h25 hp
theorem c_X9_rivals {G : zG} {i0 : Nat} {x1 : Int32} {x2 : Int32} {S : zH} {out : (Int32 × zH)} (h0 : f_X9_rivals i0 x1 x2 S = some out) : zct G M_X9_rivals 6 0 0 [vR 0 (some i0), vI x1, vI x2] S (zpo (some (vI out.1)) out.2) := by
  refine zct_of (by decide) (Nat.le_of_ble_eq_true rfl) ?_
  show zn G M_X9_rivals 6 0 0 0 [(0, vR 0 (some i0)), (1, vI x1), (2, vI x2)] [] S _
  have hp : zpo (some (vI out.1)) out.2 (some (vI out.1)) out.2 := ⟨rfl, rfl⟩
  unfold f_X9_rivals at h0
  refine zn_aload_n (pc := 0) 0 dX9_rivals_0 rfl rfl ?_
  refine zn_iload_n (pc := 1) 1 dX9_rivals_1 rfl rfl ?_
  obtain ⟨o1, e2, h3⟩ := zbd h0; clear h0
  refine zn_cVv (pc := 2) (kc := 0) (ks := 0) (kc' := 0) (ks' := 0) (As := [vI x1]) (st := []) dX9_rivals_2 cs_X9_110 pc_0 rfl rfl (Nat.le_of_ble_eq_true rfl) ((c_X9_bankAt e2).mono (Nat.le_of_ble_eq_true rfl)) ?_
  refine zn_astore_n (pc := 5) (ls' := [(3, vR 2 o1), (0, vR 0 (some i0)), (1, vI x1), (2, vI x2)]) dX9_rivals_5 rfl (Nat.le_of_ble_eq_true rfl) rfl ?_
  refine zn_aload_n (pc := 6) 0 dX9_rivals_6 rfl rfl ?_
  have h6 := h3; clear h3
  refine zn_ifnonnull (pc := 7) (tgt := 16) dX9_rivals_7 (by decide) (fun i5 hr4 => ?_) (fun hr4 => ?_)
  · replace h6 := zop_s hr4 h6
    rw [hr4]
    refine zn_iload_n (pc := 16) 3 dX9_rivals_16 rfl rfl ?_
    refine zn_iconst (pc := 17) (x := 0) dX9_rivals_17 (by decide) ?_
    refine zn_sipush (pc := 18) (x := 9999) dX9_rivals_18 (by decide) ?_
    obtain ⟨o10, e11, h12⟩ := zbd h6; clear h6
    refine zn_cSv (pc := 21) (kc := 0) (ks := 0) (kc' := 0) (ks' := 0) (As := [vI x2, vI 0, vI 9999]) (st := []) dX9_rivals_21 cs_X9_74 rfl rfl (Nat.le_of_ble_eq_true rfl) ((c_X9_outside e11).mono (Nat.le_of_ble_eq_true rfl)) ?_
    refine zn_istore (pc := 24) (ls' := [(4, vI o10), (3, vR 2 (some i5)), (0, vR 0 (some i0)), (1, vI x1), (2, vI x2)]) dX9_rivals_24 (Nat.le_of_ble_eq_true rfl) rfl ?_
    refine zn_iload (pc := 26) 0 dX9_rivals_26 rfl ?_
    have h14 := h12; clear h12
    refine zn_if_eq (pc := 28) (tgt := 38) dX9_rivals_28 (by decide) (fun c13 => ?_) (fun c13 => ?_)
    · replace h14 := zif_t c13 h14
      refine zn_aload_n (pc := 38) 2 dX9_rivals_38 rfl rfl ?_
      refine zn_aload_n (pc := 39) 1 dX9_rivals_39 rfl rfl ?_
      refine zn_iload_n (pc := 40) 4 dX9_rivals_40 rfl rfl ?_
      obtain ⟨o15, e16, h17⟩ := zbd h14; clear h14
      refine zn_cVv (pc := 41) (kc := 0) (ks := 0) (kc' := 0) (ks' := 0) (As := [vR 2 (some i5), vI x2]) (st := []) dX9_rivals_41 cs_X9_320 pc_0 rfl rfl (Nat.le_of_ble_eq_true rfl) ((c_X9_countRivals e16).mono (Nat.le_of_ble_eq_true rfl)) ?_
      have hz := Option.some.inj h17; clear h17; subst hz
      exact zn_ireturn (pc := 44) dX9_rivals_44 rfl hp
    · replace h14 := zif_f c13 h14
      refine zn_aload_n (pc := 31) 2 dX9_rivals_31 rfl rfl ?_
      refine zn_iload (pc := 32) 0 dX9_rivals_32 rfl ?_
      obtain ⟨o18, e19, h20⟩ := zbd h14; clear h14
      refine zn_cVv (pc := 34) (kc := 0) (ks := 0) (kc' := 0) (ks' := 0) (As := [vI o10]) (st := []) dX9_rivals_34 cs_X9_78 pc_0 rfl rfl (Nat.le_of_ble_eq_true rfl) ((c_X9_refuse e19).mono (Nat.le_of_ble_eq_true rfl)) ?_
      have hz := Option.some.inj h20; clear h20; subst hz
      exact zn_ireturn (pc := 37) dX9_rivals_37 rfl hp
  · replace h6 := zop_n hr4 h6
    rw [hr4]
    refine zn_aload_n (pc := 10) 1 dX9_rivals_10 rfl rfl ?_
    refine zn_iconst (pc := 11) (x := (-1)) dX9_rivals_11 (by decide) ?_
    obtain ⟨o7, e8, h9⟩ := zbd h6; clear h6
    refine zn_cVv (pc := 12) (kc := 0) (ks := 0) (kc' := 0) (ks' := 0) (As := [vI (-1)]) (st := []) dX9_rivals_12 cs_X9_78 pc_0 rfl rfl (Nat.le_of_ble_eq_true rfl) ((c_X9_refuse e8).mono (Nat.le_of_ble_eq_true rfl)) ?_
    have hz := Option.some.inj h9; clear h9; subst hz
    exact zn_ireturn (pc := 15) dX9_rivals_15 rfl hp
theorem b_X9_findRival_61 {G : zG} {Post : Option zV → zH → Prop} {k14 : Nat → Option Nat → Int32 → Int32 → Int32 → Int32 → Int32 → zH → Option Int32} {i0 : Nat} {r1 : Option Nat} {x2 : Int32} {x3 : Int32} {x4 : Int32} {x5 : Int32} {x6 : Int32} {x7 : Int32} {S : zH} {out : Int32} (hk14 : ∀ (i0 : Nat) (r1 : Option Nat) (x2 : Int32) (x3 : Int32) (x4 : Int32) (x5 : Int32) (x6 : Int32) (S : zH) (out : Int32), k14 i0 r1 x2 x3 x4 x5 x6 S = some out → Post (some (vI out)) S → zn G M_X9_findRival 5 0 0 14 [(0, vR 0 (some i0)), (1, vR 2 r1), (2, vI x2), (3, vI x3), (4, vI x4), (5, vI x5), (6, vI x6)] [] S Post) (h0 : f_X9_findRival_61 k14 i0 r1 x2 x3 x4 x5 x6 x7 S = some out) (hp : Post (some (vI out)) S) : zn G M_X9_findRival 5 0 0 61 [(0, vR 0 (some i0)), (1, vR 2 r1), (2, vI x2), (3, vI x3), (4, vI x4), (5, vI x5), (6, vI x6), (7, vI x7)] [] S Post := by
  unfold f_X9_findRival_61 at h0
  refine zn_iload (pc := 61) 5 dX9_findRival_61 rfl ?_
  refine zn_iload (pc := 63) 7 dX9_findRival_63 rfl ?_
  have h2 := h0; clear h0
  refine zn_if_eq (pc := 65) (tgt := 72) dX9_findRival_65 (by decide) (fun c1 => ?_) (fun c1 => ?_)
  · replace h2 := zif_t c1 h2
    refine zn_iconst (pc := 72) (x := 0) dX9_findRival_72 (by decide) ?_
    refine zn_iadd (pc := 73) dX9_findRival_73 ?_
    refine zn_istore (pc := 74) (ls' := [(5, vI (x5 + 0)), (0, vR 0 (some i0)), (1, vR 2 r1), (2, vI x2), (3, vI x3), (4, vI x4), (6, vI x6), (7, vI x7)]) dX9_findRival_74 (Nat.le_of_ble_eq_true rfl) rfl ?_
    refine zn_iinc (pc := 76) 6 (y := x6 + 1) (ls' := [(6, vI (x6 + 1)), (5, vI (x5 + 0)), (0, vR 0 (some i0)), (1, vR 2 r1), (2, vI x2), (3, vI x3), (4, vI x4), (7, vI x7)]) dX9_findRival_76 rfl rfl (Nat.le_of_ble_eq_true rfl) rfl ?_
    refine zn_goto (pc := 79) (tgt := 14) dX9_findRival_79 (by decide) ?_
    refine zn_pick [2, 3, 4, 5, 6, 1, 0] rfl ?_
    exact hk14 _ _ _ _ _ _ _ _ _ h2 hp
  · replace h2 := zif_f c1 h2
    refine zn_iconst (pc := 68) (x := 1) dX9_findRival_68 (by decide) ?_
    refine zn_goto (pc := 69) (tgt := 73) dX9_findRival_69 (by decide) ?_
    refine zn_iadd (pc := 73) dX9_findRival_73 ?_
    refine zn_istore (pc := 74) (ls' := [(5, vI (x5 + 1)), (0, vR 0 (some i0)), (1, vR 2 r1), (2, vI x2), (3, vI x3), (4, vI x4), (6, vI x6), (7, vI x7)]) dX9_findRival_74 (Nat.le_of_ble_eq_true rfl) rfl ?_
    refine zn_iinc (pc := 76) 6 (y := x6 + 1) (ls' := [(6, vI (x6 + 1)), (5, vI (x5 + 1)), (0, vR 0 (some i0)), (1, vR 2 r1), (2, vI x2), (3, vI x3), (4, vI x4), (7, vI x7)]) dX9_findRival_76 rfl rfl (Nat.le_of_ble_eq_true rfl) rfl ?_
    refine zn_goto (pc := 79) (tgt := 14) dX9_findRival_79 (by decide) ?_
    refine zn_pick [2, 3, 4, 5, 6, 1, 0] rfl ?_
    exact hk14 _ _ _ _ _ _ _ _ _ h2 hp
theorem b_X9_findRival_14 {G : zG} {Post : Option zV → zH → Prop} : ∀ (n : Nat) (i0 : Nat) (r1 : Option Nat) (x2 : Int32) (x3 : Int32) (x4 : Int32) (x5 : Int32) (x6 : Int32) (S : zH) (out : Int32), f_X9_findRival_14 n i0 r1 x2 x3 x4 x5 x6 S = some out → Post (some (vI out)) S → zn G M_X9_findRival 5 0 0 14 [(0, vR 0 (some i0)), (1, vR 2 r1), (2, vI x2), (3, vI x3), (4, vI x4), (5, vI x5), (6, vI x6)] [] S Post := by
  intro n
  induction n with
  | zero => intro i0 r1 x2 x3 x4 x5 x6 S out h0 hp; exact (nomatch (show (none : Option _) = some out from h0))
  | succ n ih =>
    intro i0 r1 x2 x3 x4 x5 x6 S out h0 hp
    rw [f_X9_findRival_14] at h0
    refine zn_iload (pc := 14) 6 dX9_findRival_14 rfl ?_
    refine zn_aload_n (pc := 16) 0 dX9_findRival_16 rfl rfl ?_
    refine zn_getR (pc := 17) fa_X9_28_0.1 fa_X9_28_0.2 dX9_findRival_17 ?_
    obtain ⟨i1, hi2, h3⟩ := zbd h0; clear h0
    rw [hi2]
    obtain ⟨o4, e5, h6⟩ := zbd h3; clear h3
    refine zn_cVv (pc := 20) (kc := 0) (ks := 0) (kc' := 0) (ks' := 0) (As := []) (st := [vI x6]) dX9_findRival_20 cls_X9_142 pc_10 rfl rfl (Nat.le_of_ble_eq_true rfl) (zc_size (p := 10) (by decide) (Nat.le_of_ble_eq_true rfl) e5) ?_
    have h8 := h6; clear h6
    refine zn_icmp_ge (pc := 23) (tgt := 82) dX9_findRival_23 (by decide) (fun c7 => ?_) (fun c7 => ?_)
    · replace h8 := zif_t c7 h8
      refine zn_bipush (pc := 82) (x := (-9)) dX9_findRival_82 (by decide) ?_
      have hz := Option.some.inj h8; clear h8; subst hz
      exact zn_ireturn (pc := 84) dX9_findRival_84 rfl hp
    · replace h8 := zif_f c7 h8
      refine zn_aload_n (pc := 26) 0 dX9_findRival_26 rfl rfl ?_
      refine zn_getR (pc := 27) fa_X9_28_0.1 fa_X9_28_0.2 dX9_findRival_27 ?_
      refine zn_iload (pc := 30) 6 dX9_findRival_30 rfl ?_
      obtain ⟨i9, hi10, h11⟩ := zbd h8; clear h8
      rw [hi10]
      obtain ⟨o12, e13, h14⟩ := zbd h11; clear h11
      refine zn_cVv (pc := 32) (kc := 0) (ks := 0) (kc' := 0) (ks' := 0) (As := [vI x6]) (st := []) dX9_findRival_32 clg_X9_353 pc_10 rfl rfl (Nat.le_of_ble_eq_true rfl) (zc_get (p := 10) (by decide) rfl (Nat.le_of_ble_eq_true rfl) e13) ?_
      refine zn_cast (pc := 35) cl_X9_151 pc_3 dX9_findRival_35 ?_
      refine zn_aload_n (pc := 38) 1 dX9_findRival_38 rfl rfl ?_
      refine zn_iload_n (pc := 39) 2 dX9_findRival_39 rfl rfl ?_
      refine zn_iload (pc := 40) 4 dX9_findRival_40 rfl ?_
      obtain ⟨i15, hi16, h17⟩ := zbd h14; clear h14
      rw [hi16]
      obtain ⟨o18, e19, h20⟩ := zbd h17; clear h17
      refine zn_cVv (pc := 42) (kc := 0) (ks := 0) (kc' := 0) (ks' := 0) (As := [vR 2 r1, vI x2, vI x4]) (st := []) dX9_findRival_42 cs_X9_392 pc_3 rfl rfl (Nat.le_of_ble_eq_true rfl) ((c_X0_isRival e19).mono (Nat.le_of_ble_eq_true rfl)) ?_
      refine zn_istore (pc := 45) (ls' := [(7, vI o18), (0, vR 0 (some i0)), (1, vR 2 r1), (2, vI x2), (3, vI x3), (4, vI x4), (5, vI x5), (6, vI x6)]) dX9_findRival_45 (Nat.le_of_ble_eq_true rfl) rfl ?_
      refine zn_iload (pc := 47) 0 dX9_findRival_47 rfl ?_
      have h22 := h20; clear h20
      refine zn_if_eq (pc := 49) (tgt := 61) dX9_findRival_49 (by decide) (fun c21 => ?_) (fun c21 => ?_)
      · replace h22 := zif_t c21 h22
        refine zn_pick [1, 2, 3, 4, 5, 6, 7, 0] rfl ?_
        exact b_X9_findRival_61 ih h22 hp
      · replace h22 := zif_f c21 h22
        refine zn_iload (pc := 52) 6 dX9_findRival_52 rfl ?_
        refine zn_iload_n (pc := 54) 4 dX9_findRival_54 rfl rfl ?_
        have h24 := h22; clear h22
        refine zn_icmp_ne (pc := 55) (tgt := 61) dX9_findRival_55 (by decide) (fun c23 => ?_) (fun c23 => ?_)
        · replace h24 := zif_f c23 h24
          refine zn_pick [1, 2, 3, 4, 5, 6, 7, 0] rfl ?_
          exact b_X9_findRival_61 ih h24 hp
        · replace h24 := zif_t c23 h24
          refine zn_iload (pc := 58) 7 dX9_findRival_58 rfl ?_
          have hz := Option.some.inj h24; clear h24; subst hz
          exact zn_ireturn (pc := 60) dX9_findRival_60 rfl hp
theorem c_X9_findRival {G : zG} {i0 : Nat} {r1 : Option Nat} {x2 : Int32} {x3 : Int32} {S : zH} {out : Int32} (h0 : f_X9_findRival i0 r1 x2 x3 S = some out) : zct G M_X9_findRival 5 0 0 [vR 0 (some i0), vR 2 r1, vI x2, vI x3] S (zpo (some (vI out)) S) := by
  refine zct_of (by decide) (Nat.le_of_ble_eq_true rfl) ?_
  show zn G M_X9_findRival 5 0 0 0 [(0, vR 0 (some i0)), (1, vR 2 r1), (2, vI x2), (3, vI x3)] [] S _
  have hp : zpo (some (vI out)) S (some (vI out)) S := ⟨rfl, rfl⟩
  unfold f_X9_findRival at h0
  refine zn_aload_n (pc := 0) 0 dX9_findRival_0 rfl rfl ?_
  refine zn_aload_n (pc := 1) 1 dX9_findRival_1 rfl rfl ?_
  refine zn_iload_n (pc := 2) 2 dX9_findRival_2 rfl rfl ?_
  obtain ⟨o25, e26, h27⟩ := zbd h0; clear h0
  refine zn_cVv (pc := 3) (kc := 0) (ks := 0) (kc' := 0) (ks' := 0) (As := [vR 2 r1, vI x2]) (st := []) dX9_findRival_3 cs_X9_389 pc_0 rfl rfl (Nat.le_of_ble_eq_true rfl) ((c_X9_greatestLikeness e26).mono (Nat.le_of_ble_eq_true rfl)) ?_
  refine zn_istore (pc := 6) (ls' := [(4, vI o25), (0, vR 0 (some i0)), (1, vR 2 r1), (2, vI x2), (3, vI x3)]) dX9_findRival_6 (Nat.le_of_ble_eq_true rfl) rfl ?_
  refine zn_iconst (pc := 8) (x := 0) dX9_findRival_8 (by decide) ?_
  refine zn_istore (pc := 9) (ls' := [(5, vI 0), (4, vI o25), (0, vR 0 (some i0)), (1, vR 2 r1), (2, vI x2), (3, vI x3)]) dX9_findRival_9 (Nat.le_of_ble_eq_true rfl) rfl ?_
  refine zn_iconst (pc := 11) (x := 0) dX9_findRival_11 (by decide) ?_
  refine zn_istore (pc := 12) (ls' := [(6, vI 0), (5, vI 0), (4, vI o25), (0, vR 0 (some i0)), (1, vR 2 r1), (2, vI x2), (3, vI x3)]) dX9_findRival_12 (Nat.le_of_ble_eq_true rfl) rfl ?_
  refine zn_pick [3, 4, 5, 6, 2, 1, 0] rfl ?_
  exact b_X9_findRival_14  fu _ _ _ _ _ _ _ _ _ h27 hp
theorem c_X9_rival {G : zG} {i0 : Nat} {x1 : Int32} {x2 : Int32} {x3 : Int32} {S : zH} {out : (Int32 × zH)} (h0 : f_X9_rival i0 x1 x2 x3 S = some out) : zct G M_X9_rival 6 0 0 [vR 0 (some i0), vI x1, vI x2, vI x3] S (zpo (some (vI out.1)) out.2) := by
  refine zct_of (by decide) (Nat.le_of_ble_eq_true rfl) ?_
  show zn G M_X9_rival 6 0 0 0 [(0, vR 0 (some i0)), (1, vI x1), (2, vI x2), (3, vI x3)] [] S _
  have hp : zpo (some (vI out.1)) out.2 (some (vI out.1)) out.2 := ⟨rfl, rfl⟩
  unfold f_X9_rival at h0
  refine zn_aload_n (pc := 0) 0 dX9_rival_0 rfl rfl ?_
  refine zn_iload_n (pc := 1) 1 dX9_rival_1 rfl rfl ?_
  obtain ⟨o1, e2, h3⟩ := zbd h0; clear h0
  refine zn_cVv (pc := 2) (kc := 0) (ks := 0) (kc' := 0) (ks' := 0) (As := [vI x1]) (st := []) dX9_rival_2 cs_X9_110 pc_0 rfl rfl (Nat.le_of_ble_eq_true rfl) ((c_X9_bankAt e2).mono (Nat.le_of_ble_eq_true rfl)) ?_
  refine zn_astore (pc := 5) (ls' := [(4, vR 2 o1), (0, vR 0 (some i0)), (1, vI x1), (2, vI x2), (3, vI x3)]) dX9_rival_5 (Nat.le_of_ble_eq_true rfl) rfl ?_
  refine zn_aload (pc := 7) 0 dX9_rival_7 rfl ?_
  have h6 := h3; clear h3
  refine zn_ifnonnull (pc := 9) (tgt := 18) dX9_rival_9 (by decide) (fun i5 hr4 => ?_) (fun hr4 => ?_)
  · replace h6 := zop_s hr4 h6
    rw [hr4]
    refine zn_iload_n (pc := 18) 3 dX9_rival_18 rfl rfl ?_
    refine zn_iconst (pc := 19) (x := 0) dX9_rival_19 (by decide) ?_
    refine zn_sipush (pc := 20) (x := 9999) dX9_rival_20 (by decide) ?_
    obtain ⟨o10, e11, h12⟩ := zbd h6; clear h6
    refine zn_cSv (pc := 23) (kc := 0) (ks := 0) (kc' := 0) (ks' := 0) (As := [vI x2, vI 0, vI 9999]) (st := []) dX9_rival_23 cs_X9_74 rfl rfl (Nat.le_of_ble_eq_true rfl) ((c_X9_outside e11).mono (Nat.le_of_ble_eq_true rfl)) ?_
    refine zn_istore (pc := 26) (ls' := [(5, vI o10), (4, vR 2 (some i5)), (0, vR 0 (some i0)), (1, vI x1), (2, vI x2), (3, vI x3)]) dX9_rival_26 (Nat.le_of_ble_eq_true rfl) rfl ?_
    refine zn_iload (pc := 28) 0 dX9_rival_28 rfl ?_
    have h14 := h12; clear h12
    refine zn_if_eq (pc := 30) (tgt := 40) dX9_rival_30 (by decide) (fun c13 => ?_) (fun c13 => ?_)
    · replace h14 := zif_t c13 h14
      refine zn_aload_n (pc := 40) 2 dX9_rival_40 rfl rfl ?_
      refine zn_aload (pc := 41) 1 dX9_rival_41 rfl ?_
      refine zn_iload_n (pc := 43) 4 dX9_rival_43 rfl rfl ?_
      refine zn_iload_n (pc := 44) 5 dX9_rival_44 rfl rfl ?_
      obtain ⟨o15, e16, h17⟩ := zbd h14; clear h14
      refine zn_cVv (pc := 45) (kc := 0) (ks := 0) (kc' := 0) (ks' := 0) (As := [vR 2 (some i5), vI x2, vI x3]) (st := []) dX9_rival_45 cs_X9_324 pc_0 rfl rfl (Nat.le_of_ble_eq_true rfl) ((c_X9_findRival e16).mono (Nat.le_of_ble_eq_true rfl)) ?_
      have hz := Option.some.inj h17; clear h17; subst hz
      exact zn_ireturn (pc := 48) dX9_rival_48 rfl hp
    · replace h14 := zif_f c13 h14
      refine zn_aload_n (pc := 33) 2 dX9_rival_33 rfl rfl ?_
      refine zn_iload (pc := 34) 0 dX9_rival_34 rfl ?_
      obtain ⟨o18, e19, h20⟩ := zbd h14; clear h14
      refine zn_cVv (pc := 36) (kc := 0) (ks := 0) (kc' := 0) (ks' := 0) (As := [vI o10]) (st := []) dX9_rival_36 cs_X9_78 pc_0 rfl rfl (Nat.le_of_ble_eq_true rfl) ((c_X9_refuse e19).mono (Nat.le_of_ble_eq_true rfl)) ?_
      have hz := Option.some.inj h20; clear h20; subst hz
      exact zn_ireturn (pc := 39) dX9_rival_39 rfl hp
  · replace h6 := zop_n hr4 h6
    rw [hr4]
    refine zn_aload_n (pc := 12) 1 dX9_rival_12 rfl rfl ?_
    refine zn_iconst (pc := 13) (x := (-1)) dX9_rival_13 (by decide) ?_
    obtain ⟨o7, e8, h9⟩ := zbd h6; clear h6
    refine zn_cVv (pc := 14) (kc := 0) (ks := 0) (kc' := 0) (ks' := 0) (As := [vI (-1)]) (st := []) dX9_rival_14 cs_X9_78 pc_0 rfl rfl (Nat.le_of_ble_eq_true rfl) ((c_X9_refuse e8).mono (Nat.le_of_ble_eq_true rfl)) ?_
    have hz := Option.some.inj h9; clear h9; subst hz
    exact zn_ireturn (pc := 17) dX9_rival_17 rfl hp
theorem b_X9_tell_19 {G : zG} {Post : Option zV → zH → Prop} {i0 : Nat} {S : zH} {out : (Int32 × zH)} (h0 : f_X9_tell_19 i0 S = some out) (hp : Post (some (vI out.1)) out.2) : zn G M_X9_tell 1 0 0 19 [(0, vR 0 (some i0))] [] S Post := by
  unfold f_X9_tell_19 at h0
  refine zn_aload_n (pc := 19) 0 dX9_tell_19 rfl rfl ?_
  refine zn_bipush (pc := 20) (x := (-6)) dX9_tell_20 (by decide) ?_
  obtain ⟨o1, e2, h3⟩ := zbd h0; clear h0
  refine zn_cVv (pc := 22) (kc := 0) (ks := 0) (kc' := 0) (ks' := 0) (As := [vI (-6)]) (st := []) dX9_tell_22 cs_X9_78 pc_0 rfl rfl (Nat.le_of_ble_eq_true rfl) ((c_X9_refuse e2).mono (Nat.le_of_ble_eq_true rfl)) ?_
  have hz := Option.some.inj h3; clear h3; subst hz
  exact zn_ireturn (pc := 25) dX9_tell_25 rfl hp
theorem c_X9_tell {G : zG} {i0 : Nat} {x1 : Int64} {S : zH} {out : (Int32 × zH)} (h0 : f_X9_tell i0 x1 S = some out) : zct G M_X9_tell 1 0 0 [vR 0 (some i0), vJ x1] S (zpo (some (vI out.1)) out.2) := by
  refine zct_of (by decide) (Nat.le_of_ble_eq_true rfl) ?_
  show zn G M_X9_tell 1 0 0 0 [(0, vR 0 (some i0)), (1, vJ x1)] [] S _
  have hp : zpo (some (vI out.1)) out.2 (some (vI out.1)) out.2 := ⟨rfl, rfl⟩
  unfold f_X9_tell at h0
  refine zn_aload_n (pc := 0) 0 dX9_tell_0 rfl rfl ?_
  refine zn_getI (pc := 1) fa_X9_63_0.1 fa_X9_63_0.2 dX9_tell_1 ?_
  have h5 := h0; clear h0
  refine zn_if_lt (pc := 4) (tgt := 19) dX9_tell_4 (by decide) (fun c4 => ?_) (fun c4 => ?_)
  · replace h5 := zif_t c4 h5
    refine zn_pick [0] rfl ?_
    exact b_X9_tell_19  h5 hp
  · replace h5 := zif_f c4 h5
    refine zn_aload_n (pc := 7) 0 dX9_tell_7 rfl rfl ?_
    refine zn_getI (pc := 8) fa_X9_63_0.1 fa_X9_63_0.2 dX9_tell_8 ?_
    refine zn_aload_n (pc := 11) 0 dX9_tell_11 rfl rfl ?_
    refine zn_getR (pc := 12) fa_X9_59_0.1 fa_X9_59_0.2 dX9_tell_12 ?_
    obtain ⟨i6, hi7, h8⟩ := zbd h5; clear h5
    rw [hi7]
    refine zn_alen (pc := 15) zk_19 rfl dX9_tell_15 ?_
    have h10 := h8; clear h8
    refine zn_icmp_lt (pc := 16) (tgt := 26) dX9_tell_16 (by decide) (fun c9 => ?_) (fun c9 => ?_)
    · replace h10 := zif_t c9 h10
      refine zn_aload_n (pc := 26) 0 dX9_tell_26 rfl rfl ?_
      refine zn_getR (pc := 27) fa_X9_59_0.1 fa_X9_59_0.2 dX9_tell_27 ?_
      refine zn_aload_n (pc := 30) 0 dX9_tell_30 rfl rfl ?_
      refine zn_getI (pc := 31) fa_X9_63_0.1 fa_X9_63_0.2 dX9_tell_31 ?_
      refine zn_lload_n (pc := 34) 1 dX9_tell_34 rfl rfl ?_
      obtain ⟨i11, hi12, h13⟩ := zbd h10; clear h10
      rw [hi12]
      obtain ⟨hb14, h15⟩ := zgdd h13; clear h13
      obtain ⟨S16, hS17, h18⟩ := zltd h15; clear h15
      refine zn_lastore (pc := 35) zk_19 dX9_tell_35 (zib_in hb14) hS17 ?_
      refine zn_aload_n (pc := 36) 0 dX9_tell_36 rfl rfl ?_
      refine zn_dup (pc := 37) dX9_tell_37 rfl ?_
      refine zn_getI (pc := 38) fa_X9_63_0.1 fa_X9_63_0.2 dX9_tell_38 ?_
      refine zn_iconst (pc := 41) (x := 1) dX9_tell_41 (by decide) ?_
      refine zn_iadd (pc := 42) dX9_tell_42 ?_
      obtain ⟨S19, hS20, h21⟩ := zltd h18; clear h18
      refine zn_putI (pc := 43) fp_X9_63_0.1 (fp_X9_63_0 (nm := "")).2 dX9_tell_43 hS20 ?_
      refine zn_aload_n (pc := 46) 0 dX9_tell_46 rfl rfl ?_
      refine zn_getI (pc := 47) fa_X9_63_0.1 fa_X9_63_0.2 dX9_tell_47 ?_
      have hz := Option.some.inj h21; clear h21; subst hz
      exact zn_ireturn (pc := 50) dX9_tell_50 rfl hp
    · replace h10 := zif_f c9 h10
      refine zn_pick [0] rfl ?_
      exact b_X9_tell_19  h10 hp
theorem b_X9_check_26 {G : zG} {Post : Option zV → zH → Prop} : ∀ (n : Nat) (i0 : Nat) (x1 : Int32) (S : zH) (out : (Int32 × zH)), f_X9_check_26 n i0 x1 S = some out → Post (some (vI out.1)) out.2 → zn G M_X9_check 1 0 0 26 [(0, vR 0 (some i0)), (1, vI x1)] [] S Post := by
  intro n
  induction n with
  | zero => intro i0 x1 S out h0 hp; exact (nomatch (show (none : Option _) = some out from h0))
  | succ n ih =>
    intro i0 x1 S out h0 hp
    rw [f_X9_check_26] at h0
    refine zn_iload_n (pc := 26) 1 dX9_check_26 rfl rfl ?_
    refine zn_aload_n (pc := 27) 0 dX9_check_27 rfl rfl ?_
    refine zn_getR (pc := 28) fa_X9_59_0.1 fa_X9_59_0.2 dX9_check_28 ?_
    obtain ⟨i1, hi2, h3⟩ := zbd h0; clear h0
    rw [hi2]
    refine zn_alen (pc := 31) zk_19 rfl dX9_check_31 ?_
    have h5 := h3; clear h3
    refine zn_icmp_ge (pc := 32) (tgt := 71) dX9_check_32 (by decide) (fun c4 => ?_) (fun c4 => ?_)
    · replace h5 := zif_t c4 h5
      refine zn_bipush (pc := 71) (x := (-9)) dX9_check_71 (by decide) ?_
      have hz := Option.some.inj h5; clear h5; subst hz
      exact zn_ireturn (pc := 73) dX9_check_73 rfl hp
    · replace h5 := zif_f c4 h5
      refine zn_iload_n (pc := 35) 1 dX9_check_35 rfl rfl ?_
      refine zn_aload_n (pc := 36) 0 dX9_check_36 rfl rfl ?_
      refine zn_getR (pc := 37) fa_X9_18_0.1 fa_X9_18_0.2 dX9_check_37 ?_
      obtain ⟨i6, hi7, h8⟩ := zbd h5; clear h5
      rw [hi7]
      refine zn_alen (pc := 40) zk_18 rfl dX9_check_40 ?_
      have h10 := h8; clear h8
      refine zn_icmp_ge (pc := 41) (tgt := 71) dX9_check_41 (by decide) (fun c9 => ?_) (fun c9 => ?_)
      · replace h10 := zif_t c9 h10
        refine zn_bipush (pc := 71) (x := (-9)) dX9_check_71 (by decide) ?_
        have hz := Option.some.inj h10; clear h10; subst hz
        exact zn_ireturn (pc := 73) dX9_check_73 rfl hp
      · replace h10 := zif_f c9 h10
        refine zn_aload_n (pc := 44) 0 dX9_check_44 rfl rfl ?_
        refine zn_getR (pc := 45) fa_X9_59_0.1 fa_X9_59_0.2 dX9_check_45 ?_
        refine zn_iload_n (pc := 48) 1 dX9_check_48 rfl rfl ?_
        obtain ⟨i11, hi12, h13⟩ := zbd h10; clear h10
        rw [hi12]
        obtain ⟨hb14, h15⟩ := zgdd h13; clear h13
        refine zn_laload (pc := 49) zk_19 dX9_check_49 (zib_in hb14) ?_
        refine zn_aload_n (pc := 50) 0 dX9_check_50 rfl rfl ?_
        refine zn_getR (pc := 51) fa_X9_18_0.1 fa_X9_18_0.2 dX9_check_51 ?_
        refine zn_iload_n (pc := 54) 1 dX9_check_54 rfl rfl ?_
        obtain ⟨i16, hi17, h18⟩ := zbd h15; clear h15
        rw [hi17]
        obtain ⟨hb19, h20⟩ := zgdd h18; clear h18
        refine zn_aaload (pc := 55) zk_18 rfl dX9_check_55 (zib_in hb19) ?_
        obtain ⟨i21, hi22, h23⟩ := zbd h20; clear h20
        rw [hi22]
        refine zn_getJ (pc := 56) fa_X9_138_2.1 fa_X9_138_2.2 dX9_check_56 ?_
        refine zn_lcmp (pc := 59) dX9_check_59 ?_
        have h25 := h23; clear h23
        refine zn_if_eq (pc := 60) (tgt := 65) dX9_check_60 (by decide) (fun c24 => ?_) (fun c24 => ?_)
        · replace h25 := zif_t c24 h25
          refine zn_iinc (pc := 65) 1 (y := x1 + 1) (ls' := [(1, vI (x1 + 1)), (0, vR 0 (some i0))]) dX9_check_65 rfl rfl (Nat.le_of_ble_eq_true rfl) rfl ?_
          refine zn_goto (pc := 68) (tgt := 26) dX9_check_68 (by decide) ?_
          refine zn_pick [1, 0] rfl ?_
          exact ih _ _ _ _ h25 hp
        · replace h25 := zif_f c24 h25
          refine zn_iload_n (pc := 63) 1 dX9_check_63 rfl rfl ?_
          have hz := Option.some.inj h25; clear h25; subst hz
          exact zn_ireturn (pc := 64) dX9_check_64 rfl hp
theorem c_X9_check {G : zG} {i0 : Nat} {S : zH} {out : (Int32 × zH)} (h0 : f_X9_check i0 S = some out) : zct G M_X9_check 1 0 0 [vR 0 (some i0)] S (zpo (some (vI out.1)) out.2) := by
  refine zct_of (by decide) (Nat.le_of_ble_eq_true rfl) ?_
  show zn G M_X9_check 1 0 0 0 [(0, vR 0 (some i0))] [] S _
  have hp : zpo (some (vI out.1)) out.2 (some (vI out.1)) out.2 := ⟨rfl, rfl⟩
  unfold f_X9_check at h0
  refine zn_aload_n (pc := 0) 0 dX9_check_0 rfl rfl ?_
  refine zn_getI (pc := 1) fa_X9_63_0.1 fa_X9_63_0.2 dX9_check_1 ?_
  refine zn_aload_n (pc := 4) 0 dX9_check_4 rfl rfl ?_
  refine zn_getR (pc := 5) fa_X9_59_0.1 fa_X9_59_0.2 dX9_check_5 ?_
  obtain ⟨i26, hi27, h28⟩ := zbd h0; clear h0
  rw [hi27]
  refine zn_alen (pc := 8) zk_19 rfl dX9_check_8 ?_
  have h30 := h28; clear h28
  refine zn_icmp_eq (pc := 9) (tgt := 19) dX9_check_9 (by decide) (fun c29 => ?_) (fun c29 => ?_)
  · replace h30 := zif_t c29 h30
    refine zn_aload_n (pc := 19) 0 dX9_check_19 rfl rfl ?_
    refine zn_iconst (pc := 20) (x := 0) dX9_check_20 (by decide) ?_
    obtain ⟨S31, hS32, h33⟩ := zltd h30; clear h30
    refine zn_putI (pc := 21) fp_X9_63_0.1 (fp_X9_63_0 (nm := "")).2 dX9_check_21 hS32 ?_
    refine zn_iconst (pc := 24) (x := 0) dX9_check_24 (by decide) ?_
    refine zn_istore_n (pc := 25) (ls' := [(1, vI 0), (0, vR 0 (some i0))]) dX9_check_25 rfl (Nat.le_of_ble_eq_true rfl) rfl ?_
    refine zn_pick [1, 0] rfl ?_
    exact b_X9_check_26  fu _ _ _ _ h33 hp
  · replace h30 := zif_f c29 h30
    refine zn_aload_n (pc := 12) 0 dX9_check_12 rfl rfl ?_
    refine zn_bipush (pc := 13) (x := (-3)) dX9_check_13 (by decide) ?_
    obtain ⟨o34, e35, h36⟩ := zbd h30; clear h30
    refine zn_cVv (pc := 15) (kc := 0) (ks := 0) (kc' := 0) (ks' := 0) (As := [vI (-3)]) (st := []) dX9_check_15 cs_X9_78 pc_0 rfl rfl (Nat.le_of_ble_eq_true rfl) ((c_X9_refuse e35).mono (Nat.le_of_ble_eq_true rfl)) ?_
    have hz := Option.some.inj h36; clear h36; subst hz
    exact zn_ireturn (pc := 18) dX9_check_18 rfl hp
theorem c_X7_add {G : zG} {i0 : Nat} {x1 : Int32} {S : zH} {out : (Int32 × zH)} (h0 : f_X7_add i0 x1 S = some out) : zct G M_X7_add 0 0 0 [vR 9 (some i0), vI x1] S (zpo (some (vI out.1)) out.2) := by
  refine zct_of (by decide) (Nat.le_of_ble_eq_true rfl) ?_
  show zn G M_X7_add 0 0 0 0 [(0, vR 9 (some i0)), (1, vI x1)] [] S _
  have hp : zpo (some (vI out.1)) out.2 (some (vI out.1)) out.2 := ⟨rfl, rfl⟩
  unfold f_X7_add at h0
  refine zn_aload_n (pc := 0) 0 dX7_add_0 rfl rfl ?_
  refine zn_getI (pc := 1) fa_X7_15_9.1 fa_X7_15_9.2 dX7_add_1 ?_
  have h2 := h0; clear h0
  refine zn_if_lt (pc := 4) (tgt := 39) dX7_add_4 (by decide) (fun c1 => ?_) (fun c1 => ?_)
  · replace h2 := zif_t c1 h2
    refine zn_aload_n (pc := 39) 0 dX7_add_39 rfl rfl ?_
    refine zn_getI (pc := 40) fa_X7_15_9.1 fa_X7_15_9.2 dX7_add_40 ?_
    have hz := Option.some.inj h2; clear h2; subst hz
    exact zn_ireturn (pc := 43) dX7_add_43 rfl hp
  · replace h2 := zif_f c1 h2
    refine zn_aload_n (pc := 7) 0 dX7_add_7 rfl rfl ?_
    refine zn_getI (pc := 8) fa_X7_15_9.1 fa_X7_15_9.2 dX7_add_8 ?_
    refine zn_aload_n (pc := 11) 0 dX7_add_11 rfl rfl ?_
    refine zn_getR (pc := 12) fa_X7_9_9.1 fa_X7_9_9.2 dX7_add_12 ?_
    obtain ⟨i3, hi4, h5⟩ := zbd h2; clear h2
    rw [hi4]
    refine zn_alen (pc := 15) zk_30 rfl dX7_add_15 ?_
    have h7 := h5; clear h5
    refine zn_icmp_ge (pc := 16) (tgt := 39) dX7_add_16 (by decide) (fun c6 => ?_) (fun c6 => ?_)
    · replace h7 := zif_t c6 h7
      refine zn_aload_n (pc := 39) 0 dX7_add_39 rfl rfl ?_
      refine zn_getI (pc := 40) fa_X7_15_9.1 fa_X7_15_9.2 dX7_add_40 ?_
      have hz := Option.some.inj h7; clear h7; subst hz
      exact zn_ireturn (pc := 43) dX7_add_43 rfl hp
    · replace h7 := zif_f c6 h7
      refine zn_aload_n (pc := 19) 0 dX7_add_19 rfl rfl ?_
      refine zn_getR (pc := 20) fa_X7_9_9.1 fa_X7_9_9.2 dX7_add_20 ?_
      refine zn_aload_n (pc := 23) 0 dX7_add_23 rfl rfl ?_
      refine zn_getI (pc := 24) fa_X7_15_9.1 fa_X7_15_9.2 dX7_add_24 ?_
      refine zn_iload_n (pc := 27) 1 dX7_add_27 rfl rfl ?_
      obtain ⟨i8, hi9, h10⟩ := zbd h7; clear h7
      rw [hi9]
      obtain ⟨hb11, h12⟩ := zgdd h10; clear h10
      obtain ⟨S13, hS14, h15⟩ := zltd h12; clear h12
      refine zn_iastore (pc := 28) zk_30 dX7_add_28 (zib_in hb11) hS14 ?_
      refine zn_aload_n (pc := 29) 0 dX7_add_29 rfl rfl ?_
      refine zn_dup (pc := 30) dX7_add_30 rfl ?_
      refine zn_getI (pc := 31) fa_X7_15_9.1 fa_X7_15_9.2 dX7_add_31 ?_
      refine zn_iconst (pc := 34) (x := 1) dX7_add_34 (by decide) ?_
      refine zn_iadd (pc := 35) dX7_add_35 ?_
      obtain ⟨S16, hS17, h18⟩ := zltd h15; clear h15
      refine zn_putI (pc := 36) fp_X7_15_9.1 (fp_X7_15_9 (nm := "")).2 dX7_add_36 hS17 ?_
      refine zn_aload_n (pc := 39) 0 dX7_add_39 rfl rfl ?_
      refine zn_getI (pc := 40) fa_X7_15_9.1 fa_X7_15_9.2 dX7_add_40 ?_
      have hz := Option.some.inj h18; clear h18; subst hz
      exact zn_ireturn (pc := 43) dX7_add_43 rfl hp
theorem b_X9_surge_29 {G : zG} {Post : Option zV → zH → Prop} {i0 : Nat} {S : zH} {out : (Int32 × zH)} (h0 : f_X9_surge_29 i0 S = some out) (hp : Post (some (vI out.1)) out.2) : zn G M_X9_surge 1 0 0 29 [(0, vR 0 (some i0))] [] S Post := by
  unfold f_X9_surge_29 at h0
  refine zn_aload_n (pc := 29) 0 dX9_surge_29 rfl rfl ?_
  refine zn_bipush (pc := 30) (x := (-6)) dX9_surge_30 (by decide) ?_
  obtain ⟨o1, e2, h3⟩ := zbd h0; clear h0
  refine zn_cVv (pc := 32) (kc := 0) (ks := 0) (kc' := 0) (ks' := 0) (As := [vI (-6)]) (st := []) dX9_surge_32 cs_X9_78 pc_0 rfl rfl (Nat.le_of_ble_eq_true rfl) ((c_X9_refuse e2).mono (Nat.le_of_ble_eq_true rfl)) ?_
  have hz := Option.some.inj h3; clear h3; subst hz
  exact zn_ireturn (pc := 35) dX9_surge_35 rfl hp
theorem c_X9_surge {G : zG} {i0 : Nat} {x1 : Int32} {S : zH} {out : (Int32 × zH)} (h0 : f_X9_surge i0 x1 S = some out) : zct G M_X9_surge 1 0 0 [vR 0 (some i0), vI x1] S (zpo (some (vI out.1)) out.2) := by
  refine zct_of (by decide) (Nat.le_of_ble_eq_true rfl) ?_
  show zn G M_X9_surge 1 0 0 0 [(0, vR 0 (some i0)), (1, vI x1)] [] S _
  have hp : zpo (some (vI out.1)) out.2 (some (vI out.1)) out.2 := ⟨rfl, rfl⟩
  unfold f_X9_surge at h0
  refine zn_iload_n (pc := 0) 1 dX9_surge_0 rfl rfl ?_
  have h5 := h0; clear h0
  refine zn_if_ge (pc := 1) (tgt := 11) dX9_surge_1 (by decide) (fun c4 => ?_) (fun c4 => ?_)
  · replace h5 := zif_t c4 h5
    refine zn_iload_n (pc := 11) 1 dX9_surge_11 rfl rfl ?_
    refine zn_bipush (pc := 12) (x := 127) dX9_surge_12 (by decide) ?_
    have h7 := h5; clear h5
    refine zn_icmp_gt (pc := 14) (tgt := 29) dX9_surge_14 (by decide) (fun c6 => ?_) (fun c6 => ?_)
    · replace h7 := zif_t c6 h7
      refine zn_pick [0] rfl ?_
      exact b_X9_surge_29  h7 hp
    · replace h7 := zif_f c6 h7
      refine zn_aload_n (pc := 17) 0 dX9_surge_17 rfl rfl ?_
      refine zn_getR (pc := 18) fa_X9_55_0.1 fa_X9_55_0.2 dX9_surge_18 ?_
      obtain ⟨i8, hi9, h10⟩ := zbd h7; clear h7
      rw [hi9]
      refine zn_getI (pc := 21) fa_X9_328_9.1 fa_X9_328_9.2 dX9_surge_21 ?_
      refine zn_bipush (pc := 24) (x := 9) dX9_surge_24 (by decide) ?_
      have h12 := h10; clear h10
      refine zn_icmp_lt (pc := 26) (tgt := 36) dX9_surge_26 (by decide) (fun c11 => ?_) (fun c11 => ?_)
      · replace h12 := zif_t c11 h12
        refine zn_aload_n (pc := 36) 0 dX9_surge_36 rfl rfl ?_
        refine zn_getR (pc := 37) fa_X9_55_0.1 fa_X9_55_0.2 dX9_surge_37 ?_
        refine zn_iload_n (pc := 40) 1 dX9_surge_40 rfl rfl ?_
        obtain ⟨i13, hi14, h15⟩ := zbd h12; clear h12
        rw [hi14]
        obtain ⟨o16, e17, h18⟩ := zbd h15; clear h15
        refine zn_cVv (pc := 41) (kc := 0) (ks := 0) (kc' := 0) (ks' := 0) (As := [vI x1]) (st := []) dX9_surge_41 cs_X9_329 pc_9 rfl rfl (Nat.le_of_ble_eq_true rfl) ((c_X7_add e17).mono (Nat.le_of_ble_eq_true rfl)) ?_
        have hz := Option.some.inj h18; clear h18; subst hz
        exact zn_ireturn (pc := 44) dX9_surge_44 rfl hp
      · replace h12 := zif_f c11 h12
        refine zn_pick [0] rfl ?_
        exact b_X9_surge_29  h12 hp
  · replace h5 := zif_f c4 h5
    refine zn_aload_n (pc := 4) 0 dX9_surge_4 rfl rfl ?_
    refine zn_bipush (pc := 5) (x := (-4)) dX9_surge_5 (by decide) ?_
    obtain ⟨o19, e20, h21⟩ := zbd h5; clear h5
    refine zn_cVv (pc := 7) (kc := 0) (ks := 0) (kc' := 0) (ks' := 0) (As := [vI (-4)]) (st := []) dX9_surge_7 cs_X9_78 pc_0 rfl rfl (Nat.le_of_ble_eq_true rfl) ((c_X9_refuse e20).mono (Nat.le_of_ble_eq_true rfl)) ?_
    have hz := Option.some.inj h21; clear h21; subst hz
    exact zn_ireturn (pc := 10) dX9_surge_10 rfl hp
theorem c_X7_cameOn {G : zG} {i0 : Nat} {x1 : Int32} {S : zH} {out : Int32} (h0 : f_X7_cameOn i0 x1 S = some out) : zct G M_X7_cameOn 0 0 0 [vR 9 (some i0), vI x1] S (zpo (some (vI out)) S) := by
  refine zct_of (by decide) (Nat.le_of_ble_eq_true rfl) ?_
  show zn G M_X7_cameOn 0 0 0 0 [(0, vR 9 (some i0)), (1, vI x1)] [] S _
  have hp : zpo (some (vI out)) S (some (vI out)) S := ⟨rfl, rfl⟩
  unfold f_X7_cameOn at h0
  refine zn_iload_n (pc := 0) 1 dX7_cameOn_0 rfl rfl ?_
  have h2 := h0; clear h0
  refine zn_if_lt (pc := 1) (tgt := 30) dX7_cameOn_1 (by decide) (fun c1 => ?_) (fun c1 => ?_)
  · replace h2 := zif_t c1 h2
    refine zn_iconst (pc := 30) (x := 0) dX7_cameOn_30 (by decide) ?_
    have hz := Option.some.inj h2; clear h2; subst hz
    exact zn_ireturn (pc := 31) dX7_cameOn_31 rfl hp
  · replace h2 := zif_f c1 h2
    refine zn_iload_n (pc := 4) 1 dX7_cameOn_4 rfl rfl ?_
    refine zn_aload_n (pc := 5) 0 dX7_cameOn_5 rfl rfl ?_
    refine zn_getI (pc := 6) fa_X7_15_9.1 fa_X7_15_9.2 dX7_cameOn_6 ?_
    have h4 := h2; clear h2
    refine zn_icmp_ge (pc := 9) (tgt := 30) dX7_cameOn_9 (by decide) (fun c3 => ?_) (fun c3 => ?_)
    · replace h4 := zif_t c3 h4
      refine zn_iconst (pc := 30) (x := 0) dX7_cameOn_30 (by decide) ?_
      have hz := Option.some.inj h4; clear h4; subst hz
      exact zn_ireturn (pc := 31) dX7_cameOn_31 rfl hp
    · replace h4 := zif_f c3 h4
      refine zn_iload_n (pc := 12) 1 dX7_cameOn_12 rfl rfl ?_
      refine zn_aload_n (pc := 13) 0 dX7_cameOn_13 rfl rfl ?_
      refine zn_getR (pc := 14) fa_X7_9_9.1 fa_X7_9_9.2 dX7_cameOn_14 ?_
      obtain ⟨i5, hi6, h7⟩ := zbd h4; clear h4
      rw [hi6]
      refine zn_alen (pc := 17) zk_30 rfl dX7_cameOn_17 ?_
      have h9 := h7; clear h7
      refine zn_icmp_ge (pc := 18) (tgt := 30) dX7_cameOn_18 (by decide) (fun c8 => ?_) (fun c8 => ?_)
      · replace h9 := zif_t c8 h9
        refine zn_iconst (pc := 30) (x := 0) dX7_cameOn_30 (by decide) ?_
        have hz := Option.some.inj h9; clear h9; subst hz
        exact zn_ireturn (pc := 31) dX7_cameOn_31 rfl hp
      · replace h9 := zif_f c8 h9
        refine zn_aload_n (pc := 21) 0 dX7_cameOn_21 rfl rfl ?_
        refine zn_getR (pc := 22) fa_X7_9_9.1 fa_X7_9_9.2 dX7_cameOn_22 ?_
        refine zn_iload_n (pc := 25) 1 dX7_cameOn_25 rfl rfl ?_
        obtain ⟨i10, hi11, h12⟩ := zbd h9; clear h9
        rw [hi11]
        obtain ⟨hb13, h14⟩ := zgdd h12; clear h12
        refine zn_iaload (pc := 26) zk_30 dX7_cameOn_26 (zib_in hb13) ?_
        refine zn_goto (pc := 27) (tgt := 31) dX7_cameOn_27 (by decide) ?_
        have hz := Option.some.inj h14; clear h14; subst hz
        exact zn_ireturn (pc := 31) dX7_cameOn_31 rfl hp
theorem b_X7_firstDayTooLate_4 {G : zG} {Post : Option zV → zH → Prop} : ∀ (n : Nat) (i0 : Nat) (x1 : Int32) (x2 : Int32) (x3 : Int32) (S : zH) (out : Int32), f_X7_firstDayTooLate_4 n i0 x1 x2 x3 S = some out → Post (some (vI out)) S → zn G M_X7_firstDayTooLate 1 0 0 4 [(0, vR 9 (some i0)), (1, vI x1), (2, vI x2), (3, vI x3)] [] S Post := by
  intro n
  induction n with
  | zero => intro i0 x1 x2 x3 S out h0 hp; exact (nomatch (show (none : Option _) = some out from h0))
  | succ n ih =>
    intro i0 x1 x2 x3 S out h0 hp
    rw [f_X7_firstDayTooLate_4] at h0
    refine zn_iload_n (pc := 4) 3 dX7_firstDayTooLate_4 rfl rfl ?_
    refine zn_aload_n (pc := 5) 0 dX7_firstDayTooLate_5 rfl rfl ?_
    refine zn_getI (pc := 6) fa_X7_15_9.1 fa_X7_15_9.2 dX7_firstDayTooLate_6 ?_
    refine zn_iconst (pc := 9) (x := 2) dX7_firstDayTooLate_9 (by decide) ?_
    refine zn_iadd (pc := 10) dX7_firstDayTooLate_10 ?_
    have h2 := h0; clear h0
    refine zn_icmp_ge (pc := 11) (tgt := 55) dX7_firstDayTooLate_11 (by decide) (fun c1 => ?_) (fun c1 => ?_)
    · replace h2 := zif_t c1 h2
      refine zn_bipush (pc := 55) (x := (-9)) dX7_firstDayTooLate_55 (by decide) ?_
      have hz := Option.some.inj h2; clear h2; subst hz
      exact zn_ireturn (pc := 57) dX7_firstDayTooLate_57 rfl hp
    · replace h2 := zif_f c1 h2
      refine zn_iload_n (pc := 14) 2 dX7_firstDayTooLate_14 rfl rfl ?_
      refine zn_aload_n (pc := 15) 0 dX7_firstDayTooLate_15 rfl rfl ?_
      refine zn_iload_n (pc := 16) 3 dX7_firstDayTooLate_16 rfl rfl ?_
      obtain ⟨o3, e4, h5⟩ := zbd h2; clear h2
      refine zn_cVv (pc := 17) (kc := 0) (ks := 0) (kc' := 0) (ks' := 0) (As := [vI x3]) (st := [vI x2]) dX7_firstDayTooLate_17 cs_X7_23 pc_9 rfl rfl (Nat.le_of_ble_eq_true rfl) ((c_X7_cameOn e4).mono (Nat.le_of_ble_eq_true rfl)) ?_
      refine zn_iadd (pc := 20) dX7_firstDayTooLate_20 ?_
      refine zn_istore_n (pc := 21) (ls' := [(2, vI (x2 + o3)), (0, vR 9 (some i0)), (1, vI x1), (3, vI x3)]) dX7_firstDayTooLate_21 rfl (Nat.le_of_ble_eq_true rfl) rfl ?_
      refine zn_iload_n (pc := 22) 0 dX7_firstDayTooLate_22 rfl rfl ?_
      refine zn_iload_n (pc := 23) 2 dX7_firstDayTooLate_23 rfl rfl ?_
      refine zn_iload_n (pc := 24) 0 dX7_firstDayTooLate_24 rfl rfl ?_
      refine zn_mmin (pc := 25) dX7_firstDayTooLate_25 ml_X7_26 ws_min.1 ws_min.2.1 ws_min.2.2 (Nat.le_of_ble_eq_true rfl) ?_
      refine zn_isub (pc := 28) dX7_firstDayTooLate_28 ?_
      refine zn_istore_n (pc := 29) (ls' := [(2, vI ((x2 + o3) - (if (x2 + o3) < x1 then (x2 + o3) else x1))), (0, vR 9 (some i0)), (1, vI x1), (3, vI x3)]) dX7_firstDayTooLate_29 rfl (Nat.le_of_ble_eq_true rfl) rfl ?_
      refine zn_iload_n (pc := 30) 0 dX7_firstDayTooLate_30 rfl rfl ?_
      refine zn_aload_n (pc := 31) 1 dX7_firstDayTooLate_31 rfl rfl ?_
      refine zn_iload_n (pc := 32) 3 dX7_firstDayTooLate_32 rfl rfl ?_
      obtain ⟨o6, e7, h8⟩ := zbd h5; clear h5
      refine zn_cVv (pc := 33) (kc := 0) (ks := 0) (kc' := 0) (ks' := 0) (As := [vI x3]) (st := [vI ((x2 + o3) - (if (x2 + o3) < x1 then (x2 + o3) else x1))]) dX7_firstDayTooLate_33 cs_X7_23 pc_9 rfl rfl (Nat.le_of_ble_eq_true rfl) ((c_X7_cameOn e7).mono (Nat.le_of_ble_eq_true rfl)) ?_
      refine zn_aload_n (pc := 36) 1 dX7_firstDayTooLate_36 rfl rfl ?_
      refine zn_iload_n (pc := 37) 3 dX7_firstDayTooLate_37 rfl rfl ?_
      refine zn_iconst (pc := 38) (x := 1) dX7_firstDayTooLate_38 (by decide) ?_
      refine zn_isub (pc := 39) dX7_firstDayTooLate_39 ?_
      obtain ⟨o9, e10, h11⟩ := zbd h8; clear h8
      refine zn_cVv (pc := 40) (kc := 0) (ks := 0) (kc' := 0) (ks' := 0) (As := [vI (x3 - 1)]) (st := [vI o6, vI ((x2 + o3) - (if (x2 + o3) < x1 then (x2 + o3) else x1))]) dX7_firstDayTooLate_40 cs_X7_23 pc_9 rfl rfl (Nat.le_of_ble_eq_true rfl) ((c_X7_cameOn e10).mono (Nat.le_of_ble_eq_true rfl)) ?_
      refine zn_iadd (pc := 43) dX7_firstDayTooLate_43 ?_
      have h13 := h11; clear h11
      refine zn_icmp_le (pc := 44) (tgt := 49) dX7_firstDayTooLate_44 (by decide) (fun c12 => ?_) (fun c12 => ?_)
      · replace h13 := zif_t c12 h13
        refine zn_iinc (pc := 49) 3 (y := x3 + 1) (ls' := [(3, vI (x3 + 1)), (2, vI ((x2 + o3) - (if (x2 + o3) < x1 then (x2 + o3) else x1))), (0, vR 9 (some i0)), (1, vI x1)]) dX7_firstDayTooLate_49 rfl rfl (Nat.le_of_ble_eq_true rfl) rfl ?_
        refine zn_goto (pc := 52) (tgt := 4) dX7_firstDayTooLate_52 (by decide) ?_
        refine zn_pick [2, 3, 1, 0] rfl ?_
        exact ih _ _ _ _ _ _ h13 hp
      · replace h13 := zif_f c12 h13
        refine zn_iload_n (pc := 47) 3 dX7_firstDayTooLate_47 rfl rfl ?_
        have hz := Option.some.inj h13; clear h13; subst hz
        exact zn_ireturn (pc := 48) dX7_firstDayTooLate_48 rfl hp
theorem c_X7_firstDayTooLate {G : zG} {i0 : Nat} {x1 : Int32} {S : zH} {out : Int32} (h0 : f_X7_firstDayTooLate i0 x1 S = some out) : zct G M_X7_firstDayTooLate 1 0 0 [vR 9 (some i0), vI x1] S (zpo (some (vI out)) S) := by
  refine zct_of (by decide) (Nat.le_of_ble_eq_true rfl) ?_
  show zn G M_X7_firstDayTooLate 1 0 0 0 [(0, vR 9 (some i0)), (1, vI x1)] [] S _
  have hp : zpo (some (vI out)) S (some (vI out)) S := ⟨rfl, rfl⟩
  unfold f_X7_firstDayTooLate at h0
  refine zn_iconst (pc := 0) (x := 0) dX7_firstDayTooLate_0 (by decide) ?_
  refine zn_istore_n (pc := 1) (ls' := [(2, vI 0), (0, vR 9 (some i0)), (1, vI x1)]) dX7_firstDayTooLate_1 rfl (Nat.le_of_ble_eq_true rfl) rfl ?_
  refine zn_iconst (pc := 2) (x := 0) dX7_firstDayTooLate_2 (by decide) ?_
  refine zn_istore_n (pc := 3) (ls' := [(3, vI 0), (2, vI 0), (0, vR 9 (some i0)), (1, vI x1)]) dX7_firstDayTooLate_3 rfl (Nat.le_of_ble_eq_true rfl) rfl ?_
  refine zn_pick [2, 3, 1, 0] rfl ?_
  exact b_X7_firstDayTooLate_4  fu _ _ _ _ _ _ h0 hp
theorem b_X7_leastCap_2 {G : zG} {Post : Option zV → zH → Prop} : ∀ (n : Nat) (i0 : Nat) (x1 : Int32) (S : zH) (out : Int32), f_X7_leastCap_2 n i0 x1 S = some out → Post (some (vI out)) S → zn G M_X7_leastCap 2 0 0 2 [(0, vR 9 (some i0)), (1, vI x1)] [] S Post := by
  intro n
  induction n with
  | zero => intro i0 x1 S out h0 hp; exact (nomatch (show (none : Option _) = some out from h0))
  | succ n ih =>
    intro i0 x1 S out h0 hp
    rw [f_X7_leastCap_2] at h0
    refine zn_iload_n (pc := 2) 1 dX7_leastCap_2 rfl rfl ?_
    refine zn_bipush (pc := 3) (x := 127) dX7_leastCap_3 (by decide) ?_
    have h2 := h0; clear h0
    refine zn_icmp_ge (pc := 5) (tgt := 26) dX7_leastCap_5 (by decide) (fun c1 => ?_) (fun c1 => ?_)
    · replace h2 := zif_t c1 h2
      refine zn_bipush (pc := 26) (x := 127) dX7_leastCap_26 (by decide) ?_
      have hz := Option.some.inj h2; clear h2; subst hz
      exact zn_ireturn (pc := 28) dX7_leastCap_28 rfl hp
    · replace h2 := zif_f c1 h2
      refine zn_aload_n (pc := 8) 0 dX7_leastCap_8 rfl rfl ?_
      refine zn_iload_n (pc := 9) 1 dX7_leastCap_9 rfl rfl ?_
      obtain ⟨o3, e4, h5⟩ := zbd h2; clear h2
      refine zn_cVv (pc := 10) (kc := 0) (ks := 0) (kc' := 0) (ks' := 0) (As := [vI x1]) (st := []) dX7_leastCap_10 cs_X7_19 pc_9 rfl rfl (Nat.le_of_ble_eq_true rfl) ((c_X7_firstDayTooLate e4).mono (Nat.le_of_ble_eq_true rfl)) ?_
      refine zn_bipush (pc := 13) (x := (-9)) dX7_leastCap_13 (by decide) ?_
      have h7 := h5; clear h5
      refine zn_icmp_ne (pc := 15) (tgt := 20) dX7_leastCap_15 (by decide) (fun c6 => ?_) (fun c6 => ?_)
      · replace h7 := zif_f c6 h7
        refine zn_iinc (pc := 20) 1 (y := x1 + 1) (ls' := [(1, vI (x1 + 1)), (0, vR 9 (some i0))]) dX7_leastCap_20 rfl rfl (Nat.le_of_ble_eq_true rfl) rfl ?_
        refine zn_goto (pc := 23) (tgt := 2) dX7_leastCap_23 (by decide) ?_
        refine zn_pick [1, 0] rfl ?_
        exact ih _ _ _ _ h7 hp
      · replace h7 := zif_t c6 h7
        refine zn_iload_n (pc := 18) 1 dX7_leastCap_18 rfl rfl ?_
        have hz := Option.some.inj h7; clear h7; subst hz
        exact zn_ireturn (pc := 19) dX7_leastCap_19 rfl hp
theorem c_X7_leastCap {G : zG} {i0 : Nat} {S : zH} {out : Int32} (h0 : f_X7_leastCap i0 S = some out) : zct G M_X7_leastCap 2 0 0 [vR 9 (some i0)] S (zpo (some (vI out)) S) := by
  refine zct_of (by decide) (Nat.le_of_ble_eq_true rfl) ?_
  show zn G M_X7_leastCap 2 0 0 0 [(0, vR 9 (some i0))] [] S _
  have hp : zpo (some (vI out)) S (some (vI out)) S := ⟨rfl, rfl⟩
  unfold f_X7_leastCap at h0
  refine zn_iconst (pc := 0) (x := 0) dX7_leastCap_0 (by decide) ?_
  refine zn_istore_n (pc := 1) (ls' := [(1, vI 0), (0, vR 9 (some i0))]) dX7_leastCap_1 rfl (Nat.le_of_ble_eq_true rfl) rfl ?_
  refine zn_pick [1, 0] rfl ?_
  exact b_X7_leastCap_2  fu _ _ _ _ h0 hp
theorem c_X9_least {G : zG} {i0 : Nat} {S : zH} {out : Int32} (h0 : f_X9_least i0 S = some out) : zct G M_X9_least 3 0 0 [vR 0 (some i0)] S (zpo (some (vI out)) S) := by
  refine zct_of (by decide) (Nat.le_of_ble_eq_true rfl) ?_
  show zn G M_X9_least 3 0 0 0 [(0, vR 0 (some i0))] [] S _
  have hp : zpo (some (vI out)) S (some (vI out)) S := ⟨rfl, rfl⟩
  unfold f_X9_least at h0
  refine zn_aload_n (pc := 0) 0 dX9_least_0 rfl rfl ?_
  refine zn_getR (pc := 1) fa_X9_55_0.1 fa_X9_55_0.2 dX9_least_1 ?_
  obtain ⟨i1, hi2, h3⟩ := zbd h0; clear h0
  rw [hi2]
  obtain ⟨o4, e5, h6⟩ := zbd h3; clear h3
  refine zn_cVv (pc := 4) (kc := 0) (ks := 0) (kc' := 0) (ks' := 0) (As := []) (st := []) dX9_least_4 cs_X9_331 pc_9 rfl rfl (Nat.le_of_ble_eq_true rfl) ((c_X7_leastCap e5).mono (Nat.le_of_ble_eq_true rfl)) ?_
  have hz := Option.some.inj h6; clear h6; subst hz
  exact zn_ireturn (pc := 7) dX9_least_7 rfl hp
theorem c_X9_tooLate {G : zG} {i0 : Nat} {x1 : Int32} {S : zH} {out : (Int32 × zH)} (h0 : f_X9_tooLate i0 x1 S = some out) : zct G M_X9_tooLate 2 0 0 [vR 0 (some i0), vI x1] S (zpo (some (vI out.1)) out.2) := by
  refine zct_of (by decide) (Nat.le_of_ble_eq_true rfl) ?_
  show zn G M_X9_tooLate 2 0 0 0 [(0, vR 0 (some i0)), (1, vI x1)] [] S _
  have hp : zpo (some (vI out.1)) out.2 (some (vI out.1)) out.2 := ⟨rfl, rfl⟩
  unfold f_X9_tooLate at h0
  refine zn_iload_n (pc := 0) 1 dX9_tooLate_0 rfl rfl ?_
  refine zn_iconst (pc := 1) (x := 0) dX9_tooLate_1 (by decide) ?_
  refine zn_sipush (pc := 2) (x := 999) dX9_tooLate_2 (by decide) ?_
  obtain ⟨o1, e2, h3⟩ := zbd h0; clear h0
  refine zn_cSv (pc := 5) (kc := 0) (ks := 0) (kc' := 0) (ks' := 0) (As := [vI x1, vI 0, vI 999]) (st := []) dX9_tooLate_5 cs_X9_74 rfl rfl (Nat.le_of_ble_eq_true rfl) ((c_X9_outside e2).mono (Nat.le_of_ble_eq_true rfl)) ?_
  refine zn_istore_n (pc := 8) (ls' := [(2, vI o1), (0, vR 0 (some i0)), (1, vI x1)]) dX9_tooLate_8 rfl (Nat.le_of_ble_eq_true rfl) rfl ?_
  refine zn_iload_n (pc := 9) 0 dX9_tooLate_9 rfl rfl ?_
  have h5 := h3; clear h3
  refine zn_if_eq (pc := 10) (tgt := 19) dX9_tooLate_10 (by decide) (fun c4 => ?_) (fun c4 => ?_)
  · replace h5 := zif_t c4 h5
    refine zn_aload_n (pc := 19) 1 dX9_tooLate_19 rfl rfl ?_
    refine zn_getR (pc := 20) fa_X9_55_0.1 fa_X9_55_0.2 dX9_tooLate_20 ?_
    refine zn_iload_n (pc := 23) 2 dX9_tooLate_23 rfl rfl ?_
    obtain ⟨i6, hi7, h8⟩ := zbd h5; clear h5
    rw [hi7]
    obtain ⟨o9, e10, h11⟩ := zbd h8; clear h8
    refine zn_cVv (pc := 24) (kc := 0) (ks := 0) (kc' := 0) (ks' := 0) (As := [vI x1]) (st := []) dX9_tooLate_24 cs_X9_334 pc_9 rfl rfl (Nat.le_of_ble_eq_true rfl) ((c_X7_firstDayTooLate e10).mono (Nat.le_of_ble_eq_true rfl)) ?_
    refine zn_istore_n (pc := 27) (ls' := [(3, vI o9), (2, vI o1), (0, vR 0 (some i0)), (1, vI x1)]) dX9_tooLate_27 rfl (Nat.le_of_ble_eq_true rfl) rfl ?_
    refine zn_aload_n (pc := 28) 2 dX9_tooLate_28 rfl rfl ?_
    refine zn_getR (pc := 29) fa_X9_55_0.1 fa_X9_55_0.2 dX9_tooLate_29 ?_
    refine zn_iconst (pc := 32) (x := 0) dX9_tooLate_32 (by decide) ?_
    obtain ⟨i12, hi13, h14⟩ := zbd h11; clear h11
    rw [hi13]
    obtain ⟨S15, hS16, h17⟩ := zltd h14; clear h14
    refine zn_putI (pc := 33) fp_X9_328_9.1 (fp_X9_328_9 (nm := "")).2 dX9_tooLate_33 hS16 ?_
    refine zn_iload_n (pc := 36) 0 dX9_tooLate_36 rfl rfl ?_
    have hz := Option.some.inj h17; clear h17; subst hz
    exact zn_ireturn (pc := 37) dX9_tooLate_37 rfl hp
  · replace h5 := zif_f c4 h5
    refine zn_aload_n (pc := 13) 1 dX9_tooLate_13 rfl rfl ?_
    refine zn_iload_n (pc := 14) 0 dX9_tooLate_14 rfl rfl ?_
    obtain ⟨o18, e19, h20⟩ := zbd h5; clear h5
    refine zn_cVv (pc := 15) (kc := 0) (ks := 0) (kc' := 0) (ks' := 0) (As := [vI o1]) (st := []) dX9_tooLate_15 cs_X9_78 pc_0 rfl rfl (Nat.le_of_ble_eq_true rfl) ((c_X9_refuse e19).mono (Nat.le_of_ble_eq_true rfl)) ?_
    have hz := Option.some.inj h20; clear h20; subst hz
    exact zn_ireturn (pc := 18) dX9_tooLate_18 rfl hp
theorem b_X9_openAccounts_4 {G : zG} {Post : Option zV → zH → Prop} : ∀ (n : Nat) (i0 : Nat) (x1 : Int32) (x2 : Int32) (S : zH) (out : Int32), f_X9_openAccounts_4 n i0 x1 x2 S = some out → Post (some (vI out)) S → zn G M_X9_openAccounts 4 0 0 4 [(0, vR 0 (some i0)), (1, vI x1), (2, vI x2)] [] S Post := by
  intro n
  induction n with
  | zero => intro i0 x1 x2 S out h0 hp; exact (nomatch (show (none : Option _) = some out from h0))
  | succ n ih =>
    intro i0 x1 x2 S out h0 hp
    rw [f_X9_openAccounts_4] at h0
    refine zn_iload_n (pc := 4) 2 dX9_openAccounts_4 rfl rfl ?_
    refine zn_aload_n (pc := 5) 0 dX9_openAccounts_5 rfl rfl ?_
    refine zn_getR (pc := 6) fa_X9_28_0.1 fa_X9_28_0.2 dX9_openAccounts_6 ?_
    obtain ⟨i1, hi2, h3⟩ := zbd h0; clear h0
    rw [hi2]
    obtain ⟨o4, e5, h6⟩ := zbd h3; clear h3
    refine zn_cVv (pc := 9) (kc := 0) (ks := 0) (kc' := 0) (ks' := 0) (As := []) (st := [vI x2]) dX9_openAccounts_9 cls_X9_142 pc_10 rfl rfl (Nat.le_of_ble_eq_true rfl) (zc_size (p := 10) (by decide) (Nat.le_of_ble_eq_true rfl) e5) ?_
    have h8 := h6; clear h6
    refine zn_icmp_ge (pc := 12) (tgt := 41) dX9_openAccounts_12 (by decide) (fun c7 => ?_) (fun c7 => ?_)
    · replace h8 := zif_t c7 h8
      refine zn_iload_n (pc := 41) 1 dX9_openAccounts_41 rfl rfl ?_
      have hz := Option.some.inj h8; clear h8; subst hz
      exact zn_ireturn (pc := 42) dX9_openAccounts_42 rfl hp
    · replace h8 := zif_f c7 h8
      refine zn_aload_n (pc := 15) 0 dX9_openAccounts_15 rfl rfl ?_
      refine zn_getR (pc := 16) fa_X9_28_0.1 fa_X9_28_0.2 dX9_openAccounts_16 ?_
      refine zn_iload_n (pc := 19) 2 dX9_openAccounts_19 rfl rfl ?_
      obtain ⟨i9, hi10, h11⟩ := zbd h8; clear h8
      rw [hi10]
      obtain ⟨o12, e13, h14⟩ := zbd h11; clear h11
      refine zn_cVv (pc := 20) (kc := 0) (ks := 0) (kc' := 0) (ks' := 0) (As := [vI x2]) (st := []) dX9_openAccounts_20 clg_X9_353 pc_10 rfl rfl (Nat.le_of_ble_eq_true rfl) (zc_get (p := 10) (by decide) rfl (Nat.le_of_ble_eq_true rfl) e13) ?_
      refine zn_cast (pc := 23) cl_X9_151 pc_3 dX9_openAccounts_23 ?_
      obtain ⟨i15, hi16, h17⟩ := zbd h14; clear h14
      rw [hi16]
      refine zn_getI (pc := 26) fa_X9_159_3.1 fa_X9_159_3.2 dX9_openAccounts_26 ?_
      have h19 := h17; clear h17
      refine zn_if_ne (pc := 29) (tgt := 35) dX9_openAccounts_29 (by decide) (fun c18 => ?_) (fun c18 => ?_)
      · replace h19 := zif_f c18 h19
        refine zn_iinc (pc := 35) 2 (y := x2 + 1) (ls' := [(2, vI (x2 + 1)), (0, vR 0 (some i0)), (1, vI x1)]) dX9_openAccounts_35 rfl rfl (Nat.le_of_ble_eq_true rfl) rfl ?_
        refine zn_goto (pc := 38) (tgt := 4) dX9_openAccounts_38 (by decide) ?_
        refine zn_pick [1, 2, 0] rfl ?_
        exact ih _ _ _ _ _ h19 hp
      · replace h19 := zif_t c18 h19
        refine zn_iinc (pc := 32) 1 (y := x1 + 1) (ls' := [(1, vI (x1 + 1)), (0, vR 0 (some i0)), (2, vI x2)]) dX9_openAccounts_32 rfl rfl (Nat.le_of_ble_eq_true rfl) rfl ?_
        refine zn_iinc (pc := 35) 2 (y := x2 + 1) (ls' := [(2, vI (x2 + 1)), (1, vI (x1 + 1)), (0, vR 0 (some i0))]) dX9_openAccounts_35 rfl rfl (Nat.le_of_ble_eq_true rfl) rfl ?_
        refine zn_goto (pc := 38) (tgt := 4) dX9_openAccounts_38 (by decide) ?_
        refine zn_pick [2, 1, 0] rfl ?_
        exact ih _ _ _ _ _ h19 hp
theorem c_X9_openAccounts {G : zG} {i0 : Nat} {S : zH} {out : Int32} (h0 : f_X9_openAccounts i0 S = some out) : zct G M_X9_openAccounts 4 0 0 [vR 0 (some i0)] S (zpo (some (vI out)) S) := by
  refine zct_of (by decide) (Nat.le_of_ble_eq_true rfl) ?_
  show zn G M_X9_openAccounts 4 0 0 0 [(0, vR 0 (some i0))] [] S _
  have hp : zpo (some (vI out)) S (some (vI out)) S := ⟨rfl, rfl⟩
  unfold f_X9_openAccounts at h0
  refine zn_iconst (pc := 0) (x := 0) dX9_openAccounts_0 (by decide) ?_
  refine zn_istore_n (pc := 1) (ls' := [(1, vI 0), (0, vR 0 (some i0))]) dX9_openAccounts_1 rfl (Nat.le_of_ble_eq_true rfl) rfl ?_
  refine zn_iconst (pc := 2) (x := 0) dX9_openAccounts_2 (by decide) ?_
  refine zn_istore_n (pc := 3) (ls' := [(2, vI 0), (1, vI 0), (0, vR 0 (some i0))]) dX9_openAccounts_3 rfl (Nat.le_of_ble_eq_true rfl) rfl ?_
  refine zn_pick [2, 1, 0] rfl ?_
  exact b_X9_openAccounts_4  fu _ _ _ _ _ h0 hp
theorem b_X9_movesThatGoOn_4 {G : zG} {Post : Option zV → zH → Prop} : ∀ (n : Nat) (i0 : Nat) (x1 : Int32) (x2 : Int32) (S : zH) (out : Int32), f_X9_movesThatGoOn_4 n i0 x1 x2 S = some out → Post (some (vI out)) S → zn G M_X9_movesThatGoOn 4 0 0 4 [(0, vR 0 (some i0)), (1, vI x1), (2, vI x2)] [] S Post := by
  intro n
  induction n with
  | zero => intro i0 x1 x2 S out h0 hp; exact (nomatch (show (none : Option _) = some out from h0))
  | succ n ih =>
    intro i0 x1 x2 S out h0 hp
    rw [f_X9_movesThatGoOn_4] at h0
    refine zn_iload_n (pc := 4) 2 dX9_movesThatGoOn_4 rfl rfl ?_
    refine zn_aload_n (pc := 5) 0 dX9_movesThatGoOn_5 rfl rfl ?_
    refine zn_getR (pc := 6) fa_X9_35_0.1 fa_X9_35_0.2 dX9_movesThatGoOn_6 ?_
    obtain ⟨i1, hi2, h3⟩ := zbd h0; clear h0
    rw [hi2]
    obtain ⟨o4, e5, h6⟩ := zbd h3; clear h3
    refine zn_cVv (pc := 9) (kc := 0) (ks := 0) (kc' := 0) (ks' := 0) (As := []) (st := [vI x2]) dX9_movesThatGoOn_9 cls_X9_142 pc_12 rfl rfl (Nat.le_of_ble_eq_true rfl) (zc_size (p := 12) (by decide) (Nat.le_of_ble_eq_true rfl) e5) ?_
    have h8 := h6; clear h6
    refine zn_icmp_ge (pc := 12) (tgt := 41) dX9_movesThatGoOn_12 (by decide) (fun c7 => ?_) (fun c7 => ?_)
    · replace h8 := zif_t c7 h8
      refine zn_iload_n (pc := 41) 1 dX9_movesThatGoOn_41 rfl rfl ?_
      have hz := Option.some.inj h8; clear h8; subst hz
      exact zn_ireturn (pc := 42) dX9_movesThatGoOn_42 rfl hp
    · replace h8 := zif_f c7 h8
      refine zn_aload_n (pc := 15) 0 dX9_movesThatGoOn_15 rfl rfl ?_
      refine zn_getR (pc := 16) fa_X9_35_0.1 fa_X9_35_0.2 dX9_movesThatGoOn_16 ?_
      refine zn_iload_n (pc := 19) 2 dX9_movesThatGoOn_19 rfl rfl ?_
      obtain ⟨i9, hi10, h11⟩ := zbd h8; clear h8
      rw [hi10]
      obtain ⟨o12, e13, h14⟩ := zbd h11; clear h11
      refine zn_cVv (pc := 20) (kc := 0) (ks := 0) (kc' := 0) (ks' := 0) (As := [vI x2]) (st := []) dX9_movesThatGoOn_20 clg_X9_353 pc_12 rfl rfl (Nat.le_of_ble_eq_true rfl) (zc_get (p := 12) (by decide) rfl (Nat.le_of_ble_eq_true rfl) e13) ?_
      refine zn_cast (pc := 23) cl_X9_271 pc_5 dX9_movesThatGoOn_23 ?_
      obtain ⟨i15, hi16, h17⟩ := zbd h14; clear h14
      rw [hi16]
      refine zn_getI (pc := 26) fa_X9_290_5.1 fa_X9_290_5.2 dX9_movesThatGoOn_26 ?_
      have h19 := h17; clear h17
      refine zn_if_eq (pc := 29) (tgt := 35) dX9_movesThatGoOn_29 (by decide) (fun c18 => ?_) (fun c18 => ?_)
      · replace h19 := zif_t c18 h19
        refine zn_iinc (pc := 35) 2 (y := x2 + 1) (ls' := [(2, vI (x2 + 1)), (0, vR 0 (some i0)), (1, vI x1)]) dX9_movesThatGoOn_35 rfl rfl (Nat.le_of_ble_eq_true rfl) rfl ?_
        refine zn_goto (pc := 38) (tgt := 4) dX9_movesThatGoOn_38 (by decide) ?_
        refine zn_pick [1, 2, 0] rfl ?_
        exact ih _ _ _ _ _ h19 hp
      · replace h19 := zif_f c18 h19
        refine zn_iinc (pc := 32) 1 (y := x1 + 1) (ls' := [(1, vI (x1 + 1)), (0, vR 0 (some i0)), (2, vI x2)]) dX9_movesThatGoOn_32 rfl rfl (Nat.le_of_ble_eq_true rfl) rfl ?_
        refine zn_iinc (pc := 35) 2 (y := x2 + 1) (ls' := [(2, vI (x2 + 1)), (1, vI (x1 + 1)), (0, vR 0 (some i0))]) dX9_movesThatGoOn_35 rfl rfl (Nat.le_of_ble_eq_true rfl) rfl ?_
        refine zn_goto (pc := 38) (tgt := 4) dX9_movesThatGoOn_38 (by decide) ?_
        refine zn_pick [2, 1, 0] rfl ?_
        exact ih _ _ _ _ _ h19 hp
theorem c_X9_movesThatGoOn {G : zG} {i0 : Nat} {S : zH} {out : Int32} (h0 : f_X9_movesThatGoOn i0 S = some out) : zct G M_X9_movesThatGoOn 4 0 0 [vR 0 (some i0)] S (zpo (some (vI out)) S) := by
  refine zct_of (by decide) (Nat.le_of_ble_eq_true rfl) ?_
  show zn G M_X9_movesThatGoOn 4 0 0 0 [(0, vR 0 (some i0))] [] S _
  have hp : zpo (some (vI out)) S (some (vI out)) S := ⟨rfl, rfl⟩
  unfold f_X9_movesThatGoOn at h0
  refine zn_iconst (pc := 0) (x := 0) dX9_movesThatGoOn_0 (by decide) ?_
  refine zn_istore_n (pc := 1) (ls' := [(1, vI 0), (0, vR 0 (some i0))]) dX9_movesThatGoOn_1 rfl (Nat.le_of_ble_eq_true rfl) rfl ?_
  refine zn_iconst (pc := 2) (x := 0) dX9_movesThatGoOn_2 (by decide) ?_
  refine zn_istore_n (pc := 3) (ls' := [(2, vI 0), (1, vI 0), (0, vR 0 (some i0))]) dX9_movesThatGoOn_3 rfl (Nat.le_of_ble_eq_true rfl) rfl ?_
  refine zn_pick [2, 1, 0] rfl ?_
  exact b_X9_movesThatGoOn_4  fu _ _ _ _ _ h0 hp
theorem c_X9_refusalsCounted {G : zG} {i0 : Nat} {x1 : Int32} {S : zH} {out : Int32} (h0 : f_X9_refusalsCounted i0 x1 S = some out) : zct G M_X9_refusalsCounted 0 0 0 [vR 0 (some i0), vI x1] S (zpo (some (vI out)) S) := by
  refine zct_of (by decide) (Nat.le_of_ble_eq_true rfl) ?_
  show zn G M_X9_refusalsCounted 0 0 0 0 [(0, vR 0 (some i0)), (1, vI x1)] [] S _
  have hp : zpo (some (vI out)) S (some (vI out)) S := ⟨rfl, rfl⟩
  unfold f_X9_refusalsCounted at h0
  refine zn_iload_n (pc := 0) 1 dX9_refusalsCounted_0 rfl rfl ?_
  refine zn_iconst (pc := 1) (x := 1) dX9_refusalsCounted_1 (by decide) ?_
  have h2 := h0; clear h0
  refine zn_icmp_lt (pc := 2) (tgt := 20) dX9_refusalsCounted_2 (by decide) (fun c1 => ?_) (fun c1 => ?_)
  · replace h2 := zif_t c1 h2
    refine zn_bipush (pc := 20) (x := (-9)) dX9_refusalsCounted_20 (by decide) ?_
    have hz := Option.some.inj h2; clear h2; subst hz
    exact zn_ireturn (pc := 22) dX9_refusalsCounted_22 rfl hp
  · replace h2 := zif_f c1 h2
    refine zn_iload_n (pc := 5) 1 dX9_refusalsCounted_5 rfl rfl ?_
    refine zn_bipush (pc := 6) (x := 6) dX9_refusalsCounted_6 (by decide) ?_
    have h4 := h2; clear h2
    refine zn_icmp_gt (pc := 8) (tgt := 20) dX9_refusalsCounted_8 (by decide) (fun c3 => ?_) (fun c3 => ?_)
    · replace h4 := zif_t c3 h4
      refine zn_bipush (pc := 20) (x := (-9)) dX9_refusalsCounted_20 (by decide) ?_
      have hz := Option.some.inj h4; clear h4; subst hz
      exact zn_ireturn (pc := 22) dX9_refusalsCounted_22 rfl hp
    · replace h4 := zif_f c3 h4
      refine zn_aload_n (pc := 11) 0 dX9_refusalsCounted_11 rfl rfl ?_
      refine zn_getR (pc := 12) fa_X9_67_0.1 fa_X9_67_0.2 dX9_refusalsCounted_12 ?_
      refine zn_iload_n (pc := 15) 1 dX9_refusalsCounted_15 rfl rfl ?_
      obtain ⟨i5, hi6, h7⟩ := zbd h4; clear h4
      rw [hi6]
      obtain ⟨hb8, h9⟩ := zgdd h7; clear h7
      refine zn_iaload (pc := 16) zk_20 dX9_refusalsCounted_16 (zib_in hb8) ?_
      refine zn_goto (pc := 17) (tgt := 22) dX9_refusalsCounted_17 (by decide) ?_
      have hz := Option.some.inj h9; clear h9; subst hz
      exact zn_ireturn (pc := 22) dX9_refusalsCounted_22 rfl hp
theorem c_X9_count {G : zG} {i0 : Nat} {x1 : Int32} {S : zH} {out : Int32} (h0 : f_X9_count i0 x1 S = some out) : zct G M_X9_count 5 0 0 [vR 0 (some i0), vI x1] S (zpo (some (vI out)) S) := by
  refine zct_of (by decide) (Nat.le_of_ble_eq_true rfl) ?_
  show zn G M_X9_count 5 0 0 0 [(0, vR 0 (some i0)), (1, vI x1)] [] S _
  have hp : zpo (some (vI out)) S (some (vI out)) S := ⟨rfl, rfl⟩
  unfold f_X9_count at h0
  refine zn_iload_n (pc := 0) 1 dX9_count_0 rfl rfl ?_
  have h2 := h0; clear h0
  by_cases c1 : x1 = 0
  · replace h2 := zif_t c1 h2
    refine zn_tsIn (pc := 1) (tgt := 60) (off := 59) dX9_count_1 c1 (by decide) (by decide) ?_
    refine zn_aload_n (pc := 60) 0 dX9_count_60 rfl rfl ?_
    refine zn_getR (pc := 61) fa_X9_10_0.1 fa_X9_10_0.2 dX9_count_61 ?_
    obtain ⟨i3, hi4, h5⟩ := zbd h2; clear h2
    rw [hi4]
    refine zn_getI (pc := 64) fa_X9_71_1.1 fa_X9_71_1.2 dX9_count_64 ?_
    have hz := Option.some.inj h5; clear h5; subst hz
    exact zn_ireturn (pc := 67) dX9_count_67 rfl hp
  · replace h2 := zif_f c1 h2
    have h7 := h2; clear h2
    by_cases c6 : x1 = 1
    · replace h7 := zif_t c6 h7
      refine zn_tsIn (pc := 1) (tgt := 68) (off := 67) dX9_count_1 c6 (by decide) (by decide) ?_
      refine zn_aload_n (pc := 68) 0 dX9_count_68 rfl rfl ?_
      refine zn_getR (pc := 69) fa_X9_28_0.1 fa_X9_28_0.2 dX9_count_69 ?_
      obtain ⟨i8, hi9, h10⟩ := zbd h7; clear h7
      rw [hi9]
      obtain ⟨o11, e12, h13⟩ := zbd h10; clear h10
      refine zn_cVv (pc := 72) (kc := 0) (ks := 0) (kc' := 0) (ks' := 0) (As := []) (st := []) dX9_count_72 cls_X9_142 pc_10 rfl rfl (Nat.le_of_ble_eq_true rfl) (zc_size (p := 10) (by decide) (Nat.le_of_ble_eq_true rfl) e12) ?_
      have hz := Option.some.inj h13; clear h13; subst hz
      exact zn_ireturn (pc := 75) dX9_count_75 rfl hp
    · replace h7 := zif_f c6 h7
      have h15 := h7; clear h7
      by_cases c14 : x1 = 2
      · replace h15 := zif_t c14 h15
        refine zn_tsIn (pc := 1) (tgt := 76) (off := 75) dX9_count_1 c14 (by decide) (by decide) ?_
        refine zn_aload_n (pc := 76) 0 dX9_count_76 rfl rfl ?_
        obtain ⟨o16, e17, h18⟩ := zbd h15; clear h15
        refine zn_cVv (pc := 77) (kc := 0) (ks := 0) (kc' := 0) (ks' := 0) (As := []) (st := []) dX9_count_77 cs_X9_337 pc_0 rfl rfl (Nat.le_of_ble_eq_true rfl) ((c_X9_openAccounts e17).mono (Nat.le_of_ble_eq_true rfl)) ?_
        have hz := Option.some.inj h18; clear h18; subst hz
        exact zn_ireturn (pc := 80) dX9_count_80 rfl hp
      · replace h15 := zif_f c14 h15
        have h20 := h15; clear h15
        by_cases c19 : x1 = 3
        · replace h20 := zif_t c19 h20
          refine zn_tsIn (pc := 1) (tgt := 81) (off := 80) dX9_count_1 c19 (by decide) (by decide) ?_
          refine zn_aload_n (pc := 81) 0 dX9_count_81 rfl rfl ?_
          refine zn_null (pc := 82) 3 dX9_count_82 ?_
          obtain ⟨o21, e22, h23⟩ := zbd h20; clear h20
          refine zn_cVv (pc := 83) (kc := 0) (ks := 0) (kc' := 0) (ks' := 0) (As := [vR 3 none]) (st := []) dX9_count_83 cs_X9_340 pc_0 rfl rfl (Nat.le_of_ble_eq_true rfl) ((c_X9_linesNotEnded e22).mono (Nat.le_of_ble_eq_true rfl)) ?_
          have hz := Option.some.inj h23; clear h23; subst hz
          exact zn_ireturn (pc := 86) dX9_count_86 rfl hp
        · replace h20 := zif_f c19 h20
          have h25 := h20; clear h20
          by_cases c24 : x1 = 4
          · replace h25 := zif_t c24 h25
            refine zn_tsIn (pc := 1) (tgt := 87) (off := 86) dX9_count_1 c24 (by decide) (by decide) ?_
            refine zn_aload_n (pc := 87) 0 dX9_count_87 rfl rfl ?_
            refine zn_getR (pc := 88) fa_X9_35_0.1 fa_X9_35_0.2 dX9_count_88 ?_
            obtain ⟨i26, hi27, h28⟩ := zbd h25; clear h25
            rw [hi27]
            obtain ⟨o29, e30, h31⟩ := zbd h28; clear h28
            refine zn_cVv (pc := 91) (kc := 0) (ks := 0) (kc' := 0) (ks' := 0) (As := []) (st := []) dX9_count_91 cls_X9_142 pc_12 rfl rfl (Nat.le_of_ble_eq_true rfl) (zc_size (p := 12) (by decide) (Nat.le_of_ble_eq_true rfl) e30) ?_
            have hz := Option.some.inj h31; clear h31; subst hz
            exact zn_ireturn (pc := 94) dX9_count_94 rfl hp
          · replace h25 := zif_f c24 h25
            have h33 := h25; clear h25
            by_cases c32 : x1 = 5
            · replace h33 := zif_t c32 h33
              refine zn_tsIn (pc := 1) (tgt := 95) (off := 94) dX9_count_1 c32 (by decide) (by decide) ?_
              refine zn_aload_n (pc := 95) 0 dX9_count_95 rfl rfl ?_
              obtain ⟨o34, e35, h36⟩ := zbd h33; clear h33
              refine zn_cVv (pc := 96) (kc := 0) (ks := 0) (kc' := 0) (ks' := 0) (As := []) (st := []) dX9_count_96 cs_X9_344 pc_0 rfl rfl (Nat.le_of_ble_eq_true rfl) ((c_X9_movesThatGoOn e35).mono (Nat.le_of_ble_eq_true rfl)) ?_
              have hz := Option.some.inj h36; clear h36; subst hz
              exact zn_ireturn (pc := 99) dX9_count_99 rfl hp
            · replace h33 := zif_f c32 h33
              have h38 := h33; clear h33
              by_cases c37 : x1 = 6
              · replace h38 := zif_t c37 h38
                refine zn_tsIn (pc := 1) (tgt := 100) (off := 99) dX9_count_1 c37 (by decide) (by decide) ?_
                refine zn_aload_n (pc := 100) 0 dX9_count_100 rfl rfl ?_
                refine zn_getR (pc := 101) fa_X9_41_0.1 fa_X9_41_0.2 dX9_count_101 ?_
                obtain ⟨i39, hi40, h41⟩ := zbd h38; clear h38
                rw [hi40]
                obtain ⟨o42, e43, h44⟩ := zbd h41; clear h41
                refine zn_cVv (pc := 104) (kc := 0) (ks := 0) (kc' := 0) (ks' := 0) (As := []) (st := []) dX9_count_104 cs_X9_205 pc_7 rfl rfl (Nat.le_of_ble_eq_true rfl) ((c_X6_size e43).mono (Nat.le_of_ble_eq_true rfl)) ?_
                have hz := Option.some.inj h44; clear h44; subst hz
                exact zn_ireturn (pc := 107) dX9_count_107 rfl hp
              · replace h38 := zif_f c37 h38
                have h46 := h38; clear h38
                by_cases c45 : x1 = 7
                · replace h46 := zif_t c45 h46
                  refine zn_tsIn (pc := 1) (tgt := 108) (off := 107) dX9_count_1 c45 (by decide) (by decide) ?_
                  refine zn_aload_n (pc := 108) 0 dX9_count_108 rfl rfl ?_
                  refine zn_getR (pc := 109) fa_X9_48_0.1 fa_X9_48_0.2 dX9_count_109 ?_
                  obtain ⟨i47, hi48, h49⟩ := zbd h46; clear h46
                  rw [hi48]
                  refine zn_getI (pc := 112) fa_X9_198_8.1 fa_X9_198_8.2 dX9_count_112 ?_
                  have hz := Option.some.inj h49; clear h49; subst hz
                  exact zn_ireturn (pc := 115) dX9_count_115 rfl hp
                · replace h46 := zif_f c45 h46
                  have h51 := h46; clear h46
                  by_cases c50 : x1 = 8
                  · replace h51 := zif_t c50 h51
                    refine zn_tsIn (pc := 1) (tgt := 116) (off := 115) dX9_count_1 c50 (by decide) (by decide) ?_
                    refine zn_aload_n (pc := 116) 0 dX9_count_116 rfl rfl ?_
                    refine zn_getI (pc := 117) fa_X9_63_0.1 fa_X9_63_0.2 dX9_count_117 ?_
                    have hz := Option.some.inj h51; clear h51; subst hz
                    exact zn_ireturn (pc := 120) dX9_count_120 rfl hp
                  · replace h51 := zif_f c50 h51
                    have h53 := h51; clear h51
                    by_cases c52 : x1 = 9
                    · replace h53 := zif_t c52 h53
                      refine zn_tsIn (pc := 1) (tgt := 121) (off := 120) dX9_count_1 c52 (by decide) (by decide) ?_
                      refine zn_aload_n (pc := 121) 0 dX9_count_121 rfl rfl ?_
                      refine zn_getR (pc := 122) fa_X9_55_0.1 fa_X9_55_0.2 dX9_count_122 ?_
                      obtain ⟨i54, hi55, h56⟩ := zbd h53; clear h53
                      rw [hi55]
                      refine zn_getI (pc := 125) fa_X9_328_9.1 fa_X9_328_9.2 dX9_count_125 ?_
                      have hz := Option.some.inj h56; clear h56; subst hz
                      exact zn_ireturn (pc := 128) dX9_count_128 rfl hp
                    · replace h53 := zif_f c52 h53
                      have h58 := h53; clear h53
                      by_cases c57 : x1 = 10
                      · replace h58 := zif_t c57 h58
                        refine zn_tsIn (pc := 1) (tgt := 129) (off := 128) dX9_count_1 c57 (by decide) (by decide) ?_
                        refine zn_aload_n (pc := 129) 0 dX9_count_129 rfl rfl ?_
                        refine zn_getR (pc := 130) fa_X9_10_0.1 fa_X9_10_0.2 dX9_count_130 ?_
                        obtain ⟨i59, hi60, h61⟩ := zbd h58; clear h58
                        rw [hi60]
                        refine zn_getI (pc := 133) fa_X9_347_1.1 fa_X9_347_1.2 dX9_count_133 ?_
                        have hz := Option.some.inj h61; clear h61; subst hz
                        exact zn_ireturn (pc := 136) dX9_count_136 rfl hp
                      · replace h58 := zif_f c57 h58
                        refine zn_tsOut (pc := 1) (tgt := 137) dX9_count_1 ?_ (by decide) ?_
                        · have t0 := lv_neT c1 (show (0 : Int32).toInt = 0 by decide)
                          have t1 := lv_neT c6 (show (1 : Int32).toInt = 1 by decide)
                          have t2 := lv_neT c14 (show (2 : Int32).toInt = 2 by decide)
                          have t3 := lv_neT c19 (show (3 : Int32).toInt = 3 by decide)
                          have t4 := lv_neT c24 (show (4 : Int32).toInt = 4 by decide)
                          have t5 := lv_neT c32 (show (5 : Int32).toInt = 5 by decide)
                          have t6 := lv_neT c37 (show (6 : Int32).toInt = 6 by decide)
                          have t7 := lv_neT c45 (show (7 : Int32).toInt = 7 by decide)
                          have t8 := lv_neT c50 (show (8 : Int32).toInt = 8 by decide)
                          have t9 := lv_neT c52 (show (9 : Int32).toInt = 9 by decide)
                          have t10 := lv_neT c57 (show (10 : Int32).toInt = 10 by decide)
                          omega
                        · refine zn_aload_n (pc := 137) 0 dX9_count_137 rfl rfl ?_
                          refine zn_iload_n (pc := 138) 1 dX9_count_138 rfl rfl ?_
                          refine zn_bipush (pc := 139) (x := 10) dX9_count_139 (by decide) ?_
                          refine zn_isub (pc := 141) dX9_count_141 ?_
                          obtain ⟨o62, e63, h64⟩ := zbd h58; clear h58
                          refine zn_cVv (pc := 142) (kc := 0) (ks := 0) (kc' := 0) (ks' := 0) (As := [vI (x1 - 10)]) (st := []) dX9_count_142 cs_X9_350 pc_0 rfl rfl (Nat.le_of_ble_eq_true rfl) ((c_X9_refusalsCounted e63).mono (Nat.le_of_ble_eq_true rfl)) ?_
                          have hz := Option.some.inj h64; clear h64; subst hz
                          exact zn_ireturn (pc := 145) dX9_count_145 rfl hp
