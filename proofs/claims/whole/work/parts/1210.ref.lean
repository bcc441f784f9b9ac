theorem c_X10_owes {G : zG} {i0 : Nat} {x1 : Int32} {S : zH} {out : (Int32 × zH)} (h0 : f_X10_owes i0 x1 S = some out) : zct G M_X10_owes 2 0 0 [vR 40 (some i0), vI x1] S (zpo (some (vI out.1)) out.2) := by
  refine zct_of (by decide) (Nat.le_of_ble_eq_true rfl) ?_
  show zn G M_X10_owes 2 0 0 0 [(0, vR 40 (some i0)), (1, vI x1)] [] S _
  have hp : zpo (some (vI out.1)) out.2 (some (vI out.1)) out.2 := ⟨rfl, rfl⟩
  unfold f_X10_owes at h0
  refine zn_iload_n (pc := 0) 1 dX10_owes_0 rfl rfl ?_
  obtain ⟨o1, e2, h3⟩ := zbd h0; clear h0
  refine zn_cSv (pc := 1) (kc := 0) (ks := 0) (kc' := 0) (ks' := 0) (As := [vI x1]) (st := []) dX10_owes_1 cs_X10_191 rfl rfl (Nat.le_of_ble_eq_true rfl) ((c_X10_isBank e2).mono (Nat.le_of_ble_eq_true rfl)) ?_
  have h5 := h3; clear h3
  refine zn_if_eq (pc := 4) (tgt := 16) dX10_owes_4 (by decide) (fun c4 => ?_) (fun c4 => ?_)
  · replace h5 := zif_t c4 h5
    refine zn_aload_n (pc := 16) 0 dX10_owes_16 rfl rfl ?_
    refine zn_iconst (pc := 17) (x := (-1)) dX10_owes_17 (by decide) ?_
    obtain ⟨o6, e7, h8⟩ := zbd h5; clear h5
    refine zn_cVv (pc := 18) (kc := 0) (ks := 0) (kc' := 0) (ks' := 0) (As := [vI (-1)]) (st := []) dX10_owes_18 cs_X10_163 pc_40 rfl rfl (Nat.le_of_ble_eq_true rfl) ((c_X10_refuse e7).mono (Nat.le_of_ble_eq_true rfl)) ?_
    have hz := Option.some.inj h8; clear h8; subst hz
    exact zn_ireturn (pc := 21) dX10_owes_21 rfl hp
  · replace h5 := zif_f c4 h5
    refine zn_aload_n (pc := 7) 0 dX10_owes_7 rfl rfl ?_
    refine zn_getR (pc := 8) fa_X10_28_40.1 fa_X10_28_40.2 dX10_owes_8 ?_
    refine zn_iload_n (pc := 11) 1 dX10_owes_11 rfl rfl ?_
    obtain ⟨i9, hi10, h11⟩ := zbd h5; clear h5
    rw [hi10]
    obtain ⟨hb12, h13⟩ := zgdd h11; clear h11
    refine zn_iaload (pc := 12) zk_106 dX10_owes_12 (zib_in hb12) ?_
    refine zn_goto (pc := 13) (tgt := 21) dX10_owes_13 (by decide) ?_
    have hz := Option.some.inj h13; clear h13; subst hz
    exact zn_ireturn (pc := 21) dX10_owes_21 rfl hp
theorem b_X10_likeOf_4 {G : zG} {Post : Option zV → zH → Prop} : ∀ (n : Nat) (x0 : Int32) (x1 : Int32) (x2 : Int32) (x3 : Int32) (S : zH) (out : Int32), f_X10_likeOf_4 n x0 x1 x2 x3 S = some out → Post (some (vI out)) S → zn G M_X10_likeOf 0 0 0 4 [(0, vI x0), (1, vI x1), (2, vI x2), (3, vI x3)] [] S Post := by
  intro n
  induction n with
  | zero => intro x0 x1 x2 x3 S out h0 hp; exact (nomatch (show (none : Option _) = some out from h0))
  | succ n ih =>
    intro x0 x1 x2 x3 S out h0 hp
    rw [f_X10_likeOf_4] at h0
    refine zn_iload_n (pc := 4) 3 dX10_likeOf_4 rfl rfl ?_
    refine zn_sipush (pc := 5) (x := 10000) dX10_likeOf_5 (by decide) ?_
    have h2 := h0; clear h0
    refine zn_icmp_ge (pc := 8) (tgt := 42) dX10_likeOf_8 (by decide) (fun c1 => ?_) (fun c1 => ?_)
    · replace h2 := zif_t c1 h2
      refine zn_iload_n (pc := 42) 2 dX10_likeOf_42 rfl rfl ?_
      have h4 := h2; clear h2
      refine zn_if_ne (pc := 43) (tgt := 50) dX10_likeOf_43 (by decide) (fun c3 => ?_) (fun c3 => ?_)
      · replace h4 := zif_f c3 h4
        refine zn_iload_n (pc := 50) 2 dX10_likeOf_50 rfl rfl ?_
        refine zn_iconst (pc := 51) (x := 1) dX10_likeOf_51 (by decide) ?_
        have h6 := h4; clear h4
        refine zn_icmp_ne (pc := 52) (tgt := 59) dX10_likeOf_52 (by decide) (fun c5 => ?_) (fun c5 => ?_)
        · replace h6 := zif_f c5 h6
          refine zn_iconst (pc := 59) (x := 0) dX10_likeOf_59 (by decide) ?_
          have hz := Option.some.inj h6; clear h6; subst hz
          exact zn_ireturn (pc := 60) dX10_likeOf_60 rfl hp
        · replace h6 := zif_t c5 h6
          refine zn_iconst (pc := 55) (x := 1) dX10_likeOf_55 (by decide) ?_
          refine zn_goto (pc := 56) (tgt := 60) dX10_likeOf_56 (by decide) ?_
          have hz := Option.some.inj h6; clear h6; subst hz
          exact zn_ireturn (pc := 60) dX10_likeOf_60 rfl hp
      · replace h4 := zif_t c3 h4
        refine zn_iconst (pc := 46) (x := 2) dX10_likeOf_46 (by decide) ?_
        refine zn_goto (pc := 47) (tgt := 60) dX10_likeOf_47 (by decide) ?_
        have hz := Option.some.inj h4; clear h4; subst hz
        exact zn_ireturn (pc := 60) dX10_likeOf_60 rfl hp
    · replace h2 := zif_f c1 h2
      refine zn_iload_n (pc := 11) 2 dX10_likeOf_11 rfl rfl ?_
      refine zn_iload_n (pc := 12) 0 dX10_likeOf_12 rfl rfl ?_
      refine zn_iload_n (pc := 13) 3 dX10_likeOf_13 rfl rfl ?_
      obtain ⟨hb7, h8⟩ := zgdd h2; clear h2
      refine zn_idiv (pc := 14) dX10_likeOf_14 (zne_of hb7) ?_
      refine zn_bipush (pc := 15) (x := 10) dX10_likeOf_15 (by decide) ?_
      refine zn_irem (pc := 17) dX10_likeOf_17 (by decide) ?_
      refine zn_iload_n (pc := 18) 1 dX10_likeOf_18 rfl rfl ?_
      refine zn_iload_n (pc := 19) 3 dX10_likeOf_19 rfl rfl ?_
      obtain ⟨hb9, h10⟩ := zgdd h8; clear h8
      refine zn_idiv (pc := 20) dX10_likeOf_20 (zne_of hb9) ?_
      refine zn_bipush (pc := 21) (x := 10) dX10_likeOf_21 (by decide) ?_
      refine zn_irem (pc := 23) dX10_likeOf_23 (by decide) ?_
      have h12 := h10; clear h10
      refine zn_icmp_ne (pc := 24) (tgt := 31) dX10_likeOf_24 (by decide) (fun c11 => ?_) (fun c11 => ?_)
      · replace h12 := zif_f c11 h12
        refine zn_iconst (pc := 31) (x := 1) dX10_likeOf_31 (by decide) ?_
        refine zn_iadd (pc := 32) dX10_likeOf_32 ?_
        refine zn_istore_n (pc := 33) (ls' := [(2, vI (x2 + 1)), (0, vI x0), (1, vI x1), (3, vI x3)]) dX10_likeOf_33 rfl (Nat.le_of_ble_eq_true rfl) rfl ?_
        refine zn_iload_n (pc := 34) 3 dX10_likeOf_34 rfl rfl ?_
        refine zn_bipush (pc := 35) (x := 10) dX10_likeOf_35 (by decide) ?_
        refine zn_imul (pc := 37) dX10_likeOf_37 ?_
        refine zn_istore_n (pc := 38) (ls' := [(3, vI (x3 * 10)), (2, vI (x2 + 1)), (0, vI x0), (1, vI x1)]) dX10_likeOf_38 rfl (Nat.le_of_ble_eq_true rfl) rfl ?_
        refine zn_goto (pc := 39) (tgt := 4) dX10_likeOf_39 (by decide) ?_
        refine zn_pick [2, 3, 1, 0] rfl ?_
        exact ih _ _ _ _ _ _ h12 hp
      · replace h12 := zif_t c11 h12
        refine zn_iconst (pc := 27) (x := 0) dX10_likeOf_27 (by decide) ?_
        refine zn_goto (pc := 28) (tgt := 32) dX10_likeOf_28 (by decide) ?_
        refine zn_iadd (pc := 32) dX10_likeOf_32 ?_
        refine zn_istore_n (pc := 33) (ls' := [(2, vI (x2 + 0)), (0, vI x0), (1, vI x1), (3, vI x3)]) dX10_likeOf_33 rfl (Nat.le_of_ble_eq_true rfl) rfl ?_
        refine zn_iload_n (pc := 34) 3 dX10_likeOf_34 rfl rfl ?_
        refine zn_bipush (pc := 35) (x := 10) dX10_likeOf_35 (by decide) ?_
        refine zn_imul (pc := 37) dX10_likeOf_37 ?_
        refine zn_istore_n (pc := 38) (ls' := [(3, vI (x3 * 10)), (2, vI (x2 + 0)), (0, vI x0), (1, vI x1)]) dX10_likeOf_38 rfl (Nat.le_of_ble_eq_true rfl) rfl ?_
        refine zn_goto (pc := 39) (tgt := 4) dX10_likeOf_39 (by decide) ?_
        refine zn_pick [2, 3, 1, 0] rfl ?_
        exact ih _ _ _ _ _ _ h12 hp
theorem c_X10_likeOf {G : zG} {x0 : Int32} {x1 : Int32} {S : zH} {out : Int32} (h0 : f_X10_likeOf x0 x1 S = some out) : zct G M_X10_likeOf 0 0 0 [vI x0, vI x1] S (zpo (some (vI out)) S) := by
  refine zct_of (by decide) (Nat.le_of_ble_eq_true rfl) ?_
  show zn G M_X10_likeOf 0 0 0 0 [(0, vI x0), (1, vI x1)] [] S _
  have hp : zpo (some (vI out)) S (some (vI out)) S := ⟨rfl, rfl⟩
  unfold f_X10_likeOf at h0
  refine zn_iconst (pc := 0) (x := 0) dX10_likeOf_0 (by decide) ?_
  refine zn_istore_n (pc := 1) (ls' := [(2, vI 0), (0, vI x0), (1, vI x1)]) dX10_likeOf_1 rfl (Nat.le_of_ble_eq_true rfl) rfl ?_
  refine zn_iconst (pc := 2) (x := 1) dX10_likeOf_2 (by decide) ?_
  refine zn_istore_n (pc := 3) (ls' := [(3, vI 1), (2, vI 0), (0, vI x0), (1, vI x1)]) dX10_likeOf_3 rfl (Nat.le_of_ble_eq_true rfl) rfl ?_
  refine zn_pick [2, 3, 1, 0] rfl ?_
  exact b_X10_likeOf_4  fu _ _ _ _ _ _ h0 hp
theorem b_X10_likes_34 {G : zG} {Post : Option zV → zH → Prop} {x3 : Int32} {xs0 : Int32} {S : zH} {out : Int32} (h0 : f_X10_likes_34 x3 xs0 S = some out) (hp : Post (some (vI out)) S) : zn G M_X10_likes 1 0 0 34 [(3, vI x3)] [vI xs0] S Post := by
  unfold f_X10_likes_34 at h0
  refine zn_istore (pc := 34) (ls' := [(4, vI xs0), (3, vI x3)]) dX10_likes_34 (Nat.le_of_ble_eq_true rfl) rfl ?_
  refine zn_iload_n (pc := 36) 1 dX10_likes_36 rfl rfl ?_
  refine zn_iload (pc := 37) 0 dX10_likes_37 rfl ?_
  have h2 := h0; clear h0
  refine zn_icmp_le (pc := 39) (tgt := 46) dX10_likes_39 (by decide) (fun c1 => ?_) (fun c1 => ?_)
  · replace h2 := zif_t c1 h2
    refine zn_iload (pc := 46) 0 dX10_likes_46 rfl ?_
    have hz := Option.some.inj h2; clear h2; subst hz
    exact zn_ireturn (pc := 48) dX10_likes_48 rfl hp
  · replace h2 := zif_f c1 h2
    refine zn_iload_n (pc := 42) 1 dX10_likes_42 rfl rfl ?_
    refine zn_goto (pc := 43) (tgt := 48) dX10_likes_43 (by decide) ?_
    have hz := Option.some.inj h2; clear h2; subst hz
    exact zn_ireturn (pc := 48) dX10_likes_48 rfl hp
theorem c_X10_likes {G : zG} {i0 : Nat} {x1 : Int32} {x2 : Int32} {S : zH} {out : Int32} (h0 : f_X10_likes i0 x1 x2 S = some out) : zct G M_X10_likes 1 0 0 [vR 40 (some i0), vI x1, vI x2] S (zpo (some (vI out)) S) := by
  refine zct_of (by decide) (Nat.le_of_ble_eq_true rfl) ?_
  show zn G M_X10_likes 1 0 0 0 [(0, vR 40 (some i0)), (1, vI x1), (2, vI x2)] [] S _
  have hp : zpo (some (vI out)) S (some (vI out)) S := ⟨rfl, rfl⟩
  unfold f_X10_likes at h0
  refine zn_aload_n (pc := 0) 0 dX10_likes_0 rfl rfl ?_
  refine zn_getR (pc := 1) fa_X10_44_40.1 fa_X10_44_40.2 dX10_likes_1 ?_
  refine zn_iload_n (pc := 4) 1 dX10_likes_4 rfl rfl ?_
  obtain ⟨i3, hi4, h5⟩ := zbd h0; clear h0
  rw [hi4]
  obtain ⟨hb6, h7⟩ := zgdd h5; clear h5
  refine zn_iaload (pc := 5) zk_111 dX10_likes_5 (zib_in hb6) ?_
  refine zn_iload_n (pc := 6) 2 dX10_likes_6 rfl rfl ?_
  obtain ⟨o8, e9, h10⟩ := zbd h7; clear h7
  refine zn_cSv (pc := 7) (kc := 0) (ks := 0) (kc' := 0) (ks' := 0) (As := [vI (zI S 111 i3 (Int32.toNatClampNeg x1)), vI x2]) (st := []) dX10_likes_7 cs_X10_317 rfl rfl (Nat.le_of_ble_eq_true rfl) ((c_X10_likeOf e9).mono (Nat.le_of_ble_eq_true rfl)) ?_
  refine zn_istore_n (pc := 10) (ls' := [(3, vI o8), (0, vR 40 (some i0)), (1, vI x1), (2, vI x2)]) dX10_likes_10 rfl (Nat.le_of_ble_eq_true rfl) rfl ?_
  refine zn_aload_n (pc := 11) 1 dX10_likes_11 rfl rfl ?_
  refine zn_getR (pc := 12) fa_X10_47_40.1 fa_X10_47_40.2 dX10_likes_12 ?_
  refine zn_iload_n (pc := 15) 2 dX10_likes_15 rfl rfl ?_
  obtain ⟨i11, hi12, h13⟩ := zbd h10; clear h10
  rw [hi12]
  obtain ⟨hb14, h15⟩ := zgdd h13; clear h13
  refine zn_iaload (pc := 16) zk_112 dX10_likes_16 (zib_in hb14) ?_
  have h17 := h15; clear h15
  refine zn_if_ge (pc := 17) (tgt := 24) dX10_likes_17 (by decide) (fun c16 => ?_) (fun c16 => ?_)
  · replace h17 := zif_t c16 h17
    refine zn_aload_n (pc := 24) 1 dX10_likes_24 rfl rfl ?_
    refine zn_getR (pc := 25) fa_X10_47_40.1 fa_X10_47_40.2 dX10_likes_25 ?_
    refine zn_iload_n (pc := 28) 2 dX10_likes_28 rfl rfl ?_
    obtain ⟨i18, hi19, h20⟩ := zbd h17; clear h17
    rw [hi19]
    obtain ⟨hb21, h22⟩ := zgdd h20; clear h20
    refine zn_iaload (pc := 29) zk_112 dX10_likes_29 (zib_in hb21) ?_
    refine zn_iload_n (pc := 30) 3 dX10_likes_30 rfl rfl ?_
    obtain ⟨o23, e24, h25⟩ := zbd h22; clear h22
    refine zn_cSv (pc := 31) (kc := 0) (ks := 0) (kc' := 0) (ks' := 0) (As := [vI (zI S 112 i18 (Int32.toNatClampNeg x1)), vI x2]) (st := []) dX10_likes_31 cs_X10_317 rfl rfl (Nat.le_of_ble_eq_true rfl) ((c_X10_likeOf e24).mono (Nat.le_of_ble_eq_true rfl)) ?_
    refine zn_pick [0] rfl ?_
    exact b_X10_likes_34  h25 hp
  · replace h17 := zif_f c16 h17
    refine zn_iconst (pc := 20) (x := 0) dX10_likes_20 (by decide) ?_
    refine zn_goto (pc := 21) (tgt := 34) dX10_likes_21 (by decide) ?_
    refine zn_pick [0] rfl ?_
    exact b_X10_likes_34  h17 hp
theorem b_X10_like_20 {G : zG} {Post : Option zV → zH → Prop} {i0 : Nat} {x1 : Int32} {x2 : Int32} {xs0 : Int32} {S : zH} {out : (Int32 × zH)} (h0 : f_X10_like_20 i0 x1 x2 xs0 S = some out) (hp : Post (some (vI out.1)) out.2) : zn G M_X10_like 2 0 0 20 [(0, vR 40 (some i0)), (1, vI x1), (2, vI x2)] [vI xs0] S Post := by
  unfold f_X10_like_20 at h0
  refine zn_istore_n (pc := 20) (ls' := [(3, vI xs0), (0, vR 40 (some i0)), (1, vI x1), (2, vI x2)]) dX10_like_20 rfl (Nat.le_of_ble_eq_true rfl) rfl ?_
  refine zn_iload_n (pc := 21) 0 dX10_like_21 rfl rfl ?_
  have h2 := h0; clear h0
  refine zn_if_eq (pc := 22) (tgt := 33) dX10_like_22 (by decide) (fun c1 => ?_) (fun c1 => ?_)
  · replace h2 := zif_t c1 h2
    refine zn_aload_n (pc := 33) 1 dX10_like_33 rfl rfl ?_
    refine zn_iload_n (pc := 34) 2 dX10_like_34 rfl rfl ?_
    refine zn_iload_n (pc := 35) 3 dX10_like_35 rfl rfl ?_
    obtain ⟨o3, e4, h5⟩ := zbd h2; clear h2
    refine zn_cVv (pc := 36) (kc := 0) (ks := 0) (kc' := 0) (ks' := 0) (As := [vI x1, vI x2]) (st := []) dX10_like_36 cs_X10_320 pc_40 rfl rfl (Nat.le_of_ble_eq_true rfl) ((c_X10_likes e4).mono (Nat.le_of_ble_eq_true rfl)) ?_
    have hz := Option.some.inj h5; clear h5; subst hz
    exact zn_ireturn (pc := 39) dX10_like_39 rfl hp
  · replace h2 := zif_f c1 h2
    refine zn_aload_n (pc := 25) 1 dX10_like_25 rfl rfl ?_
    refine zn_iload_n (pc := 26) 0 dX10_like_26 rfl rfl ?_
    obtain ⟨o6, e7, h8⟩ := zbd h2; clear h2
    refine zn_cVv (pc := 27) (kc := 0) (ks := 0) (kc' := 0) (ks' := 0) (As := [vI xs0]) (st := []) dX10_like_27 cs_X10_163 pc_40 rfl rfl (Nat.le_of_ble_eq_true rfl) ((c_X10_refuse e7).mono (Nat.le_of_ble_eq_true rfl)) ?_
    refine zn_goto (pc := 30) (tgt := 39) dX10_like_30 (by decide) ?_
    have hz := Option.some.inj h8; clear h8; subst hz
    exact zn_ireturn (pc := 39) dX10_like_39 rfl hp
theorem c_X10_like {G : zG} {i0 : Nat} {x1 : Int32} {x2 : Int32} {S : zH} {out : (Int32 × zH)} (h0 : f_X10_like i0 x1 x2 S = some out) : zct G M_X10_like 2 0 0 [vR 40 (some i0), vI x1, vI x2] S (zpo (some (vI out.1)) out.2) := by
  refine zct_of (by decide) (Nat.le_of_ble_eq_true rfl) ?_
  show zn G M_X10_like 2 0 0 0 [(0, vR 40 (some i0)), (1, vI x1), (2, vI x2)] [] S _
  have hp : zpo (some (vI out.1)) out.2 (some (vI out.1)) out.2 := ⟨rfl, rfl⟩
  unfold f_X10_like at h0
  refine zn_aload_n (pc := 0) 0 dX10_like_0 rfl rfl ?_
  refine zn_iload_n (pc := 1) 1 dX10_like_1 rfl rfl ?_
  obtain ⟨o9, e10, h11⟩ := zbd h0; clear h0
  refine zn_cVv (pc := 2) (kc := 0) (ks := 0) (kc' := 0) (ks' := 0) (As := [vI x1]) (st := []) dX10_like_2 cs_X10_203 pc_40 rfl rfl (Nat.le_of_ble_eq_true rfl) ((c_X10_isAccount e10).mono (Nat.le_of_ble_eq_true rfl)) ?_
  have h13 := h11; clear h11
  refine zn_if_eq (pc := 5) (tgt := 19) dX10_like_5 (by decide) (fun c12 => ?_) (fun c12 => ?_)
  · replace h13 := zif_t c12 h13
    refine zn_iconst (pc := 19) (x := (-1)) dX10_like_19 (by decide) ?_
    exact b_X10_like_20  h13 hp
  · replace h13 := zif_f c12 h13
    refine zn_iload_n (pc := 8) 2 dX10_like_8 rfl rfl ?_
    refine zn_iconst (pc := 9) (x := 0) dX10_like_9 (by decide) ?_
    refine zn_sipush (pc := 10) (x := 9999) dX10_like_10 (by decide) ?_
    obtain ⟨o14, e15, h16⟩ := zbd h13; clear h13
    refine zn_cSv (pc := 13) (kc := 0) (ks := 0) (kc' := 0) (ks' := 0) (As := [vI x2, vI 0, vI 9999]) (st := []) dX10_like_13 cs_X10_187 rfl rfl (Nat.le_of_ble_eq_true rfl) ((c_X10_within e15).mono (Nat.le_of_ble_eq_true rfl)) ?_
    refine zn_goto (pc := 16) (tgt := 20) dX10_like_16 (by decide) ?_
    exact b_X10_like_20  h16 hp
theorem b_X10_rivalOf_62 {G : zG} {Post : Option zV → zH → Prop} : ∀ (n : Nat) (i0 : Nat) (x1 : Int32) (x2 : Int32) (x3 : Int32) (x4 : Int32) (x5 : Int32) (x6 : Int32) (S : zH) (out : Int32), f_X10_rivalOf_62 n i0 x1 x2 x3 x4 x5 x6 S = some out → Post (some (vI out)) S → zn G M_X10_rivalOf 2 0 0 62 [(0, vR 40 (some i0)), (1, vI x1), (2, vI x2), (3, vI x3), (4, vI x4), (5, vI x5), (6, vI x6)] [] S Post := by
  intro n
  induction n with
  | zero => intro i0 x1 x2 x3 x4 x5 x6 S out h0 hp; exact (nomatch (show (none : Option _) = some out from h0))
  | succ n ih =>
    intro i0 x1 x2 x3 x4 x5 x6 S out h0 hp
    rw [f_X10_rivalOf_62] at h0
    refine zn_iload (pc := 62) 6 dX10_rivalOf_62 rfl ?_
    refine zn_aload_n (pc := 64) 0 dX10_rivalOf_64 rfl rfl ?_
    refine zn_getI (pc := 65) fa_X10_171_40.1 fa_X10_171_40.2 dX10_rivalOf_65 ?_
    have h2 := h0; clear h0
    refine zn_icmp_ge (pc := 68) (tgt := 125) dX10_rivalOf_68 (by decide) (fun c1 => ?_) (fun c1 => ?_)
    · replace h2 := zif_t c1 h2
      refine zn_iload_n (pc := 125) 3 dX10_rivalOf_125 rfl rfl ?_
      have h4 := h2; clear h2
      refine zn_if_ge (pc := 126) (tgt := 134) dX10_rivalOf_126 (by decide) (fun c3 => ?_) (fun c3 => ?_)
      · replace h4 := zif_t c3 h4
        refine zn_bipush (pc := 134) (x := (-9)) dX10_rivalOf_134 (by decide) ?_
        have hz := Option.some.inj h4; clear h4; subst hz
        exact zn_ireturn (pc := 136) dX10_rivalOf_136 rfl hp
      · replace h4 := zif_f c3 h4
        refine zn_iload (pc := 129) 5 dX10_rivalOf_129 rfl ?_
        refine zn_goto (pc := 131) (tgt := 136) dX10_rivalOf_131 (by decide) ?_
        have hz := Option.some.inj h4; clear h4; subst hz
        exact zn_ireturn (pc := 136) dX10_rivalOf_136 rfl hp
    · replace h2 := zif_f c1 h2
      refine zn_aload_n (pc := 71) 0 dX10_rivalOf_71 rfl rfl ?_
      refine zn_getR (pc := 72) fa_X10_41_40.1 fa_X10_41_40.2 dX10_rivalOf_72 ?_
      refine zn_iload (pc := 75) 6 dX10_rivalOf_75 rfl ?_
      obtain ⟨i5, hi6, h7⟩ := zbd h2; clear h2
      rw [hi6]
      obtain ⟨hb8, h9⟩ := zgdd h7; clear h7
      refine zn_iaload (pc := 77) zk_110 dX10_rivalOf_77 (zib_in hb8) ?_
      refine zn_iload_n (pc := 78) 1 dX10_rivalOf_78 rfl rfl ?_
      have h11 := h9; clear h9
      refine zn_icmp_ne (pc := 79) (tgt := 119) dX10_rivalOf_79 (by decide) (fun c10 => ?_) (fun c10 => ?_)
      · replace h11 := zif_f c10 h11
        refine zn_iinc (pc := 119) 6 (y := x6 + 1) (ls' := [(6, vI (x6 + 1)), (0, vR 40 (some i0)), (1, vI x1), (2, vI x2), (3, vI x3), (4, vI x4), (5, vI x5)]) dX10_rivalOf_119 rfl rfl (Nat.le_of_ble_eq_true rfl) rfl ?_
        refine zn_goto (pc := 122) (tgt := 62) dX10_rivalOf_122 (by decide) ?_
        refine zn_pick [1, 2, 3, 4, 5, 6, 0] rfl ?_
        exact ih _ _ _ _ _ _ _ _ _ h11 hp
      · replace h11 := zif_t c10 h11
        refine zn_aload_n (pc := 82) 0 dX10_rivalOf_82 rfl rfl ?_
        refine zn_getR (pc := 83) fa_X10_53_40.1 fa_X10_53_40.2 dX10_rivalOf_83 ?_
        refine zn_iload (pc := 86) 6 dX10_rivalOf_86 rfl ?_
        obtain ⟨i12, hi13, h14⟩ := zbd h11; clear h11
        rw [hi13]
        obtain ⟨hb15, h16⟩ := zgdd h14; clear h14
        refine zn_iaload (pc := 88) zk_114 dX10_rivalOf_88 (zib_in hb15) ?_
        have h18 := h16; clear h16
        refine zn_if_ne (pc := 89) (tgt := 119) dX10_rivalOf_89 (by decide) (fun c17 => ?_) (fun c17 => ?_)
        · replace h18 := zif_f c17 h18
          refine zn_iinc (pc := 119) 6 (y := x6 + 1) (ls' := [(6, vI (x6 + 1)), (0, vR 40 (some i0)), (1, vI x1), (2, vI x2), (3, vI x3), (4, vI x4), (5, vI x5)]) dX10_rivalOf_119 rfl rfl (Nat.le_of_ble_eq_true rfl) rfl ?_
          refine zn_goto (pc := 122) (tgt := 62) dX10_rivalOf_122 (by decide) ?_
          refine zn_pick [1, 2, 3, 4, 5, 6, 0] rfl ?_
          exact ih _ _ _ _ _ _ _ _ _ h18 hp
        · replace h18 := zif_t c17 h18
          refine zn_aload_n (pc := 92) 0 dX10_rivalOf_92 rfl rfl ?_
          refine zn_iload (pc := 93) 6 dX10_rivalOf_93 rfl ?_
          refine zn_iload_n (pc := 95) 2 dX10_rivalOf_95 rfl rfl ?_
          obtain ⟨o19, e20, h21⟩ := zbd h18; clear h18
          refine zn_cVv (pc := 96) (kc := 0) (ks := 0) (kc' := 0) (ks' := 0) (As := [vI x6, vI x2]) (st := []) dX10_rivalOf_96 cs_X10_320 pc_40 rfl rfl (Nat.le_of_ble_eq_true rfl) ((c_X10_likes e20).mono (Nat.le_of_ble_eq_true rfl)) ?_
          refine zn_iload (pc := 99) 4 dX10_rivalOf_99 rfl ?_
          have h23 := h21; clear h21
          refine zn_icmp_eq (pc := 101) (tgt := 107) dX10_rivalOf_101 (by decide) (fun c22 => ?_) (fun c22 => ?_)
          · replace h23 := zif_t c22 h23
            refine zn_iload (pc := 107) 5 dX10_rivalOf_107 rfl ?_
            refine zn_iload_n (pc := 109) 3 dX10_rivalOf_109 rfl rfl ?_
            have h25 := h23; clear h23
            refine zn_icmp_ne (pc := 110) (tgt := 116) dX10_rivalOf_110 (by decide) (fun c24 => ?_) (fun c24 => ?_)
            · replace h25 := zif_f c24 h25
              refine zn_iinc (pc := 116) 5 (y := x5 + 1) (ls' := [(5, vI (x5 + 1)), (0, vR 40 (some i0)), (1, vI x1), (2, vI x2), (3, vI x3), (4, vI x4), (6, vI x6)]) dX10_rivalOf_116 rfl rfl (Nat.le_of_ble_eq_true rfl) rfl ?_
              refine zn_iinc (pc := 119) 6 (y := x6 + 1) (ls' := [(6, vI (x6 + 1)), (5, vI (x5 + 1)), (0, vR 40 (some i0)), (1, vI x1), (2, vI x2), (3, vI x3), (4, vI x4)]) dX10_rivalOf_119 rfl rfl (Nat.le_of_ble_eq_true rfl) rfl ?_
              refine zn_goto (pc := 122) (tgt := 62) dX10_rivalOf_122 (by decide) ?_
              refine zn_pick [2, 3, 4, 5, 6, 1, 0] rfl ?_
              exact ih _ _ _ _ _ _ _ _ _ h25 hp
            · replace h25 := zif_t c24 h25
              refine zn_iload (pc := 113) 6 dX10_rivalOf_113 rfl ?_
              have hz := Option.some.inj h25; clear h25; subst hz
              exact zn_ireturn (pc := 115) dX10_rivalOf_115 rfl hp
          · replace h23 := zif_f c22 h23
            refine zn_goto (pc := 104) (tgt := 119) dX10_rivalOf_104 (by decide) ?_
            refine zn_iinc (pc := 119) 6 (y := x6 + 1) (ls' := [(6, vI (x6 + 1)), (0, vR 40 (some i0)), (1, vI x1), (2, vI x2), (3, vI x3), (4, vI x4), (5, vI x5)]) dX10_rivalOf_119 rfl rfl (Nat.le_of_ble_eq_true rfl) rfl ?_
            refine zn_goto (pc := 122) (tgt := 62) dX10_rivalOf_122 (by decide) ?_
            refine zn_pick [1, 2, 3, 4, 5, 6, 0] rfl ?_
            exact ih _ _ _ _ _ _ _ _ _ h23 hp
theorem b_X10_rivalOf_6 {G : zG} {Post : Option zV → zH → Prop} : ∀ (n : Nat) (i0 : Nat) (x1 : Int32) (x2 : Int32) (x3 : Int32) (x4 : Int32) (x5 : Int32) (S : zH) (out : Int32), f_X10_rivalOf_6 n i0 x1 x2 x3 x4 x5 S = some out → Post (some (vI out)) S → zn G M_X10_rivalOf 2 0 0 6 [(0, vR 40 (some i0)), (1, vI x1), (2, vI x2), (3, vI x3), (4, vI x4), (5, vI x5)] [] S Post := by
  intro n
  induction n with
  | zero => intro i0 x1 x2 x3 x4 x5 S out h0 hp; exact (nomatch (show (none : Option _) = some out from h0))
  | succ n ih =>
    intro i0 x1 x2 x3 x4 x5 S out h0 hp
    rw [f_X10_rivalOf_6] at h0
    refine zn_iload (pc := 6) 5 dX10_rivalOf_6 rfl ?_
    refine zn_aload_n (pc := 8) 0 dX10_rivalOf_8 rfl rfl ?_
    refine zn_getI (pc := 9) fa_X10_171_40.1 fa_X10_171_40.2 dX10_rivalOf_9 ?_
    have h2 := h0; clear h0
    refine zn_icmp_ge (pc := 12) (tgt := 56) dX10_rivalOf_12 (by decide) (fun c1 => ?_) (fun c1 => ?_)
    · replace h2 := zif_t c1 h2
      refine zn_iconst (pc := 56) (x := 0) dX10_rivalOf_56 (by decide) ?_
      refine zn_istore (pc := 57) (ls' := [(5, vI 0), (0, vR 40 (some i0)), (1, vI x1), (2, vI x2), (3, vI x3), (4, vI x4)]) dX10_rivalOf_57 (Nat.le_of_ble_eq_true rfl) rfl ?_
      refine zn_iconst (pc := 59) (x := 0) dX10_rivalOf_59 (by decide) ?_
      refine zn_istore (pc := 60) (ls' := [(6, vI 0), (5, vI 0), (0, vR 40 (some i0)), (1, vI x1), (2, vI x2), (3, vI x3), (4, vI x4)]) dX10_rivalOf_60 (Nat.le_of_ble_eq_true rfl) rfl ?_
      refine zn_pick [2, 3, 4, 5, 6, 1, 0] rfl ?_
      exact b_X10_rivalOf_62  fu _ _ _ _ _ _ _ _ _ h2 hp
    · replace h2 := zif_f c1 h2
      refine zn_aload_n (pc := 15) 0 dX10_rivalOf_15 rfl rfl ?_
      refine zn_getR (pc := 16) fa_X10_41_40.1 fa_X10_41_40.2 dX10_rivalOf_16 ?_
      refine zn_iload (pc := 19) 5 dX10_rivalOf_19 rfl ?_
      obtain ⟨i3, hi4, h5⟩ := zbd h2; clear h2
      rw [hi4]
      obtain ⟨hb6, h7⟩ := zgdd h5; clear h5
      refine zn_iaload (pc := 21) zk_110 dX10_rivalOf_21 (zib_in hb6) ?_
      refine zn_iload_n (pc := 22) 1 dX10_rivalOf_22 rfl rfl ?_
      have h9 := h7; clear h7
      refine zn_icmp_ne (pc := 23) (tgt := 50) dX10_rivalOf_23 (by decide) (fun c8 => ?_) (fun c8 => ?_)
      · replace h9 := zif_f c8 h9
        refine zn_iinc (pc := 50) 5 (y := x5 + 1) (ls' := [(5, vI (x5 + 1)), (0, vR 40 (some i0)), (1, vI x1), (2, vI x2), (3, vI x3), (4, vI x4)]) dX10_rivalOf_50 rfl rfl (Nat.le_of_ble_eq_true rfl) rfl ?_
        refine zn_goto (pc := 53) (tgt := 6) dX10_rivalOf_53 (by decide) ?_
        refine zn_pick [1, 2, 3, 4, 5, 0] rfl ?_
        exact ih _ _ _ _ _ _ _ _ h9 hp
      · replace h9 := zif_t c8 h9
        refine zn_aload_n (pc := 26) 0 dX10_rivalOf_26 rfl rfl ?_
        refine zn_getR (pc := 27) fa_X10_53_40.1 fa_X10_53_40.2 dX10_rivalOf_27 ?_
        refine zn_iload (pc := 30) 5 dX10_rivalOf_30 rfl ?_
        obtain ⟨i10, hi11, h12⟩ := zbd h9; clear h9
        rw [hi11]
        obtain ⟨hb13, h14⟩ := zgdd h12; clear h12
        refine zn_iaload (pc := 32) zk_114 dX10_rivalOf_32 (zib_in hb13) ?_
        have h16 := h14; clear h14
        refine zn_if_ne (pc := 33) (tgt := 50) dX10_rivalOf_33 (by decide) (fun c15 => ?_) (fun c15 => ?_)
        · replace h16 := zif_f c15 h16
          refine zn_iinc (pc := 50) 5 (y := x5 + 1) (ls' := [(5, vI (x5 + 1)), (0, vR 40 (some i0)), (1, vI x1), (2, vI x2), (3, vI x3), (4, vI x4)]) dX10_rivalOf_50 rfl rfl (Nat.le_of_ble_eq_true rfl) rfl ?_
          refine zn_goto (pc := 53) (tgt := 6) dX10_rivalOf_53 (by decide) ?_
          refine zn_pick [1, 2, 3, 4, 5, 0] rfl ?_
          exact ih _ _ _ _ _ _ _ _ h16 hp
        · replace h16 := zif_t c15 h16
          refine zn_aload_n (pc := 36) 0 dX10_rivalOf_36 rfl rfl ?_
          refine zn_iload (pc := 37) 5 dX10_rivalOf_37 rfl ?_
          refine zn_iload_n (pc := 39) 2 dX10_rivalOf_39 rfl rfl ?_
          obtain ⟨o17, e18, h19⟩ := zbd h16; clear h16
          refine zn_cVv (pc := 40) (kc := 0) (ks := 0) (kc' := 0) (ks' := 0) (As := [vI x5, vI x2]) (st := []) dX10_rivalOf_40 cs_X10_320 pc_40 rfl rfl (Nat.le_of_ble_eq_true rfl) ((c_X10_likes e18).mono (Nat.le_of_ble_eq_true rfl)) ?_
          refine zn_iconst (pc := 43) (x := 2) dX10_rivalOf_43 (by decide) ?_
          have h21 := h19; clear h19
          refine zn_icmp_ne (pc := 44) (tgt := 50) dX10_rivalOf_44 (by decide) (fun c20 => ?_) (fun c20 => ?_)
          · replace h21 := zif_f c20 h21
            refine zn_iinc (pc := 50) 5 (y := x5 + 1) (ls' := [(5, vI (x5 + 1)), (0, vR 40 (some i0)), (1, vI x1), (2, vI x2), (3, vI x3), (4, vI x4)]) dX10_rivalOf_50 rfl rfl (Nat.le_of_ble_eq_true rfl) rfl ?_
            refine zn_goto (pc := 53) (tgt := 6) dX10_rivalOf_53 (by decide) ?_
            refine zn_pick [1, 2, 3, 4, 5, 0] rfl ?_
            exact ih _ _ _ _ _ _ _ _ h21 hp
          · replace h21 := zif_t c20 h21
            refine zn_iconst (pc := 47) (x := 2) dX10_rivalOf_47 (by decide) ?_
            refine zn_istore (pc := 48) (ls' := [(4, vI 2), (0, vR 40 (some i0)), (1, vI x1), (2, vI x2), (3, vI x3), (5, vI x5)]) dX10_rivalOf_48 (Nat.le_of_ble_eq_true rfl) rfl ?_
            refine zn_iinc (pc := 50) 5 (y := x5 + 1) (ls' := [(5, vI (x5 + 1)), (4, vI 2), (0, vR 40 (some i0)), (1, vI x1), (2, vI x2), (3, vI x3)]) dX10_rivalOf_50 rfl rfl (Nat.le_of_ble_eq_true rfl) rfl ?_
            refine zn_goto (pc := 53) (tgt := 6) dX10_rivalOf_53 (by decide) ?_
            refine zn_pick [2, 3, 4, 5, 1, 0] rfl ?_
            exact ih _ _ _ _ _ _ _ _ h21 hp
theorem c_X10_rivalOf {G : zG} {i0 : Nat} {x1 : Int32} {x2 : Int32} {x3 : Int32} {S : zH} {out : Int32} (h0 : f_X10_rivalOf i0 x1 x2 x3 S = some out) : zct G M_X10_rivalOf 2 0 0 [vR 40 (some i0), vI x1, vI x2, vI x3] S (zpo (some (vI out)) S) := by
  refine zct_of (by decide) (Nat.le_of_ble_eq_true rfl) ?_
  show zn G M_X10_rivalOf 2 0 0 0 [(0, vR 40 (some i0)), (1, vI x1), (2, vI x2), (3, vI x3)] [] S _
  have hp : zpo (some (vI out)) S (some (vI out)) S := ⟨rfl, rfl⟩
  unfold f_X10_rivalOf at h0
  refine zn_iconst (pc := 0) (x := 1) dX10_rivalOf_0 (by decide) ?_
  refine zn_istore (pc := 1) (ls' := [(4, vI 1), (0, vR 40 (some i0)), (1, vI x1), (2, vI x2), (3, vI x3)]) dX10_rivalOf_1 (Nat.le_of_ble_eq_true rfl) rfl ?_
  refine zn_iconst (pc := 3) (x := 0) dX10_rivalOf_3 (by decide) ?_
  refine zn_istore (pc := 4) (ls' := [(5, vI 0), (4, vI 1), (0, vR 40 (some i0)), (1, vI x1), (2, vI x2), (3, vI x3)]) dX10_rivalOf_4 (Nat.le_of_ble_eq_true rfl) rfl ?_
  refine zn_pick [2, 3, 4, 5, 1, 0] rfl ?_
  exact b_X10_rivalOf_6  fu _ _ _ _ _ _ _ _ h0 hp
theorem b_X10_rivals_19 {G : zG} {Post : Option zV → zH → Prop} {i0 : Nat} {x1 : Int32} {x2 : Int32} {xs0 : Int32} {S : zH} {out : (Int32 × zH)} (h0 : f_X10_rivals_19 i0 x1 x2 xs0 S = some out) (hp : Post (some (vI out.1)) out.2) : zn G M_X10_rivals 3 0 0 19 [(0, vR 40 (some i0)), (1, vI x1), (2, vI x2)] [vI xs0] S Post := by
  unfold f_X10_rivals_19 at h0
  refine zn_istore_n (pc := 19) (ls' := [(3, vI xs0), (0, vR 40 (some i0)), (1, vI x1), (2, vI x2)]) dX10_rivals_19 rfl (Nat.le_of_ble_eq_true rfl) rfl ?_
  refine zn_iload_n (pc := 20) 0 dX10_rivals_20 rfl rfl ?_
  have h2 := h0; clear h0
  refine zn_if_eq (pc := 21) (tgt := 32) dX10_rivals_21 (by decide) (fun c1 => ?_) (fun c1 => ?_)
  · replace h2 := zif_t c1 h2
    refine zn_aload_n (pc := 32) 1 dX10_rivals_32 rfl rfl ?_
    refine zn_iload_n (pc := 33) 2 dX10_rivals_33 rfl rfl ?_
    refine zn_iload_n (pc := 34) 3 dX10_rivals_34 rfl rfl ?_
    refine zn_iconst (pc := 35) (x := (-1)) dX10_rivals_35 (by decide) ?_
    obtain ⟨o3, e4, h5⟩ := zbd h2; clear h2
    refine zn_cVv (pc := 36) (kc := 0) (ks := 0) (kc' := 0) (ks' := 0) (As := [vI x1, vI x2, vI (-1)]) (st := []) dX10_rivals_36 cs_X10_323 pc_40 rfl rfl (Nat.le_of_ble_eq_true rfl) ((c_X10_rivalOf e4).mono (Nat.le_of_ble_eq_true rfl)) ?_
    have hz := Option.some.inj h5; clear h5; subst hz
    exact zn_ireturn (pc := 39) dX10_rivals_39 rfl hp
  · replace h2 := zif_f c1 h2
    refine zn_aload_n (pc := 24) 1 dX10_rivals_24 rfl rfl ?_
    refine zn_iload_n (pc := 25) 0 dX10_rivals_25 rfl rfl ?_
    obtain ⟨o6, e7, h8⟩ := zbd h2; clear h2
    refine zn_cVv (pc := 26) (kc := 0) (ks := 0) (kc' := 0) (ks' := 0) (As := [vI xs0]) (st := []) dX10_rivals_26 cs_X10_163 pc_40 rfl rfl (Nat.le_of_ble_eq_true rfl) ((c_X10_refuse e7).mono (Nat.le_of_ble_eq_true rfl)) ?_
    refine zn_goto (pc := 29) (tgt := 39) dX10_rivals_29 (by decide) ?_
    have hz := Option.some.inj h8; clear h8; subst hz
    exact zn_ireturn (pc := 39) dX10_rivals_39 rfl hp
theorem c_X10_rivals {G : zG} {i0 : Nat} {x1 : Int32} {x2 : Int32} {S : zH} {out : (Int32 × zH)} (h0 : f_X10_rivals i0 x1 x2 S = some out) : zct G M_X10_rivals 3 0 0 [vR 40 (some i0), vI x1, vI x2] S (zpo (some (vI out.1)) out.2) := by
  refine zct_of (by decide) (Nat.le_of_ble_eq_true rfl) ?_
  show zn G M_X10_rivals 3 0 0 0 [(0, vR 40 (some i0)), (1, vI x1), (2, vI x2)] [] S _
  have hp : zpo (some (vI out.1)) out.2 (some (vI out.1)) out.2 := ⟨rfl, rfl⟩
  unfold f_X10_rivals at h0
  refine zn_iload_n (pc := 0) 1 dX10_rivals_0 rfl rfl ?_
  obtain ⟨o9, e10, h11⟩ := zbd h0; clear h0
  refine zn_cSv (pc := 1) (kc := 0) (ks := 0) (kc' := 0) (ks' := 0) (As := [vI x1]) (st := []) dX10_rivals_1 cs_X10_191 rfl rfl (Nat.le_of_ble_eq_true rfl) ((c_X10_isBank e10).mono (Nat.le_of_ble_eq_true rfl)) ?_
  have h13 := h11; clear h11
  refine zn_if_eq (pc := 4) (tgt := 18) dX10_rivals_4 (by decide) (fun c12 => ?_) (fun c12 => ?_)
  · replace h13 := zif_t c12 h13
    refine zn_iconst (pc := 18) (x := (-1)) dX10_rivals_18 (by decide) ?_
    exact b_X10_rivals_19  h13 hp
  · replace h13 := zif_f c12 h13
    refine zn_iload_n (pc := 7) 2 dX10_rivals_7 rfl rfl ?_
    refine zn_iconst (pc := 8) (x := 0) dX10_rivals_8 (by decide) ?_
    refine zn_sipush (pc := 9) (x := 9999) dX10_rivals_9 (by decide) ?_
    obtain ⟨o14, e15, h16⟩ := zbd h13; clear h13
    refine zn_cSv (pc := 12) (kc := 0) (ks := 0) (kc' := 0) (ks' := 0) (As := [vI x2, vI 0, vI 9999]) (st := []) dX10_rivals_12 cs_X10_187 rfl rfl (Nat.le_of_ble_eq_true rfl) ((c_X10_within e15).mono (Nat.le_of_ble_eq_true rfl)) ?_
    refine zn_goto (pc := 15) (tgt := 19) dX10_rivals_15 (by decide) ?_
    exact b_X10_rivals_19  h16 hp
theorem b_X10_rival_19 {G : zG} {Post : Option zV → zH → Prop} {i0 : Nat} {x1 : Int32} {x2 : Int32} {x3 : Int32} {xs0 : Int32} {S : zH} {out : (Int32 × zH)} (h0 : f_X10_rival_19 i0 x1 x2 x3 xs0 S = some out) (hp : Post (some (vI out.1)) out.2) : zn G M_X10_rival 3 0 0 19 [(0, vR 40 (some i0)), (1, vI x1), (2, vI x2), (3, vI x3)] [vI xs0] S Post := by
  unfold f_X10_rival_19 at h0
  refine zn_istore (pc := 19) (ls' := [(4, vI xs0), (0, vR 40 (some i0)), (1, vI x1), (2, vI x2), (3, vI x3)]) dX10_rival_19 (Nat.le_of_ble_eq_true rfl) rfl ?_
  refine zn_iload (pc := 21) 0 dX10_rival_21 rfl ?_
  have h2 := h0; clear h0
  refine zn_if_eq (pc := 23) (tgt := 35) dX10_rival_23 (by decide) (fun c1 => ?_) (fun c1 => ?_)
  · replace h2 := zif_t c1 h2
    refine zn_iload_n (pc := 35) 4 dX10_rival_35 rfl rfl ?_
    have h4 := h2; clear h2
    refine zn_if_ge (pc := 36) (tgt := 44) dX10_rival_36 (by decide) (fun c3 => ?_) (fun c3 => ?_)
    · replace h4 := zif_t c3 h4
      refine zn_aload_n (pc := 44) 1 dX10_rival_44 rfl rfl ?_
      refine zn_iload_n (pc := 45) 2 dX10_rival_45 rfl rfl ?_
      refine zn_iload_n (pc := 46) 3 dX10_rival_46 rfl rfl ?_
      refine zn_iload_n (pc := 47) 4 dX10_rival_47 rfl rfl ?_
      obtain ⟨o5, e6, h7⟩ := zbd h4; clear h4
      refine zn_cVv (pc := 48) (kc := 0) (ks := 0) (kc' := 0) (ks' := 0) (As := [vI x1, vI x2, vI x3]) (st := []) dX10_rival_48 cs_X10_323 pc_40 rfl rfl (Nat.le_of_ble_eq_true rfl) ((c_X10_rivalOf e6).mono (Nat.le_of_ble_eq_true rfl)) ?_
      have hz := Option.some.inj h7; clear h7; subst hz
      exact zn_ireturn (pc := 51) dX10_rival_51 rfl hp
    · replace h4 := zif_f c3 h4
      refine zn_bipush (pc := 39) (x := (-9)) dX10_rival_39 (by decide) ?_
      refine zn_goto (pc := 41) (tgt := 51) dX10_rival_41 (by decide) ?_
      have hz := Option.some.inj h4; clear h4; subst hz
      exact zn_ireturn (pc := 51) dX10_rival_51 rfl hp
  · replace h2 := zif_f c1 h2
    refine zn_aload_n (pc := 26) 1 dX10_rival_26 rfl rfl ?_
    refine zn_iload (pc := 27) 0 dX10_rival_27 rfl ?_
    obtain ⟨o8, e9, h10⟩ := zbd h2; clear h2
    refine zn_cVv (pc := 29) (kc := 0) (ks := 0) (kc' := 0) (ks' := 0) (As := [vI xs0]) (st := []) dX10_rival_29 cs_X10_163 pc_40 rfl rfl (Nat.le_of_ble_eq_true rfl) ((c_X10_refuse e9).mono (Nat.le_of_ble_eq_true rfl)) ?_
    refine zn_goto (pc := 32) (tgt := 51) dX10_rival_32 (by decide) ?_
    have hz := Option.some.inj h10; clear h10; subst hz
    exact zn_ireturn (pc := 51) dX10_rival_51 rfl hp
theorem c_X10_rival {G : zG} {i0 : Nat} {x1 : Int32} {x2 : Int32} {x3 : Int32} {S : zH} {out : (Int32 × zH)} (h0 : f_X10_rival i0 x1 x2 x3 S = some out) : zct G M_X10_rival 3 0 0 [vR 40 (some i0), vI x1, vI x2, vI x3] S (zpo (some (vI out.1)) out.2) := by
  refine zct_of (by decide) (Nat.le_of_ble_eq_true rfl) ?_
  show zn G M_X10_rival 3 0 0 0 [(0, vR 40 (some i0)), (1, vI x1), (2, vI x2), (3, vI x3)] [] S _
  have hp : zpo (some (vI out.1)) out.2 (some (vI out.1)) out.2 := ⟨rfl, rfl⟩
  unfold f_X10_rival at h0
  refine zn_iload_n (pc := 0) 1 dX10_rival_0 rfl rfl ?_
  obtain ⟨o11, e12, h13⟩ := zbd h0; clear h0
  refine zn_cSv (pc := 1) (kc := 0) (ks := 0) (kc' := 0) (ks' := 0) (As := [vI x1]) (st := []) dX10_rival_1 cs_X10_191 rfl rfl (Nat.le_of_ble_eq_true rfl) ((c_X10_isBank e12).mono (Nat.le_of_ble_eq_true rfl)) ?_
  have h15 := h13; clear h13
  refine zn_if_eq (pc := 4) (tgt := 18) dX10_rival_4 (by decide) (fun c14 => ?_) (fun c14 => ?_)
  · replace h15 := zif_t c14 h15
    refine zn_iconst (pc := 18) (x := (-1)) dX10_rival_18 (by decide) ?_
    exact b_X10_rival_19  h15 hp
  · replace h15 := zif_f c14 h15
    refine zn_iload_n (pc := 7) 2 dX10_rival_7 rfl rfl ?_
    refine zn_iconst (pc := 8) (x := 0) dX10_rival_8 (by decide) ?_
    refine zn_sipush (pc := 9) (x := 9999) dX10_rival_9 (by decide) ?_
    obtain ⟨o16, e17, h18⟩ := zbd h15; clear h15
    refine zn_cSv (pc := 12) (kc := 0) (ks := 0) (kc' := 0) (ks' := 0) (As := [vI x2, vI 0, vI 9999]) (st := []) dX10_rival_12 cs_X10_187 rfl rfl (Nat.le_of_ble_eq_true rfl) ((c_X10_within e17).mono (Nat.le_of_ble_eq_true rfl)) ?_
    refine zn_goto (pc := 15) (tgt := 19) dX10_rival_15 (by decide) ?_
    exact b_X10_rival_19  h18 hp
theorem c_X10_net {G : zG} {i0 : Nat} {x1 : Int32} {S : zH} {out : (Int64 × zH)} (h0 : f_X10_net i0 x1 S = some out) : zct G M_X10_net 2 0 0 [vR 40 (some i0), vI x1] S (zpo (some (vJ out.1)) out.2) := by
  refine zct_of (by decide) (Nat.le_of_ble_eq_true rfl) ?_
  show zn G M_X10_net 2 0 0 0 [(0, vR 40 (some i0)), (1, vI x1)] [] S _
  have hp : zpo (some (vJ out.1)) out.2 (some (vJ out.1)) out.2 := ⟨rfl, rfl⟩
  unfold f_X10_net at h0
  refine zn_iload_n (pc := 0) 1 dX10_net_0 rfl rfl ?_
  obtain ⟨o1, e2, h3⟩ := zbd h0; clear h0
  refine zn_cSv (pc := 1) (kc := 0) (ks := 0) (kc' := 0) (ks' := 0) (As := [vI x1]) (st := []) dX10_net_1 cs_X10_191 rfl rfl (Nat.le_of_ble_eq_true rfl) ((c_X10_isBank e2).mono (Nat.le_of_ble_eq_true rfl)) ?_
  have h5 := h3; clear h3
  refine zn_if_eq (pc := 4) (tgt := 16) dX10_net_4 (by decide) (fun c4 => ?_) (fun c4 => ?_)
  · replace h5 := zif_t c4 h5
    refine zn_aload_n (pc := 16) 0 dX10_net_16 rfl rfl ?_
    refine zn_iconst (pc := 17) (x := (-1)) dX10_net_17 (by decide) ?_
    obtain ⟨o6, e7, h8⟩ := zbd h5; clear h5
    refine zn_cVv (pc := 18) (kc := 0) (ks := 0) (kc' := 0) (ks' := 0) (As := [vI (-1)]) (st := []) dX10_net_18 cs_X10_207 pc_40 rfl rfl (Nat.le_of_ble_eq_true rfl) ((c_X10_refuseFar e7).mono (Nat.le_of_ble_eq_true rfl)) ?_
    have hz := Option.some.inj h8; clear h8; subst hz
    exact zn_lreturn (pc := 21) dX10_net_21 rfl hp
  · replace h5 := zif_f c4 h5
    refine zn_aload_n (pc := 7) 0 dX10_net_7 rfl rfl ?_
    refine zn_getR (pc := 8) fa_X10_34_40.1 fa_X10_34_40.2 dX10_net_8 ?_
    refine zn_iload_n (pc := 11) 1 dX10_net_11 rfl rfl ?_
    obtain ⟨i9, hi10, h11⟩ := zbd h5; clear h5
    rw [hi10]
    obtain ⟨hb12, h13⟩ := zgdd h11; clear h11
    refine zn_laload (pc := 12) zk_108 dX10_net_12 (zib_in hb12) ?_
    refine zn_goto (pc := 13) (tgt := 21) dX10_net_13 (by decide) ?_
    have hz := Option.some.inj h13; clear h13; subst hz
    exact zn_lreturn (pc := 21) dX10_net_21 rfl hp
theorem c_X10_tell {G : zG} {i0 : Nat} {x1 : Int64} {S : zH} {out : (Int32 × zH)} (h0 : f_X10_tell i0 x1 S = some out) : zct G M_X10_tell 1 0 0 [vR 40 (some i0), vJ x1] S (zpo (some (vI out.1)) out.2) := by
  refine zct_of (by decide) (Nat.le_of_ble_eq_true rfl) ?_
  show zn G M_X10_tell 1 0 0 0 [(0, vR 40 (some i0)), (1, vJ x1)] [] S _
  have hp : zpo (some (vI out.1)) out.2 (some (vI out.1)) out.2 := ⟨rfl, rfl⟩
  unfold f_X10_tell at h0
  refine zn_aload_n (pc := 0) 0 dX10_tell_0 rfl rfl ?_
  refine zn_getI (pc := 1) fa_X10_326_40.1 fa_X10_326_40.2 dX10_tell_1 ?_
  refine zn_bipush (pc := 4) (x := 8) dX10_tell_4 (by decide) ?_
  have h2 := h0; clear h0
  refine zn_icmp_ne (pc := 6) (tgt := 16) dX10_tell_6 (by decide) (fun c1 => ?_) (fun c1 => ?_)
  · replace h2 := zif_f c1 h2
    refine zn_aload_n (pc := 16) 0 dX10_tell_16 rfl rfl ?_
    refine zn_getR (pc := 17) fa_X10_38_40.1 fa_X10_38_40.2 dX10_tell_17 ?_
    refine zn_aload_n (pc := 20) 0 dX10_tell_20 rfl rfl ?_
    refine zn_getI (pc := 21) fa_X10_326_40.1 fa_X10_326_40.2 dX10_tell_21 ?_
    refine zn_lload_n (pc := 24) 1 dX10_tell_24 rfl rfl ?_
    obtain ⟨i3, hi4, h5⟩ := zbd h2; clear h2
    rw [hi4]
    obtain ⟨hb6, h7⟩ := zgdd h5; clear h5
    obtain ⟨S8, hS9, h10⟩ := zltd h7; clear h7
    refine zn_lastore (pc := 25) zk_109 dX10_tell_25 (zib_in hb6) hS9 ?_
    refine zn_aload_n (pc := 26) 0 dX10_tell_26 rfl rfl ?_
    refine zn_dup (pc := 27) dX10_tell_27 rfl ?_
    refine zn_getI (pc := 28) fa_X10_326_40.1 fa_X10_326_40.2 dX10_tell_28 ?_
    refine zn_iconst (pc := 31) (x := 1) dX10_tell_31 (by decide) ?_
    refine zn_iadd (pc := 32) dX10_tell_32 ?_
    obtain ⟨S11, hS12, h13⟩ := zltd h10; clear h10
    refine zn_putI (pc := 33) fp_X10_326_40.1 (fp_X10_326_40 (nm := "")).2 dX10_tell_33 hS12 ?_
    refine zn_aload_n (pc := 36) 0 dX10_tell_36 rfl rfl ?_
    refine zn_getI (pc := 37) fa_X10_326_40.1 fa_X10_326_40.2 dX10_tell_37 ?_
    have hz := Option.some.inj h13; clear h13; subst hz
    exact zn_ireturn (pc := 40) dX10_tell_40 rfl hp
  · replace h2 := zif_t c1 h2
    refine zn_aload_n (pc := 9) 0 dX10_tell_9 rfl rfl ?_
    refine zn_bipush (pc := 10) (x := (-6)) dX10_tell_10 (by decide) ?_
    obtain ⟨o14, e15, h16⟩ := zbd h2; clear h2
    refine zn_cVv (pc := 12) (kc := 0) (ks := 0) (kc' := 0) (ks' := 0) (As := [vI (-6)]) (st := []) dX10_tell_12 cs_X10_163 pc_40 rfl rfl (Nat.le_of_ble_eq_true rfl) ((c_X10_refuse e15).mono (Nat.le_of_ble_eq_true rfl)) ?_
    have hz := Option.some.inj h16; clear h16; subst hz
    exact zn_ireturn (pc := 15) dX10_tell_15 rfl hp
theorem b_X10_check_23 {G : zG} {Post : Option zV → zH → Prop} : ∀ (n : Nat) (i0 : Nat) (x1 : Int32) (S : zH) (out : (Int32 × zH)), f_X10_check_23 n i0 x1 S = some out → Post (some (vI out.1)) out.2 → zn G M_X10_check 1 0 0 23 [(0, vR 40 (some i0)), (1, vI x1)] [] S Post := by
  intro n
  induction n with
  | zero => intro i0 x1 S out h0 hp; exact (nomatch (show (none : Option _) = some out from h0))
  | succ n ih =>
    intro i0 x1 S out h0 hp
    rw [f_X10_check_23] at h0
    refine zn_iload_n (pc := 23) 1 dX10_check_23 rfl rfl ?_
    refine zn_bipush (pc := 24) (x := 8) dX10_check_24 (by decide) ?_
    have h2 := h0; clear h0
    refine zn_icmp_ge (pc := 26) (tgt := 53) dX10_check_26 (by decide) (fun c1 => ?_) (fun c1 => ?_)
    · replace h2 := zif_t c1 h2
      refine zn_bipush (pc := 53) (x := (-9)) dX10_check_53 (by decide) ?_
      have hz := Option.some.inj h2; clear h2; subst hz
      exact zn_ireturn (pc := 55) dX10_check_55 rfl hp
    · replace h2 := zif_f c1 h2
      refine zn_aload_n (pc := 29) 0 dX10_check_29 rfl rfl ?_
      refine zn_getR (pc := 30) fa_X10_38_40.1 fa_X10_38_40.2 dX10_check_30 ?_
      refine zn_iload_n (pc := 33) 1 dX10_check_33 rfl rfl ?_
      obtain ⟨i3, hi4, h5⟩ := zbd h2; clear h2
      rw [hi4]
      obtain ⟨hb6, h7⟩ := zgdd h5; clear h5
      refine zn_laload (pc := 34) zk_109 dX10_check_34 (zib_in hb6) ?_
      refine zn_aload_n (pc := 35) 0 dX10_check_35 rfl rfl ?_
      refine zn_getR (pc := 36) fa_X10_34_40.1 fa_X10_34_40.2 dX10_check_36 ?_
      refine zn_iload_n (pc := 39) 1 dX10_check_39 rfl rfl ?_
      obtain ⟨i8, hi9, h10⟩ := zbd h7; clear h7
      rw [hi9]
      obtain ⟨hb11, h12⟩ := zgdd h10; clear h10
      refine zn_laload (pc := 40) zk_108 dX10_check_40 (zib_in hb11) ?_
      refine zn_lcmp (pc := 41) dX10_check_41 ?_
      have h14 := h12; clear h12
      refine zn_if_eq (pc := 42) (tgt := 47) dX10_check_42 (by decide) (fun c13 => ?_) (fun c13 => ?_)
      · replace h14 := zif_t c13 h14
        refine zn_iinc (pc := 47) 1 (y := x1 + 1) (ls' := [(1, vI (x1 + 1)), (0, vR 40 (some i0))]) dX10_check_47 rfl rfl (Nat.le_of_ble_eq_true rfl) rfl ?_
        refine zn_goto (pc := 50) (tgt := 23) dX10_check_50 (by decide) ?_
        refine zn_pick [1, 0] rfl ?_
        exact ih _ _ _ _ h14 hp
      · replace h14 := zif_f c13 h14
        refine zn_iload_n (pc := 45) 1 dX10_check_45 rfl rfl ?_
        have hz := Option.some.inj h14; clear h14; subst hz
        exact zn_ireturn (pc := 46) dX10_check_46 rfl hp
theorem c_X10_check {G : zG} {i0 : Nat} {S : zH} {out : (Int32 × zH)} (h0 : f_X10_check i0 S = some out) : zct G M_X10_check 1 0 0 [vR 40 (some i0)] S (zpo (some (vI out.1)) out.2) := by
  refine zct_of (by decide) (Nat.le_of_ble_eq_true rfl) ?_
  show zn G M_X10_check 1 0 0 0 [(0, vR 40 (some i0))] [] S _
  have hp : zpo (some (vI out.1)) out.2 (some (vI out.1)) out.2 := ⟨rfl, rfl⟩
  unfold f_X10_check at h0
  refine zn_aload_n (pc := 0) 0 dX10_check_0 rfl rfl ?_
  refine zn_getI (pc := 1) fa_X10_326_40.1 fa_X10_326_40.2 dX10_check_1 ?_
  refine zn_bipush (pc := 4) (x := 8) dX10_check_4 (by decide) ?_
  have h16 := h0; clear h0
  refine zn_icmp_ge (pc := 6) (tgt := 16) dX10_check_6 (by decide) (fun c15 => ?_) (fun c15 => ?_)
  · replace h16 := zif_t c15 h16
    refine zn_aload_n (pc := 16) 0 dX10_check_16 rfl rfl ?_
    refine zn_iconst (pc := 17) (x := 0) dX10_check_17 (by decide) ?_
    obtain ⟨S17, hS18, h19⟩ := zltd h16; clear h16
    refine zn_putI (pc := 18) fp_X10_326_40.1 (fp_X10_326_40 (nm := "")).2 dX10_check_18 hS18 ?_
    refine zn_iconst (pc := 21) (x := 0) dX10_check_21 (by decide) ?_
    refine zn_istore_n (pc := 22) (ls' := [(1, vI 0), (0, vR 40 (some i0))]) dX10_check_22 rfl (Nat.le_of_ble_eq_true rfl) rfl ?_
    refine zn_pick [1, 0] rfl ?_
    exact b_X10_check_23  fu _ _ _ _ h19 hp
  · replace h16 := zif_f c15 h16
    refine zn_aload_n (pc := 9) 0 dX10_check_9 rfl rfl ?_
    refine zn_bipush (pc := 10) (x := (-3)) dX10_check_10 (by decide) ?_
    obtain ⟨o20, e21, h22⟩ := zbd h16; clear h16
    refine zn_cVv (pc := 12) (kc := 0) (ks := 0) (kc' := 0) (ks' := 0) (As := [vI (-3)]) (st := []) dX10_check_12 cs_X10_163 pc_40 rfl rfl (Nat.le_of_ble_eq_true rfl) ((c_X10_refuse e21).mono (Nat.le_of_ble_eq_true rfl)) ?_
    have hz := Option.some.inj h22; clear h22; subst hz
    exact zn_ireturn (pc := 15) dX10_check_15 rfl hp
theorem b_X10_surge_24 {G : zG} {Post : Option zV → zH → Prop} {i0 : Nat} {x1 : Int32} {x2 : Int32} {S : zH} {out : (Int32 × zH)} (h0 : f_X10_surge_24 i0 x1 x2 S = some out) (hp : Post (some (vI out.1)) out.2) : zn G M_X10_surge 1 0 0 24 [(0, vR 40 (some i0)), (1, vI x1), (2, vI x2)] [] S Post := by
  unfold f_X10_surge_24 at h0
  refine zn_iload_n (pc := 24) 2 dX10_surge_24 rfl rfl ?_
  have h2 := h0; clear h0
  refine zn_if_eq (pc := 25) (tgt := 34) dX10_surge_25 (by decide) (fun c1 => ?_) (fun c1 => ?_)
  · replace h2 := zif_t c1 h2
    refine zn_aload_n (pc := 34) 0 dX10_surge_34 rfl rfl ?_
    refine zn_getR (pc := 35) fa_X10_148_40.1 fa_X10_148_40.2 dX10_surge_35 ?_
    refine zn_aload_n (pc := 38) 0 dX10_surge_38 rfl rfl ?_
    refine zn_getI (pc := 39) fa_X10_329_40.1 fa_X10_329_40.2 dX10_surge_39 ?_
    refine zn_iload_n (pc := 42) 1 dX10_surge_42 rfl rfl ?_
    obtain ⟨i3, hi4, h5⟩ := zbd h2; clear h2
    rw [hi4]
    obtain ⟨hb6, h7⟩ := zgdd h5; clear h5
    obtain ⟨S8, hS9, h10⟩ := zltd h7; clear h7
    refine zn_iastore (pc := 43) zk_145 dX10_surge_43 (zib_in hb6) hS9 ?_
    refine zn_aload_n (pc := 44) 0 dX10_surge_44 rfl rfl ?_
    refine zn_dup (pc := 45) dX10_surge_45 rfl ?_
    refine zn_getI (pc := 46) fa_X10_329_40.1 fa_X10_329_40.2 dX10_surge_46 ?_
    refine zn_iconst (pc := 49) (x := 1) dX10_surge_49 (by decide) ?_
    refine zn_iadd (pc := 50) dX10_surge_50 ?_
    obtain ⟨S11, hS12, h13⟩ := zltd h10; clear h10
    refine zn_putI (pc := 51) fp_X10_329_40.1 (fp_X10_329_40 (nm := "")).2 dX10_surge_51 hS12 ?_
    refine zn_aload_n (pc := 54) 0 dX10_surge_54 rfl rfl ?_
    refine zn_getI (pc := 55) fa_X10_329_40.1 fa_X10_329_40.2 dX10_surge_55 ?_
    have hz := Option.some.inj h13; clear h13; subst hz
    exact zn_ireturn (pc := 58) dX10_surge_58 rfl hp
  · replace h2 := zif_f c1 h2
    refine zn_aload_n (pc := 28) 0 dX10_surge_28 rfl rfl ?_
    refine zn_iload_n (pc := 29) 2 dX10_surge_29 rfl rfl ?_
    obtain ⟨o14, e15, h16⟩ := zbd h2; clear h2
    refine zn_cVv (pc := 30) (kc := 0) (ks := 0) (kc' := 0) (ks' := 0) (As := [vI x2]) (st := []) dX10_surge_30 cs_X10_163 pc_40 rfl rfl (Nat.le_of_ble_eq_true rfl) ((c_X10_refuse e15).mono (Nat.le_of_ble_eq_true rfl)) ?_
    have hz := Option.some.inj h16; clear h16; subst hz
    exact zn_ireturn (pc := 33) dX10_surge_33 rfl hp
theorem c_X10_surge {G : zG} {i0 : Nat} {x1 : Int32} {S : zH} {out : (Int32 × zH)} (h0 : f_X10_surge i0 x1 S = some out) : zct G M_X10_surge 1 0 0 [vR 40 (some i0), vI x1] S (zpo (some (vI out.1)) out.2) := by
  refine zct_of (by decide) (Nat.le_of_ble_eq_true rfl) ?_
  show zn G M_X10_surge 1 0 0 0 [(0, vR 40 (some i0)), (1, vI x1)] [] S _
  have hp : zpo (some (vI out.1)) out.2 (some (vI out.1)) out.2 := ⟨rfl, rfl⟩
  unfold f_X10_surge at h0
  refine zn_iload_n (pc := 0) 1 dX10_surge_0 rfl rfl ?_
  refine zn_iconst (pc := 1) (x := 0) dX10_surge_1 (by decide) ?_
  refine zn_bipush (pc := 2) (x := 127) dX10_surge_2 (by decide) ?_
  obtain ⟨o17, e18, h19⟩ := zbd h0; clear h0
  refine zn_cSv (pc := 4) (kc := 0) (ks := 0) (kc' := 0) (ks' := 0) (As := [vI x1, vI 0, vI 127]) (st := []) dX10_surge_4 cs_X10_187 rfl rfl (Nat.le_of_ble_eq_true rfl) ((c_X10_within e18).mono (Nat.le_of_ble_eq_true rfl)) ?_
  refine zn_istore_n (pc := 7) (ls' := [(2, vI o17), (0, vR 40 (some i0)), (1, vI x1)]) dX10_surge_7 rfl (Nat.le_of_ble_eq_true rfl) rfl ?_
  refine zn_iload_n (pc := 8) 0 dX10_surge_8 rfl rfl ?_
  have h21 := h19; clear h19
  refine zn_if_ne (pc := 9) (tgt := 24) dX10_surge_9 (by decide) (fun c20 => ?_) (fun c20 => ?_)
  · replace h21 := zif_f c20 h21
    refine zn_pick [1, 2, 0] rfl ?_
    exact b_X10_surge_24  h21 hp
  · replace h21 := zif_t c20 h21
    refine zn_aload_n (pc := 12) 1 dX10_surge_12 rfl rfl ?_
    refine zn_getI (pc := 13) fa_X10_329_40.1 fa_X10_329_40.2 dX10_surge_13 ?_
    refine zn_bipush (pc := 16) (x := 9) dX10_surge_16 (by decide) ?_
    have h23 := h21; clear h21
    refine zn_icmp_ne (pc := 18) (tgt := 24) dX10_surge_18 (by decide) (fun c22 => ?_) (fun c22 => ?_)
    · replace h23 := zif_f c22 h23
      refine zn_pick [1, 2, 0] rfl ?_
      exact b_X10_surge_24  h23 hp
    · replace h23 := zif_t c22 h23
      refine zn_bipush (pc := 21) (x := (-6)) dX10_surge_21 (by decide) ?_
      refine zn_istore_n (pc := 23) (ls' := [(2, vI (-6)), (0, vR 40 (some i0)), (1, vI x1)]) dX10_surge_23 rfl (Nat.le_of_ble_eq_true rfl) rfl ?_
      refine zn_pick [1, 2, 0] rfl ?_
      exact b_X10_surge_24  h23 hp
theorem b_X10_least_17 {G : zG} {Post : Option zV → zH → Prop} {k4 : Nat → Int32 → Int32 → zH → Option Int32} (hk4 : ∀ (i0 : Nat) (x1 : Int32) (x2 : Int32) (S : zH) (out : Int32), k4 i0 x1 x2 S = some out → Post (some (vI out)) S → zn G M_X10_least 0 0 0 4 [(0, vR 40 (some i0)), (1, vI x1), (2, vI x2)] [] S Post) : ∀ (n : Nat) (i0 : Nat) (x1 : Int32) (x2 : Int32) (x3 : Int32) (x4 : Int32) (S : zH) (out : Int32), f_X10_least_17 k4 n i0 x1 x2 x3 x4 S = some out → Post (some (vI out)) S → zn G M_X10_least 0 0 0 17 [(0, vR 40 (some i0)), (1, vI x1), (2, vI x2), (3, vI x3), (4, vI x4)] [] S Post := by
  intro n
  induction n with
  | zero => intro i0 x1 x2 x3 x4 S out h0 hp; exact (nomatch (show (none : Option _) = some out from h0))
  | succ n ih =>
    intro i0 x1 x2 x3 x4 S out h0 hp
    rw [f_X10_least_17] at h0
    refine zn_iload (pc := 17) 4 dX10_least_17 rfl ?_
    refine zn_aload_n (pc := 19) 0 dX10_least_19 rfl rfl ?_
    refine zn_getI (pc := 20) fa_X10_329_40.1 fa_X10_329_40.2 dX10_least_20 ?_
    have h2 := h0; clear h0
    refine zn_icmp_ge (pc := 23) (tgt := 77) dX10_least_23 (by decide) (fun c1 => ?_) (fun c1 => ?_)
    · replace h2 := zif_t c1 h2
      refine zn_iinc (pc := 77) 2 (y := x2 + 1) (ls' := [(2, vI (x2 + 1)), (0, vR 40 (some i0)), (1, vI x1), (3, vI x3), (4, vI x4)]) dX10_least_77 rfl rfl (Nat.le_of_ble_eq_true rfl) rfl ?_
      refine zn_goto (pc := 80) (tgt := 4) dX10_least_80 (by decide) ?_
      refine zn_pick [1, 2, 0] rfl ?_
      exact hk4 _ _ _ _ _ h2 hp
    · replace h2 := zif_f c1 h2
      refine zn_iload_n (pc := 26) 3 dX10_least_26 rfl rfl ?_
      refine zn_aload_n (pc := 27) 0 dX10_least_27 rfl rfl ?_
      refine zn_getR (pc := 28) fa_X10_148_40.1 fa_X10_148_40.2 dX10_least_28 ?_
      refine zn_iload (pc := 31) 4 dX10_least_31 rfl ?_
      obtain ⟨i3, hi4, h5⟩ := zbd h2; clear h2
      rw [hi4]
      obtain ⟨hb6, h7⟩ := zgdd h5; clear h5
      refine zn_iaload (pc := 33) zk_145 dX10_least_33 (zib_in hb6) ?_
      refine zn_iadd (pc := 34) dX10_least_34 ?_
      refine zn_istore_n (pc := 35) (ls' := [(3, vI (x3 + (zI S 145 i3 (Int32.toNatClampNeg x4)))), (0, vR 40 (some i0)), (1, vI x1), (2, vI x2), (4, vI x4)]) dX10_least_35 rfl (Nat.le_of_ble_eq_true rfl) rfl ?_
      refine zn_iload (pc := 36) 4 dX10_least_36 rfl ?_
      refine zn_iload_n (pc := 38) 3 dX10_least_38 rfl rfl ?_
      refine zn_isub (pc := 39) dX10_least_39 ?_
      refine zn_iconst (pc := 40) (x := 3) dX10_least_40 (by decide) ?_
      refine zn_iadd (pc := 41) dX10_least_41 ?_
      refine zn_istore (pc := 42) (ls' := [(5, vI ((x4 - x2) + 3)), (3, vI (x3 + (zI S 145 i3 (Int32.toNatClampNeg x4)))), (0, vR 40 (some i0)), (1, vI x1), (2, vI x2), (4, vI x4)]) dX10_least_42 (Nat.le_of_ble_eq_true rfl) rfl ?_
      refine zn_iload_n (pc := 44) 1 dX10_least_44 rfl rfl ?_
      refine zn_iload (pc := 45) 0 dX10_least_45 rfl ?_
      refine zn_iadd (pc := 47) dX10_least_47 ?_
      refine zn_iconst (pc := 48) (x := 1) dX10_least_48 (by decide) ?_
      refine zn_isub (pc := 49) dX10_least_49 ?_
      refine zn_iload (pc := 50) 0 dX10_least_50 rfl ?_
      obtain ⟨hb8, h9⟩ := zgdd h7; clear h7
      refine zn_idiv (pc := 52) dX10_least_52 (zne_of hb8) ?_
      refine zn_iload_n (pc := 53) 3 dX10_least_53 rfl rfl ?_
      have h11 := h9; clear h9
      refine zn_icmp_le (pc := 54) (tgt := 69) dX10_least_54 (by decide) (fun c10 => ?_) (fun c10 => ?_)
      · replace h11 := zif_t c10 h11
        refine zn_iload_n (pc := 69) 3 dX10_least_69 rfl rfl ?_
        refine zn_istore_n (pc := 70) (ls' := [(1, vI x1), (5, vI ((x4 - x2) + 3)), (3, vI (x3 + (zI S 145 i3 (Int32.toNatClampNeg x4)))), (0, vR 40 (some i0)), (2, vI x2), (4, vI x4)]) dX10_least_70 rfl (Nat.le_of_ble_eq_true rfl) rfl ?_
        refine zn_iinc (pc := 71) 5 (y := x4 + 1) (ls' := [(4, vI (x4 + 1)), (1, vI x1), (5, vI ((x4 - x2) + 3)), (3, vI (x3 + (zI S 145 i3 (Int32.toNatClampNeg x4)))), (0, vR 40 (some i0)), (2, vI x2)]) dX10_least_71 rfl rfl (Nat.le_of_ble_eq_true rfl) rfl ?_
        refine zn_goto (pc := 74) (tgt := 17) dX10_least_74 (by decide) ?_
        refine zn_pick [4, 1, 5, 3, 0] rfl ?_
        exact ih _ _ _ _ _ _ _ h11 hp
      · replace h11 := zif_f c10 h11
        refine zn_iload_n (pc := 57) 1 dX10_least_57 rfl rfl ?_
        refine zn_iload (pc := 58) 0 dX10_least_58 rfl ?_
        refine zn_iadd (pc := 60) dX10_least_60 ?_
        refine zn_iconst (pc := 61) (x := 1) dX10_least_61 (by decide) ?_
        refine zn_isub (pc := 62) dX10_least_62 ?_
        refine zn_iload (pc := 63) 0 dX10_least_63 rfl ?_
        obtain ⟨hb12, h13⟩ := zgdd h11; clear h11
        refine zn_idiv (pc := 65) dX10_least_65 (zne_of hb12) ?_
        refine zn_goto (pc := 66) (tgt := 70) dX10_least_66 (by decide) ?_
        refine zn_istore_n (pc := 70) (ls' := [(1, vI ((((x3 + (zI S 145 i3 (Int32.toNatClampNeg x4))) + ((x4 - x2) + 3)) - 1) / ((x4 - x2) + 3))), (5, vI ((x4 - x2) + 3)), (3, vI (x3 + (zI S 145 i3 (Int32.toNatClampNeg x4)))), (0, vR 40 (some i0)), (2, vI x2), (4, vI x4)]) dX10_least_70 rfl (Nat.le_of_ble_eq_true rfl) rfl ?_
        refine zn_iinc (pc := 71) 5 (y := x4 + 1) (ls' := [(4, vI (x4 + 1)), (1, vI ((((x3 + (zI S 145 i3 (Int32.toNatClampNeg x4))) + ((x4 - x2) + 3)) - 1) / ((x4 - x2) + 3))), (5, vI ((x4 - x2) + 3)), (3, vI (x3 + (zI S 145 i3 (Int32.toNatClampNeg x4)))), (0, vR 40 (some i0)), (2, vI x2)]) dX10_least_71 rfl rfl (Nat.le_of_ble_eq_true rfl) rfl ?_
        refine zn_goto (pc := 74) (tgt := 17) dX10_least_74 (by decide) ?_
        refine zn_pick [4, 1, 5, 3, 0] rfl ?_
        exact ih _ _ _ _ _ _ _ h13 hp
theorem b_X10_least_4 {G : zG} {Post : Option zV → zH → Prop} : ∀ (n : Nat) (i0 : Nat) (x1 : Int32) (x2 : Int32) (S : zH) (out : Int32), f_X10_least_4 n i0 x1 x2 S = some out → Post (some (vI out)) S → zn G M_X10_least 0 0 0 4 [(0, vR 40 (some i0)), (1, vI x1), (2, vI x2)] [] S Post := by
  intro n
  induction n with
  | zero => intro i0 x1 x2 S out h0 hp; exact (nomatch (show (none : Option _) = some out from h0))
  | succ n ih =>
    intro i0 x1 x2 S out h0 hp
    rw [f_X10_least_4] at h0
    refine zn_iload_n (pc := 4) 2 dX10_least_4 rfl rfl ?_
    refine zn_aload_n (pc := 5) 0 dX10_least_5 rfl rfl ?_
    refine zn_getI (pc := 6) fa_X10_329_40.1 fa_X10_329_40.2 dX10_least_6 ?_
    have h2 := h0; clear h0
    refine zn_icmp_ge (pc := 9) (tgt := 83) dX10_least_9 (by decide) (fun c1 => ?_) (fun c1 => ?_)
    · replace h2 := zif_t c1 h2
      refine zn_iload_n (pc := 83) 1 dX10_least_83 rfl rfl ?_
      have hz := Option.some.inj h2; clear h2; subst hz
      exact zn_ireturn (pc := 84) dX10_least_84 rfl hp
    · replace h2 := zif_f c1 h2
      refine zn_iconst (pc := 12) (x := 0) dX10_least_12 (by decide) ?_
      refine zn_istore_n (pc := 13) (ls' := [(3, vI 0), (0, vR 40 (some i0)), (1, vI x1), (2, vI x2)]) dX10_least_13 rfl (Nat.le_of_ble_eq_true rfl) rfl ?_
      refine zn_iload_n (pc := 14) 3 dX10_least_14 rfl rfl ?_
      refine zn_istore (pc := 15) (ls' := [(4, vI x2), (3, vI 0), (0, vR 40 (some i0)), (1, vI x1), (2, vI x2)]) dX10_least_15 (Nat.le_of_ble_eq_true rfl) rfl ?_
      refine zn_pick [2, 3, 4, 1, 0] rfl ?_
      exact b_X10_least_17 ih fu _ _ _ _ _ _ _ h2 hp
theorem c_X10_least {G : zG} {i0 : Nat} {S : zH} {out : Int32} (h0 : f_X10_least i0 S = some out) : zct G M_X10_least 0 0 0 [vR 40 (some i0)] S (zpo (some (vI out)) S) := by
  refine zct_of (by decide) (Nat.le_of_ble_eq_true rfl) ?_
  show zn G M_X10_least 0 0 0 0 [(0, vR 40 (some i0))] [] S _
  have hp : zpo (some (vI out)) S (some (vI out)) S := ⟨rfl, rfl⟩
  unfold f_X10_least at h0
  refine zn_iconst (pc := 0) (x := 0) dX10_least_0 (by decide) ?_
  refine zn_istore_n (pc := 1) (ls' := [(1, vI 0), (0, vR 40 (some i0))]) dX10_least_1 rfl (Nat.le_of_ble_eq_true rfl) rfl ?_
  refine zn_iconst (pc := 2) (x := 0) dX10_least_2 (by decide) ?_
  refine zn_istore_n (pc := 3) (ls' := [(2, vI 0), (1, vI 0), (0, vR 40 (some i0))]) dX10_least_3 rfl (Nat.le_of_ble_eq_true rfl) rfl ?_
  refine zn_pick [2, 1, 0] rfl ?_
  exact b_X10_least_4  fu _ _ _ _ _ h0 hp
theorem b_X10_tooLate_83 {G : zG} {Post : Option zV → zH → Prop} {k32 : Nat → Int32 → Int32 → Int32 → zH → Option (Int32 × zH)} {k46 : Nat → Int32 → Int32 → Int32 → Int32 → Int32 → zH → Option (Int32 × zH)} {i0 : Nat} {x1 : Int32} {x3 : Int32} {x4 : Int32} {x5 : Int32} {x6 : Int32} {xs0 : Int32} {S : zH} {out : (Int32 × zH)} (hk32 : ∀ (i0 : Nat) (x1 : Int32) (x3 : Int32) (x4 : Int32) (S : zH) (out : (Int32 × zH)), k32 i0 x1 x3 x4 S = some out → Post (some (vI out.1)) out.2 → zn G M_X10_tooLate 1 0 0 32 [(0, vR 40 (some i0)), (1, vI x1), (3, vI x3), (4, vI x4)] [] S Post) (hk46 : ∀ (i0 : Nat) (x1 : Int32) (x3 : Int32) (x4 : Int32) (x5 : Int32) (x6 : Int32) (S : zH) (out : (Int32 × zH)), k46 i0 x1 x3 x4 x5 x6 S = some out → Post (some (vI out.1)) out.2 → zn G M_X10_tooLate 1 0 0 46 [(0, vR 40 (some i0)), (1, vI x1), (3, vI x3), (4, vI x4), (5, vI x5), (6, vI x6)] [] S Post) (h0 : f_X10_tooLate_83 k32 k46 i0 x1 x3 x4 x5 x6 xs0 S = some out) (hp : Post (some (vI out.1)) out.2) : zn G M_X10_tooLate 1 0 0 83 [(0, vR 40 (some i0)), (1, vI x1), (3, vI x3), (4, vI x4), (5, vI x5), (6, vI x6)] [vI xs0] S Post := by
  unfold f_X10_tooLate_83 at h0
  refine zn_istore (pc := 83) (ls' := [(7, vI xs0), (0, vR 40 (some i0)), (1, vI x1), (3, vI x3), (4, vI x4), (5, vI x5), (6, vI x6)]) dX10_tooLate_83 (Nat.le_of_ble_eq_true rfl) rfl ?_
  refine zn_aload_n (pc := 85) 1 dX10_tooLate_85 rfl rfl ?_
  refine zn_getR (pc := 86) fa_X10_148_40.1 fa_X10_148_40.2 dX10_tooLate_86 ?_
  refine zn_iload (pc := 89) 6 dX10_tooLate_89 rfl ?_
  refine zn_dup2 (pc := 91) dX10_tooLate_91 rfl rfl ?_
  obtain ⟨i1, hi2, h3⟩ := zbd h0; clear h0
  rw [hi2]
  obtain ⟨hb4, h5⟩ := zgdd h3; clear h3
  refine zn_iaload (pc := 92) zk_145 dX10_tooLate_92 (zib_in hb4) ?_
  refine zn_iload (pc := 93) 0 dX10_tooLate_93 rfl ?_
  refine zn_isub (pc := 95) dX10_tooLate_95 ?_
  obtain ⟨hb6, h7⟩ := zgdd h5; clear h5
  obtain ⟨S8, hS9, h10⟩ := zltd h7; clear h7
  refine zn_iastore (pc := 96) zk_145 dX10_tooLate_96 (zib_in hb6) hS9 ?_
  refine zn_iload (pc := 97) 5 dX10_tooLate_97 rfl ?_
  refine zn_iload (pc := 99) 0 dX10_tooLate_99 rfl ?_
  refine zn_isub (pc := 101) dX10_tooLate_101 ?_
  refine zn_istore (pc := 102) (ls' := [(5, vI (x5 - xs0)), (7, vI xs0), (0, vR 40 (some i0)), (1, vI x1), (3, vI x3), (4, vI x4), (6, vI x6)]) dX10_tooLate_102 (Nat.le_of_ble_eq_true rfl) rfl ?_
  refine zn_iinc (pc := 104) 6 (y := x6 + 1) (ls' := [(6, vI (x6 + 1)), (5, vI (x5 - xs0)), (7, vI xs0), (0, vR 40 (some i0)), (1, vI x1), (3, vI x3), (4, vI x4)]) dX10_tooLate_104 rfl rfl (Nat.le_of_ble_eq_true rfl) rfl ?_
  refine zn_goto (pc := 107) (tgt := 46) dX10_tooLate_107 (by decide) ?_
  refine zn_pick [3, 4, 5, 6, 1, 0] rfl ?_
  exact hk46 _ _ _ _ _ _ _ _ h10 hp
theorem b_X10_tooLate_113 {G : zG} {Post : Option zV → zH → Prop} {k32 : Nat → Int32 → Int32 → Int32 → zH → Option (Int32 × zH)} (hk32 : ∀ (i0 : Nat) (x1 : Int32) (x3 : Int32) (x4 : Int32) (S : zH) (out : (Int32 × zH)), k32 i0 x1 x3 x4 S = some out → Post (some (vI out.1)) out.2 → zn G M_X10_tooLate 1 0 0 32 [(0, vR 40 (some i0)), (1, vI x1), (3, vI x3), (4, vI x4)] [] S Post) : ∀ (n : Nat) (i0 : Nat) (x1 : Int32) (x3 : Int32) (x4 : Int32) (x6 : Int32) (S : zH) (out : (Int32 × zH)), f_X10_tooLate_113 k32 n i0 x1 x3 x4 x6 S = some out → Post (some (vI out.1)) out.2 → zn G M_X10_tooLate 1 0 0 113 [(0, vR 40 (some i0)), (1, vI x1), (3, vI x3), (4, vI x4), (6, vI x6)] [] S Post := by
  intro n
  induction n with
  | zero => intro i0 x1 x3 x4 x6 S out h0 hp; exact (nomatch (show (none : Option _) = some out from h0))
  | succ n ih =>
    intro i0 x1 x3 x4 x6 S out h0 hp
    rw [f_X10_tooLate_113] at h0
    refine zn_iload (pc := 113) 4 dX10_tooLate_113 rfl ?_
    refine zn_iload (pc := 115) 3 dX10_tooLate_115 rfl ?_
    refine zn_iconst (pc := 117) (x := 2) dX10_tooLate_117 (by decide) ?_
    refine zn_isub (pc := 118) dX10_tooLate_118 ?_
    have h2 := h0; clear h0
    refine zn_icmp_gt (pc := 119) (tgt := 147) dX10_tooLate_119 (by decide) (fun c1 => ?_) (fun c1 => ?_)
    · replace h2 := zif_t c1 h2
      refine zn_iinc (pc := 147) 3 (y := x4 + 1) (ls' := [(4, vI (x4 + 1)), (0, vR 40 (some i0)), (1, vI x1), (3, vI x3), (6, vI x6)]) dX10_tooLate_147 rfl rfl (Nat.le_of_ble_eq_true rfl) rfl ?_
      refine zn_goto (pc := 150) (tgt := 32) dX10_tooLate_150 (by decide) ?_
      refine zn_pick [1, 2, 3, 0] rfl ?_
      exact hk32 _ _ _ _ _ _ h2 hp
    · replace h2 := zif_f c1 h2
      refine zn_iload (pc := 122) 4 dX10_tooLate_122 rfl ?_
      refine zn_iload_n (pc := 124) 2 dX10_tooLate_124 rfl rfl ?_
      have h4 := h2; clear h2
      refine zn_icmp_ge (pc := 125) (tgt := 147) dX10_tooLate_125 (by decide) (fun c3 => ?_) (fun c3 => ?_)
      · replace h4 := zif_t c3 h4
        refine zn_iinc (pc := 147) 3 (y := x4 + 1) (ls' := [(4, vI (x4 + 1)), (0, vR 40 (some i0)), (1, vI x1), (3, vI x3), (6, vI x6)]) dX10_tooLate_147 rfl rfl (Nat.le_of_ble_eq_true rfl) rfl ?_
        refine zn_goto (pc := 150) (tgt := 32) dX10_tooLate_150 (by decide) ?_
        refine zn_pick [1, 2, 3, 0] rfl ?_
        exact hk32 _ _ _ _ _ _ h4 hp
      · replace h4 := zif_f c3 h4
        refine zn_aload_n (pc := 128) 0 dX10_tooLate_128 rfl rfl ?_
        refine zn_getR (pc := 129) fa_X10_148_40.1 fa_X10_148_40.2 dX10_tooLate_129 ?_
        refine zn_iload (pc := 132) 4 dX10_tooLate_132 rfl ?_
        obtain ⟨i5, hi6, h7⟩ := zbd h4; clear h4
        rw [hi6]
        obtain ⟨hb8, h9⟩ := zgdd h7; clear h7
        refine zn_iaload (pc := 134) zk_145 dX10_tooLate_134 (zib_in hb8) ?_
        have h11 := h9; clear h9
        refine zn_if_le (pc := 135) (tgt := 141) dX10_tooLate_135 (by decide) (fun c10 => ?_) (fun c10 => ?_)
        · replace h11 := zif_t c10 h11
          refine zn_iinc (pc := 141) 4 (y := x6 + 1) (ls' := [(6, vI (x6 + 1)), (0, vR 40 (some i0)), (1, vI x1), (3, vI x3), (4, vI x4)]) dX10_tooLate_141 rfl rfl (Nat.le_of_ble_eq_true rfl) rfl ?_
          refine zn_goto (pc := 144) (tgt := 113) dX10_tooLate_144 (by decide) ?_
          refine zn_pick [1, 2, 3, 4, 0] rfl ?_
          exact ih _ _ _ _ _ _ _ h11 hp
        · replace h11 := zif_f c10 h11
          refine zn_iload (pc := 138) 3 dX10_tooLate_138 rfl ?_
          have hz := Option.some.inj h11; clear h11; subst hz
          exact zn_ireturn (pc := 140) dX10_tooLate_140 rfl hp
theorem b_X10_tooLate_46 {G : zG} {Post : Option zV → zH → Prop} {k32 : Nat → Int32 → Int32 → Int32 → zH → Option (Int32 × zH)} (hk32 : ∀ (i0 : Nat) (x1 : Int32) (x3 : Int32) (x4 : Int32) (S : zH) (out : (Int32 × zH)), k32 i0 x1 x3 x4 S = some out → Post (some (vI out.1)) out.2 → zn G M_X10_tooLate 1 0 0 32 [(0, vR 40 (some i0)), (1, vI x1), (3, vI x3), (4, vI x4)] [] S Post) : ∀ (n : Nat) (i0 : Nat) (x1 : Int32) (x3 : Int32) (x4 : Int32) (x5 : Int32) (x6 : Int32) (S : zH) (out : (Int32 × zH)), f_X10_tooLate_46 k32 n i0 x1 x3 x4 x5 x6 S = some out → Post (some (vI out.1)) out.2 → zn G M_X10_tooLate 1 0 0 46 [(0, vR 40 (some i0)), (1, vI x1), (3, vI x3), (4, vI x4), (5, vI x5), (6, vI x6)] [] S Post := by
  intro n
  induction n with
  | zero => intro i0 x1 x3 x4 x5 x6 S out h0 hp; exact (nomatch (show (none : Option _) = some out from h0))
  | succ n ih =>
    intro i0 x1 x3 x4 x5 x6 S out h0 hp
    rw [f_X10_tooLate_46] at h0
    refine zn_iload (pc := 46) 5 dX10_tooLate_46 rfl ?_
    refine zn_iload (pc := 48) 3 dX10_tooLate_48 rfl ?_
    have h2 := h0; clear h0
    refine zn_icmp_gt (pc := 50) (tgt := 110) dX10_tooLate_50 (by decide) (fun c1 => ?_) (fun c1 => ?_)
    · replace h2 := zif_t c1 h2
      refine zn_iconst (pc := 110) (x := 0) dX10_tooLate_110 (by decide) ?_
      refine zn_istore (pc := 111) (ls' := [(6, vI 0), (0, vR 40 (some i0)), (1, vI x1), (3, vI x3), (4, vI x4), (5, vI x5)]) dX10_tooLate_111 (Nat.le_of_ble_eq_true rfl) rfl ?_
      refine zn_pick [1, 2, 3, 4, 0] rfl ?_
      exact b_X10_tooLate_113 hk32 fu _ _ _ _ _ _ _ h2 hp
    · replace h2 := zif_f c1 h2
      refine zn_iload (pc := 53) 5 dX10_tooLate_53 rfl ?_
      refine zn_iload_n (pc := 55) 2 dX10_tooLate_55 rfl rfl ?_
      have h4 := h2; clear h2
      refine zn_icmp_ge (pc := 56) (tgt := 110) dX10_tooLate_56 (by decide) (fun c3 => ?_) (fun c3 => ?_)
      · replace h4 := zif_t c3 h4
        refine zn_iconst (pc := 110) (x := 0) dX10_tooLate_110 (by decide) ?_
        refine zn_istore (pc := 111) (ls' := [(6, vI 0), (0, vR 40 (some i0)), (1, vI x1), (3, vI x3), (4, vI x4), (5, vI x5)]) dX10_tooLate_111 (Nat.le_of_ble_eq_true rfl) rfl ?_
        refine zn_pick [1, 2, 3, 4, 0] rfl ?_
        exact b_X10_tooLate_113 hk32 fu _ _ _ _ _ _ _ h4 hp
      · replace h4 := zif_f c3 h4
        refine zn_aload_n (pc := 59) 0 dX10_tooLate_59 rfl rfl ?_
        refine zn_getR (pc := 60) fa_X10_148_40.1 fa_X10_148_40.2 dX10_tooLate_60 ?_
        refine zn_iload (pc := 63) 5 dX10_tooLate_63 rfl ?_
        obtain ⟨i5, hi6, h7⟩ := zbd h4; clear h4
        rw [hi6]
        obtain ⟨hb8, h9⟩ := zgdd h7; clear h7
        refine zn_iaload (pc := 65) zk_145 dX10_tooLate_65 (zib_in hb8) ?_
        refine zn_iload (pc := 66) 4 dX10_tooLate_66 rfl ?_
        have h11 := h9; clear h9
        refine zn_icmp_ge (pc := 68) (tgt := 81) dX10_tooLate_68 (by decide) (fun c10 => ?_) (fun c10 => ?_)
        · replace h11 := zif_t c10 h11
          refine zn_iload (pc := 81) 4 dX10_tooLate_81 rfl ?_
          exact b_X10_tooLate_83 hk32 ih h11 hp
        · replace h11 := zif_f c10 h11
          refine zn_aload_n (pc := 71) 0 dX10_tooLate_71 rfl rfl ?_
          refine zn_getR (pc := 72) fa_X10_148_40.1 fa_X10_148_40.2 dX10_tooLate_72 ?_
          refine zn_iload (pc := 75) 5 dX10_tooLate_75 rfl ?_
          obtain ⟨i12, hi13, h14⟩ := zbd h11; clear h11
          rw [hi13]
          obtain ⟨hb15, h16⟩ := zgdd h14; clear h14
          refine zn_iaload (pc := 77) zk_145 dX10_tooLate_77 (zib_in hb15) ?_
          refine zn_goto (pc := 78) (tgt := 83) dX10_tooLate_78 (by decide) ?_
          exact b_X10_tooLate_83 hk32 ih h16 hp
theorem b_X10_tooLate_32 {G : zG} {Post : Option zV → zH → Prop} : ∀ (n : Nat) (i0 : Nat) (x1 : Int32) (x3 : Int32) (x4 : Int32) (S : zH) (out : (Int32 × zH)), f_X10_tooLate_32 n i0 x1 x3 x4 S = some out → Post (some (vI out.1)) out.2 → zn G M_X10_tooLate 1 0 0 32 [(0, vR 40 (some i0)), (1, vI x1), (3, vI x3), (4, vI x4)] [] S Post := by
  intro n
  induction n with
  | zero => intro i0 x1 x3 x4 S out h0 hp; exact (nomatch (show (none : Option _) = some out from h0))
  | succ n ih =>
    intro i0 x1 x3 x4 S out h0 hp
    rw [f_X10_tooLate_32] at h0
    refine zn_iload (pc := 32) 3 dX10_tooLate_32 rfl ?_
    refine zn_iload_n (pc := 34) 2 dX10_tooLate_34 rfl rfl ?_
    refine zn_iconst (pc := 35) (x := 2) dX10_tooLate_35 (by decide) ?_
    refine zn_iadd (pc := 36) dX10_tooLate_36 ?_
    have h2 := h0; clear h0
    refine zn_icmp_ge (pc := 37) (tgt := 153) dX10_tooLate_37 (by decide) (fun c1 => ?_) (fun c1 => ?_)
    · replace h2 := zif_t c1 h2
      refine zn_bipush (pc := 153) (x := (-9)) dX10_tooLate_153 (by decide) ?_
      have hz := Option.some.inj h2; clear h2; subst hz
      exact zn_ireturn (pc := 155) dX10_tooLate_155 rfl hp
    · replace h2 := zif_f c1 h2
      refine zn_iload_n (pc := 40) 1 dX10_tooLate_40 rfl rfl ?_
      refine zn_istore (pc := 41) (ls' := [(5, vI x1), (0, vR 40 (some i0)), (1, vI x1), (3, vI x3), (4, vI x4)]) dX10_tooLate_41 (Nat.le_of_ble_eq_true rfl) rfl ?_
      refine zn_iconst (pc := 43) (x := 0) dX10_tooLate_43 (by decide) ?_
      refine zn_istore (pc := 44) (ls' := [(6, vI 0), (5, vI x1), (0, vR 40 (some i0)), (1, vI x1), (3, vI x3), (4, vI x4)]) dX10_tooLate_44 (Nat.le_of_ble_eq_true rfl) rfl ?_
      refine zn_pick [2, 3, 4, 5, 1, 0] rfl ?_
      exact b_X10_tooLate_46 ih fu _ _ _ _ _ _ _ _ h2 hp
theorem c_X10_tooLate {G : zG} {i0 : Nat} {x1 : Int32} {S : zH} {out : (Int32 × zH)} (h0 : f_X10_tooLate i0 x1 S = some out) : zct G M_X10_tooLate 1 0 0 [vR 40 (some i0), vI x1] S (zpo (some (vI out.1)) out.2) := by
  refine zct_of (by decide) (Nat.le_of_ble_eq_true rfl) ?_
  show zn G M_X10_tooLate 1 0 0 0 [(0, vR 40 (some i0)), (1, vI x1)] [] S _
  have hp : zpo (some (vI out.1)) out.2 (some (vI out.1)) out.2 := ⟨rfl, rfl⟩
  unfold f_X10_tooLate at h0
  refine zn_iload_n (pc := 0) 1 dX10_tooLate_0 rfl rfl ?_
  refine zn_iconst (pc := 1) (x := 0) dX10_tooLate_1 (by decide) ?_
  refine zn_sipush (pc := 2) (x := 999) dX10_tooLate_2 (by decide) ?_
  obtain ⟨o3, e4, h5⟩ := zbd h0; clear h0
  refine zn_cSv (pc := 5) (kc := 0) (ks := 0) (kc' := 0) (ks' := 0) (As := [vI x1, vI 0, vI 999]) (st := []) dX10_tooLate_5 cs_X10_187 rfl rfl (Nat.le_of_ble_eq_true rfl) ((c_X10_within e4).mono (Nat.le_of_ble_eq_true rfl)) ?_
  refine zn_istore_n (pc := 8) (ls' := [(2, vI o3), (0, vR 40 (some i0)), (1, vI x1)]) dX10_tooLate_8 rfl (Nat.le_of_ble_eq_true rfl) rfl ?_
  refine zn_iload_n (pc := 9) 0 dX10_tooLate_9 rfl rfl ?_
  have h7 := h5; clear h5
  refine zn_if_eq (pc := 10) (tgt := 19) dX10_tooLate_10 (by decide) (fun c6 => ?_) (fun c6 => ?_)
  · replace h7 := zif_t c6 h7
    refine zn_aload_n (pc := 19) 1 dX10_tooLate_19 rfl rfl ?_
    refine zn_getI (pc := 20) fa_X10_329_40.1 fa_X10_329_40.2 dX10_tooLate_20 ?_
    refine zn_istore_n (pc := 23) (ls' := [(3, vI (zI S 40 i0 56)), (2, vI o3), (0, vR 40 (some i0)), (1, vI x1)]) dX10_tooLate_23 rfl (Nat.le_of_ble_eq_true rfl) rfl ?_
    refine zn_aload_n (pc := 24) 2 dX10_tooLate_24 rfl rfl ?_
    refine zn_iconst (pc := 25) (x := 0) dX10_tooLate_25 (by decide) ?_
    obtain ⟨S8, hS9, h10⟩ := zltd h7; clear h7
    refine zn_putI (pc := 26) fp_X10_329_40.1 (fp_X10_329_40 (nm := "")).2 dX10_tooLate_26 hS9 ?_
    refine zn_iconst (pc := 29) (x := 0) dX10_tooLate_29 (by decide) ?_
    refine zn_istore (pc := 30) (ls' := [(4, vI 0), (3, vI (zI S 40 i0 56)), (2, vI o3), (0, vR 40 (some i0)), (1, vI x1)]) dX10_tooLate_30 (Nat.le_of_ble_eq_true rfl) rfl ?_
    refine zn_pick [3, 4, 1, 0] rfl ?_
    exact b_X10_tooLate_32  fu _ _ _ _ _ _ h10 hp
  · replace h7 := zif_f c6 h7
    refine zn_aload_n (pc := 13) 1 dX10_tooLate_13 rfl rfl ?_
    refine zn_iload_n (pc := 14) 0 dX10_tooLate_14 rfl rfl ?_
    obtain ⟨o11, e12, h13⟩ := zbd h7; clear h7
    refine zn_cVv (pc := 15) (kc := 0) (ks := 0) (kc' := 0) (ks' := 0) (As := [vI o3]) (st := []) dX10_tooLate_15 cs_X10_163 pc_40 rfl rfl (Nat.le_of_ble_eq_true rfl) ((c_X10_refuse e12).mono (Nat.le_of_ble_eq_true rfl)) ?_
    have hz := Option.some.inj h13; clear h13; subst hz
    exact zn_ireturn (pc := 18) dX10_tooLate_18 rfl hp
theorem b_X10_count_96 {G : zG} {Post : Option zV → zH → Prop} : ∀ (n : Nat) (i0 : Nat) (x2 : Int32) (x3 : Int32) (S : zH) (out : Int32), f_X10_count_96 n i0 x2 x3 S = some out → Post (some (vI out)) S → zn G M_X10_count 0 0 0 96 [(0, vR 40 (some i0)), (2, vI x2), (3, vI x3)] [] S Post := by
  intro n
  induction n with
  | zero => intro i0 x2 x3 S out h0 hp; exact (nomatch (show (none : Option _) = some out from h0))
  | succ n ih =>
    intro i0 x2 x3 S out h0 hp
    rw [f_X10_count_96] at h0
    refine zn_iload_n (pc := 96) 2 dX10_count_96 rfl rfl ?_
    refine zn_aload_n (pc := 97) 0 dX10_count_97 rfl rfl ?_
    refine zn_getI (pc := 98) fa_X10_171_40.1 fa_X10_171_40.2 dX10_count_98 ?_
    have h2 := h0; clear h0
    refine zn_icmp_ge (pc := 101) (tgt := 127) dX10_count_101 (by decide) (fun c1 => ?_) (fun c1 => ?_)
    · replace h2 := zif_t c1 h2
      refine zn_iload_n (pc := 127) 1 dX10_count_127 rfl rfl ?_
      have hz := Option.some.inj h2; clear h2; subst hz
      exact zn_ireturn (pc := 128) dX10_count_128 rfl hp
    · replace h2 := zif_f c1 h2
      refine zn_iload_n (pc := 104) 1 dX10_count_104 rfl rfl ?_
      refine zn_aload_n (pc := 105) 0 dX10_count_105 rfl rfl ?_
      refine zn_getR (pc := 106) fa_X10_53_40.1 fa_X10_53_40.2 dX10_count_106 ?_
      refine zn_iload_n (pc := 109) 2 dX10_count_109 rfl rfl ?_
      obtain ⟨i3, hi4, h5⟩ := zbd h2; clear h2
      rw [hi4]
      obtain ⟨hb6, h7⟩ := zgdd h5; clear h5
      refine zn_iaload (pc := 110) zk_114 dX10_count_110 (zib_in hb6) ?_
      have h9 := h7; clear h7
      refine zn_if_ne (pc := 111) (tgt := 118) dX10_count_111 (by decide) (fun c8 => ?_) (fun c8 => ?_)
      · replace h9 := zif_f c8 h9
        refine zn_iconst (pc := 118) (x := 0) dX10_count_118 (by decide) ?_
        refine zn_iadd (pc := 119) dX10_count_119 ?_
        refine zn_istore_n (pc := 120) (ls' := [(2, vI (x2 + 0)), (0, vR 40 (some i0)), (3, vI x3)]) dX10_count_120 rfl (Nat.le_of_ble_eq_true rfl) rfl ?_
        refine zn_iinc (pc := 121) 2 (y := x3 + 1) (ls' := [(3, vI (x3 + 1)), (2, vI (x2 + 0)), (0, vR 40 (some i0))]) dX10_count_121 rfl rfl (Nat.le_of_ble_eq_true rfl) rfl ?_
        refine zn_goto (pc := 124) (tgt := 96) dX10_count_124 (by decide) ?_
        refine zn_pick [2, 1, 0] rfl ?_
        exact ih _ _ _ _ _ h9 hp
      · replace h9 := zif_t c8 h9
        refine zn_iconst (pc := 114) (x := 1) dX10_count_114 (by decide) ?_
        refine zn_goto (pc := 115) (tgt := 119) dX10_count_115 (by decide) ?_
        refine zn_iadd (pc := 119) dX10_count_119 ?_
        refine zn_istore_n (pc := 120) (ls' := [(2, vI (x2 + 1)), (0, vR 40 (some i0)), (3, vI x3)]) dX10_count_120 rfl (Nat.le_of_ble_eq_true rfl) rfl ?_
        refine zn_iinc (pc := 121) 2 (y := x3 + 1) (ls' := [(3, vI (x3 + 1)), (2, vI (x2 + 1)), (0, vR 40 (some i0))]) dX10_count_121 rfl rfl (Nat.le_of_ble_eq_true rfl) rfl ?_
        refine zn_goto (pc := 124) (tgt := 96) dX10_count_124 (by decide) ?_
        refine zn_pick [2, 1, 0] rfl ?_
        exact ih _ _ _ _ _ h9 hp
theorem b_X10_count_131 {G : zG} {Post : Option zV → zH → Prop} : ∀ (n : Nat) (i0 : Nat) (x2 : Int32) (x3 : Int32) (S : zH) (out : Int32), f_X10_count_131 n i0 x2 x3 S = some out → Post (some (vI out)) S → zn G M_X10_count 0 0 0 131 [(0, vR 40 (some i0)), (2, vI x2), (3, vI x3)] [] S Post := by
  intro n
  induction n with
  | zero => intro i0 x2 x3 S out h0 hp; exact (nomatch (show (none : Option _) = some out from h0))
  | succ n ih =>
    intro i0 x2 x3 S out h0 hp
    rw [f_X10_count_131] at h0
    refine zn_iload_n (pc := 131) 2 dX10_count_131 rfl rfl ?_
    refine zn_aload_n (pc := 132) 0 dX10_count_132 rfl rfl ?_
    refine zn_getI (pc := 133) fa_X10_287_40.1 fa_X10_287_40.2 dX10_count_133 ?_
    have h2 := h0; clear h0
    refine zn_icmp_ge (pc := 136) (tgt := 162) dX10_count_136 (by decide) (fun c1 => ?_) (fun c1 => ?_)
    · replace h2 := zif_t c1 h2
      refine zn_iload_n (pc := 162) 1 dX10_count_162 rfl rfl ?_
      have hz := Option.some.inj h2; clear h2; subst hz
      exact zn_ireturn (pc := 163) dX10_count_163 rfl hp
    · replace h2 := zif_f c1 h2
      refine zn_iload_n (pc := 139) 1 dX10_count_139 rfl rfl ?_
      refine zn_aload_n (pc := 140) 0 dX10_count_140 rfl rfl ?_
      refine zn_getR (pc := 141) fa_X10_90_40.1 fa_X10_90_40.2 dX10_count_141 ?_
      refine zn_iload_n (pc := 144) 2 dX10_count_144 rfl rfl ?_
      obtain ⟨i3, hi4, h5⟩ := zbd h2; clear h2
      rw [hi4]
      obtain ⟨hb6, h7⟩ := zgdd h5; clear h5
      refine zn_iaload (pc := 145) zk_126 dX10_count_145 (zib_in hb6) ?_
      have h9 := h7; clear h7
      refine zn_if_ge (pc := 146) (tgt := 153) dX10_count_146 (by decide) (fun c8 => ?_) (fun c8 => ?_)
      · replace h9 := zif_t c8 h9
        refine zn_iconst (pc := 153) (x := 0) dX10_count_153 (by decide) ?_
        refine zn_iadd (pc := 154) dX10_count_154 ?_
        refine zn_istore_n (pc := 155) (ls' := [(2, vI (x2 + 0)), (0, vR 40 (some i0)), (3, vI x3)]) dX10_count_155 rfl (Nat.le_of_ble_eq_true rfl) rfl ?_
        refine zn_iinc (pc := 156) 2 (y := x3 + 1) (ls' := [(3, vI (x3 + 1)), (2, vI (x2 + 0)), (0, vR 40 (some i0))]) dX10_count_156 rfl rfl (Nat.le_of_ble_eq_true rfl) rfl ?_
        refine zn_goto (pc := 159) (tgt := 131) dX10_count_159 (by decide) ?_
        refine zn_pick [2, 1, 0] rfl ?_
        exact ih _ _ _ _ _ h9 hp
      · replace h9 := zif_f c8 h9
        refine zn_iconst (pc := 149) (x := 1) dX10_count_149 (by decide) ?_
        refine zn_goto (pc := 150) (tgt := 154) dX10_count_150 (by decide) ?_
        refine zn_iadd (pc := 154) dX10_count_154 ?_
        refine zn_istore_n (pc := 155) (ls' := [(2, vI (x2 + 1)), (0, vR 40 (some i0)), (3, vI x3)]) dX10_count_155 rfl (Nat.le_of_ble_eq_true rfl) rfl ?_
        refine zn_iinc (pc := 156) 2 (y := x3 + 1) (ls' := [(3, vI (x3 + 1)), (2, vI (x2 + 1)), (0, vR 40 (some i0))]) dX10_count_156 rfl rfl (Nat.le_of_ble_eq_true rfl) rfl ?_
        refine zn_goto (pc := 159) (tgt := 131) dX10_count_159 (by decide) ?_
        refine zn_pick [2, 1, 0] rfl ?_
        exact ih _ _ _ _ _ h9 hp
theorem b_X10_count_171 {G : zG} {Post : Option zV → zH → Prop} : ∀ (n : Nat) (i0 : Nat) (x2 : Int32) (x3 : Int32) (S : zH) (out : Int32), f_X10_count_171 n i0 x2 x3 S = some out → Post (some (vI out)) S → zn G M_X10_count 0 0 0 171 [(0, vR 40 (some i0)), (2, vI x2), (3, vI x3)] [] S Post := by
  intro n
  induction n with
  | zero => intro i0 x2 x3 S out h0 hp; exact (nomatch (show (none : Option _) = some out from h0))
  | succ n ih =>
    intro i0 x2 x3 S out h0 hp
    rw [f_X10_count_171] at h0
    refine zn_iload_n (pc := 171) 2 dX10_count_171 rfl rfl ?_
    refine zn_aload_n (pc := 172) 0 dX10_count_172 rfl rfl ?_
    refine zn_getI (pc := 173) fa_X10_211_40.1 fa_X10_211_40.2 dX10_count_173 ?_
    have h2 := h0; clear h0
    refine zn_icmp_ge (pc := 176) (tgt := 202) dX10_count_176 (by decide) (fun c1 => ?_) (fun c1 => ?_)
    · replace h2 := zif_t c1 h2
      refine zn_iload_n (pc := 202) 1 dX10_count_202 rfl rfl ?_
      have hz := Option.some.inj h2; clear h2; subst hz
      exact zn_ireturn (pc := 203) dX10_count_203 rfl hp
    · replace h2 := zif_f c1 h2
      refine zn_iload_n (pc := 179) 1 dX10_count_179 rfl rfl ?_
      refine zn_aload_n (pc := 180) 0 dX10_count_180 rfl rfl ?_
      refine zn_getR (pc := 181) fa_X10_126_40.1 fa_X10_126_40.2 dX10_count_181 ?_
      refine zn_iload_n (pc := 184) 2 dX10_count_184 rfl rfl ?_
      obtain ⟨i3, hi4, h5⟩ := zbd h2; clear h2
      rw [hi4]
      obtain ⟨hb6, h7⟩ := zgdd h5; clear h5
      refine zn_baload (pc := 185) zk_138 dX10_count_185 (zib_in hb6) ?_
      have h9 := h7; clear h7
      refine zn_if_eq (pc := 186) (tgt := 193) dX10_count_186 (by decide) (fun c8 => ?_) (fun c8 => ?_)
      · replace h9 := zif_t c8 h9
        refine zn_iconst (pc := 193) (x := 0) dX10_count_193 (by decide) ?_
        refine zn_iadd (pc := 194) dX10_count_194 ?_
        refine zn_istore_n (pc := 195) (ls' := [(2, vI (x2 + 0)), (0, vR 40 (some i0)), (3, vI x3)]) dX10_count_195 rfl (Nat.le_of_ble_eq_true rfl) rfl ?_
        refine zn_iinc (pc := 196) 2 (y := x3 + 1) (ls' := [(3, vI (x3 + 1)), (2, vI (x2 + 0)), (0, vR 40 (some i0))]) dX10_count_196 rfl rfl (Nat.le_of_ble_eq_true rfl) rfl ?_
        refine zn_goto (pc := 199) (tgt := 171) dX10_count_199 (by decide) ?_
        refine zn_pick [2, 1, 0] rfl ?_
        exact ih _ _ _ _ _ h9 hp
      · replace h9 := zif_f c8 h9
        refine zn_iconst (pc := 189) (x := 1) dX10_count_189 (by decide) ?_
        refine zn_goto (pc := 190) (tgt := 194) dX10_count_190 (by decide) ?_
        refine zn_iadd (pc := 194) dX10_count_194 ?_
        refine zn_istore_n (pc := 195) (ls' := [(2, vI (x2 + 1)), (0, vR 40 (some i0)), (3, vI x3)]) dX10_count_195 rfl (Nat.le_of_ble_eq_true rfl) rfl ?_
        refine zn_iinc (pc := 196) 2 (y := x3 + 1) (ls' := [(3, vI (x3 + 1)), (2, vI (x2 + 1)), (0, vR 40 (some i0))]) dX10_count_196 rfl rfl (Nat.le_of_ble_eq_true rfl) rfl ?_
        refine zn_goto (pc := 199) (tgt := 171) dX10_count_199 (by decide) ?_
        refine zn_pick [2, 1, 0] rfl ?_
        exact ih _ _ _ _ _ h9 hp
theorem b_X10_count_22 {G : zG} {Post : Option zV → zH → Prop} {i0 : Nat} {x1 : Int32} {S : zH} {out : Int32} (h0 : f_X10_count_22 i0 x1 S = some out) (hp : Post (some (vI out)) S) : zn G M_X10_count 0 0 0 22 [(0, vR 40 (some i0)), (1, vI x1)] [] S Post := by
  unfold f_X10_count_22 at h0
  refine zn_iconst (pc := 22) (x := 0) dX10_count_22 (by decide) ?_
  refine zn_istore_n (pc := 23) (ls' := [(2, vI 0), (0, vR 40 (some i0)), (1, vI x1)]) dX10_count_23 rfl (Nat.le_of_ble_eq_true rfl) rfl ?_
  refine zn_iload_n (pc := 24) 2 dX10_count_24 rfl rfl ?_
  have h2 := h0; clear h0
  by_cases c1 : x1 = 0
  · replace h2 := zif_t c1 h2
    refine zn_tsIn (pc := 25) (tgt := 84) (off := 59) dX10_count_25 c1 (by decide) (by decide) ?_
    refine zn_aload_n (pc := 84) 1 dX10_count_84 rfl rfl ?_
    refine zn_getI (pc := 85) fa_X10_177_40.1 fa_X10_177_40.2 dX10_count_85 ?_
    have hz := Option.some.inj h2; clear h2; subst hz
    exact zn_ireturn (pc := 88) dX10_count_88 rfl hp
  · replace h2 := zif_f c1 h2
    have h4 := h2; clear h2
    by_cases c3 : x1 = 1
    · replace h4 := zif_t c3 h4
      refine zn_tsIn (pc := 25) (tgt := 89) (off := 64) dX10_count_25 c3 (by decide) (by decide) ?_
      refine zn_aload_n (pc := 89) 1 dX10_count_89 rfl rfl ?_
      refine zn_getI (pc := 90) fa_X10_171_40.1 fa_X10_171_40.2 dX10_count_90 ?_
      have hz := Option.some.inj h4; clear h4; subst hz
      exact zn_ireturn (pc := 93) dX10_count_93 rfl hp
    · replace h4 := zif_f c3 h4
      have h6 := h4; clear h4
      by_cases c5 : x1 = 2
      · replace h6 := zif_t c5 h6
        refine zn_tsIn (pc := 25) (tgt := 94) (off := 69) dX10_count_25 c5 (by decide) (by decide) ?_
        refine zn_iconst (pc := 94) (x := 0) dX10_count_94 (by decide) ?_
        refine zn_istore_n (pc := 95) (ls' := [(3, vI 0), (2, vI 0), (0, vR 40 (some i0)), (1, vI x1)]) dX10_count_95 rfl (Nat.le_of_ble_eq_true rfl) rfl ?_
        refine zn_pick [2, 1, 0] rfl ?_
        exact b_X10_count_96  fu _ _ _ _ _ h6 hp
      · replace h6 := zif_f c5 h6
        have h8 := h6; clear h6
        by_cases c7 : x1 = 3
        · replace h8 := zif_t c7 h8
          refine zn_tsIn (pc := 25) (tgt := 129) (off := 104) dX10_count_25 c7 (by decide) (by decide) ?_
          refine zn_iconst (pc := 129) (x := 0) dX10_count_129 (by decide) ?_
          refine zn_istore_n (pc := 130) (ls' := [(3, vI 0), (2, vI 0), (0, vR 40 (some i0)), (1, vI x1)]) dX10_count_130 rfl (Nat.le_of_ble_eq_true rfl) rfl ?_
          refine zn_pick [2, 1, 0] rfl ?_
          exact b_X10_count_131  fu _ _ _ _ _ h8 hp
        · replace h8 := zif_f c7 h8
          have h10 := h8; clear h8
          by_cases c9 : x1 = 4
          · replace h10 := zif_t c9 h10
            refine zn_tsIn (pc := 25) (tgt := 164) (off := 139) dX10_count_25 c9 (by decide) (by decide) ?_
            refine zn_aload_n (pc := 164) 1 dX10_count_164 rfl rfl ?_
            refine zn_getI (pc := 165) fa_X10_211_40.1 fa_X10_211_40.2 dX10_count_165 ?_
            have hz := Option.some.inj h10; clear h10; subst hz
            exact zn_ireturn (pc := 168) dX10_count_168 rfl hp
          · replace h10 := zif_f c9 h10
            have h12 := h10; clear h10
            by_cases c11 : x1 = 5
            · replace h12 := zif_t c11 h12
              refine zn_tsIn (pc := 25) (tgt := 169) (off := 144) dX10_count_25 c11 (by decide) (by decide) ?_
              refine zn_iconst (pc := 169) (x := 0) dX10_count_169 (by decide) ?_
              refine zn_istore_n (pc := 170) (ls' := [(3, vI 0), (2, vI 0), (0, vR 40 (some i0)), (1, vI x1)]) dX10_count_170 rfl (Nat.le_of_ble_eq_true rfl) rfl ?_
              refine zn_pick [2, 1, 0] rfl ?_
              exact b_X10_count_171  fu _ _ _ _ _ h12 hp
            · replace h12 := zif_f c11 h12
              have h14 := h12; clear h12
              by_cases c13 : x1 = 6
              · replace h14 := zif_t c13 h14
                refine zn_tsIn (pc := 25) (tgt := 204) (off := 179) dX10_count_25 c13 (by decide) (by decide) ?_
                refine zn_aload_n (pc := 204) 1 dX10_count_204 rfl rfl ?_
                refine zn_getI (pc := 205) fa_X10_281_40.1 fa_X10_281_40.2 dX10_count_205 ?_
                have hz := Option.some.inj h14; clear h14; subst hz
                exact zn_ireturn (pc := 208) dX10_count_208 rfl hp
              · replace h14 := zif_f c13 h14
                have h16 := h14; clear h14
                by_cases c15 : x1 = 7
                · replace h16 := zif_t c15 h16
                  refine zn_tsIn (pc := 25) (tgt := 209) (off := 184) dX10_count_25 c15 (by decide) (by decide) ?_
                  refine zn_aload_n (pc := 209) 1 dX10_count_209 rfl rfl ?_
                  refine zn_getI (pc := 210) fa_X10_230_40.1 fa_X10_230_40.2 dX10_count_210 ?_
                  have hz := Option.some.inj h16; clear h16; subst hz
                  exact zn_ireturn (pc := 213) dX10_count_213 rfl hp
                · replace h16 := zif_f c15 h16
                  have h18 := h16; clear h16
                  by_cases c17 : x1 = 8
                  · replace h18 := zif_t c17 h18
                    refine zn_tsIn (pc := 25) (tgt := 214) (off := 189) dX10_count_25 c17 (by decide) (by decide) ?_
                    refine zn_aload_n (pc := 214) 1 dX10_count_214 rfl rfl ?_
                    refine zn_getI (pc := 215) fa_X10_326_40.1 fa_X10_326_40.2 dX10_count_215 ?_
                    have hz := Option.some.inj h18; clear h18; subst hz
                    exact zn_ireturn (pc := 218) dX10_count_218 rfl hp
                  · replace h18 := zif_f c17 h18
                    have h20 := h18; clear h18
                    by_cases c19 : x1 = 9
                    · replace h20 := zif_t c19 h20
                      refine zn_tsIn (pc := 25) (tgt := 219) (off := 194) dX10_count_25 c19 (by decide) (by decide) ?_
                      refine zn_aload_n (pc := 219) 1 dX10_count_219 rfl rfl ?_
                      refine zn_getI (pc := 220) fa_X10_329_40.1 fa_X10_329_40.2 dX10_count_220 ?_
                      have hz := Option.some.inj h20; clear h20; subst hz
                      exact zn_ireturn (pc := 223) dX10_count_223 rfl hp
                    · replace h20 := zif_f c19 h20
                      have h22 := h20; clear h20
                      by_cases c21 : x1 = 10
                      · replace h22 := zif_t c21 h22
                        refine zn_tsIn (pc := 25) (tgt := 224) (off := 199) dX10_count_25 c21 (by decide) (by decide) ?_
                        refine zn_aload_n (pc := 224) 1 dX10_count_224 rfl rfl ?_
                        refine zn_getI (pc := 225) fa_X10_314_40.1 fa_X10_314_40.2 dX10_count_225 ?_
                        have hz := Option.some.inj h22; clear h22; subst hz
                        exact zn_ireturn (pc := 228) dX10_count_228 rfl hp
                      · replace h22 := zif_f c21 h22
                        refine zn_tsOut (pc := 25) (tgt := 229) dX10_count_25 ?_ (by decide) ?_
                        · have t0 := lv_neT c1 (show (0 : Int32).toInt = 0 by decide)
                          have t1 := lv_neT c3 (show (1 : Int32).toInt = 1 by decide)
                          have t2 := lv_neT c5 (show (2 : Int32).toInt = 2 by decide)
                          have t3 := lv_neT c7 (show (3 : Int32).toInt = 3 by decide)
                          have t4 := lv_neT c9 (show (4 : Int32).toInt = 4 by decide)
                          have t5 := lv_neT c11 (show (5 : Int32).toInt = 5 by decide)
                          have t6 := lv_neT c13 (show (6 : Int32).toInt = 6 by decide)
                          have t7 := lv_neT c15 (show (7 : Int32).toInt = 7 by decide)
                          have t8 := lv_neT c17 (show (8 : Int32).toInt = 8 by decide)
                          have t9 := lv_neT c19 (show (9 : Int32).toInt = 9 by decide)
                          have t10 := lv_neT c21 (show (10 : Int32).toInt = 10 by decide)
                          omega
                        · refine zn_bipush (pc := 229) (x := (-9)) dX10_count_229 (by decide) ?_
                          have hz := Option.some.inj h22; clear h22; subst hz
                          exact zn_ireturn (pc := 231) dX10_count_231 rfl hp
theorem c_X10_count {G : zG} {i0 : Nat} {x1 : Int32} {S : zH} {out : Int32} (h0 : f_X10_count i0 x1 S = some out) : zct G M_X10_count 0 0 0 [vR 40 (some i0), vI x1] S (zpo (some (vI out)) S) := by
  refine zct_of (by decide) (Nat.le_of_ble_eq_true rfl) ?_
  show zn G M_X10_count 0 0 0 0 [(0, vR 40 (some i0)), (1, vI x1)] [] S _
  have hp : zpo (some (vI out)) S (some (vI out)) S := ⟨rfl, rfl⟩
  unfold f_X10_count at h0
  refine zn_iload_n (pc := 0) 1 dX10_count_0 rfl rfl ?_
  refine zn_bipush (pc := 1) (x := 10) dX10_count_1 (by decide) ?_
  have h24 := h0; clear h0
  refine zn_icmp_le (pc := 3) (tgt := 22) dX10_count_3 (by decide) (fun c23 => ?_) (fun c23 => ?_)
  · replace h24 := zif_t c23 h24
    exact b_X10_count_22  h24 hp
  · replace h24 := zif_f c23 h24
    refine zn_iload_n (pc := 6) 1 dX10_count_6 rfl rfl ?_
    refine zn_bipush (pc := 7) (x := 17) dX10_count_7 (by decide) ?_
    have h26 := h24; clear h24
    refine zn_icmp_ge (pc := 9) (tgt := 22) dX10_count_9 (by decide) (fun c25 => ?_) (fun c25 => ?_)
    · replace h26 := zif_t c25 h26
      exact b_X10_count_22  h26 hp
    · replace h26 := zif_f c25 h26
      refine zn_aload_n (pc := 12) 0 dX10_count_12 rfl rfl ?_
      refine zn_getR (pc := 13) fa_X10_7_40.1 fa_X10_7_40.2 dX10_count_13 ?_
      refine zn_iload_n (pc := 16) 1 dX10_count_16 rfl rfl ?_
      refine zn_bipush (pc := 17) (x := 10) dX10_count_17 (by decide) ?_
      refine zn_isub (pc := 19) dX10_count_19 ?_
      obtain ⟨i27, hi28, h29⟩ := zbd h26; clear h26
      rw [hi28]
      obtain ⟨hb30, h31⟩ := zgdd h29; clear h29
      refine zn_iaload (pc := 20) zk_100 dX10_count_20 (zib_in hb30) ?_
      have hz := Option.some.inj h31; clear h31; subst hz
      exact zn_ireturn (pc := 21) dX10_count_21 rfl hp
