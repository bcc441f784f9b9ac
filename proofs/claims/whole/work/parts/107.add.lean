/-! ===== ArrayList.add ===== -/
theorem zcpR_0 (S : zH) (p a b : Nat) : zcpR S p a b 0 = S := by
  unfold zcpR
  obtain ⟨s1, s2, s3, s4, s5⟩ := S
  simp
/-- how a row grows -/
theorem jgw : ∀ L, L < 51 → L ≠ 0 → L ≠ 1 → (nI L + (if (nI L + 1 - nI L) < (nI L >>> ((1 : Int32) &&& 31)) then (nI L >>> ((1 : Int32) &&& 31)) else (nI L + 1 - nI L))) = nI (L + L / 2) := by decide +kernel
section ZADD
variable {G : zG} {D kc ks : Nat} {S : zH} {p i : Nat}
theorem zc_nlen {x y z r : Int32} (hr : x + (if y < z then z else y) = r) (h1 : ¬ r ≤ 0) (h2 : ¬ 2147483639 < r) : zct G M_J8_newLength_cabcc 1 0 0 [vI x, vI y, vI z] S (zpo (some (vI r)) S) := by
  refine zct_of (by decide) (Nat.le_of_ble_eq_true rfl) ?_
  show zn G M_J8_newLength_cabcc 1 0 0 0 [(0, vI x), (1, vI y), (2, vI z)] [] S _
  refine zn_iload_n (pc := 0) 0 dJ8_newLength_cabcc_0 rfl rfl ?_
  refine zn_iload_n (pc := 1) 1 dJ8_newLength_cabcc_1 rfl rfl ?_
  refine zn_iload_n (pc := 2) 2 dJ8_newLength_cabcc_2 rfl rfl ?_
  refine zn_mmax (pc := 3) dJ8_newLength_cabcc_3 ml_J8_194 ws_max.1 ws_max.2.1 ws_max.2.2 (Nat.le_of_ble_eq_true rfl) ?_
  refine zn_iadd (pc := 6) dJ8_newLength_cabcc_6 ?_
  rw [hr]
  refine zn_istore_n (pc := 7) (ls' := [(3, vI r), (0, vI x), (1, vI y), (2, vI z)]) dJ8_newLength_cabcc_7 rfl (Nat.le_of_ble_eq_true rfl) rfl ?_
  refine zn_iconst (pc := 8) (x := 0) dJ8_newLength_cabcc_8 (by decide) ?_
  refine zn_iload_n (pc := 9) 0 dJ8_newLength_cabcc_9 rfl rfl ?_
  refine zn_icmp_ge (pc := 10) (tgt := 21) dJ8_newLength_cabcc_10 (by decide) (fun q => absurd q h1) (fun _ => ?_)
  refine zn_iload_n (pc := 13) 0 dJ8_newLength_cabcc_13 rfl rfl ?_
  refine zn_ldc (pc := 14) dJ8_newLength_cabcc_14 w1_J8_200 ?_
  refine zn_icmp_gt (pc := 16) (tgt := 21) dJ8_newLength_cabcc_16 (by decide) (fun q => absurd q h2) (fun _ => ?_)
  refine zn_iload_n (pc := 19) 0 dJ8_newLength_cabcc_19 rfl rfl ?_
  exact zn_ireturn (pc := 20) dJ8_newLength_cabcc_20 rfl ⟨rfl, rfl⟩
theorem zc_grow1 {a L : Nat} {m : Int32} (hp : 10 ≤ p ∧ p ≤ 13) (ha : zR S p i 1 = some a) (hL : zL S (p + 4) a = L) (hm : m = nI L + 1) (h50 : L ≤ 50) (h1 : ¬ L = 1) (h00 : a = 0 ↔ L = 0) (h0 : 0 < zN S (p + 4)) :
    zct G M_Jx4a65c_grow_92f84 3 1 80 [vR p (some i), vI m] S (zpo (some (vR (p + 4) (some (zN S (p + 4))))) (zsR (zcpR (znw S (p + 4) (zl_grow L)) (p + 4) a (zN S (p + 4)) L) p i 1 (some (zN S (p + 4))))) := by
  refine zct_of (by decide) (Nat.le_of_ble_eq_true rfl) ?_
  show zn G M_Jx4a65c_grow_92f84 3 1 80 0 [(0, vR p (some i)), (1, vI m)] [] S _
  refine zn_aload_n (pc := 0) 0 dJx4a65c_grow_92f84_0 rfl rfl ?_
  refine zn_getR (pc := 1) (jfe hp).1 (jfe hp).2 dJx4a65c_grow_92f84_1 ?_
  rw [ha]
  refine zn_alen (pc := 4) (jk hp) rfl dJx4a65c_grow_92f84_4 ?_
  rw [hL]
  refine zn_istore_n (pc := 5) (ls' := [(2, vI (nI L)), (0, vR p (some i)), (1, vI m)]) dJx4a65c_grow_92f84_5 rfl (Nat.le_of_ble_eq_true rfl) rfl ?_
  refine zn_iload_n (pc := 6) 0 dJx4a65c_grow_92f84_6 rfl rfl ?_
  by_cases hL0 : L = 0
  · have ha0 : a = 0 := h00.mpr hL0
    subst ha0
    refine zn_if_gt (pc := 7) (tgt := 20) dJx4a65c_grow_92f84_7 (by decide) (fun q => absurd q (by rw [hL0]; decide)) (fun _ => ?_)
    refine zn_aload_n (pc := 10) 1 dJx4a65c_grow_92f84_10 rfl rfl ?_
    refine zn_getR (pc := 11) (jfe hp).1 (jfe hp).2 dJx4a65c_grow_92f84_11 ?_
    rw [ha]
    refine zn_empty (pc := 14) hp h0 rfl dJx4a65c_grow_92f84_14 ?_
    refine zn_acmp_same (pc := 17) (tgt := 45) dJx4a65c_grow_92f84_17 (by decide) ?_
    refine zn_aload_n (pc := 45) 1 dJx4a65c_grow_92f84_45 rfl rfl ?_
    refine zn_bipush (pc := 46) (x := 10) dJx4a65c_grow_92f84_46 (by decide) ?_
    refine zn_iload_n (pc := 48) 2 dJx4a65c_grow_92f84_48 rfl rfl ?_
    refine zn_mmax (pc := 49) dJx4a65c_grow_92f84_49 ml_Jx4a65c_79 ws_max.1 ws_max.2.1 ws_max.2.2 (Nat.le_of_ble_eq_true rfl) ?_
    have hx : (if (10 : Int32) < m then m else 10) = 10 := by rw [hm, hL0]; decide
    rw [hx]
    have hz : zcpR (znw S (p + 4) (zl_grow L)) (p + 4) 0 (zN S (p + 4)) L = znw S (p + 4) 10 := by rw [hL0]; exact zcpR_0 _ _ _ _
    rw [hz]
    refine zn_newO (pc := 52) (kc := 0) (ks := 0) (n := 10) (M := M_Jx4a65c_grow_92f84) (jk hp) h0 cl_Jx4a65c_7 dJx4a65c_grow_92f84_52 (by decide) (by decide) (by decide) rfl (ks0 := 80) (by decide) ?_
    refine zn_dupx1 (pc := 55) dJx4a65c_grow_92f84_55 rfl rfl ?_
    refine zn_putR (pc := 56) (jpe hp) (Or.inr ⟨_, rfl⟩) (jfe hp).2 dJx4a65c_grow_92f84_56 rfl ?_
    exact zn_areturn (pc := 59) dJx4a65c_grow_92f84_59 rfl (Or.inr ⟨_, rfl⟩) ⟨rfl, rfl⟩
  · refine zn_if_gt (pc := 7) (tgt := 20) dJx4a65c_grow_92f84_7 (by decide) (fun _ => ?_) (fun q => absurd (nI_lt (a := 0) (b := L) (by omega) (by omega)) q)
    refine zn_iload_n (pc := 20) 0 dJx4a65c_grow_92f84_20 rfl rfl ?_
    refine zn_iload_n (pc := 21) 2 dJx4a65c_grow_92f84_21 rfl rfl ?_
    refine zn_iload_n (pc := 22) 0 dJx4a65c_grow_92f84_22 rfl rfl ?_
    refine zn_isub (pc := 23) dJx4a65c_grow_92f84_23 ?_
    refine zn_iload_n (pc := 24) 0 dJx4a65c_grow_92f84_24 rfl rfl ?_
    refine zn_iconst (pc := 25) (x := 1) dJx4a65c_grow_92f84_25 (by decide) ?_
    refine zn_ishr (pc := 26) dJx4a65c_grow_92f84_26 ?_
    have hr := jgw L (by omega) hL0 h1
    rw [← hm] at hr
    have hg : zl_grow L = L + L / 2 := by unfold zl_grow; exact if_neg hL0
    have hcl : (nI (L + L / 2)).toNatClampNeg = L + L / 2 := nI_clamp (by omega)
    refine zn_cSv (pc := 27) (kc := 1) (ks := 80) (kc' := 0) (ks' := 0) (As := [vI (nI L), vI (m - nI L), vI (nI L >>> ((1 : Int32) &&& 31))]) (st := []) dJx4a65c_grow_92f84_27 cs_Jx4a65c_73 rfl rfl (Nat.le_of_ble_eq_true rfl) ((zc_nlen hr (nI_ge (a := 0) (by omega) (by omega)) (nI_nlt (a := 2147483639) (b := L + L / 2) (by omega) (by omega))).mono (by decide)) ?_
    refine zn_istore_n (pc := 30) (ls' := [(3, vI (nI (L + L / 2))), (2, vI (nI L)), (0, vR p (some i)), (1, vI m)]) dJx4a65c_grow_92f84_30 rfl (Nat.le_of_ble_eq_true rfl) rfl ?_
    refine zn_aload_n (pc := 31) 2 dJx4a65c_grow_92f84_31 rfl rfl ?_
    refine zn_aload_n (pc := 32) 2 dJx4a65c_grow_92f84_32 rfl rfl ?_
    refine zn_getR (pc := 33) (jfe hp).1 (jfe hp).2 dJx4a65c_grow_92f84_33 ?_
    rw [ha]
    refine zn_iload_n (pc := 36) 0 dJx4a65c_grow_92f84_36 rfl rfl ?_
    refine zn_cSv (pc := 37) (kc := 0) (ks := 0) (kc' := 1) (ks' := 80) (As := [vR (p + 4) (some a), vI (nI (L + L / 2))]) (st := [vR p (some i)]) dJx4a65c_grow_92f84_37 cs_Jx4a65c_66 rfl rfl (Nat.le_of_ble_eq_true rfl) (zc_cpO hp (nI_pos (by omega)) (by omega) (by rw [hcl]; omega) (by rw [hcl]; omega) h0) ?_
    rw [hcl, hL, hg]
    refine zn_dupx1 (pc := 40) dJx4a65c_grow_92f84_40 rfl rfl ?_
    refine zn_putR (pc := 41) (jpe hp) (Or.inr ⟨_, rfl⟩) (jfe hp).2 dJx4a65c_grow_92f84_41 rfl ?_
    exact zn_areturn (pc := 44) dJx4a65c_grow_92f84_44 rfl (Or.inr ⟨_, rfl⟩) ⟨rfl, rfl⟩
theorem zc_grow0 {a L : Nat} (hp : 10 ≤ p ∧ p ≤ 13) (ha : zR S p i 1 = some a) (hL : zL S (p + 4) a = L) (hs : zI S p i 2 = nI L) (h50 : L ≤ 50) (h1 : ¬ L = 1) (h00 : a = 0 ↔ L = 0) (h0 : 0 < zN S (p + 4)) :
    zct G M_Jx4a65c_grow_d5877 4 1 80 [vR p (some i)] S (zpo (some (vR (p + 4) (some (zN S (p + 4))))) (zsR (zcpR (znw S (p + 4) (zl_grow L)) (p + 4) a (zN S (p + 4)) L) p i 1 (some (zN S (p + 4))))) := by
  refine zct_of (by decide) (Nat.le_of_ble_eq_true rfl) ?_
  show zn G M_Jx4a65c_grow_d5877 4 1 80 0 [(0, vR p (some i))] [] S _
  refine zn_aload_n (pc := 0) 0 dJx4a65c_grow_d5877_0 rfl rfl ?_
  refine zn_aload_n (pc := 1) 0 dJx4a65c_grow_d5877_1 rfl rfl ?_
  refine zn_getI (pc := 2) (jfs hp).1 (jfs hp).2 dJx4a65c_grow_d5877_2 ?_
  refine zn_iconst (pc := 5) (x := 1) dJx4a65c_grow_d5877_5 (by decide) ?_
  refine zn_iadd (pc := 6) dJx4a65c_grow_d5877_6 ?_
  rw [hs]
  refine zn_cVv (pc := 7) (kc := 0) (ks := 0) (kc' := 1) (ks' := 80) (As := [vI (nI L + 1)]) (st := []) dJx4a65c_grow_d5877_7 cs_Jx4a65c_69 (jpc hp) rfl rfl (Nat.le_of_ble_eq_true rfl) (zc_grow1 hp ha hL rfl h50 h1 h00 h0) ?_
  exact zn_areturn (pc := 10) dJx4a65c_grow_d5877_10 rfl (Or.inr ⟨_, rfl⟩) ⟨rfl, rfl⟩
theorem zc_add3 {a w : Nat} {out : zH} (hp : 10 ≤ p ∧ p ≤ 13) (ha : zR S p i 1 = some a)
    (h : (if zI S p i 2 = Int32.ofNat (zL S (p + 4) a) then
      zgd (decide (zL S (p + 4) a ≤ 50 ∧ ¬ zL S (p + 4) a = 1 ∧ (a = 0 ↔ zL S (p + 4) a = 0) ∧ 0 < zN S (p + 4))) (
      some (zsI (zsR (zsR (zcpR (znw S (p + 4) (zl_grow (zL S (p + 4) a))) (p + 4) a (zN S (p + 4)) (zL S (p + 4) a)) p i 1 (some (zN S (p + 4)))) (p + 4) (zN S (p + 4)) (zL S (p + 4) a) (some w)) p i 2 (zI S p i 2 + 1)))
    else zgd (zib (zI S p i 2) (zL S (p + 4) a)) (some (zsI (zsR S (p + 4) a (zI S p i 2).toNatClampNeg (some w)) p i 2 (zI S p i 2 + 1)))) = some out) :
    zct G M_Jx4a65c_add_72be8 5 1 80 [vR p (some i), vR (p - 7) (some w), vR (p + 4) (some a), vI (zI S p i 2)] S (zpo none out) := by
  obtain ⟨C, hC, hca⟩ := jca hp
  refine zct_of (by decide) (Nat.le_of_ble_eq_true rfl) ?_
  show zn G M_Jx4a65c_add_72be8 5 1 80 0 [(0, vR p (some i)), (1, vR (p - 7) (some w)), (2, vR (p + 4) (some a)), (3, vI (zI S p i 2))] [] S _
  refine zn_iload_n (pc := 0) 3 dJx4a65c_add_72be8_0 rfl rfl ?_
  refine zn_aload_n (pc := 1) 2 dJx4a65c_add_72be8_1 rfl rfl ?_
  refine zn_alen (pc := 2) (jk hp) rfl dJx4a65c_add_72be8_2 ?_
  refine zn_icmp_ne (pc := 3) (tgt := 11) dJx4a65c_add_72be8_3 (by decide) (fun q => ?_) (fun q => ?_)
  · have h := zif_f q h
    obtain ⟨hb, h⟩ := zgdd h
    have hz := Option.some.inj h
    refine zn_aload_n (pc := 11) 2 dJx4a65c_add_72be8_11 rfl rfl ?_
    refine zn_iload_n (pc := 12) 3 dJx4a65c_add_72be8_12 rfl rfl ?_
    refine zn_aload_n (pc := 13) 1 dJx4a65c_add_72be8_13 rfl rfl ?_
    refine zn_aastO (pc := 14) (jk hp) hC hca dJx4a65c_add_72be8_14 (zib_in hb) rfl ?_
    refine zn_aload_n (pc := 15) 0 dJx4a65c_add_72be8_15 rfl rfl ?_
    refine zn_iload_n (pc := 16) 3 dJx4a65c_add_72be8_16 rfl rfl ?_
    refine zn_iconst (pc := 17) (x := 1) dJx4a65c_add_72be8_17 (by decide) ?_
    refine zn_iadd (pc := 18) dJx4a65c_add_72be8_18 ?_
    refine zn_putI (pc := 19) (jps hp) (jfs hp).2 dJx4a65c_add_72be8_19 rfl ?_
    exact zn_return (pc := 22) dJx4a65c_add_72be8_22 rfl ⟨rfl, hz⟩
  · have h := zif_t q h
    obtain ⟨hb, h⟩ := zgdd h
    have hz := Option.some.inj h
    have hb := of_decide_eq_true hb
    have hcl : (nI (zL S (p + 4) a)).toNatClampNeg = zL S (p + 4) a := nI_clamp (by omega)
    have q : zI S p i 2 = nI (zL S (p + 4) a) := q
    refine zn_aload_n (pc := 6) 0 dJx4a65c_add_72be8_6 rfl rfl ?_
    refine zn_cVv (pc := 7) (kc := 0) (ks := 0) (kc' := 1) (ks' := 80) (As := []) (st := []) dJx4a65c_add_72be8_7 cs_Jx4a65c_129 (jpc hp) rfl rfl (Nat.le_of_ble_eq_true rfl) (zc_grow0 hp ha rfl q hb.1 hb.2.1 hb.2.2.1 hb.2.2.2) ?_
    refine zn_astore_n (pc := 10) (ls' := [(2, vR (p + 4) (some (zN S (p + 4)))), (0, vR p (some i)), (1, vR (p - 7) (some w)), (3, vI (zI S p i 2))]) dJx4a65c_add_72be8_10 rfl (Nat.le_of_ble_eq_true rfl) rfl ?_
    refine zn_aload_n (pc := 11) 0 dJx4a65c_add_72be8_11 rfl rfl ?_
    refine zn_iload_n (pc := 12) 3 dJx4a65c_add_72be8_12 rfl rfl ?_
    refine zn_aload_n (pc := 13) 2 dJx4a65c_add_72be8_13 rfl rfl ?_
    have hl : zL (zsR (zcpR (znw S (p + 4) (zl_grow (zL S (p + 4) a))) (p + 4) a (zN S (p + 4)) (zL S (p + 4) a)) p i 1 (some (zN S (p + 4)))) (p + 4) (zN S (p + 4)) = zl_grow (zL S (p + 4) a) := by
      show zL (znw S (p + 4) _) (p + 4) (zN S (p + 4)) = _
      rw [zL_nw, if_pos ⟨rfl, rfl⟩]
    refine zn_aastO (pc := 14) (jk hp) hC hca dJx4a65c_add_72be8_14 (by
      rw [hl, q]
      intro z
      rcases z with z | z
      · exact nI_pos (by omega) z
      · rw [hcl] at z
        unfold zl_grow at z
        split at z <;> omega) rfl ?_
    refine zn_aload_n (pc := 15) 1 dJx4a65c_add_72be8_15 rfl rfl ?_
    refine zn_iload_n (pc := 16) 3 dJx4a65c_add_72be8_16 rfl rfl ?_
    refine zn_iconst (pc := 17) (x := 1) dJx4a65c_add_72be8_17 (by decide) ?_
    refine zn_iadd (pc := 18) dJx4a65c_add_72be8_18 ?_
    refine zn_putI (pc := 19) (jps hp) (jfs hp).2 dJx4a65c_add_72be8_19 rfl ?_
    have hc2 : (zI S p i 2).toNatClampNeg = zL S (p + 4) a := by rw [q]; exact hcl
    rw [hc2]
    exact zn_return (pc := 22) dJx4a65c_add_72be8_22 rfl ⟨rfl, hz⟩
theorem zc_add {v : Option Nat} {out : zH} {q : Nat} (hp : 10 ≤ p ∧ p ≤ 13) (hq : q = p - 7) (hD : 9 ≤ D) (h : zl_add p i v S = some out) : zct G M_Jx4a65c_add_9ea2d D 1 80 [vR p (some i), vR q v] S (zpo (some (vI 1)) out) := by
  refine zct.mono (D := 6) ?_ (by omega)
  subst hq
  obtain ⟨w, hv, h2⟩ := zbd h
  obtain ⟨a, ha, h3⟩ := zbd h2
  subst hv
  refine zct_of (by decide) (Nat.le_of_ble_eq_true rfl) ?_
  show zn G M_Jx4a65c_add_9ea2d 6 1 80 0 [(0, vR p (some i)), (1, vR (p - 7) (some w))] [] S _
  refine zn_aload_n (pc := 0) 0 dJx4a65c_add_9ea2d_0 rfl rfl ?_
  refine zn_dup (pc := 1) dJx4a65c_add_9ea2d_1 rfl ?_
  refine zn_getI (pc := 2) (jfm hp).1 (jfm hp).2 dJx4a65c_add_9ea2d_2 ?_
  refine zn_iconst (pc := 5) (x := 1) dJx4a65c_add_9ea2d_5 (by decide) ?_
  refine zn_iadd (pc := 6) dJx4a65c_add_9ea2d_6 ?_
  refine zn_putI (pc := 7) (jpm hp) (jfm hp).2 dJx4a65c_add_9ea2d_7 rfl ?_
  have ha' : zR (zsI S p i 0 (zI S p i 0 + 1)) p i 1 = some a := ha
  have hs : zI (zsI S p i 0 (zI S p i 0 + 1)) p i 2 = zI S p i 2 := by rw [zI_sI]; exact if_neg (fun z => absurd z.2.2 (by decide))
  refine zn_aload_n (pc := 10) 0 dJx4a65c_add_9ea2d_10 rfl rfl ?_
  refine zn_aload_n (pc := 11) 1 dJx4a65c_add_9ea2d_11 rfl rfl ?_
  refine zn_aload_n (pc := 12) 0 dJx4a65c_add_9ea2d_12 rfl rfl ?_
  refine zn_getR (pc := 13) (jfe hp).1 (jfe hp).2 dJx4a65c_add_9ea2d_13 ?_
  rw [ha']
  refine zn_aload_n (pc := 16) 0 dJx4a65c_add_9ea2d_16 rfl rfl ?_
  refine zn_getI (pc := 17) (jfs hp).1 (jfs hp).2 dJx4a65c_add_9ea2d_17 ?_
  refine zn_cV0 (pc := 20) (kc := 0) (ks := 0) (kc' := 1) (ks' := 80) (As := [vR (p - 7) (some w), vR (p + 4) (some a), vI (zI (zsI S p i 0 (zI S p i 0 + 1)) p i 2)]) (st := []) dJx4a65c_add_9ea2d_20 cs_Jx4a65c_131 (jpc hp) rfl rfl (Nat.le_of_ble_eq_true rfl) (zc_add3 hp ha' (out := out) ?_) ?_
  · rw [hs]
    exact h3
  refine zn_iconst (pc := 23) (x := 1) dJx4a65c_add_9ea2d_23 (by decide) ?_
  exact zn_zreturn (pc := 24) dJx4a65c_add_9ea2d_24 rfl (by decide) ⟨rfl, rfl⟩
end ZADD
