/-! ===== pools cut down ===== -/
def kchk (f : Nat → Bool) (p : Nat) : Bool := match zk p with
  | .inl x => x.2.all (fun v => decide (v < 2) || f (v - 2))
  | .inr x => decide (x.2 < 2) || f (x.2 - 2)
theorem kchk_of {f : Nat → Bool} {p k q : Nat} (h : kchk f p = true) (hk : zkd p k = q + 2) : f q = true := by
  unfold kchk at h
  unfold zkd at hk
  cases e : zk p with
  | inl x =>
    rw [e] at h hk
    have hk : x.2.getD k 0 = q + 2 := hk
    have h : x.2.all (fun v => decide (v < 2) || f (v - 2)) = true := h
    rw [List.getD_eq_getElem?_getD] at hk
    cases e2 : x.2[k]? with
    | none =>
      rw [e2] at hk
      exact absurd hk (by simp)
    | some v =>
      rw [e2] at hk
      have hk : v = q + 2 := hk
      have := List.all_eq_true.mp h v (List.mem_of_getElem? e2)
      rw [hk] at this
      exact (show q + 2 < 2 ∨ f q = true by simpa using this).resolve_left (by omega)
  | inr x =>
    rw [e] at h hk
    have hk : x.2 = q + 2 := hk
    have h : (decide (x.2 < 2) || f (x.2 - 2)) = true := h
    rw [hk] at h
    exact (show q + 2 < 2 ∨ f q = true by simpa using h).resolve_left (by omega)
theorem fC_all : ∀ p, p < 31 → okp p = true ∧ kchk fC p = true := by decide +kernel
theorem fR_all : ∀ p, p < 159 → fR p = true → okp p = true ∧ kchk fR p = true := by decide +kernel
theorem fok_C : fok fC := by
  have h : ∀ p, fC p = true → p < 31 := fun p hp => of_decide_eq_true hp
  exact ⟨fun p hp => (fC_all p (h p hp)).1, fun p k q hp hk => kchk_of (fC_all p (h p hp)).2 hk⟩
theorem fok_R : fok fR := by
  have h : ∀ p, fR p = true → p < 159 := fun p hp => by
    have := of_decide_eq_true hp
    omega
  exact ⟨fun p hp => (fR_all p (h p hp) hp).1, fun p k q hp hk => kchk_of (fR_all p (h p hp) hp).2 hk⟩
theorem LO.cut {C : zH} {p n : Nat} (hp : 10 ≤ p ∧ p ≤ 13) (h : LO C p n) : LO (zct1 C fC) p n := by
  obtain ⟨a, l1, l2, l3, l4, l5, l6, l7⟩ := h
  refine ⟨a, l1, l2, l3, l4, l5, l6, ?_⟩
  rw [zct1_N, if_pos (show fC (p + 4) = true from decide_eq_true (by omega))]
  exact l7
theorem Inv_cut {C R : zH} (I : Inv C R) : Inv (zct1 C fC) (zct1 R fR) := by
  have n0 : zN (zct1 C fC) 0 = zN C 0 := rfl
  have n3 : zN (zct1 C fC) 3 = zN C 3 := rfl
  have n4 : zN (zct1 C fC) 4 = zN C 4 := rfl
  have n5 : zN (zct1 C fC) 5 = zN C 5 := rfl
  have n6 : zN (zct1 C fC) 6 = zN C 6 := rfl
  have n23 : zN (zct1 C fC) 23 = zN C 23 := rfl
  have n24 : zN (zct1 C fC) 24 = zN C 24 := rfl
  have n25 : zN (zct1 C fC) 25 = zN C 25 := rfl
  have n40 : zN (zct1 R fR) 40 = zN R 40 := rfl
  have lC : ∀ p i, zL (zct1 C fC) p i = zL C p i := fun _ _ => rfl
  have iC : ∀ p i k, zI (zct1 C fC) p i k = zI C p i k := fun _ _ _ => rfl
  have jC : ∀ p i k, zJ (zct1 C fC) p i k = zJ C p i k := fun _ _ _ => rfl
  have rC : ∀ p i k, zR (zct1 C fC) p i k = zR C p i k := fun _ _ _ => rfl
  have lR : ∀ p i, zL (zct1 R fR) p i = zL R p i := fun _ _ => rfl
  have iR : ∀ p i k, zI (zct1 R fR) p i k = zI R p i k := fun _ _ _ => rfl
  have jR : ∀ p i k, zJ (zct1 R fR) p i k = zJ R p i k := fun _ _ _ => rfl
  have rR : ∀ p i k, zR (zct1 R fR) p i k = zR R p i k := fun _ _ _ => rfl
  refine Inv_mk ?hkc ?hkr ?hcnt ?hmx ?hla ?hll ?hlm ?hlr ?hal ?hbno ?hbfee ?hbcap ?hbow ?hbdid ?hbnet ?hday ?hngt ?hdue ?hhol ?hlat ?hano ?habk ?hanm ?hasum ?haov ?hast ?hamv ?hano2 ?hagd ?hakp ?hahs ?hafr ?hlk ?hlft ?hlam ?hled ?hldn ?hlbk ?hldu ?hlfr ?hmac ?hmpt ?hmas ?hmst ?hmgo ?hmag ?hmwy ?hmfa ?hmfb ?hmop ?hmdj ?hmfr ?hrpf ?hrtx ?htap ?hrow ?hsur ?href
  case hkc => have h := J_kc I; unfold KC at h ⊢; simp only [lC, rC]; exact h
  case hkr => have h := J_kr I; unfold KR at h ⊢; simp only [lR, rR]; exact h
  case hcnt => (try simp only [n0, n3, n4, n5, n6, n23, n24, n25, n40, lC, iC, jC, rC, lR, iR, jR, rR]); exact J_cnt I
  case hmx => (try simp only [n0, n3, n4, n5, n6, n23, n24, n25, n40, lC, iC, jC, rC, lR, iR, jR, rR]); exact J_mx I
  case hla => (simp only [n0, n3, n4, n5, n6, n23, n24, n25]); exact (J_la I).cut (by decide)
  case hll => (simp only [n0, n3, n4, n5, n6, n23, n24, n25]); exact (J_ll I).cut (by decide)
  case hlm => (simp only [n0, n3, n4, n5, n6, n23, n24, n25]); exact (J_lm I).cut (by decide)
  case hlr => (simp only [n0, n3, n4, n5, n6, n23, n24, n25]); exact (J_lr I).cut (by decide)
  case hal => (try simp only [n0, n3, n4, n5, n6, n23, n24, n25, n40, lC, iC, jC, rC, lR, iR, jR, rR]); exact J_al I
  case hbno => (try simp only [n0, n3, n4, n5, n6, n23, n24, n25, n40, lC, iC, jC, rC, lR, iR, jR, rR]); exact J_bno I
  case hbfee => (try simp only [n0, n3, n4, n5, n6, n23, n24, n25, n40, lC, iC, jC, rC, lR, iR, jR, rR]); exact J_bfee I
  case hbcap => (try simp only [n0, n3, n4, n5, n6, n23, n24, n25, n40, lC, iC, jC, rC, lR, iR, jR, rR]); exact J_bcap I
  case hbow => (try simp only [n0, n3, n4, n5, n6, n23, n24, n25, n40, lC, iC, jC, rC, lR, iR, jR, rR]); exact J_bow I
  case hbdid => (try simp only [n0, n3, n4, n5, n6, n23, n24, n25, n40, lC, iC, jC, rC, lR, iR, jR, rR]); exact J_bdid I
  case hbnet => (try simp only [n0, n3, n4, n5, n6, n23, n24, n25, n40, lC, iC, jC, rC, lR, iR, jR, rR]); exact J_bnet I
  case hday => (try simp only [n0, n3, n4, n5, n6, n23, n24, n25, n40, lC, iC, jC, rC, lR, iR, jR, rR]); exact J_day I
  case hngt => (try simp only [n0, n3, n4, n5, n6, n23, n24, n25, n40, lC, iC, jC, rC, lR, iR, jR, rR]); exact J_ngt I
  case hdue => (try simp only [n0, n3, n4, n5, n6, n23, n24, n25, n40, lC, iC, jC, rC, lR, iR, jR, rR]); exact J_due I
  case hhol => (try simp only [n0, n3, n4, n5, n6, n23, n24, n25, n40, lC, iC, jC, rC, lR, iR, jR, rR]); exact J_hol I
  case hlat => (try simp only [n0, n3, n4, n5, n6, n23, n24, n25, n40, lC, iC, jC, rC, lR, iR, jR, rR]); exact J_lat I
  case hano => (try simp only [n0, n3, n4, n5, n6, n23, n24, n25, n40, lC, iC, jC, rC, lR, iR, jR, rR]); exact J_ano I
  case habk => (try simp only [n0, n3, n4, n5, n6, n23, n24, n25, n40, lC, iC, jC, rC, lR, iR, jR, rR]); exact J_abk I
  case hanm => (try simp only [n0, n3, n4, n5, n6, n23, n24, n25, n40, lC, iC, jC, rC, lR, iR, jR, rR]); exact J_anm I
  case hasum => (try simp only [n0, n3, n4, n5, n6, n23, n24, n25, n40, lC, iC, jC, rC, lR, iR, jR, rR]); exact J_asum I
  case haov => (try simp only [n0, n3, n4, n5, n6, n23, n24, n25, n40, lC, iC, jC, rC, lR, iR, jR, rR]); exact J_aov I
  case hast => (try simp only [n0, n3, n4, n5, n6, n23, n24, n25, n40, lC, iC, jC, rC, lR, iR, jR, rR]); exact J_ast I
  case hamv => (try simp only [n0, n3, n4, n5, n6, n23, n24, n25, n40, lC, iC, jC, rC, lR, iR, jR, rR]); exact J_amv I
  case hano2 => (try simp only [n0, n3, n4, n5, n6, n23, n24, n25, n40, lC, iC, jC, rC, lR, iR, jR, rR]); exact J_ano2 I
  case hagd => (try simp only [n0, n3, n4, n5, n6, n23, n24, n25, n40, lC, iC, jC, rC, lR, iR, jR, rR]); exact J_agd I
  case hakp => (try simp only [n0, n3, n4, n5, n6, n23, n24, n25, n40, lC, iC, jC, rC, lR, iR, jR, rR]); exact J_akp I
  case hahs => (try simp only [n0, n3, n4, n5, n6, n23, n24, n25, n40, lC, iC, jC, rC, lR, iR, jR, rR]); exact J_ahs I
  case hafr => (try simp only [n0, n3, n4, n5, n6, n23, n24, n25, n40, lC, iC, jC, rC, lR, iR, jR, rR]); exact J_afr I
  case hlk => (try simp only [n0, n3, n4, n5, n6, n23, n24, n25, n40, lC, iC, jC, rC, lR, iR, jR, rR]); exact J_lk I
  case hlft => (try simp only [n0, n3, n4, n5, n6, n23, n24, n25, n40, lC, iC, jC, rC, lR, iR, jR, rR]); exact J_lft I
  case hlam => (try simp only [n0, n3, n4, n5, n6, n23, n24, n25, n40, lC, iC, jC, rC, lR, iR, jR, rR]); exact J_lam I
  case hled => (try simp only [n0, n3, n4, n5, n6, n23, n24, n25, n40, lC, iC, jC, rC, lR, iR, jR, rR]); exact J_led I
  case hldn => (try simp only [n0, n3, n4, n5, n6, n23, n24, n25, n40, lC, iC, jC, rC, lR, iR, jR, rR]); exact J_ldn I
  case hlbk => (try simp only [n0, n3, n4, n5, n6, n23, n24, n25, n40, lC, iC, jC, rC, lR, iR, jR, rR]); exact J_lbk I
  case hldu => (try simp only [n0, n3, n4, n5, n6, n23, n24, n25, n40, lC, iC, jC, rC, lR, iR, jR, rR]); exact J_ldu I
  case hlfr => (try simp only [n0, n3, n4, n5, n6, n23, n24, n25, n40, lC, iC, jC, rC, lR, iR, jR, rR]); exact J_lfr I
  case hmac => (try simp only [n0, n3, n4, n5, n6, n23, n24, n25, n40, lC, iC, jC, rC, lR, iR, jR, rR]); exact J_mac I
  case hmpt => (try simp only [n0, n3, n4, n5, n6, n23, n24, n25, n40, lC, iC, jC, rC, lR, iR, jR, rR]); exact J_mpt I
  case hmas => (try simp only [n0, n3, n4, n5, n6, n23, n24, n25, n40, lC, iC, jC, rC, lR, iR, jR, rR]); exact J_mas I
  case hmst => (try simp only [n0, n3, n4, n5, n6, n23, n24, n25, n40, lC, iC, jC, rC, lR, iR, jR, rR]); exact J_mst I
  case hmgo => (try simp only [n0, n3, n4, n5, n6, n23, n24, n25, n40, lC, iC, jC, rC, lR, iR, jR, rR]); exact J_mgo I
  case hmag => (try simp only [n0, n3, n4, n5, n6, n23, n24, n25, n40, lC, iC, jC, rC, lR, iR, jR, rR]); exact J_mag I
  case hmwy => (try simp only [n0, n3, n4, n5, n6, n23, n24, n25, n40, lC, iC, jC, rC, lR, iR, jR, rR]); exact J_mwy I
  case hmfa => (try simp only [n0, n3, n4, n5, n6, n23, n24, n25, n40, lC, iC, jC, rC, lR, iR, jR, rR]); exact J_mfa I
  case hmfb => (try simp only [n0, n3, n4, n5, n6, n23, n24, n25, n40, lC, iC, jC, rC, lR, iR, jR, rR]); exact J_mfb I
  case hmop => (try simp only [n0, n3, n4, n5, n6, n23, n24, n25, n40, lC, iC, jC, rC, lR, iR, jR, rR]); exact J_mop I
  case hmdj => (try simp only [n0, n3, n4, n5, n6, n23, n24, n25, n40, lC, iC, jC, rC, lR, iR, jR, rR]); exact J_mdj I
  case hmfr => (try simp only [n0, n3, n4, n5, n6, n23, n24, n25, n40, lC, iC, jC, rC, lR, iR, jR, rR]); exact J_mfr I
  case hrpf => (try simp only [n0, n3, n4, n5, n6, n23, n24, n25, n40, lC, iC, jC, rC, lR, iR, jR, rR]); exact J_rpf I
  case hrtx => (try simp only [n0, n3, n4, n5, n6, n23, n24, n25, n40, lC, iC, jC, rC, lR, iR, jR, rR]); exact J_rtx I
  case htap => (try simp only [n0, n3, n4, n5, n6, n23, n24, n25, n40, lC, iC, jC, rC, lR, iR, jR, rR]); exact J_tap I
  case hrow => (try simp only [n0, n3, n4, n5, n6, n23, n24, n25, n40, lC, iC, jC, rC, lR, iR, jR, rR]); exact J_row I
  case hsur => (try simp only [n0, n3, n4, n5, n6, n23, n24, n25, n40, lC, iC, jC, rC, lR, iR, jR, rR]); exact J_sur I
  case href => (try simp only [n0, n3, n4, n5, n6, n23, n24, n25, n40, lC, iC, jC, rC, lR, iR, jR, rR]); exact J_ref I
