/-! ===== a step, on both sides ===== -/
theorem bd_id {α : Type} (x : Option α) : Option.bind x (fun o => some o) = x := by
  cases x <;> rfl
/-- only sums and nets change -/
def FJ (C C' : zH) : Prop := (∀ q i k, zI C' q i k = zI C q i k) ∧ (∀ q i k, zR C' q i k = zR C q i k) ∧ (∀ q, zN C' q = zN C q) ∧ ∀ q i, zL C' q i = zL C q i
abbrev rW (R : zH) (a b ba bb : Nat) (p : Int64) : zH :=
  zsJ (zsJ (zsJ (zsJ R 118 0 a (zJ R 118 0 a - p)) 118 0 b (zJ (zsJ R 118 0 a (zJ R 118 0 a - p)) 118 0 b + p)) 108 0 ba (zJ R 108 0 ba - p)) 108 0 bb (zJ (zsJ R 108 0 ba (zJ R 108 0 ba - p)) 108 0 bb + p)
section ZTL
variable {q : Nat → Nat} {mi : Nat} {C R : zH}
theorem n_carry (I : IN q mi C R) {a b : Nat} (ha : a < zN C 3) (hb : b < zN C 3) (p : Int64) : ∃ C', f_X9_carry (some a) (some b) p C = some C' ∧ IN q mi C' (rW R a b (zI R 110 0 a).toNatClampNeg (zI R 110 0 b).toNatClampNeg p) ∧ FJ C C' := by
  obtain ⟨a1, a2⟩ := N_abk I a ha
  obtain ⟨b1, b2⟩ := N_abk I b hb
  have s1 := N_asum I a ha
  have I1 := n_sum I ha (zJ R 118 0 a - p)
  have s2 := N_asum I1 b hb
  have I2 := n_sum I1 (i := b) hb (zJ (zsJ R 118 0 a (zJ R 118 0 a - p)) 118 0 b + p)
  have t1 := N_bnet I _ (zib_ex a2).1
  have I3 := n_net I2 (b := (zI R 110 0 a).toNatClampNeg) (zJ R 108 0 (zI R 110 0 a).toNatClampNeg - p)
  have t2 := N_bnet I3 _ (zib_ex b2).1
  have I4 := n_net I3 (b := (zI R 110 0 b).toNatClampNeg) (zJ (zsJ R 108 0 (zI R 110 0 a).toNatClampNeg (zJ R 108 0 (zI R 110 0 a).toNatClampNeg - p)) 108 0 (zI R 110 0 b).toNatClampNeg + p)
  refine ⟨_, ?_, I4, ⟨fun q i k => by simp [wN_sI, wN_sJ, wN_sR, wL_sI, wL_sJ, wL_sR, wI_sI, wI_sJ, wI_sR, wJ_sI, wJ_sJ, wJ_sR, wR_sI, wR_sJ, wR_sR], fun q i k => by simp [wN_sI, wN_sJ, wN_sR, wL_sI, wL_sJ, wL_sR, wI_sI, wI_sJ, wI_sR, wJ_sI, wJ_sJ, wJ_sR, wR_sI, wR_sJ, wR_sR], fun q => by simp [wN_sI, wN_sJ, wN_sR, wL_sI, wL_sJ, wL_sR, wI_sI, wI_sJ, wI_sR, wJ_sI, wJ_sJ, wJ_sR, wR_sI, wR_sJ, wR_sR], fun q i => by simp [wN_sI, wN_sJ, wN_sR, wL_sI, wL_sJ, wL_sR, wI_sI, wI_sJ, wI_sR, wJ_sI, wJ_sJ, wJ_sR, wR_sI, wR_sJ, wR_sR]⟩⟩
  unfold f_X9_carry
  have e1 : zJ (zsJ (zsJ C 3 a 6 (zJ R 118 0 a - p)) 3 b 6 (zJ (zsJ R 118 0 a (zJ R 118 0 a - p)) 118 0 b + p)) 2 (zI R 110 0 a).toNatClampNeg 5 = zJ R 108 0 (zI R 110 0 a).toNatClampNeg := by
    rw [← t1]
    simp [wN_sI, wN_sJ, wN_sR, wL_sI, wL_sJ, wL_sR, wI_sI, wI_sJ, wI_sR, wJ_sI, wJ_sJ, wJ_sR, wR_sI, wR_sJ, wR_sR]
  have e2 : zJ (zsJ (zsJ (zsJ C 3 a 6 (zJ R 118 0 a - p)) 3 b 6 (zJ (zsJ R 118 0 a (zJ R 118 0 a - p)) 118 0 b + p)) 2 (zI R 110 0 a).toNatClampNeg 5 (zJ R 108 0 (zI R 110 0 a).toNatClampNeg - p)) 2 (zI R 110 0 b).toNatClampNeg 5 = zJ (zsJ R 108 0 (zI R 110 0 a).toNatClampNeg (zJ R 108 0 (zI R 110 0 a).toNatClampNeg - p)) 108 0 (zI R 110 0 b).toNatClampNeg := by
    rw [t2]
    simp [wN_sI, wN_sJ, wN_sR, wL_sI, wL_sJ, wL_sR, wI_sI, wI_sJ, wI_sR, wJ_sI, wJ_sJ, wJ_sR, wR_sI, wR_sJ, wR_sR]
  simp only [Option.bind_some, zlt, s1, s2, wR_sJ, a1, b1, e1, e2]
theorem rW_eq {a b ba bb : Nat} (hab : ¬ a = b) : zsJ (zsJ (zsJ (zsJ R 108 0 ba (zJ R 108 0 ba - zJ R 118 0 a)) 108 0 bb (zJ (zsJ R 108 0 ba (zJ R 108 0 ba - zJ R 118 0 a)) 108 0 bb + zJ R 118 0 a)) 118 0 b (zJ R 118 0 b + zJ R 118 0 a)) 118 0 a 0 = rW R a b ba bb (zJ R 118 0 a) := by
  have e1 : zJ (zsJ R 118 0 a (zJ R 118 0 a - zJ R 118 0 a)) 118 0 b = zJ R 118 0 b := by
    rw [wJ_sJ, if_neg (fun z => hab z.2.2.symm)]
  have e2 : zJ R 118 0 a - zJ R 118 0 a = 0 := Int64.sub_self _
  unfold rW
  rw [e1, e2]
  rw [zsJ_comm (p := 118) (i := 0) (k := b) (q := 108) (l := ba) (by omega), zsJ_comm (p := 118) (i := 0) (k := b) (q := 108) (l := bb) (by omega)]
  rw [zsJ_comm (p := 118) (i := 0) (k := a) (q := 108) (l := ba) (by omega), zsJ_comm (p := 118) (i := 0) (k := a) (q := 108) (l := bb) (by omega), zsJ_comm (p := 118) (i := 0) (k := a) (q := 118) (l := b) (by omega)]
theorem t_tail (I : IN q mi C R) {m : Nat} (hm : m < zN C 5) (hg : ¬ zI R 138 0 m = 0) : TN q mi C R (f_X9_doStep 0 (some m) C) (h_tail (nI m) (zI R 130 0 m) (zI R 131 0 m) R) := by
  have hk := N_kc I
  have hr := N_kr I
  unfold KC at hk
  unfold KR at hr
  have hmx := N_mx I
  obtain ⟨m1, m2, m3, m4, m5⟩ := N_mac I m hm
  have z30 : zib (nI m) 30 = true := zib_nI (by omega) (by decide)
  have cm : (nI m).toNatClampNeg = m := nI_clamp (by omega)
  have za := zib_mono m2 hmx.1
  have zb := zib_mono m4 hmx.1
  have ha := (zib_ex m2).1
  have hb := (zib_ex m4).1
  have stp : ∀ w, TN q mi C R (f_X4_stop m w C) (f_X10_refuses 0 (nI m) w R) := fun w => by
    have := t_stopN I (x := nI m) (w := w) (zib_nI hm (by omega)) (by rw [cm]; exact hg)
    rwa [cm] at this
  have same : TN q mi C R (some C) (some R) := ⟨C, R, rfl, rfl, I, NX.rf⟩
  unfold f_X9_doStep h_tail
  simp only [Option.bind_some, hr, zgd, z30, if_true, cm, (N_mst I m hm).1]
  by_cases h3 : zI R 132 0 m = 3
  · rw [if_pos h3, if_pos h3]
    simp only [m1, Option.bind_some, f_X0_isJoint, (N_anm I _ ha).2, za, if_true, N_mag I m hm]
    by_cases hj : zI R 112 0 (zI R 130 0 m).toNatClampNeg < 0
    · simp only [hj, if_true, Option.bind_some]
      exact same
    · simp only [hj, if_false, Option.bind_some, show ¬ (1 : Int32) = 0 by decide]
      by_cases hag : zI R 139 0 m = 0
      · simp only [hag, if_true, bd_id]
        exact stp 1
      · simp only [hag, if_false]
        exact same
  rw [if_neg h3, if_neg h3]
  by_cases h4 : zI R 132 0 m = 4
  · rw [if_pos h4, if_pos h4]
    exact same
  rw [if_neg h4, if_neg h4]
  by_cases h5 : zI R 132 0 m = 5
  · rw [if_pos h5, if_pos h5]
    simp only [m1, Option.bind_some, N_mpt I m hm, za, zb, if_true, N_asum I _ ha]
    by_cases hp : zI R 140 0 m = 0
    · simp only [hp, if_true]
      by_cases hs : lg_cmp (zJ R 118 0 (zI R 130 0 m).toNatClampNeg) 0 < 0
      · rw [if_neg (Int32.not_le.mpr hs), if_pos hs]
        obtain ⟨a, C1, R0, R1, v, g1, g2, g3, g4, g5, g6⟩ := t_over2 I.q hm (N_day I).1
        have I1 : IN q mi C1 R1 := IN_SR (IN_SC I g4) g5
        have X1 : NX C R C1 R1 := NX.rf.sc g4 g5
        simp only [g1, g2, g3, Option.bind_some, bd_id]
        by_cases hv : 0 < v
        · have hna : ¬ a = 0 := fun z => g6.mp z hv
          rw [if_neg hna, if_neg (Int32.not_le.mpr hv)]
          have e138 : zI R1 138 0 m = zI R 138 0 m := g5.1 138 0 m (by decide) (by simp)
          have := t_stopN I1 (x := nI m) (w := 2) (zib_nI (by rw [X1.1]; exact hm) (by rw [X1.1]; omega)) (by rw [cm, e138]; exact hg)
          rw [cm] at this
          obtain ⟨C2, R2, y1, y2, y3, y4⟩ := this
          exact ⟨C2, R2, y1, y2, y3, X1.tr y4⟩
        · rw [if_pos (g6.mpr hv), if_pos (Int32.not_lt.mp hv)]
          exact ⟨C1, R1, rfl, rfl, I1, X1⟩
      · rw [if_pos (Int32.not_lt.mp hs), if_neg hs]
        exact same
    · simp only [hp, if_false]
      exact same
  rw [if_neg h5, if_neg h5]
  by_cases h6 : zI R 132 0 m = 6
  · rw [if_pos h6, if_pos h6, bd_id]
    exact l_mvl (zN C 4) 0 fu fu C R I hm rfl rfl (by omega) (by unfold fu; omega) (by unfold fu; omega)
  rw [if_neg h6, if_neg h6]
  by_cases h7 : zI R 132 0 m = 7
  · rw [if_pos h7, if_pos h7]
    have I1 := n_go0 I (m := m)
    have e52 : zI (zsI C 5 m 6 0) 5 m 2 = zI R 140 0 m := by
      rw [wI_sI, if_neg (by omega)]
      exact N_mpt I m hm
    have e140 : zI (zsI R 138 0 m 0) 140 0 m = zI R 140 0 m := by
      rw [wI_sI, if_neg (by omega)]
    have k1 : ∀ k, zR (zsI C 5 m 6 0) 5 m k = zR C 5 m k := fun k => by simp [wN_sI, wN_sJ, wN_sR, wL_sI, wL_sJ, wL_sR, wI_sI, wI_sJ, wI_sR, wJ_sI, wJ_sJ, wJ_sR, wR_sI, wR_sJ, wR_sR]
    simp only [zlt, e52, k1, m1, m3, Option.bind_some, show (0 : Int32) &&& 1 = 0 by decide, wR_sI, wL_sI, hr, z30, if_true, e140]
    by_cases hp : zI R 140 0 m = 0
    · rw [if_pos hp, if_pos hp]
      have hab : ¬ (zI R 130 0 m).toNatClampNeg = (zI R 131 0 m).toNatClampNeg := by omega
      obtain ⟨C2, c1, c2, c3⟩ := n_carry I1 (a := (zI R 130 0 m).toNatClampNeg) (b := (zI R 131 0 m).toNatClampNeg) ha hb (zJ (zsI R 138 0 m 0) 118 0 (zI R 130 0 m).toNatClampNeg)
      have w110 : ∀ k, zI (zsI R 138 0 m 0) 110 0 k = zI R 110 0 k := fun k => by
        rw [wI_sI, if_neg (by omega)]
      have es : zJ (zsI C 5 m 6 0) 3 (zI R 130 0 m).toNatClampNeg 6 = zJ (zsI R 138 0 m 0) 118 0 (zI R 130 0 m).toNatClampNeg := N_asum I1 _ ha
      rw [← rW_eq hab] at c2
      rw [w110, w110] at c2
      have hno : ∀ j, j < zN C 5 → ¬ j = m → ¬ zI R 138 0 j = 0 → ¬ (zI R 130 0 j).toNatClampNeg = (zI R 130 0 m).toNatClampNeg ∧ ¬ (zI R 131 0 j).toNatClampNeg = (zI R 130 0 m).toNatClampNeg := by
        intro j hj hne gj
        obtain ⟨n1, n2, n3, n4, n5⟩ := N_mac I j hj
        have d1 := N_mdj I m j hm hj (fun z => hne z.symm) hg gj
        rw [rd_inj (zib_ex n2).2 (zib_ex m2).2, rd_inj (zib_ex n4).2 (zib_ex m2).2]
        exact ⟨fun z => d1.1 z.symm, fun z => d1.2.1 z.symm⟩
      generalize hA : zsJ (zsJ (zsJ (zsJ (zsI R 138 0 m 0) 108 0 (zI R 110 0 (zI R 130 0 m).toNatClampNeg).toNatClampNeg (zJ (zsI R 138 0 m 0) 108 0 (zI R 110 0 (zI R 130 0 m).toNatClampNeg).toNatClampNeg - zJ (zsI R 138 0 m 0) 118 0 (zI R 130 0 m).toNatClampNeg)) 108 0 (zI R 110 0 (zI R 131 0 m).toNatClampNeg).toNatClampNeg (zJ (zsJ (zsI R 138 0 m 0) 108 0 (zI R 110 0 (zI R 130 0 m).toNatClampNeg).toNatClampNeg (zJ (zsI R 138 0 m 0) 108 0 (zI R 110 0 (zI R 130 0 m).toNatClampNeg).toNatClampNeg - zJ (zsI R 138 0 m 0) 118 0 (zI R 130 0 m).toNatClampNeg)) 108 0 (zI R 110 0 (zI R 131 0 m).toNatClampNeg).toNatClampNeg + zJ (zsI R 138 0 m 0) 118 0 (zI R 130 0 m).toNatClampNeg)) 118 0 (zI R 131 0 m).toNatClampNeg (zJ (zsI R 138 0 m 0) 118 0 (zI R 131 0 m).toNatClampNeg + zJ (zsI R 138 0 m 0) 118 0 (zI R 130 0 m).toNatClampNeg)) 118 0 (zI R 130 0 m).toNatClampNeg 0 = A at c2
      have aI : ∀ q k, zI A q 0 k = if q = 138 ∧ k = m then 0 else zI R q 0 k := by
        intro q k
        rw [← hA]
        simp [wN_sI, wN_sJ, wN_sR, wL_sI, wL_sJ, wL_sR, wI_sI, wI_sJ, wI_sR, wJ_sI, wJ_sJ, wJ_sR, wR_sI, wR_sJ, wR_sR]
      have N3 : zN C2 3 = zN C 3 := (c3.2.2.1 3).trans (by simp [wN_sI, wN_sJ, wN_sR, wL_sI, wL_sJ, wL_sR, wI_sI, wI_sJ, wI_sR, wJ_sI, wJ_sJ, wJ_sR, wR_sI, wR_sJ, wR_sR])
      have N5 : zN C2 5 = zN C 5 := (c3.2.2.1 5).trans (by simp [wN_sI, wN_sJ, wN_sR, wL_sI, wL_sJ, wL_sR, wI_sI, wI_sJ, wI_sR, wJ_sI, wJ_sJ, wJ_sR, wR_sI, wR_sJ, wR_sR])
      have I3 := n_leav c2 (a := (zI R 130 0 m).toNatClampNeg) (b := (zI R 131 0 m).toNatClampNeg) (by rw [N3]; exact ha) (by rw [N3]; exact hb) m5 (by rw [aI, if_neg (by omega)]; exact (N_mop I m hm hg).1) (fun j hj gj => by
        rw [N5] at hj
        rw [aI] at gj
        rw [aI, aI, if_neg (by omega), if_neg (by omega)]
        by_cases e : j = m
        · subst e
          exact absurd (if_pos ⟨rfl, rfl⟩) gj
        · rw [if_neg (fun z => e z.2)] at gj
          exact hno j hj e gj)
      rw [nI_rd (zib_ex m4).2] at I3
      have d2 : zI C2 1 0 4 = zI A 40 0 46 := (N_day c2).1
      have k2 : ∀ q i k, zR C2 q i k = zR C q i k := fun q i k => (c3.2.1 q i k).trans (by simp [wN_sI, wN_sJ, wN_sR, wL_sI, wL_sJ, wL_sR, wI_sI, wI_sJ, wI_sR, wJ_sI, wJ_sJ, wJ_sR, wR_sI, wR_sJ, wR_sR])
      have A46 : zI A 40 0 46 = zI R 40 0 46 := by rw [aI, if_neg (by omega)]
      have zba := N_abk I _ ha
      have zbb := N_abk I _ hb
      simp only [es, c1, Option.bind_some, k2, hk, m1, m3, d2, f_X0_leaveFor, zlt, bd_id]
      refine ⟨_, _, rfl, ?_, I3, ⟨fun q => ?_, fun k hk => ?_⟩⟩
      · rw [← hA]
        simp only [wN_sI, wN_sJ, wN_sR, wL_sI, wL_sJ, wL_sR, wI_sI, wI_sJ, wI_sR, wJ_sI, wJ_sJ, wJ_sR, wR_sI, wR_sJ, wR_sR, hr, Option.bind_some, za, zb, zba.2, zbb.2, if_true, w110, show ¬ (110 : Nat) = 138 by decide, show ¬ (118 : Nat) = 108 by decide, show ¬ (40 : Nat) = 138 by decide, show ¬ (40 : Nat) = 114 by decide, show ¬ (40 : Nat) = 115 by decide, false_and, if_false, hab, and_false, Ne.symm hab]
        done
      · simp [wN_sI, wN_sJ, wN_sR, wL_sI, wL_sJ, wL_sR, wI_sI, wI_sJ, wI_sR, wJ_sI, wJ_sJ, wJ_sR, wR_sI, wR_sJ, wR_sR]
        exact (c3.2.2.1 q).trans (by simp [wN_sI, wN_sJ, wN_sR, wL_sI, wL_sJ, wL_sR, wI_sI, wI_sJ, wI_sR, wJ_sI, wJ_sJ, wJ_sR, wR_sI, wR_sJ, wR_sR])
      · simp only [wN_sI, wN_sJ, wN_sR, wL_sI, wL_sJ, wL_sR, wI_sI, wI_sJ, wI_sR, wJ_sI, wJ_sJ, wJ_sR, wR_sI, wR_sJ, wR_sR]
        rw [if_neg (by omega), if_neg (by omega), if_neg (by omega), aI, if_neg (by omega)]
    · rw [if_neg hp, if_neg hp]
      exact ⟨_, _, rfl, rfl, I1, ⟨fun q => by simp [wN_sI, wN_sJ, wN_sR, wL_sI, wL_sJ, wL_sR, wI_sI, wI_sJ, wI_sR, wJ_sI, wJ_sJ, wJ_sR, wR_sI, wR_sJ, wR_sR], fun k hk => by simp [wN_sI, wN_sJ, wN_sR, wL_sI, wL_sJ, wL_sR, wI_sI, wI_sJ, wI_sR, wJ_sI, wJ_sJ, wJ_sR, wR_sI, wR_sJ, wR_sR]⟩⟩
  rw [if_neg h7, if_neg h7]
  exact same
end ZTL
