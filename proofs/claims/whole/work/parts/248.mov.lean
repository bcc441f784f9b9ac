/-! ===== a move goes on; the moves of a night ===== -/
section ZMO
variable {q : Nat → Nat} {mi : Nat} {C R : zH}
theorem e_lateQ (I : Inq C R) {x y : Int32} (hx : zib x 8 = true) : ∃ a : Int32, (a = 0 ∨ a = 1) ∧ f_X2_isLate 0 x y C = some a ∧ f_X10_isLate 0 x y R = some a ∧ (a = 1 ↔ ∃ j, j < (zI R 40 0 48).toNatClampNeg ∧ zI R 102 0 j = x ∧ zI R 103 0 j = y) := by
  have hk := Q_kc I
  unfold KC at hk
  obtain ⟨o1, o2, o3, o4⟩ := Q_lat I
  have hl := (zib_ex o2).1
  obtain ⟨w1, w2⟩ := l_late (Q_kr I) o2 x y (zI R 40 0 48).toNatClampNeg 0 fu (by omega) (by unfold fu; omega)
  have hzz : (∃ j, 0 ≤ j ∧ j < (zI R 40 0 48).toNatClampNeg ∧ zI R 102 0 j = x ∧ zI R 103 0 j = y) ↔ ∃ j, j < (zI R 40 0 48).toNatClampNeg ∧ zI R 102 0 j = x ∧ zI R 103 0 j = y := ⟨fun ⟨j, _, h⟩ => ⟨j, h⟩, fun ⟨j, h⟩ => ⟨j, Nat.zero_le _, h⟩⟩
  rw [hzz] at w1 w2
  rw [show f_X10_isLate 0 x y R = f_X10_isLate_2 fu 0 x y (nI 0) R from rfl]
  unfold f_X2_isLate
  by_cases h0 : y < 0
  · have hno : ¬ ∃ j, j < (zI R 40 0 48).toNatClampNeg ∧ zI R 102 0 j = x ∧ zI R 103 0 j = y := fun ⟨j, j1, j2, j3⟩ => (zib_ex (o3 j j1).1).2 (j3 ▸ h0)
    exact ⟨0, Or.inl rfl, by rw [if_pos h0], w2 hno, ⟨fun z => absurd z (by decide), fun z => absurd z hno⟩⟩
  · by_cases h1 : zib y 1501 = true
    · have hy := nI_rd h0
      have hyl := (zib_ex h1).1
      have hxx := nI_rd (zib_ex hx).2
      have hxl := (zib_ex hx).1
      have hle : ¬ Int32.ofNat 1501 ≤ y := by
        rw [show (Int32.ofNat 1501 ≤ y) = _ from zib_lt (n := 1501) (by decide) h0]
        exact fun z => z h1
      have hb := o4 y.toNatClampNeg x.toNatClampNeg hyl hxl
      rw [hxx, hy] at hb
      simp only [h0, hk, Option.bind_some, hle, if_false, zgd, h1, if_true]
      by_cases e : ∃ j, j < (zI R 40 0 48).toNatClampNeg ∧ zI R 102 0 j = x ∧ zI R 103 0 j = y
      · rw [if_pos (hb.mpr e)]
        exact ⟨1, Or.inr rfl, rfl, w1 e, ⟨fun _ => e, fun _ => rfl⟩⟩
      · rw [if_neg (fun z => e (hb.mp z))]
        exact ⟨0, Or.inl rfl, rfl, w2 e, ⟨fun z => absurd z (by decide), fun z => absurd z e⟩⟩
    · have hno : ¬ ∃ j, j < (zI R 40 0 48).toNatClampNeg ∧ zI R 102 0 j = x ∧ zI R 103 0 j = y := fun ⟨j, j1, j2, j3⟩ => h1 (j3 ▸ (o3 j j1).1)
      have hle : Int32.ofNat 1501 ≤ y := by
        rw [show (Int32.ofNat 1501 ≤ y) = _ from zib_lt (n := 1501) (by decide) h0]
        exact h1
      simp only [h0, hk, Option.bind_some, hle, if_false, if_true]
      exact ⟨0, Or.inl rfl, rfl, w2 hno, ⟨fun z => absurd z (by decide), fun z => absurd z hno⟩⟩
theorem l_lastQ (I : Inq C R) : ∀ (n : Nat) (x : Int32) (k f g : Nat), zib x (zN C 3) = true → zN C 3 ≤ x.toNatClampNeg + n → k + n ≤ 40 → n < f → n < g → ∃ y : Int32, zib y (zN C 3) = true ∧ f_X9_lastOf_4 f (some x.toNatClampNeg) (nI k) C = some (some y.toNatClampNeg) ∧ f_X10_lastOf_2 g 0 x R = some y ∧ ¬ zI R 114 0 y.toNatClampNeg = 2 := by
  have hr := Q_kr I
  have hm := (Q_mx I).1
  unfold KR at hr
  intro n
  induction n with
  | zero =>
    intro x k f g hx hn
    have := (zib_ex hx).1
    omega
  | succ n ih =>
    intro x k f g hx hn hk hf hg
    obtain ⟨f, rfl⟩ : ∃ f', f = f' + 1 := ⟨f - 1, by omega⟩
    obtain ⟨g, rfl⟩ : ∃ g', g = g' + 1 := ⟨g - 1, by omega⟩
    have hle : ¬ (40 : Int32) ≤ nI k := fun z => by have := (nJ_le (a := 40) (by omega) (by omega)).mp z; omega
    have h40 := zib_mono hx hm
    have hi := (zib_ex hx).1
    rw [f_X9_lastOf_4, f_X10_lastOf_2]
    simp only [hr, hle, if_false, Option.bind_some, zgd, h40, if_true]
    by_cases h2 : zI R 114 0 x.toNatClampNeg = 2
    · obtain ⟨a1, a2, a3, a4, a5⟩ := Q_amv I _ hi h2
      simp only [h2, a1, zop, if_true, ← nI_succ]
      exact ih _ (k + 1) f g a2 (by omega) (by omega) (by omega) (by omega)
    · have a1 := (Q_ano2 I _ hi h2).1
      simp only [h2, a1, zop, if_false]
      exact ⟨x, hx, rfl, rfl, h2⟩
theorem e_lastQ (I : Inq C R) {x : Int32} (hx : zib x (zN C 3) = true) : ∃ y : Int32, zib y (zN C 3) = true ∧ f_X9_lastOf (some x.toNatClampNeg) C = some (some y.toNatClampNeg) ∧ f_X10_lastOf 0 x R = some y ∧ ¬ zI R 114 0 y.toNatClampNeg = 2 := by
  have hm := (Q_mx I).1
  exact l_lastQ I 40 x 0 fu fu hx (by omega) (by omega) (by unfold fu; omega) (by unfold fu; omega)
theorem t_mov (I : IN q mi C R) (hm : mi < zN C 5) (hg : ¬ zI R 138 0 mi = 0) : TN q (mi + 1) C R (f_X9_moveOn 0 (some mi) C) (f_X10_goesOn 0 (nI mi) R) := by
  have hk := N_kc I
  have hr := N_kr I
  unfold KC at hk
  unfold KR at hr
  have hmx := N_mx I
  obtain ⟨m1, m2, m3, m4, m5⟩ := N_mac I mi hm
  have z30 : zib (nI mi) 30 = true := zib_nI (by omega) (by decide)
  have cm : (nI mi).toNatClampNeg = mi := nI_clamp (by omega)
  have za := zib_mono m2 hmx.1
  have zb := zib_mono m4 hmx.1
  have ha := (zib_ex m2).1
  have hb := (zib_ex m4).1
  obtain ⟨a1, a2⟩ := N_abk I _ ha
  obtain ⟨b1, b2⟩ := N_abk I _ hb
  have na := (N_bno I _ (zib_ex a2).1).2
  have nb := (N_bno I _ (zib_ex b2).1).2
  rw [nI_rd (zib_ex a2).2] at na
  rw [nI_rd (zib_ex b2).2] at nb
  have d1 := (N_day I).1
  have same : TN q (mi + 1) C R (some C) (some R) := ⟨C, R, rfl, rfl, n_next I, NX.rf⟩
  obtain ⟨o1, p1, p2, p3, p4⟩ := e_lateQ I.q (y := zI R 40 0 46) a2
  obtain ⟨o2, q1, q2, q3, q4⟩ := e_lateQ I.q (y := zI R 40 0 46) b2
  rw [goesOn_eq]
  unfold f_X9_moveOn f_X1_hasStepLeft
  simp only [hk, hr, Option.bind_some, zgd, zlt, z30, cm, za, zb, a2, b2, if_true, m1, m3, a1, b1, na, nb, d1, p2, p3, q2, q3, N_bcap I _ (zib_ex a2).1, N_bcap I _ (zib_ex b2).1, N_bdid I _ (zib_ex a2).1, N_bdid I _ (zib_ex b2).1, bd_id]
  by_cases h1 : o1 = 0
  · rw [if_pos h1, if_pos h1]
    by_cases h2 : o2 = 0
    · rw [if_pos h2, if_pos h2]
      by_cases h3 : zI R 105 0 (zI R 110 0 (zI R 130 0 mi).toNatClampNeg).toNatClampNeg ≤ zI R 107 0 (zI R 110 0 (zI R 130 0 mi).toNatClampNeg).toNatClampNeg
      · rw [if_pos h3, if_pos h3, Option.bind_some, if_pos rfl]
        exact same
      · rw [if_neg h3, if_neg h3, Option.bind_some, if_neg (by decide)]
        by_cases h4 : zI R 107 0 (zI R 110 0 (zI R 131 0 mi).toNatClampNeg).toNatClampNeg < zI R 105 0 (zI R 110 0 (zI R 131 0 mi).toNatClampNeg).toNatClampNeg
        · rw [if_neg (Int32.not_le.mpr h4), if_pos h4, Option.bind_some, if_neg (by decide)]
          have I1 := n_did I (b := (zI R 110 0 (zI R 130 0 mi).toNatClampNeg).toNatClampNeg) (zI R 107 0 (zI R 110 0 (zI R 130 0 mi).toNatClampNeg).toNatClampNeg + 1)
          generalize hR1 : zsI R 107 0 (zI R 110 0 (zI R 130 0 mi).toNatClampNeg).toNatClampNeg (zI R 107 0 (zI R 110 0 (zI R 130 0 mi).toNatClampNeg).toNatClampNeg + 1) = R1 at *
          generalize hC1 : zsI C 2 (zI R 110 0 (zI R 130 0 mi).toNatClampNeg).toNatClampNeg 4 (zI R 107 0 (zI R 110 0 (zI R 130 0 mi).toNatClampNeg).toNatClampNeg + 1) = C1 at *
          have r1 : ∀ q k, ¬ q = 107 → zI R1 q 0 k = zI R q 0 k := fun q k h => by
            rw [← hR1, wI_sI, if_neg (fun z => h z.1)]
          have rk1 : KR R1 := N_kr I1
          unfold KR at rk1
          have bd1 := N_bdid I1 _ (zib_ex b2).1
          have I2 := n_did I1 (b := (zI R 110 0 (zI R 131 0 mi).toNatClampNeg).toNatClampNeg) (zI R1 107 0 (zI R 110 0 (zI R 131 0 mi).toNatClampNeg).toNatClampNeg + 1)
          generalize hR2 : zsI R1 107 0 (zI R 110 0 (zI R 131 0 mi).toNatClampNeg).toNatClampNeg (zI R1 107 0 (zI R 110 0 (zI R 131 0 mi).toNatClampNeg).toNatClampNeg + 1) = R2 at *
          generalize hC2 : zsI C1 2 (zI R 110 0 (zI R 131 0 mi).toNatClampNeg).toNatClampNeg 4 (zI R1 107 0 (zI R 110 0 (zI R 131 0 mi).toNatClampNeg).toNatClampNeg + 1) = C2 at *
          have r2 : ∀ q k, ¬ q = 107 → zI R2 q 0 k = zI R q 0 k := fun q k h => by
            rw [← hR2, wI_sI, if_neg (fun z => h z.1)]
            exact r1 q k h
          have N52 : zN C2 5 = zN C 5 := by
            rw [← hC2, ← hC1]
            simp [wN_sI, wN_sJ, wN_sR, wL_sI, wL_sJ, wL_sR, wI_sI, wI_sJ, wI_sR, wJ_sI, wJ_sJ, wJ_sR, wR_sI, wR_sJ, wR_sR]
          have rk2 : KR R2 := N_kr I2
          unfold KR at rk2
          have st2 := (N_mst I2 mi (by rw [N52]; exact hm)).1
          have I3 := n_stp I2 (m := mi) (by rw [N52]; exact hm) (zI R2 132 0 mi + 1)
          generalize hR3 : zsI R2 132 0 mi (zI R2 132 0 mi + 1) = R3 at *
          generalize hC3 : zsI C2 5 mi 4 (zI R2 132 0 mi + 1) = C3 at *
          have rk3 : KR R3 := N_kr I3
          unfold KR at rk3
          have kc3 : KC C3 := N_kc I3
          unfold KC at kc3
          have d3 := (N_day I3).1
          have I4 := n_lst I3 (m := mi) (zI R3 40 0 46)
          generalize hR4 : zsI R3 137 0 mi (zI R3 40 0 46) = R4 at *
          generalize hC4 : zsI C3 5 mi 5 (zI R3 40 0 46) = C4 at *
          have r4 : ∀ q k, ¬ q = 107 → ¬ q = 132 → ¬ q = 137 → zI R4 q 0 k = zI R q 0 k := fun q k h h' h'' => by
            rw [← hR4, wI_sI, if_neg (fun z => h'' z.1), ← hR3, wI_sI, if_neg (fun z => h' z.1)]
            exact r2 q k h
          have N4 : ∀ q, zN C4 q = zN C q := fun q => by
            rw [← hC4, ← hC3, ← hC2, ← hC1]
            simp [wN_sI, wN_sJ, wN_sR, wL_sI, wL_sJ, wL_sR, wI_sI, wI_sJ, wI_sR, wJ_sI, wJ_sJ, wJ_sR, wR_sI, wR_sJ, wR_sR]
          obtain ⟨C5, R5, y1, y2, y3, y4⟩ := t_tail I4 (m := mi) (by rw [N4]; exact hm) (by rw [r4 138 _ (by decide) (by decide) (by decide)]; exact hg)
          rw [r4 130 _ (by decide) (by decide) (by decide), r4 131 _ (by decide) (by decide) (by decide)] at y2
          simp only [rk1, Option.bind_some, r1 110 _ (by decide), zb, b2, if_true, bd1, hR2, hC2, rk2, z30, cm, st2, hR3, hC3, rk3, kc3, d3, hR4, hC4, y1, y2]
          refine ⟨C5, R5, rfl, rfl, n_next y3, NX.tr ⟨fun q => N4 q, fun k hk => ?_⟩ y4⟩
          exact r4 40 k (by decide) (by decide) (by decide)
        · rw [if_pos (Int32.not_lt.mp h4), if_neg h4, Option.bind_some, if_pos rfl]
          exact same
    · rw [if_neg h2, if_neg h2]
      exact t_fault I hm (zib_ex b2).1 za zb (by rw [if_pos h1, nI_rd (zib_ex b2).2])
  · rw [if_neg h1, if_neg h1]
    exact t_fault I hm (zib_ex a2).1 za zb (by rw [if_neg h1, nI_rd (zib_ex a2).2])
end ZMO
