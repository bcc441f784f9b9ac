/-! ===== the letters of leaving ===== -/
section ZPU
variable {C R : zH}
theorem t_puts (I : Inq C R) {x : Int32} {b : Nat} (hx : zib x (zN C 3) = true) (hb : b < 8) (d : Int32) : ∃ C1 R1, f_X9_lettersOfLeaving 0 (some x.toNatClampNeg) (some b) C = some (some 0, C1) ∧ f_X10_puts 0 x (nI b) d R = some R1 ∧ SC C C1 ∧ SR R R1 ∧ (∀ i, i < 9 → hld (zJ C1 26 0 i) = Lr R1 i) ∧ zJ C1 26 0 9 = 0 ∧ zI R1 158 0 100 = d := by
  have hi := (zib_ex hx).1
  have h40 := zib_mono hx (Q_mx I).1
  have hmx := Q_mx I
  obtain ⟨C0, f1, f2, f3⟩ := e_fresh (Q_kc I)
  obtain ⟨R0, g1, g2, g3⟩ := e_bare (Q_kr I)
  have I0 : Inq C0 R := Inq_SC I f2
  have J0 : Inq C R0 := Inq_SR I g2
  have hk := Q_kc I
  have hk0 := Q_kc I0
  have hr0 := Q_kr J0
  unfold KC at hk hk0
  unfold KR at hr0
  have hN0 : zN C0 3 = zN C 3 := f2.2.2.2.1 3
  obtain ⟨b1, b2⟩ := Q_abk I0 x.toNatClampNeg (by rw [hN0]; exact hi)
  obtain ⟨n1, n2⟩ := Q_bno I0 _ (zib_ex b2).1
  have n3 := (Q_bno I0 b hb).2
  have s1 := Q_asum I0 x.toNatClampNeg (by rw [hN0]; exact hi)
  obtain ⟨o1, o2⟩ := Q_aov I0 x.toNatClampNeg (by rw [hN0]; exact hi)
  obtain ⟨m1, m2⟩ := Q_anm I0 x.toNatClampNeg (by rw [hN0]; exact hi)
  have e110 : zI R0 110 0 x.toNatClampNeg = zI R 110 0 x.toNatClampNeg := g2.1 110 0 _ (by decide) (by simp)
  have e112 : zI R0 112 0 x.toNatClampNeg = zI R 112 0 x.toNatClampNeg := g2.1 112 0 _ (by decide) (by simp)
  have e113 : zI R0 113 0 x.toNatClampNeg = zI R 113 0 x.toNatClampNeg := g2.1 113 0 _ (by decide) (by simp)
  have e118 : zJ R0 118 0 x.toNatClampNeg = zJ R 118 0 x.toNatClampNeg := g2.2.1 118 0 _
  generalize hjt : (if zI R 112 0 x.toNatClampNeg < 0 then (0 : Int32) else 1) = jt
  generalize hC5 : zsJ (zsJ (zsJ (zsJ (zsJ C0 26 0 0 (Int32.toInt64 (zI R 110 0 x.toNatClampNeg))) 26 0 1 (Int32.toInt64 (nI b))) 26 0 2 (zJ R 118 0 x.toNatClampNeg)) 26 0 3 (Int32.toInt64 (zI R 113 0 x.toNatClampNeg))) 26 0 4 (Int32.toInt64 jt) = C5
  generalize hR5 : zsI (zsI (zsI (zsI (zsI R0 158 0 98 (zI R 110 0 x.toNatClampNeg)) 158 0 116 (nI b)) 158 0 115 (Int64.toInt32 (hld (zJ R 118 0 x.toNatClampNeg)))) 158 0 111 (zI R 113 0 x.toNatClampNeg)) 158 0 106 jt = R5
  have F5 : SC C C5 := by
    subst hC5
    exact ((((f2.set26 0 0 _).set26 0 1 _).set26 0 2 _).set26 0 3 _).set26 0 4 _
  have G5 : SR R R5 := by
    subst hR5
    exact ((((g2.set 158 0 98 (Or.inl rfl) _).set 158 0 116 (Or.inl rfl) _).set 158 0 115 (Or.inl rfl) _).set 158 0 111 (Or.inl rfl) _).set 158 0 106 (Or.inl rfl) _
  have I5 : Inq C5 R5 := Inq_SR (Inq_SC I F5) G5
  have hN5 : zN C5 3 = zN C 3 := F5.2.2.2.1 3
  have hN4 : zN C5 4 = zN C 4 := F5.2.2.2.1 4
  have l0 : zI R5 158 0 108 = nI 0 := by
    subst hR5
    simp only [wI_sI]
    simp [g3]
    rfl
  obtain ⟨c, R6, k1, k2, k3, k4, k5⟩ := l_lin (C := C5) (x := x) (d := d) (by rw [hN5]; exact hx) (zN C5 4) 0 fu fu 0 R5 I5 (by omega) (by rw [hN4]; unfold fu; omega) (by rw [hN4]; unfold fu; omega) (Nat.le_refl _) l0
  have hL5 : zL C5 26 0 = 10 := by
    have := Q_kc I5
    unfold KC at this
    simp only [this]
  refine ⟨zsJ C5 26 0 5 (Int32.toInt64 (nI c)), R6, ?_, ?_, F5.set26 0 5 _, G5.tr k4, ?_, ?_, ?_⟩
  · unfold f_X9_lettersOfLeaving f_X9_lettersOfLeaving_56 f_X0_isJoint f_X9_linesNotEnded
    have h56 : ∀ y : Int64, y = Int32.toInt64 jt → zsJ (zsJ (zsJ (zsJ (zsJ C0 26 0 0 (Int32.toInt64 (zI R 110 0 x.toNatClampNeg))) 26 0 1 (Int32.toInt64 (nI b))) 26 0 2 (zJ R 118 0 x.toNatClampNeg)) 26 0 3 (Int32.toInt64 (zI R 113 0 x.toNatClampNeg))) 26 0 4 y = C5 := by
      intro y hy
      rw [hy]
      exact hC5
    simp only [hk, f1, Option.bind_some, b1, hk0, zgd, zlt, wN_sI, wN_sJ, wN_sR, wL_sI, wL_sJ, wL_sR, wI_sI, wI_sJ, wI_sR, wJ_sI, wJ_sJ, wJ_sR, wR_sI, wR_sJ, wR_sR, show zib 0 10 = true by decide, show zib 1 10 = true by decide, show zib 2 10 = true by decide, show zib 3 10 = true by decide, show zib 4 10 = true by decide, show zib 5 10 = true by decide, if_true, n2, n3, s1, o1, m2, show Int32.toNatClampNeg 0 = 0 by decide, show Int32.toNatClampNeg 1 = 1 by decide, show Int32.toNatClampNeg 2 = 2 by decide, show Int32.toNatClampNeg 3 = 3 by decide, show Int32.toNatClampNeg 4 = 4 by decide, show Int32.toNatClampNeg 5 = 5 by decide, show ¬ (3 : Nat) = 26 by decide, false_and, if_false, nI_rd (zib_ex b2).2]
    by_cases hj : zI R 112 0 x.toNatClampNeg < 0
    · rw [if_pos hj] at hjt
      rw [if_pos hj, Option.bind_some, if_pos rfl, h56 0 (by rw [← hjt]; rfl), show f_X9_linesNotEnded_4 fu 0 (some x.toNatClampNeg) 0 0 C5 = _ from k2]
      simp only [Option.bind_some]
    · rw [if_neg hj] at hjt
      rw [if_neg hj, Option.bind_some, if_neg (by decide), h56 1 (by rw [← hjt]; rfl), show f_X9_linesNotEnded_4 fu 0 (some x.toNatClampNeg) 0 0 C5 = _ from k2]
      simp only [Option.bind_some]
  · unfold f_X10_puts
    have h56 : ∀ y : Int32, y = jt → zsI (zsI (zsI (zsI (zsI R0 158 0 98 (zI R 110 0 x.toNatClampNeg)) 158 0 116 (nI b)) 158 0 115 (Int64.toInt32 (hld (zJ R 118 0 x.toNatClampNeg)))) 158 0 111 (zI R 113 0 x.toNatClampNeg)) 158 0 106 y = R5 := by
      intro y hy
      rw [hy]
      exact hR5
    simp only [g1, hr0, h40, Option.bind_some, zgd, zlt, wN_sI, wN_sJ, wN_sR, wL_sI, wL_sJ, wL_sR, wI_sI, wI_sJ, wI_sR, wJ_sI, wJ_sJ, wJ_sR, wR_sI, wR_sJ, wR_sR, if_true, e_held, show zib 98 128 = true by decide, show zib 116 128 = true by decide, show zib 115 128 = true by decide, show zib 111 128 = true by decide, show zib 106 128 = true by decide, show Int32.toNatClampNeg 98 = 98 by decide, show Int32.toNatClampNeg 116 = 116 by decide, show Int32.toNatClampNeg 115 = 115 by decide, show Int32.toNatClampNeg 111 = 111 by decide, show Int32.toNatClampNeg 106 = 106 by decide, show ¬ (113 : Nat) = 158 by decide, show ¬ (112 : Nat) = 158 by decide, false_and, if_false, e110, e112, e113, e118]
    by_cases hj : zI R 112 0 x.toNatClampNeg < 0
    · rw [if_pos hj] at hjt
      rw [if_pos hj, h56 0 hjt]
      exact k3
    · rw [if_neg hj] at hjt
      rw [if_neg hj, h56 1 hjt]
      exact k3
  · intro i hi9
    have hjz : hld (Int32.toInt64 jt) = Int32.toInt64 jt := by
      rw [← hjt]
      split <;> decide
    have hcz : hld (Int32.toInt64 (nI c)) = Int32.toInt64 (nI c) := hld_zib (zib_nI (show c < 61 by omega) (by decide)) (by decide)
    have hbz : hld (Int32.toInt64 (nI b)) = Int32.toInt64 (nI b) := hld_zib (zib_nI hb (by decide)) (by decide)
    have hoz := hld_zib o2 (by decide)
    have hfz := hld_zib b2 (by decide)
    have h0 : hld 0 = 0 := by decide
    have h00 : (0 : Int32).toInt64 = 0 := by decide
    unfold Lr
    match i, hi9 with
    | 0, _ => rw [k5 _ (by decide), ← hC5, ← hR5]; simp [zch, wI_sI, wJ_sJ, hfz]
    | 1, _ => rw [k5 _ (by decide), ← hC5, ← hR5]; simp [zch, wI_sI, wJ_sJ, hbz]
    | 2, _ => rw [k5 _ (by decide), ← hC5, ← hR5]; simp [zch, wI_sI, wJ_sJ, hld_32]
    | 3, _ => rw [k5 _ (by decide), ← hC5, ← hR5]; simp [zch, wI_sI, wJ_sJ, hoz]
    | 4, _ => rw [k5 _ (by decide), ← hC5, ← hR5]; simp [zch, wI_sI, wJ_sJ, hjz]
    | 5, _ => rw [k5 _ (by decide), ← hC5, ← hR5]; simp [zch, wI_sI, wJ_sJ, hcz]
    | 6, _ => rw [k5 _ (by decide), ← hC5, ← hR5]; simp [zch, wI_sI, wJ_sJ, f3 6 (by decide), g3 110 (by decide), h0]
    | 7, _ => rw [k5 _ (by decide), ← hC5, ← hR5]; simp [zch, wI_sI, wJ_sJ, f3 7 (by decide), g3 102 (by decide), h0]
    | 8, _ => rw [k5 _ (by decide), ← hC5, ← hR5]; simp [zch, wI_sI, wJ_sJ, f3 8 (by decide), g3 119 (by decide), h0]
  · rw [← hC5]
    simp [wJ_sJ, f3 9 (by decide)]
  · rw [k5 100 (by decide), if_pos rfl]
end ZPU
