/-! ===== steps of a move, on both sides ===== -/
theorem zsJ_comm {S : zH} {p i k q j l : Nat} {x y : Int64} (h : ¬ (p = q ∧ i = j ∧ k = l)) : zsJ (zsJ S p i k x) q j l y = zsJ (zsJ S q j l y) p i k x := by
  unfold zsJ
  refine Prod.ext rfl (Prod.ext rfl (Prod.ext rfl (Prod.ext ?_ rfl)))
  funext a b c
  show (if a = q ∧ b = j ∧ c = l then y else if a = p ∧ b = i ∧ c = k then x else _) = (if a = p ∧ b = i ∧ c = k then x else if a = q ∧ b = j ∧ c = l then y else _)
  by_cases h1 : a = q ∧ b = j ∧ c = l
  · rw [if_pos h1, if_neg (fun z => h ⟨z.1.symm.trans h1.1, z.2.1.symm.trans h1.2.1, z.2.2.symm.trans h1.2.2⟩), if_pos h1]
  · rw [if_neg h1, if_neg h1]
section ZST
variable {q : Nat → Nat} {mi : Nat}
theorem l_mvl {m : Nat} {xa xb : Int32} : ∀ (n i f g : Nat) (C R : zH), IN q mi C R → m < zN C 5 → zI R 130 0 m = xa → zI R 131 0 m = xb → i + n = zN C 4 → n < f → n < g → TN q mi C R (f_X9_moveLines_2 f 0 (some m) (nI i) C) (f_X10_goesOn_344 g 0 (nI m) xa xb (nI i) R) := by
  intro n
  induction n with
  | zero =>
    intro i f g C R I hm ha hb hi hf hg
    obtain ⟨f, rfl⟩ : ∃ f', f = f' + 1 := ⟨f - 1, by omega⟩
    obtain ⟨g, rfl⟩ : ∃ g', g = g' + 1 := ⟨g - 1, by omega⟩
    have hk := N_kc I
    unfold KC at hk
    have hmx := (N_mx I).2.1
    have hle : nI (zN C 4) ≤ nI i := (nJ_le (by omega) (by omega)).mpr (by omega)
    rw [f_X9_moveLines_2, f_X10_goesOn_344]
    simp only [hk, Option.bind_some, (N_ll I).size, (N_cnt I).2.1, hle, if_true]
    exact ⟨C, R, rfl, rfl, I, NX.rf⟩
  | succ n ih =>
    intro i f g C R I hm ha hb hi hf hg
    obtain ⟨f, rfl⟩ : ∃ f', f = f' + 1 := ⟨f - 1, by omega⟩
    obtain ⟨g, rfl⟩ : ∃ g', g = g' + 1 := ⟨g - 1, by omega⟩
    have hk := N_kc I
    have hr := N_kr I
    unfold KC at hk
    unfold KR at hr
    have hmx := N_mx I
    have hil : i < zN C 4 := by omega
    have hle : ¬ nI (zN C 4) ≤ nI i := fun z => by have := (nJ_le (by omega) (by omega)).mp z; omega
    obtain ⟨m1, m2, m3, m4, m5⟩ := N_mac I m hm
    rw [ha] at m1 m2
    rw [hb] at m3 m4
    obtain ⟨l1, l2, l3, l4⟩ := N_lft I i hil
    have z60 : zib (nI i) 60 = true := zib_nI (by omega) (by decide)
    have z30 : zib (nI m) 30 = true := zib_nI (by omega) (by decide)
    have hfx : (some (zI R 121 0 i).toNatClampNeg = some xa.toNatClampNeg) ↔ zI R 121 0 i = xa := by
      constructor
      · intro z
        exact (rd_inj (zib_ex l2).2 (zib_ex m2).2).mp (Option.some.inj z)
      · intro z
        rw [z]
    have keep : TN q mi C R (f_X9_moveLines_2 f 0 (some m) (nI (i + 1)) C) (f_X10_goesOn_344 g 0 (nI m) xa xb (nI (i + 1)) R) := ih (i + 1) f g C R I hm ha hb (by omega) (by omega) (by omega)
    have move : TN q mi C R (f_X9_moveLines_2 f 0 (some m) (nI (i + 1)) (zsR C 4 i 1 (some xb.toNatClampNeg))) (f_X10_goesOn_344 g 0 (nI m) xa xb (nI (i + 1)) (zsI R 121 0 i xb)) := by
      have I' := n_from I (l := i) (zib_ex m4).1
      rw [nI_rd (zib_ex m4).2] at I'
      obtain ⟨C', R', a1, a2, a3, a4⟩ := ih (i + 1) f g _ _ I' hm (by simpa [wN_sI, wN_sJ, wN_sR, wL_sI, wL_sJ, wL_sR, wI_sI, wI_sJ, wI_sR, wJ_sI, wJ_sJ, wJ_sR, wR_sI, wR_sJ, wR_sR] using ha) (by simpa [wN_sI, wN_sJ, wN_sR, wL_sI, wL_sJ, wL_sR, wI_sI, wI_sJ, wI_sR, wJ_sI, wJ_sJ, wJ_sR, wR_sI, wR_sJ, wR_sR] using hb) (by simpa [wN_sI, wN_sJ, wN_sR, wL_sI, wL_sJ, wL_sR, wI_sI, wI_sJ, wI_sR, wJ_sI, wJ_sJ, wJ_sR, wR_sI, wR_sJ, wR_sR] using (show i + 1 + n = zN C 4 by omega)) (by omega) (by omega)
      refine ⟨C', R', a1, a2, a3, NX.tr ⟨fun q => by simp [wN_sI, wN_sJ, wN_sR, wL_sI, wL_sJ, wL_sR, wI_sI, wI_sJ, wI_sR, wJ_sI, wJ_sJ, wJ_sR, wR_sI, wR_sJ, wR_sR], fun k hk => by simp [wN_sI, wN_sJ, wN_sR, wL_sI, wL_sJ, wL_sR, wI_sI, wI_sJ, wI_sR, wJ_sI, wJ_sJ, wJ_sR, wR_sI, wR_sJ, wR_sR]⟩ a4⟩
    rw [f_X9_moveLines_2, f_X10_goesOn_344]
    simp only [f_X9_moveLines_51, f_X10_goesOn_384, hk, hr, Option.bind_some, (N_ll I).size, (N_ll I).get hil, (N_cnt I).2.1, hle, if_false, zgd, zlt, z60, z30, if_true, nI_clamp (show i < 2 ^ 31 by omega), nI_clamp (show m < 2 ^ 31 by omega), l1, m1, m3, hfx, N_mpt I m hm, (N_lk I i hil).1, ← nI_succ]
    by_cases h1 : zI R 121 0 i = xa
    · rw [if_pos h1, if_pos h1]
      by_cases h2 : zI R 140 0 m = 0
      · rw [if_pos h2, if_pos h2]
        exact move
      · rw [if_neg h2, if_neg h2]
        by_cases h3 : zI R 120 0 i = 1
        · rw [if_pos h3, if_pos h3]
          exact move
        · rw [if_neg h3, if_neg h3]
          exact keep
    · rw [if_neg h1, if_neg h1]
      exact keep
variable {C R : zH}
theorem t_over2 (I : Inq C R) {m : Nat} (hm : m < zN C 5) (hday : zI C 1 0 4 = zI R 40 0 46) : ∃ a C1 R0 R1 v, f_X9_refusesOverdrawn 0 (some m) C = some (a, C1) ∧ f_X10_puts 0 (zI R 130 0 m) (zI R 110 0 (zI R 131 0 m).toNatClampNeg) (zI R 40 0 46 - zI R 136 0 m) R = some R0 ∧ f_X10_worth 0 2 (zI R0 40 0 46) R0 = some (v, R1) ∧ SC C C1 ∧ SR R R1 ∧ (a = 0 ↔ ¬ 0 < v) := by
  have hk := Q_kc I
  unfold KC at hk
  obtain ⟨m1, m2, m3, m4, m5⟩ := Q_mac I m hm
  obtain ⟨b1, b2⟩ := Q_abk I _ (zib_ex m4).1
  obtain ⟨a1, a2⟩ := Q_mas I m hm
  obtain ⟨C1, R0, p1, p2, p3, p4, p5, p6, p7⟩ := t_puts I m2 (zib_ex b2).1 (zI R 40 0 46 - zI R 136 0 m)
  rw [nI_rd (zib_ex b2).2] at p2
  have I0 : Inq C R0 := Inq_SR I p4
  have e46 : zI R0 40 0 46 = zI R 40 0 46 := p4.1 40 0 46 (by decide) (by decide)
  obtain ⟨w, w1, w2, w3⟩ := t_pick I0 2 (zI R0 40 0 46)
  rw [e46] at w2
  unfold f_X9_refusesOverdrawn
  simp only [hk, Option.bind_some, hday, w2]
  cases w with
  | none =>
    refine ⟨1, C, R0, R0, 1, rfl, p2, ?_, SC.rf, p4, by decide⟩
    rw [w3]
    rfl
  | some r =>
    have hr := w1 r rfl
    generalize hC2 : zsJ C1 26 0 9 (Int32.toInt64 (zI R 40 0 46 - zI R 136 0 m)) = C2
    have F2 : SC C C2 := by
      subst hC2
      exact p3.set26 0 9 _
    have I2 : Inq C2 R0 := Inq_SC I0 F2
    have hk1 := p3.kc (Q_kc I)
    unfold KC at hk1
    have hk2 := Q_kc I2
    unfold KC at hk2
    have hsin := since_rg (Q_day I).2 a2
    obtain ⟨v, C3, R2, v1, v2, v3, v4⟩ := t_val I2 (r := r) (by rw [F2.2.2.2.1]; exact hr) (fun i hi => by
      subst hC2
      by_cases e : i = 9
      · subst e
        unfold Lr
        show hld (zJ (zsJ C1 26 0 9 _) 26 0 9) = (zI R0 158 0 100).toInt64
        rw [wJ_sJ, if_pos ⟨rfl, rfl, rfl⟩, p7, hsin]
      · rw [wJ_sJ, if_neg (fun z => e z.2.2)]
        exact p5 i (by omega))
    have e14 : zI C1 1 0 4 = zI R 40 0 46 := (p3.1 1 0 4 (by decide) (by decide)).trans hday
    have e53 : zI C1 5 m 3 = zI R 136 0 m := (p3.1 5 m 3 (by decide) (by simp)).trans a1
    simp only [zop, m1, m3, b1, p1, Option.bind_some, hk1, zgd, zlt, show zib 9 10 = true by decide, if_true, show Int32.toNatClampNeg 9 = 9 by decide, e14, e53, hC2, hk2, v1]
    by_cases h : lg_cmp v.toInt64 0 ≤ 0
    · refine ⟨0, C3, R0, R2, v, by rw [if_pos h], p2, by rw [w3]; exact v2, F2.tr v3, p4.tr v4, ?_⟩
      exact ⟨fun _ => (pos64 v).mp h, fun _ => rfl⟩
    · refine ⟨1, C3, R0, R2, v, by rw [if_neg h], p2, by rw [w3]; exact v2, F2.tr v3, p4.tr v4, ?_⟩
      exact ⟨fun z => absurd z (by decide), fun z => absurd ((pos64 v).mpr z) h⟩
end ZST
