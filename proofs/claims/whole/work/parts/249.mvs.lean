/-! ===== the moves of a night; a night begins ===== -/
section ZMS
variable {q : Nat → Nat}
theorem l_mvs : ∀ (n i f g : Nat) (C R : zH), IN q i C R → i + n = zN C 5 → n < f → n < g → ∃ C' R', f_X9_doMoves_2 f 0 (nI i) C = some C' ∧ f_X10_night_30 g 0 (nI i) R = f_X10_night_78 fu 0 (zI R' 40 0 54 + 1) R' ∧ IN q (zN C 5) C' R' ∧ NX C R C' R' := by
  intro n
  induction n with
  | zero =>
    intro i f g C R I hi hf hg
    obtain ⟨f, rfl⟩ : ∃ f', f = f' + 1 := ⟨f - 1, by omega⟩
    obtain ⟨g, rfl⟩ : ∃ g', g = g' + 1 := ⟨g - 1, by omega⟩
    have hk := N_kc I
    unfold KC at hk
    have hmx := (N_mx I).2.2.1
    have hle : nI (zN C 5) ≤ nI i := (nJ_le (by omega) (by omega)).mpr (by omega)
    have hii : i = zN C 5 := by omega
    rw [f_X9_doMoves_2, f_X10_night_30]
    simp only [hk, Option.bind_some, (N_lm I).size, (N_cnt I).2.2.1, hle, if_true]
    rw [hii] at I
    exact ⟨C, R, rfl, rfl, I, NX.rf⟩
  | succ n ih =>
    intro i f g C R I hi hf hg
    obtain ⟨f, rfl⟩ : ∃ f', f = f' + 1 := ⟨f - 1, by omega⟩
    obtain ⟨g, rfl⟩ : ∃ g', g = g' + 1 := ⟨g - 1, by omega⟩
    have hk := N_kc I
    have hr := N_kr I
    unfold KC at hk
    unfold KR at hr
    have hmx := (N_mx I).2.2.1
    have hil : i < zN C 5 := by omega
    have hle : ¬ nI (zN C 5) ≤ nI i := fun z => by have := (nJ_le (by omega) (by omega)).mp z; omega
    have z30 : zib (nI i) 30 = true := zib_nI (by omega) (by decide)
    have skip := ih (i + 1) f g C R (n_next I) (by omega) (by omega) (by omega)
    rw [f_X9_doMoves_2, f_X10_night_30]
    simp only [hk, hr, Option.bind_some, (N_lm I).size, (N_lm I).get hil, (N_cnt I).2.2.1, hle, if_false, zgd, z30, if_true, nI_clamp (show i < 2 ^ 31 by omega), (N_mgo I i hil).1, (N_mas I i hil).1, (N_day I).1, ← nI_succ]
    by_cases h1 : zI R 138 0 i = 0
    · simp only [h1, if_true]
      exact skip
    · simp only [h1, if_false]
      by_cases h2 : zI R 40 0 46 ≤ zI R 136 0 i
      · simp only [h2, if_true]
        exact skip
      · simp only [h2, if_false]
        obtain ⟨C1, R1, y1, y2, y3, y4⟩ := t_mov I hil h1
        simp only [y1, y2, Option.bind_some]
        obtain ⟨C2, R2, w1, w2, w3, w4⟩ := ih (i + 1) f g C1 R1 y3 (by rw [y4.1]; omega) (by omega) (by omega)
        rw [y4.1] at w3
        exact ⟨C2, R2, w1, w2, w3, y4.tr w4⟩
theorem l_beg : ∀ (n i f g : Nat) (C R : zH), IN q 0 C R → i + n = 8 → n < f → n < g → ∃ C' R', f_X9_beginNight_15 f 0 (nI i) C = some C' ∧ f_X10_night_2 g 0 (nI i) R = f_X10_night_30 fu 0 0 R' ∧ IN q 0 C' R' ∧ NX C R C' R' := by
  intro n
  induction n with
  | zero =>
    intro i f g C R I hi hf hg
    obtain ⟨f, rfl⟩ : ∃ f', f = f' + 1 := ⟨f - 1, by omega⟩
    obtain ⟨g, rfl⟩ : ∃ g', g = g' + 1 := ⟨g - 1, by omega⟩
    have hk := N_kc I
    unfold KC at hk
    have hii : i = 8 := by omega
    subst hii
    rw [f_X9_beginNight_15, f_X10_night_2]
    simp only [hk, Option.bind_some, show Int32.ofNat 8 ≤ nI 8 by decide, show (8 : Int32) ≤ nI 8 by decide, if_true]
    exact ⟨C, R, rfl, rfl, I, NX.rf⟩
  | succ n ih =>
    intro i f g C R I hi hf hg
    obtain ⟨f, rfl⟩ : ∃ f', f = f' + 1 := ⟨f - 1, by omega⟩
    obtain ⟨g, rfl⟩ : ∃ g', g = g' + 1 := ⟨g - 1, by omega⟩
    have hk := N_kc I
    have hr := N_kr I
    unfold KC at hk
    unfold KR at hr
    have hle : ¬ (8 : Int32) ≤ nI i := fun z => by have := (nJ_le (a := 8) (by decide) (by omega)).mp z; omega
    have hle2 : ¬ Int32.ofNat 8 ≤ nI i := hle
    have z8 : zib (nI i) 8 = true := zib_nI (by omega) (by decide)
    have b1 := (N_bno I i (by omega)).1
    have I1 := n_b0 I (b := i)
    rw [f_X9_beginNight_15, f_X10_night_2]
    simp only [hk, hr, Option.bind_some, hle, hle2, if_false, zgd, zlt, z8, if_true, nI_clamp (show i < 2 ^ 31 by omega), b1, wN_sI, wN_sJ, wN_sR, wL_sI, wL_sJ, wL_sR, wI_sI, wI_sJ, wI_sR, wJ_sI, wJ_sJ, wJ_sR, wR_sI, wR_sJ, wR_sR, ← nI_succ]
    obtain ⟨C2, R2, w1, w2, w3, w4⟩ := ih (i + 1) f g _ _ I1 (by omega) (by omega) (by omega)
    refine ⟨C2, R2, w1, w2, w3, NX.tr ⟨fun q => by simp [wN_sI, wN_sJ, wN_sR, wL_sI, wL_sJ, wL_sR, wI_sI, wI_sJ, wI_sR, wJ_sI, wJ_sJ, wJ_sR, wR_sI, wR_sJ, wR_sR], fun k hk => by simp [wN_sI, wN_sJ, wN_sR, wL_sI, wL_sJ, wL_sR, wI_sI, wI_sJ, wI_sR, wJ_sI, wJ_sJ, wJ_sR, wR_sI, wR_sJ, wR_sR]⟩ w4⟩
theorem n_start {C R : zH} (I : Inv C R) : IN (fun _ => (zI R 40 0 54 + 1).toNatClampNeg) 0 (zsI C 1 0 5 (zI C 1 0 5 + 1)) R := by
  obtain ⟨g1, g2, g3⟩ := J_ngt I
  exact IN_mk (by simpa [KC, KR, LO, wN_sI, wN_sJ, wN_sR, wL_sI, wL_sJ, wL_sR, wI_sI, wI_sJ, wI_sR, wJ_sI, wJ_sJ, wJ_sR, wR_sI, wR_sJ, wR_sR, wN_nw, wL_nw, wI_nw, wJ_nw, wR_nw] using (J_kc I :)) (by simpa [KC, KR, LO, wN_sI, wN_sJ, wN_sR, wL_sI, wL_sJ, wL_sR, wI_sI, wI_sJ, wI_sR, wJ_sI, wJ_sJ, wJ_sR, wR_sI, wR_sJ, wR_sR, wN_nw, wL_nw, wI_nw, wJ_nw, wR_nw] using (J_kr I :)) (by simpa [KC, KR, LO, wN_sI, wN_sJ, wN_sR, wL_sI, wL_sJ, wL_sR, wI_sI, wI_sJ, wI_sR, wJ_sI, wJ_sJ, wJ_sR, wR_sI, wR_sJ, wR_sR, wN_nw, wL_nw, wI_nw, wJ_nw, wR_nw] using (J_cnt I :)) (by simpa [KC, KR, LO, wN_sI, wN_sJ, wN_sR, wL_sI, wL_sJ, wL_sR, wI_sI, wI_sJ, wI_sR, wJ_sI, wJ_sJ, wJ_sR, wR_sI, wR_sJ, wR_sR, wN_nw, wL_nw, wI_nw, wJ_nw, wR_nw] using (J_mx I :)) (by simpa [KC, KR, LO, wN_sI, wN_sJ, wN_sR, wL_sI, wL_sJ, wL_sR, wI_sI, wI_sJ, wI_sR, wJ_sI, wJ_sJ, wJ_sR, wR_sI, wR_sJ, wR_sR, wN_nw, wL_nw, wI_nw, wJ_nw, wR_nw] using (J_la I :)) (by simpa [KC, KR, LO, wN_sI, wN_sJ, wN_sR, wL_sI, wL_sJ, wL_sR, wI_sI, wI_sJ, wI_sR, wJ_sI, wJ_sJ, wJ_sR, wR_sI, wR_sJ, wR_sR, wN_nw, wL_nw, wI_nw, wJ_nw, wR_nw] using (J_ll I :)) (by simpa [KC, KR, LO, wN_sI, wN_sJ, wN_sR, wL_sI, wL_sJ, wL_sR, wI_sI, wI_sJ, wI_sR, wJ_sI, wJ_sJ, wJ_sR, wR_sI, wR_sJ, wR_sR, wN_nw, wL_nw, wI_nw, wJ_nw, wR_nw] using (J_lm I :)) (by simpa [KC, KR, LO, wN_sI, wN_sJ, wN_sR, wL_sI, wL_sJ, wL_sR, wI_sI, wI_sJ, wI_sR, wJ_sI, wJ_sJ, wJ_sR, wR_sI, wR_sJ, wR_sR, wN_nw, wL_nw, wI_nw, wJ_nw, wR_nw] using (J_lr I :)) (by simpa [KC, KR, LO, wN_sI, wN_sJ, wN_sR, wL_sI, wL_sJ, wL_sR, wI_sI, wI_sJ, wI_sR, wJ_sI, wJ_sJ, wJ_sR, wR_sI, wR_sJ, wR_sR, wN_nw, wL_nw, wI_nw, wJ_nw, wR_nw] using (J_al I :)) (by simpa [KC, KR, LO, wN_sI, wN_sJ, wN_sR, wL_sI, wL_sJ, wL_sR, wI_sI, wI_sJ, wI_sR, wJ_sI, wJ_sJ, wJ_sR, wR_sI, wR_sJ, wR_sR, wN_nw, wL_nw, wI_nw, wJ_nw, wR_nw] using (J_bno I :)) (by simpa [KC, KR, LO, wN_sI, wN_sJ, wN_sR, wL_sI, wL_sJ, wL_sR, wI_sI, wI_sJ, wI_sR, wJ_sI, wJ_sJ, wJ_sR, wR_sI, wR_sJ, wR_sR, wN_nw, wL_nw, wI_nw, wJ_nw, wR_nw] using (J_bfee I :)) (by simpa [KC, KR, LO, wN_sI, wN_sJ, wN_sR, wL_sI, wL_sJ, wL_sR, wI_sI, wI_sJ, wI_sR, wJ_sI, wJ_sJ, wJ_sR, wR_sI, wR_sJ, wR_sR, wN_nw, wL_nw, wI_nw, wJ_nw, wR_nw] using (J_bcap I :)) (by simpa [KC, KR, LO, wN_sI, wN_sJ, wN_sR, wL_sI, wL_sJ, wL_sR, wI_sI, wI_sJ, wI_sR, wJ_sI, wJ_sJ, wJ_sR, wR_sI, wR_sJ, wR_sR, wN_nw, wL_nw, wI_nw, wJ_nw, wR_nw] using (J_bow I :)) (by simpa [KC, KR, LO, wN_sI, wN_sJ, wN_sR, wL_sI, wL_sJ, wL_sR, wI_sI, wI_sJ, wI_sR, wJ_sI, wJ_sJ, wJ_sR, wR_sI, wR_sJ, wR_sR, wN_nw, wL_nw, wI_nw, wJ_nw, wR_nw] using (J_bdid I :)) (by simpa [KC, KR, LO, wN_sI, wN_sJ, wN_sR, wL_sI, wL_sJ, wL_sR, wI_sI, wI_sJ, wI_sR, wJ_sI, wJ_sJ, wJ_sR, wR_sI, wR_sJ, wR_sR, wN_nw, wL_nw, wI_nw, wJ_nw, wR_nw] using (J_bnet I :)) (by simpa [KC, KR, LO, wN_sI, wN_sJ, wN_sR, wL_sI, wL_sJ, wL_sR, wI_sI, wI_sJ, wI_sR, wJ_sI, wJ_sJ, wJ_sR, wR_sI, wR_sJ, wR_sR, wN_nw, wL_nw, wI_nw, wJ_nw, wR_nw] using (J_day I :)) (by
    refine ⟨?_, g2, g3⟩
    simp [wN_sI, wN_sJ, wN_sR, wL_sI, wL_sJ, wL_sR, wI_sI, wI_sJ, wI_sR, wJ_sI, wJ_sJ, wJ_sR, wR_sI, wR_sJ, wR_sR, g1]) (by simpa [KC, KR, LO, wN_sI, wN_sJ, wN_sR, wL_sI, wL_sJ, wL_sR, wI_sI, wI_sJ, wI_sR, wJ_sI, wJ_sJ, wJ_sR, wR_sI, wR_sJ, wR_sR, wN_nw, wL_nw, wI_nw, wJ_nw, wR_nw] using (J_due I :)) (by simpa [KC, KR, LO, wN_sI, wN_sJ, wN_sR, wL_sI, wL_sJ, wL_sR, wI_sI, wI_sJ, wI_sR, wJ_sI, wJ_sJ, wJ_sR, wR_sI, wR_sJ, wR_sR, wN_nw, wL_nw, wI_nw, wJ_nw, wR_nw] using (J_hol I :)) (by simpa [KC, KR, LO, wN_sI, wN_sJ, wN_sR, wL_sI, wL_sJ, wL_sR, wI_sI, wI_sJ, wI_sR, wJ_sI, wJ_sJ, wJ_sR, wR_sI, wR_sJ, wR_sR, wN_nw, wL_nw, wI_nw, wJ_nw, wR_nw] using (J_lat I :)) (by simpa [KC, KR, LO, wN_sI, wN_sJ, wN_sR, wL_sI, wL_sJ, wL_sR, wI_sI, wI_sJ, wI_sR, wJ_sI, wJ_sJ, wJ_sR, wR_sI, wR_sJ, wR_sR, wN_nw, wL_nw, wI_nw, wJ_nw, wR_nw] using (J_ano I :)) (by simpa [KC, KR, LO, wN_sI, wN_sJ, wN_sR, wL_sI, wL_sJ, wL_sR, wI_sI, wI_sJ, wI_sR, wJ_sI, wJ_sJ, wJ_sR, wR_sI, wR_sJ, wR_sR, wN_nw, wL_nw, wI_nw, wJ_nw, wR_nw] using (J_abk I :)) (by simpa [KC, KR, LO, wN_sI, wN_sJ, wN_sR, wL_sI, wL_sJ, wL_sR, wI_sI, wI_sJ, wI_sR, wJ_sI, wJ_sJ, wJ_sR, wR_sI, wR_sJ, wR_sR, wN_nw, wL_nw, wI_nw, wJ_nw, wR_nw] using (J_anm I :)) (by simpa [KC, KR, LO, wN_sI, wN_sJ, wN_sR, wL_sI, wL_sJ, wL_sR, wI_sI, wI_sJ, wI_sR, wJ_sI, wJ_sJ, wJ_sR, wR_sI, wR_sJ, wR_sR, wN_nw, wL_nw, wI_nw, wJ_nw, wR_nw] using (J_asum I :)) (by simpa [KC, KR, LO, wN_sI, wN_sJ, wN_sR, wL_sI, wL_sJ, wL_sR, wI_sI, wI_sJ, wI_sR, wJ_sI, wJ_sJ, wJ_sR, wR_sI, wR_sJ, wR_sR, wN_nw, wL_nw, wI_nw, wJ_nw, wR_nw] using (J_aov I :)) (by simpa [KC, KR, LO, wN_sI, wN_sJ, wN_sR, wL_sI, wL_sJ, wL_sR, wI_sI, wI_sJ, wI_sR, wJ_sI, wJ_sJ, wJ_sR, wR_sI, wR_sJ, wR_sR, wN_nw, wL_nw, wI_nw, wJ_nw, wR_nw] using (J_ast I :)) (by simpa [KC, KR, LO, wN_sI, wN_sJ, wN_sR, wL_sI, wL_sJ, wL_sR, wI_sI, wI_sJ, wI_sR, wJ_sI, wJ_sJ, wJ_sR, wR_sI, wR_sJ, wR_sR, wN_nw, wL_nw, wI_nw, wJ_nw, wR_nw] using (J_amv I :)) (by simpa [KC, KR, LO, wN_sI, wN_sJ, wN_sR, wL_sI, wL_sJ, wL_sR, wI_sI, wI_sJ, wI_sR, wJ_sI, wJ_sJ, wJ_sR, wR_sI, wR_sJ, wR_sR, wN_nw, wL_nw, wI_nw, wJ_nw, wR_nw] using (J_ano2 I :)) (by simpa [KC, KR, LO, wN_sI, wN_sJ, wN_sR, wL_sI, wL_sJ, wL_sR, wI_sI, wI_sJ, wI_sR, wJ_sI, wJ_sJ, wJ_sR, wR_sI, wR_sJ, wR_sR, wN_nw, wL_nw, wI_nw, wJ_nw, wR_nw] using (J_agd I :)) (by simpa [KC, KR, LO, wN_sI, wN_sJ, wN_sR, wL_sI, wL_sJ, wL_sR, wI_sI, wI_sJ, wI_sR, wJ_sI, wJ_sJ, wJ_sR, wR_sI, wR_sJ, wR_sR, wN_nw, wL_nw, wI_nw, wJ_nw, wR_nw] using (J_akp I :)) (by simpa [KC, KR, LO, wN_sI, wN_sJ, wN_sR, wL_sI, wL_sJ, wL_sR, wI_sI, wI_sJ, wI_sR, wJ_sI, wJ_sJ, wJ_sR, wR_sI, wR_sJ, wR_sR, wN_nw, wL_nw, wI_nw, wJ_nw, wR_nw] using (J_ahs I :)) (by simpa [KC, KR, LO, wN_sI, wN_sJ, wN_sR, wL_sI, wL_sJ, wL_sR, wI_sI, wI_sJ, wI_sR, wJ_sI, wJ_sJ, wJ_sR, wR_sI, wR_sJ, wR_sR, wN_nw, wL_nw, wI_nw, wJ_nw, wR_nw] using (J_afr I :)) (by simpa [KC, KR, LO, wN_sI, wN_sJ, wN_sR, wL_sI, wL_sJ, wL_sR, wI_sI, wI_sJ, wI_sR, wJ_sI, wJ_sJ, wJ_sR, wR_sI, wR_sJ, wR_sR, wN_nw, wL_nw, wI_nw, wJ_nw, wR_nw] using (J_lk I :)) (by simpa [KC, KR, LO, wN_sI, wN_sJ, wN_sR, wL_sI, wL_sJ, wL_sR, wI_sI, wI_sJ, wI_sR, wJ_sI, wJ_sJ, wJ_sR, wR_sI, wR_sJ, wR_sR, wN_nw, wL_nw, wI_nw, wJ_nw, wR_nw] using (J_lft I :)) (by simpa [KC, KR, LO, wN_sI, wN_sJ, wN_sR, wL_sI, wL_sJ, wL_sR, wI_sI, wI_sJ, wI_sR, wJ_sI, wJ_sJ, wJ_sR, wR_sI, wR_sJ, wR_sR, wN_nw, wL_nw, wI_nw, wJ_nw, wR_nw] using (J_lam I :)) (by simpa [KC, KR, LO, wN_sI, wN_sJ, wN_sR, wL_sI, wL_sJ, wL_sR, wI_sI, wI_sJ, wI_sR, wJ_sI, wJ_sJ, wJ_sR, wR_sI, wR_sJ, wR_sR, wN_nw, wL_nw, wI_nw, wJ_nw, wR_nw] using (J_led I :)) (by simpa [KC, KR, LO, wN_sI, wN_sJ, wN_sR, wL_sI, wL_sJ, wL_sR, wI_sI, wI_sJ, wI_sR, wJ_sI, wJ_sJ, wJ_sR, wR_sI, wR_sJ, wR_sR, wN_nw, wL_nw, wI_nw, wJ_nw, wR_nw] using (J_ldn I :)) (by simpa [KC, KR, LO, wN_sI, wN_sJ, wN_sR, wL_sI, wL_sJ, wL_sR, wI_sI, wI_sJ, wI_sR, wJ_sI, wJ_sJ, wJ_sR, wR_sI, wR_sJ, wR_sR, wN_nw, wL_nw, wI_nw, wJ_nw, wR_nw] using (J_lbk I :)) (by simpa [KC, KR, LO, wN_sI, wN_sJ, wN_sR, wL_sI, wL_sJ, wL_sR, wI_sI, wI_sJ, wI_sR, wJ_sI, wJ_sJ, wJ_sR, wR_sI, wR_sJ, wR_sR, wN_nw, wL_nw, wI_nw, wJ_nw, wR_nw] using (J_ldu I :)) (by simpa [KC, KR, LO, wN_sI, wN_sJ, wN_sR, wL_sI, wL_sJ, wL_sR, wI_sI, wI_sJ, wI_sR, wJ_sI, wJ_sJ, wJ_sR, wR_sI, wR_sJ, wR_sR, wN_nw, wL_nw, wI_nw, wJ_nw, wR_nw] using (J_lfr I :)) (by simpa [KC, KR, LO, wN_sI, wN_sJ, wN_sR, wL_sI, wL_sJ, wL_sR, wI_sI, wI_sJ, wI_sR, wJ_sI, wJ_sJ, wJ_sR, wR_sI, wR_sJ, wR_sR, wN_nw, wL_nw, wI_nw, wJ_nw, wR_nw] using (J_mac I :)) (by simpa [KC, KR, LO, wN_sI, wN_sJ, wN_sR, wL_sI, wL_sJ, wL_sR, wI_sI, wI_sJ, wI_sR, wJ_sI, wJ_sJ, wJ_sR, wR_sI, wR_sJ, wR_sR, wN_nw, wL_nw, wI_nw, wJ_nw, wR_nw] using (J_mpt I :)) (by simpa [KC, KR, LO, wN_sI, wN_sJ, wN_sR, wL_sI, wL_sJ, wL_sR, wI_sI, wI_sJ, wI_sR, wJ_sI, wJ_sJ, wJ_sR, wR_sI, wR_sJ, wR_sR, wN_nw, wL_nw, wI_nw, wJ_nw, wR_nw] using (J_mas I :)) (by simpa [KC, KR, LO, wN_sI, wN_sJ, wN_sR, wL_sI, wL_sJ, wL_sR, wI_sI, wI_sJ, wI_sR, wJ_sI, wJ_sJ, wJ_sR, wR_sI, wR_sJ, wR_sR, wN_nw, wL_nw, wI_nw, wJ_nw, wR_nw] using (J_mst I :)) (by simpa [KC, KR, LO, wN_sI, wN_sJ, wN_sR, wL_sI, wL_sJ, wL_sR, wI_sI, wI_sJ, wI_sR, wJ_sI, wJ_sJ, wJ_sR, wR_sI, wR_sJ, wR_sR, wN_nw, wL_nw, wI_nw, wJ_nw, wR_nw] using (J_mgo I :)) (by simpa [KC, KR, LO, wN_sI, wN_sJ, wN_sR, wL_sI, wL_sJ, wL_sR, wI_sI, wI_sJ, wI_sR, wJ_sI, wJ_sJ, wJ_sR, wR_sI, wR_sJ, wR_sR, wN_nw, wL_nw, wI_nw, wJ_nw, wR_nw] using (J_mag I :)) (by simpa [KC, KR, LO, wN_sI, wN_sJ, wN_sR, wL_sI, wL_sJ, wL_sR, wI_sI, wI_sJ, wI_sR, wJ_sI, wJ_sJ, wJ_sR, wR_sI, wR_sJ, wR_sR, wN_nw, wL_nw, wI_nw, wJ_nw, wR_nw] using (J_mwy I :)) (by simpa [KC, KR, LO, wN_sI, wN_sJ, wN_sR, wL_sI, wL_sJ, wL_sR, wI_sI, wI_sJ, wI_sR, wJ_sI, wJ_sJ, wJ_sR, wR_sI, wR_sJ, wR_sR, wN_nw, wL_nw, wI_nw, wJ_nw, wR_nw] using (J_mfa I :)) (by simpa [KC, KR, LO, wN_sI, wN_sJ, wN_sR, wL_sI, wL_sJ, wL_sR, wI_sI, wI_sJ, wI_sR, wJ_sI, wJ_sJ, wJ_sR, wR_sI, wR_sJ, wR_sR, wN_nw, wL_nw, wI_nw, wJ_nw, wR_nw] using (J_mfb I :)) (by simpa [KC, KR, LO, wN_sI, wN_sJ, wN_sR, wL_sI, wL_sJ, wL_sR, wI_sI, wI_sJ, wI_sR, wJ_sI, wJ_sJ, wJ_sR, wR_sI, wR_sJ, wR_sR, wN_nw, wL_nw, wI_nw, wJ_nw, wR_nw] using (J_mop I :)) (by simpa [KC, KR, LO, wN_sI, wN_sJ, wN_sR, wL_sI, wL_sJ, wL_sR, wI_sI, wI_sJ, wI_sR, wJ_sI, wJ_sJ, wJ_sR, wR_sI, wR_sJ, wR_sR, wN_nw, wL_nw, wI_nw, wJ_nw, wR_nw] using (J_mdj I :)) (by simpa [KC, KR, LO, wN_sI, wN_sJ, wN_sR, wL_sI, wL_sJ, wL_sR, wI_sI, wI_sJ, wI_sR, wJ_sI, wJ_sJ, wJ_sR, wR_sI, wR_sJ, wR_sR, wN_nw, wL_nw, wI_nw, wJ_nw, wR_nw] using (J_mfr I :)) (by simpa [KC, KR, LO, wN_sI, wN_sJ, wN_sR, wL_sI, wL_sJ, wL_sR, wI_sI, wI_sJ, wI_sR, wJ_sI, wJ_sJ, wJ_sR, wR_sI, wR_sJ, wR_sR, wN_nw, wL_nw, wI_nw, wJ_nw, wR_nw] using (J_rpf I :)) (by simpa [KC, KR, LO, wN_sI, wN_sJ, wN_sR, wL_sI, wL_sJ, wL_sR, wI_sI, wI_sJ, wI_sR, wJ_sI, wJ_sJ, wJ_sR, wR_sI, wR_sJ, wR_sR, wN_nw, wL_nw, wI_nw, wJ_nw, wR_nw] using (J_rtx I :)) (by simpa [KC, KR, LO, wN_sI, wN_sJ, wN_sR, wL_sI, wL_sJ, wL_sR, wI_sI, wI_sJ, wI_sR, wJ_sI, wJ_sJ, wJ_sR, wR_sI, wR_sJ, wR_sR, wN_nw, wL_nw, wI_nw, wJ_nw, wR_nw] using (J_tap I :)) (by simpa [KC, KR, LO, wN_sI, wN_sJ, wN_sR, wL_sI, wL_sJ, wL_sR, wI_sI, wI_sJ, wI_sR, wJ_sI, wJ_sJ, wJ_sR, wR_sI, wR_sJ, wR_sR, wN_nw, wL_nw, wI_nw, wJ_nw, wR_nw] using (J_row I :)) (by simpa [KC, KR, LO, wN_sI, wN_sJ, wN_sR, wL_sI, wL_sJ, wL_sR, wI_sI, wI_sJ, wI_sR, wJ_sI, wJ_sJ, wJ_sR, wR_sI, wR_sJ, wR_sR, wN_nw, wL_nw, wI_nw, wJ_nw, wR_nw] using (J_sur I :)) (by simpa [KC, KR, LO, wN_sI, wN_sJ, wN_sR, wL_sI, wL_sJ, wL_sR, wI_sI, wI_sJ, wI_sR, wJ_sI, wJ_sJ, wJ_sR, wR_sI, wR_sJ, wR_sR, wN_nw, wL_nw, wI_nw, wJ_nw, wR_nw] using (J_ref I :))
/-- a night's frame and its moves -/
theorem t_nm {C R : zH} (I : Inv C R) : ∃ C0 C1 R1, f_X9_beginNight 0 C = some C0 ∧ f_X9_doMoves 0 C0 = some C1 ∧ f_X10_night 0 R = f_X10_night_78 fu 0 (zI R1 40 0 54 + 1) R1 ∧ IN (fun _ => (zI R1 40 0 54 + 1).toNatClampNeg) (zN C1 5) C1 R1 ∧ NX C R C1 R1 := by
  have hk := J_kc I
  unfold KC at hk
  have I0 := n_start I
  obtain ⟨C1, R1, w1, w2, w3, w4⟩ := l_beg 8 0 fu fu _ _ I0 (by omega) (by unfold fu; omega) (by unfold fu; omega)
  have hmx := (N_mx w3).2.2.1
  obtain ⟨C2, R2, y1, y2, y3, y4⟩ := l_mvs (zN C1 5) 0 fu fu C1 R1 w3 (by omega) (by unfold fu; omega) (by unfold fu; omega)
  have X : NX C R C2 R2 := (NX.tr ⟨fun q => by simp [wN_sI, wN_sJ, wN_sR, wL_sI, wL_sJ, wL_sR, wI_sI, wI_sJ, wI_sR, wJ_sI, wJ_sJ, wJ_sR, wR_sI, wR_sJ, wR_sR], fun k hk => rfl⟩ w4).tr y4
  refine ⟨C1, C2, R2, ?_, y1, ?_, ?_, X⟩
  · unfold f_X9_beginNight
    simp only [hk, Option.bind_some, zlt]
    exact w1
  · exact w2.trans y2
  · rw [X.2 54 (by decide), y4.1]
    exact y3
end ZMS
