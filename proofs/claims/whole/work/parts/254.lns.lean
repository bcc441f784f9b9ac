/-! ===== the lines of a night ===== -/
section ZLN
variable {mi : Nat} {b : Option Nat}
theorem l_inn {d : Nat} (hd : d ≤ 1500) (k8 k78 : Nat → Int32 → zH → Option zH) : ∀ (n i f g : Nat) (q : Nat → Nat) (C R : zH), IN q mi C R → (∀ l, i ≤ l → l < zN C 4 → q l = d) → (∀ l, l < i → q l = d + 1) → RT C R b → i + n = zN C 4 → n < f → n < g → ∃ C' R', f_X9_doLines_21 k8 f 0 (nI d) (nI i) C = k8 0 (nI (d + 1)) C' ∧ f_X10_night_88 k78 g 0 (nI d) (nI i) R = k78 0 (nI (d + 1)) R' ∧ IN (fun _ => d + 1) mi C' R' ∧ RT C' R' b ∧ FL C C' ∧ GL R R' := by
  intro n
  induction n with
  | zero =>
    intro i f g q C R I hq1 hq2 T hi hf hg
    obtain ⟨f, rfl⟩ : ∃ f', f = f' + 1 := ⟨f - 1, by omega⟩
    obtain ⟨g, rfl⟩ : ∃ g', g = g' + 1 := ⟨g - 1, by omega⟩
    have hk := N_kc I
    unfold KC at hk
    have hmx := (N_mx I).2.1
    have hle : nI (zN C 4) ≤ nI i := (nJ_le (by omega) (by omega)).mpr (by omega)
    rw [f_X9_doLines_21, f_X10_night_88]
    simp only [hk, Option.bind_some, (N_ll I).size, (N_cnt I).2.1, hle, if_true, ← nI_succ]
    exact ⟨C, R, rfl, rfl, n_q I (fun l hl => hq2 l (by omega)), T, FL.rf, GL.rf⟩
  | succ n ih =>
    intro i f g q C R I hq1 hq2 T hi hf hg
    obtain ⟨f, rfl⟩ : ∃ f', f = f' + 1 := ⟨f - 1, by omega⟩
    obtain ⟨g, rfl⟩ : ∃ g', g = g' + 1 := ⟨g - 1, by omega⟩
    have hk := N_kc I
    unfold KC at hk
    have hmx := (N_mx I).2.1
    have hil : i < zN C 4 := by omega
    have hle : ¬ nI (zN C 4) ≤ nI i := fun z => by have := (nJ_le (by omega) (by omega)).mp z; omega
    obtain ⟨a, a1, a2, a3, a4⟩ := e_due I hil (hq1 i (Nat.le_refl _) hil) hd
    have u1 : ∀ l, i + 1 ≤ l → l < zN C 4 → zup q i (d + 1) l = d := fun l h1 h2 => by
      unfold zup
      rw [if_neg (by omega)]
      exact hq1 l (by omega) h2
    have u2 : ∀ l, l < i + 1 → zup q i (d + 1) l = d + 1 := fun l h1 => by
      unfold zup
      by_cases e : l = i
      · rw [if_pos e]
      · rw [if_neg e]
        exact hq2 l (by omega)
    rw [f_X9_doLines_21, f_X10_night_88]
    simp only [hk, Option.bind_some, (N_ll I).size, (N_ll I).get hil, (N_cnt I).2.1, hle, if_false, a1, a2, ← nI_succ]
    by_cases h0 : a = 0
    · simp only [h0, if_true]
      exact ih (i + 1) f g _ C R (a3 h0) u1 u2 T (by omega) (by omega) (by omega)
    · simp only [h0, if_false]
      obtain ⟨x, x1, x2⟩ := a4 h0
      have F1 : FL C (zsI C 4 i 5 x) := ⟨fun q => by simp [wN_sI, wN_sJ, wN_sR, wL_sI, wL_sJ, wL_sR, wI_sI, wI_sJ, wI_sR, wJ_sI, wJ_sJ, wJ_sR, wR_sI, wR_sJ, wR_sR], fun i k => by simp [wN_sI, wN_sJ, wN_sR, wL_sI, wL_sJ, wL_sR, wI_sI, wI_sJ, wI_sR, wJ_sI, wJ_sJ, wJ_sR, wR_sI, wR_sJ, wR_sR], fun q i k => by simp [wN_sI, wN_sJ, wN_sR, wL_sI, wL_sJ, wL_sR, wI_sI, wI_sJ, wI_sR, wJ_sI, wJ_sJ, wJ_sR, wR_sI, wR_sJ, wR_sR]⟩
      have T1 : RT (zsI C 4 i 5 x) R b := T.go I.q x2.q F1 GL.rf
      obtain ⟨C2, R2, y1, y2, y3, y4, y5⟩ := t_lin x2 (l := i) (by simpa [wN_sI, wN_sJ, wN_sR, wL_sI, wL_sJ, wL_sR, wI_sI, wI_sJ, wI_sR, wJ_sI, wJ_sJ, wJ_sR, wR_sI, wR_sJ, wR_sR] using hil) T1
      have T2 : RT C2 R2 b := T1.go x2.q y3.q y4 y5
      have N4 : zN C2 4 = zN C 4 := (F1.tr y4).1 4
      simp only [x1, y1, y2, Option.bind_some]
      obtain ⟨C3, R3, w1, w2, w3, w4, w5, w6⟩ := ih (i + 1) f g _ C2 R2 y3 (by rw [N4]; exact u1) u2 T2 (by rw [N4]; omega) (by omega) (by omega)
      exact ⟨C3, R3, w1, w2, w3, w4, (F1.tr y4).tr w5, y5.tr w6⟩
theorem l_out {T : Nat} (hT : T ≤ 1500) : ∀ (n d f g : Nat) (C R : zH), IN (fun _ => d) mi C R → zI R 40 0 46 = nI T → RT C R b → d + n = T + 1 → n < f → n < g → ∃ C' R', f_X9_doLines_8 f 0 (nI d) C = some (zsI C' 1 0 6 (nI T + 1)) ∧ f_X10_night_78 g 0 (nI d) R = some (zsI (zsI R' 40 0 54 (nI T)) 40 0 53 (zI R' 40 0 53 + 1)) ∧ IN (fun _ => T + 1) mi C' R' ∧ FL C C' ∧ GL R R' := by
  intro n
  induction n with
  | zero =>
    intro d f g C R I h46 RT0 hd hf hg
    obtain ⟨f, rfl⟩ : ∃ f', f = f' + 1 := ⟨f - 1, by omega⟩
    obtain ⟨g, rfl⟩ : ∃ g', g = g' + 1 := ⟨g - 1, by omega⟩
    have hk := N_kc I
    unfold KC at hk
    have hlt : nI T < nI d := (nJ_lt (by omega) (by omega)).mpr (by omega)
    have hdd : d = T + 1 := by omega
    subst hdd
    rw [f_X9_doLines_8, f_X10_night_78]
    simp only [hk, Option.bind_some, (N_day I).1, h46, hlt, if_true, zlt, wN_sI, wN_sJ, wN_sR, wL_sI, wL_sJ, wL_sR, wI_sI, wI_sJ, wI_sR, wJ_sI, wJ_sJ, wJ_sR, wR_sI, wR_sJ, wR_sR, show ¬ (53 : Nat) = 54 by decide, and_false, if_false]
    exact ⟨C, R, rfl, rfl, I, FL.rf, GL.rf⟩
  | succ n ih =>
    intro d f g C R I h46 RT0 hd hf hg
    obtain ⟨f, rfl⟩ : ∃ f', f = f' + 1 := ⟨f - 1, by omega⟩
    obtain ⟨g, rfl⟩ : ∃ g', g = g' + 1 := ⟨g - 1, by omega⟩
    have hk := N_kc I
    unfold KC at hk
    have hmx := (N_mx I).2.1
    have hlt : ¬ nI T < nI d := fun z => by have := (nJ_lt (by omega) (by omega)).mp z; omega
    rw [f_X9_doLines_8, f_X10_night_78]
    simp only [hk, Option.bind_some, (N_day I).1, h46, hlt, if_false]
    obtain ⟨C1, R1, y1, y2, y3, y4, y5, y6⟩ := l_inn (mi := mi) (b := b) (d := d) (by omega) (f_X9_doLines_8 f) (f_X10_night_78 g) (zN C 4) 0 fu fu (fun _ => d) C R I (fun _ _ _ => rfl) (fun l h => absurd h (Nat.not_lt_zero _)) RT0 (by omega) (by unfold fu; omega) (by unfold fu; omega)
    rw [show f_X9_doLines_21 (f_X9_doLines_8 f) fu 0 (nI d) 0 C = _ from y1, show f_X10_night_88 (f_X10_night_78 g) fu 0 (nI d) 0 R = _ from y2]
    have e46 : zI R1 40 0 46 = nI T := (y6 40 0 46 (by decide) (by decide) (by decide) (by decide) (by decide) (by decide) (by decide)).trans h46
    obtain ⟨C2, R2, w1, w2, w3, w4, w5⟩ := ih (d + 1) f g C1 R1 y3 e46 y4 (by omega) (by omega) (by omega)
    exact ⟨C2, R2, w1, w2, w3, y5.tr w4, y6.tr w5⟩
end ZLN
