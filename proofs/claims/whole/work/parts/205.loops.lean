/-! ===== calls with plain loops ===== -/
def TR {α : Type} (c r : Option α) : Prop := ∃ a, c = some a ∧ r = some a
section ZD
variable {C R : zH}
theorem l_open (I : Inv C R) : ∀ (n k : Nat) (x : Int32) (f g : Nat), k + n = zN C 3 → n < f → n < g → TR (f_X9_openAccounts_4 f 0 x (nI k) C) (f_X10_count_96 g 0 x (nI k) R) := by
  have hk := J_kc I
  have hr := J_kr I
  have hm := (J_mx I).1
  unfold KC at hk
  unfold KR at hr
  intro n
  induction n with
  | zero =>
    intro k x f g h hf hg
    obtain ⟨f, rfl⟩ : ∃ f', f = f' + 1 := ⟨f - 1, by omega⟩
    obtain ⟨g, rfl⟩ : ∃ g', g = g' + 1 := ⟨g - 1, by omega⟩
    have hle : nI (zN C 3) ≤ nI k := (nJ_le (by omega) (by omega)).mpr (by omega)
    rw [f_X9_openAccounts_4, f_X10_count_96]
    simp only [hk, Option.bind_some, (J_la I).size, (J_cnt I).1, hle, if_true]
    exact ⟨_, rfl, rfl⟩
  | succ n ih =>
    intro k x f g h hf hg
    obtain ⟨f, rfl⟩ : ∃ f', f = f' + 1 := ⟨f - 1, by omega⟩
    obtain ⟨g, rfl⟩ : ∃ g', g = g' + 1 := ⟨g - 1, by omega⟩
    have hlt : k < zN C 3 := by omega
    have hle : ¬ nI (zN C 3) ≤ nI k := fun z => by have := (nJ_le (by omega) (by omega)).mp z; omega
    have z40 : zib (nI k) 40 = true := zib_nI (by omega) (by decide)
    rw [f_X9_openAccounts_4, f_X10_count_96]
    simp only [hk, hr, Option.bind_some, (J_la I).size, (J_la I).get hlt, (J_cnt I).1, hle, if_false, zgd, z40, if_true, nI_clamp (show k < 2 ^ 31 by omega), J_ast I k hlt, ← nI_succ, Int32.add_zero]
    split
    · exact ih (k + 1) _ f g (by omega) (by omega) (by omega)
    · exact ih (k + 1) _ f g (by omega) (by omega) (by omega)
theorem l_ends (I : Inv C R) : ∀ (n k : Nat) (x : Int32) (f g : Nat), k + n = zN C 4 → n < f → n < g → TR (f_X9_linesNotEnded_4 f 0 none x (nI k) C) (f_X10_count_131 g 0 x (nI k) R) := by
  have hk := J_kc I
  have hr := J_kr I
  have hm := (J_mx I).2.1
  unfold KC at hk
  unfold KR at hr
  intro n
  induction n with
  | zero =>
    intro k x f g h hf hg
    obtain ⟨f, rfl⟩ : ∃ f', f = f' + 1 := ⟨f - 1, by omega⟩
    obtain ⟨g, rfl⟩ : ∃ g', g = g' + 1 := ⟨g - 1, by omega⟩
    have hle : nI (zN C 4) ≤ nI k := (nJ_le (by omega) (by omega)).mpr (by omega)
    rw [f_X9_linesNotEnded_4, f_X10_count_131]
    simp only [hk, Option.bind_some, (J_ll I).size, (J_cnt I).2.1, hle, if_true]
    exact ⟨_, rfl, rfl⟩
  | succ n ih =>
    intro k x f g h hf hg
    obtain ⟨f, rfl⟩ : ∃ f', f = f' + 1 := ⟨f - 1, by omega⟩
    obtain ⟨g, rfl⟩ : ∃ g', g = g' + 1 := ⟨g - 1, by omega⟩
    have hlt : k < zN C 4 := by omega
    have hle : ¬ nI (zN C 4) ≤ nI k := fun z => by have := (nJ_le (by omega) (by omega)).mp z; omega
    have z60 : zib (nI k) 60 = true := zib_nI (by omega) (by decide)
    rw [f_X9_linesNotEnded_4, f_X10_count_131]
    simp only [hk, hr, Option.bind_some, (J_ll I).size, (J_ll I).get hlt, (J_cnt I).2.1, hle, if_false, zgd, z60, if_true, nI_clamp (show k < 2 ^ 31 by omega), ← nI_succ, Int32.add_zero, zop]
    by_cases he : zI R 126 0 k < 0
    · rw [if_neg (fun z => absurd he (Int32.not_lt.mpr z)), if_pos ((J_led I k hlt).1 he)]
      exact ih (k + 1) _ f g (by omega) (by omega) (by omega)
    · rw [if_pos (Int32.not_lt.mp he), if_neg (by rw [((J_led I k hlt).2 he).1]; decide)]
      exact ih (k + 1) _ f g (by omega) (by omega) (by omega)
theorem l_goes (I : Inv C R) : ∀ (n k : Nat) (x : Int32) (f g : Nat), k + n = zN C 5 → n < f → n < g → TR (f_X9_movesThatGoOn_4 f 0 x (nI k) C) (f_X10_count_171 g 0 x (nI k) R) := by
  have hk := J_kc I
  have hr := J_kr I
  have hm := (J_mx I).2.2.1
  unfold KC at hk
  unfold KR at hr
  intro n
  induction n with
  | zero =>
    intro k x f g h hf hg
    obtain ⟨f, rfl⟩ : ∃ f', f = f' + 1 := ⟨f - 1, by omega⟩
    obtain ⟨g, rfl⟩ : ∃ g', g = g' + 1 := ⟨g - 1, by omega⟩
    have hle : nI (zN C 5) ≤ nI k := (nJ_le (by omega) (by omega)).mpr (by omega)
    rw [f_X9_movesThatGoOn_4, f_X10_count_171]
    simp only [hk, Option.bind_some, (J_lm I).size, (J_cnt I).2.2.1, hle, if_true]
    exact ⟨_, rfl, rfl⟩
  | succ n ih =>
    intro k x f g h hf hg
    obtain ⟨f, rfl⟩ : ∃ f', f = f' + 1 := ⟨f - 1, by omega⟩
    obtain ⟨g, rfl⟩ : ∃ g', g = g' + 1 := ⟨g - 1, by omega⟩
    have hlt : k < zN C 5 := by omega
    have hle : ¬ nI (zN C 5) ≤ nI k := fun z => by have := (nJ_le (by omega) (by omega)).mp z; omega
    have z30 : zib (nI k) 30 = true := zib_nI (by omega) (by decide)
    rw [f_X9_movesThatGoOn_4, f_X10_count_171]
    simp only [hk, hr, Option.bind_some, (J_lm I).size, (J_lm I).get hlt, (J_cnt I).2.2.1, hle, if_false, zgd, z30, if_true, nI_clamp (show k < 2 ^ 31 by omega), (J_mgo I k hlt).1, ← nI_succ, Int32.add_zero]
    split
    · exact ih (k + 1) _ f g (by omega) (by omega) (by omega)
    · exact ih (k + 1) _ f g (by omega) (by omega) (by omega)
theorem l_isMv (I : Inv C R) {x : Int32} (hx : zib x (zN C 3) = true) : ∀ (n k : Nat) (f g : Nat), k + n = zN C 5 → n < f → n < g → TR (f_X9_isInMove_2 f 0 (some x.toNatClampNeg) (nI k) C) (f_X10_isMoving_2 g 0 x (nI k) R) := by
  have hk := J_kc I
  have hr := J_kr I
  have hm := (J_mx I).2.2.1
  unfold KC at hk
  unfold KR at hr
  intro n
  induction n with
  | zero =>
    intro k f g h hf hg
    obtain ⟨f, rfl⟩ : ∃ f', f = f' + 1 := ⟨f - 1, by omega⟩
    obtain ⟨g, rfl⟩ : ∃ g', g = g' + 1 := ⟨g - 1, by omega⟩
    have hle : nI (zN C 5) ≤ nI k := (nJ_le (by omega) (by omega)).mpr (by omega)
    rw [f_X9_isInMove_2, f_X10_isMoving_2]
    simp only [hk, Option.bind_some, (J_lm I).size, (J_cnt I).2.2.1, hle, if_true]
    exact ⟨_, rfl, rfl⟩
  | succ n ih =>
    intro k f g h hf hg
    obtain ⟨f, rfl⟩ : ∃ f', f = f' + 1 := ⟨f - 1, by omega⟩
    obtain ⟨g, rfl⟩ : ∃ g', g = g' + 1 := ⟨g - 1, by omega⟩
    have hlt : k < zN C 5 := by omega
    have hle : ¬ nI (zN C 5) ≤ nI k := fun z => by have := (nJ_le (by omega) (by omega)).mp z; omega
    have z30 : zib (nI k) 30 = true := zib_nI (by omega) (by decide)
    obtain ⟨m1, m2, m3, m4, m5⟩ := J_mac I k hlt
    rw [f_X9_isInMove_2, f_X10_isMoving_2]
    simp only [f_X4_has, hk, hr, Option.bind_some, (J_lm I).size, (J_lm I).get hlt, (J_cnt I).2.2.1, hle, if_false, zgd, z30, if_true, nI_clamp (show k < 2 ^ 31 by omega), (J_mgo I k hlt).1, ← nI_succ, m1, m3, Option.some.injEq, rd_inj (zib_ex m2).2 (zib_ex hx).2, rd_inj (zib_ex m4).2 (zib_ex hx).2]
    split
    · exact ih (k + 1) f g (by omega) (by omega) (by omega)
    · split
      · exact ⟨_, rfl, rfl⟩
      · split
        · exact ⟨_, rfl, rfl⟩
        · simp only [Option.bind_some, if_true]
          exact ih (k + 1) f g (by omega) (by omega) (by omega)
theorem t_close (I : Inv C R) (x1 : Int32) : TT (f_X9_close 0 x1 C) (f_X10_close 0 x1 R) := by
  have hr := J_kr I
  unfold KR at hr
  unfold f_X9_close f_X10_close f_X9_close_40 f_X10_close_42
  rw [e_accAt I, e_isAcc I, Option.bind_some, Option.bind_some]
  by_cases h : zib x1 (zN C 3) = true
  · have h40 := zib_mono h (J_mx I).1
    have hi := (zib_ex h).1
    simp only [h, h40, hr, if_true, zop, Option.bind_some, zgd, zlt, show ¬ (1 : Int32) = 0 by decide, if_false, J_ast I _ hi, J_asum I _ hi]
    by_cases h3 : zI R 114 0 x1.toNatClampNeg = 0
    · simp only [h3, if_true]
      by_cases h4 : lg_cmp (zJ R 118 0 x1.toNatClampNeg) 0 = 0
      · simp only [h4, if_true]
        have hm := (J_mx I).2.2.1
        obtain ⟨b, q1, q2⟩ := l_isMv I h (zN C 5) 0 fu fu (by omega) (by unfold fu; omega) (by unfold fu; omega)
        rw [show f_X9_isInMove 0 (some x1.toNatClampNeg) C = some b from q1, show f_X10_isMoving 0 x1 R = some b from q2]
        simp only [Option.bind_some]
        by_cases h5 : b = 0
        · simp only [h5, if_true]
          refine TT.mk rfl ?_
          have hnm : ∀ m, m < zN C 5 → ¬ zI R 138 0 m = 0 → ¬ (zI R 130 0 m).toNatClampNeg = x1.toNatClampNeg ∧ ¬ (zI R 131 0 m).toNatClampNeg = x1.toNatClampNeg := by
            have key : ∀ n k f, k + n = zN C 5 → n < f → f_X10_isMoving_2 f 0 x1 (nI k) R = some 0 → ∀ m, k ≤ m → m < zN C 5 → ¬ zI R 138 0 m = 0 → ¬ zI R 130 0 m = x1 ∧ ¬ zI R 131 0 m = x1 := by
              intro n
              induction n with
              | zero => intro k f h1 h2 h3 m hm1 hm2; omega
              | succ n ih =>
                intro k f h1 h2 h3 m hm1 hm2 hg
                obtain ⟨f, rfl⟩ : ∃ f', f = f' + 1 := ⟨f - 1, by omega⟩
                have hle : ¬ nI (zN C 5) ≤ nI k := fun z => by have := (nJ_le (by omega) (by omega)).mp z; omega
                have z30 : zib (nI k) 30 = true := zib_nI (by omega) (by decide)
                rw [f_X10_isMoving_2] at h3
                simp only [hr, Option.bind_some, (J_cnt I).2.2.1, hle, if_false, zgd, z30, if_true, nI_clamp (show k < 2 ^ 31 by omega), ← nI_succ] at h3
                by_cases e : m = k
                · subst e
                  rw [if_neg hg] at h3
                  split at h3
                  · exact absurd (Option.some.inj h3) (by decide)
                  · split at h3
                    · exact absurd (Option.some.inj h3) (by decide)
                    · exact ⟨by assumption, by assumption⟩
                · split at h3
                  · exact ih (k + 1) f (by omega) (by omega) h3 m (by omega) hm2 hg
                  · split at h3
                    · exact absurd (Option.some.inj h3) (by decide)
                    · split at h3
                      · exact absurd (Option.some.inj h3) (by decide)
                      · exact ih (k + 1) f (by omega) (by omega) h3 m (by omega) hm2 hg
            intro m hm1 hg
            have q := key (zN C 5) 0 fu (by omega) (by unfold fu; omega) (by rw [h5] at q2; exact q2) m (Nat.zero_le _) hm1 hg
            obtain ⟨m1, m2, m3, m4, m5⟩ := J_mac I m hm1
            rw [rd_inj (zib_ex m2).2 (zib_ex h).2, rd_inj (zib_ex m4).2 (zib_ex h).2]
            exact q
          exact Inv_mk (by first | exact (J_kc I :) | simpa [KC, KR, LO, zN_sI, zN_sJ, zN_sR, zL_sI, zL_sJ, zL_sR, zI_sI, zI_sJ, zI_sR, zJ_sI, zJ_sJ, zJ_sR, zR_sI, zR_sJ, zR_sR] using (J_kc I :)) (by first | exact (J_kr I :) | simpa [KC, KR, LO, zN_sI, zN_sJ, zN_sR, zL_sI, zL_sJ, zL_sR, zI_sI, zI_sJ, zI_sR, zJ_sI, zJ_sJ, zJ_sR, zR_sI, zR_sJ, zR_sR] using (J_kr I :)) (by first | exact (J_cnt I :) | simpa [KC, KR, LO, zN_sI, zN_sJ, zN_sR, zL_sI, zL_sJ, zL_sR, zI_sI, zI_sJ, zI_sR, zJ_sI, zJ_sJ, zJ_sR, zR_sI, zR_sJ, zR_sR] using (J_cnt I :)) (by first | exact (J_mx I :) | simpa [KC, KR, LO, zN_sI, zN_sJ, zN_sR, zL_sI, zL_sJ, zL_sR, zI_sI, zI_sJ, zI_sR, zJ_sI, zJ_sJ, zJ_sR, zR_sI, zR_sJ, zR_sR] using (J_mx I :)) (by first | exact (J_la I :) | simpa [KC, KR, LO, zN_sI, zN_sJ, zN_sR, zL_sI, zL_sJ, zL_sR, zI_sI, zI_sJ, zI_sR, zJ_sI, zJ_sJ, zJ_sR, zR_sI, zR_sJ, zR_sR] using (J_la I :)) (by first | exact (J_ll I :) | simpa [KC, KR, LO, zN_sI, zN_sJ, zN_sR, zL_sI, zL_sJ, zL_sR, zI_sI, zI_sJ, zI_sR, zJ_sI, zJ_sJ, zJ_sR, zR_sI, zR_sJ, zR_sR] using (J_ll I :)) (by first | exact (J_lm I :) | simpa [KC, KR, LO, zN_sI, zN_sJ, zN_sR, zL_sI, zL_sJ, zL_sR, zI_sI, zI_sJ, zI_sR, zJ_sI, zJ_sJ, zJ_sR, zR_sI, zR_sJ, zR_sR] using (J_lm I :)) (by first | exact (J_lr I :) | simpa [KC, KR, LO, zN_sI, zN_sJ, zN_sR, zL_sI, zL_sJ, zL_sR, zI_sI, zI_sJ, zI_sR, zJ_sI, zJ_sJ, zJ_sR, zR_sI, zR_sJ, zR_sR] using (J_lr I :)) (by first | exact (J_al I :) | simpa [KC, KR, LO, zN_sI, zN_sJ, zN_sR, zL_sI, zL_sJ, zL_sR, zI_sI, zI_sJ, zI_sR, zJ_sI, zJ_sJ, zJ_sR, zR_sI, zR_sJ, zR_sR] using (J_al I :)) (by first | exact (J_bno I :) | simpa [KC, KR, LO, zN_sI, zN_sJ, zN_sR, zL_sI, zL_sJ, zL_sR, zI_sI, zI_sJ, zI_sR, zJ_sI, zJ_sJ, zJ_sR, zR_sI, zR_sJ, zR_sR] using (J_bno I :)) (by first | exact (J_bfee I :) | simpa [KC, KR, LO, zN_sI, zN_sJ, zN_sR, zL_sI, zL_sJ, zL_sR, zI_sI, zI_sJ, zI_sR, zJ_sI, zJ_sJ, zJ_sR, zR_sI, zR_sJ, zR_sR] using (J_bfee I :)) (by first | exact (J_bcap I :) | simpa [KC, KR, LO, zN_sI, zN_sJ, zN_sR, zL_sI, zL_sJ, zL_sR, zI_sI, zI_sJ, zI_sR, zJ_sI, zJ_sJ, zJ_sR, zR_sI, zR_sJ, zR_sR] using (J_bcap I :)) (by first | exact (J_bow I :) | simpa [KC, KR, LO, zN_sI, zN_sJ, zN_sR, zL_sI, zL_sJ, zL_sR, zI_sI, zI_sJ, zI_sR, zJ_sI, zJ_sJ, zJ_sR, zR_sI, zR_sJ, zR_sR] using (J_bow I :)) (by first | exact (J_bdid I :) | simpa [KC, KR, LO, zN_sI, zN_sJ, zN_sR, zL_sI, zL_sJ, zL_sR, zI_sI, zI_sJ, zI_sR, zJ_sI, zJ_sJ, zJ_sR, zR_sI, zR_sJ, zR_sR] using (J_bdid I :)) (by first | exact (J_bnet I :) | simpa [KC, KR, LO, zN_sI, zN_sJ, zN_sR, zL_sI, zL_sJ, zL_sR, zI_sI, zI_sJ, zI_sR, zJ_sI, zJ_sJ, zJ_sR, zR_sI, zR_sJ, zR_sR] using (J_bnet I :)) (by first | exact (J_day I :) | simpa [KC, KR, LO, zN_sI, zN_sJ, zN_sR, zL_sI, zL_sJ, zL_sR, zI_sI, zI_sJ, zI_sR, zJ_sI, zJ_sJ, zJ_sR, zR_sI, zR_sJ, zR_sR] using (J_day I :)) (by first | exact (J_ngt I :) | simpa [KC, KR, LO, zN_sI, zN_sJ, zN_sR, zL_sI, zL_sJ, zL_sR, zI_sI, zI_sJ, zI_sR, zJ_sI, zJ_sJ, zJ_sR, zR_sI, zR_sJ, zR_sR] using (J_ngt I :)) (by first | exact (J_due I :) | simpa [KC, KR, LO, zN_sI, zN_sJ, zN_sR, zL_sI, zL_sJ, zL_sR, zI_sI, zI_sJ, zI_sR, zJ_sI, zJ_sJ, zJ_sR, zR_sI, zR_sJ, zR_sR] using (J_due I :)) (by first | exact (J_hol I :) | simpa [KC, KR, LO, zN_sI, zN_sJ, zN_sR, zL_sI, zL_sJ, zL_sR, zI_sI, zI_sJ, zI_sR, zJ_sI, zJ_sJ, zJ_sR, zR_sI, zR_sJ, zR_sR] using (J_hol I :)) (by first | exact (J_lat I :) | simpa [KC, KR, LO, zN_sI, zN_sJ, zN_sR, zL_sI, zL_sJ, zL_sR, zI_sI, zI_sJ, zI_sR, zJ_sI, zJ_sJ, zJ_sR, zR_sI, zR_sJ, zR_sR] using (J_lat I :)) (by first | exact (J_ano I :) | simpa [KC, KR, LO, zN_sI, zN_sJ, zN_sR, zL_sI, zL_sJ, zL_sR, zI_sI, zI_sJ, zI_sR, zJ_sI, zJ_sJ, zJ_sR, zR_sI, zR_sJ, zR_sR] using (J_ano I :)) (by first | exact (J_abk I :) | simpa [KC, KR, LO, zN_sI, zN_sJ, zN_sR, zL_sI, zL_sJ, zL_sR, zI_sI, zI_sJ, zI_sR, zJ_sI, zJ_sJ, zJ_sR, zR_sI, zR_sJ, zR_sR] using (J_abk I :)) (by first | exact (J_anm I :) | simpa [KC, KR, LO, zN_sI, zN_sJ, zN_sR, zL_sI, zL_sJ, zL_sR, zI_sI, zI_sJ, zI_sR, zJ_sI, zJ_sJ, zJ_sR, zR_sI, zR_sJ, zR_sR] using (J_anm I :)) (by first | exact (J_asum I :) | simpa [KC, KR, LO, zN_sI, zN_sJ, zN_sR, zL_sI, zL_sJ, zL_sR, zI_sI, zI_sJ, zI_sR, zJ_sI, zJ_sJ, zJ_sR, zR_sI, zR_sJ, zR_sR] using (J_asum I :)) (by first | exact (J_aov I :) | simpa [KC, KR, LO, zN_sI, zN_sJ, zN_sR, zL_sI, zL_sJ, zL_sR, zI_sI, zI_sJ, zI_sR, zJ_sI, zJ_sJ, zJ_sR, zR_sI, zR_sJ, zR_sR] using (J_aov I :)) (by
            intro j hj
            simp [zN_sI, zN_sJ, zN_sR, zL_sI, zL_sJ, zL_sR, zI_sI, zI_sJ, zI_sR, zJ_sI, zJ_sJ, zJ_sR, zR_sI, zR_sJ, zR_sR, J_ast I j hj]) (by
            intro j hj
            have := J_amv I j hj
            by_cases e : j = x1.toNatClampNeg
            · simp [zN_sI, zN_sJ, zN_sR, zL_sI, zL_sJ, zL_sR, zI_sI, zI_sJ, zI_sR, zJ_sI, zJ_sJ, zJ_sR, zR_sI, zR_sJ, zR_sR, e]
            · simpa [zN_sI, zN_sJ, zN_sR, zL_sI, zL_sJ, zL_sR, zI_sI, zI_sJ, zI_sR, zJ_sI, zJ_sJ, zJ_sR, zR_sI, zR_sJ, zR_sR, e] using this) (by
            intro j hj
            have := J_ano2 I j hj
            by_cases e : j = x1.toNatClampNeg
            · subst e
              simpa [zN_sI, zN_sJ, zN_sR, zL_sI, zL_sJ, zL_sR, zI_sI, zI_sJ, zI_sR, zJ_sI, zJ_sJ, zJ_sR, zR_sI, zR_sJ, zR_sR, h3] using this
            · simpa [zN_sI, zN_sJ, zN_sR, zL_sI, zL_sJ, zL_sR, zI_sI, zI_sJ, zI_sR, zJ_sI, zJ_sJ, zJ_sR, zR_sI, zR_sJ, zR_sR, e] using this) (by first | exact (J_agd I :) | simpa [KC, KR, LO, zN_sI, zN_sJ, zN_sR, zL_sI, zL_sJ, zL_sR, zI_sI, zI_sJ, zI_sR, zJ_sI, zJ_sJ, zJ_sR, zR_sI, zR_sJ, zR_sR] using (J_agd I :)) (by first | exact (J_akp I :) | simpa [KC, KR, LO, zN_sI, zN_sJ, zN_sR, zL_sI, zL_sJ, zL_sR, zI_sI, zI_sJ, zI_sR, zJ_sI, zJ_sJ, zJ_sR, zR_sI, zR_sJ, zR_sR] using (J_akp I :)) (by first | exact (J_ahs I :) | simpa [KC, KR, LO, zN_sI, zN_sJ, zN_sR, zL_sI, zL_sJ, zL_sR, zI_sI, zI_sJ, zI_sR, zJ_sI, zJ_sJ, zJ_sR, zR_sI, zR_sJ, zR_sR] using (J_ahs I :)) (by
            intro j hj hj2
            have := J_afr I j hj hj2
            have hne : ¬ j = x1.toNatClampNeg := by have : zN C 3 ≤ j := hj; omega
            simpa [zN_sI, zN_sJ, zN_sR, zL_sI, zL_sJ, zL_sR, zI_sI, zI_sJ, zI_sR, zJ_sI, zJ_sJ, zJ_sR, zR_sI, zR_sJ, zR_sR, hne] using this) (by first | exact (J_lk I :) | simpa [KC, KR, LO, zN_sI, zN_sJ, zN_sR, zL_sI, zL_sJ, zL_sR, zI_sI, zI_sJ, zI_sR, zJ_sI, zJ_sJ, zJ_sR, zR_sI, zR_sJ, zR_sR] using (J_lk I :)) (by first | exact (J_lft I :) | simpa [KC, KR, LO, zN_sI, zN_sJ, zN_sR, zL_sI, zL_sJ, zL_sR, zI_sI, zI_sJ, zI_sR, zJ_sI, zJ_sJ, zJ_sR, zR_sI, zR_sJ, zR_sR] using (J_lft I :)) (by first | exact (J_lam I :) | simpa [KC, KR, LO, zN_sI, zN_sJ, zN_sR, zL_sI, zL_sJ, zL_sR, zI_sI, zI_sJ, zI_sR, zJ_sI, zJ_sJ, zJ_sR, zR_sI, zR_sJ, zR_sR] using (J_lam I :)) (by first | exact (J_led I :) | simpa [KC, KR, LO, zN_sI, zN_sJ, zN_sR, zL_sI, zL_sJ, zL_sR, zI_sI, zI_sJ, zI_sR, zJ_sI, zJ_sJ, zJ_sR, zR_sI, zR_sJ, zR_sR] using (J_led I :)) (by first | exact (J_ldn I :) | simpa [KC, KR, LO, zN_sI, zN_sJ, zN_sR, zL_sI, zL_sJ, zL_sR, zI_sI, zI_sJ, zI_sR, zJ_sI, zJ_sJ, zJ_sR, zR_sI, zR_sJ, zR_sR] using (J_ldn I :)) (by first | exact (J_lbk I :) | simpa [KC, KR, LO, zN_sI, zN_sJ, zN_sR, zL_sI, zL_sJ, zL_sR, zI_sI, zI_sJ, zI_sR, zJ_sI, zJ_sJ, zJ_sR, zR_sI, zR_sJ, zR_sR] using (J_lbk I :)) (by first | exact (J_ldu I :) | simpa [KC, KR, LO, zN_sI, zN_sJ, zN_sR, zL_sI, zL_sJ, zL_sR, zI_sI, zI_sJ, zI_sR, zJ_sI, zJ_sJ, zJ_sR, zR_sI, zR_sJ, zR_sR] using (J_ldu I :)) (by first | exact (J_lfr I :) | simpa [KC, KR, LO, zN_sI, zN_sJ, zN_sR, zL_sI, zL_sJ, zL_sR, zI_sI, zI_sJ, zI_sR, zJ_sI, zJ_sJ, zJ_sR, zR_sI, zR_sJ, zR_sR] using (J_lfr I :)) (by first | exact (J_mac I :) | simpa [KC, KR, LO, zN_sI, zN_sJ, zN_sR, zL_sI, zL_sJ, zL_sR, zI_sI, zI_sJ, zI_sR, zJ_sI, zJ_sJ, zJ_sR, zR_sI, zR_sJ, zR_sR] using (J_mac I :)) (by first | exact (J_mpt I :) | simpa [KC, KR, LO, zN_sI, zN_sJ, zN_sR, zL_sI, zL_sJ, zL_sR, zI_sI, zI_sJ, zI_sR, zJ_sI, zJ_sJ, zJ_sR, zR_sI, zR_sJ, zR_sR] using (J_mpt I :)) (by first | exact (J_mas I :) | simpa [KC, KR, LO, zN_sI, zN_sJ, zN_sR, zL_sI, zL_sJ, zL_sR, zI_sI, zI_sJ, zI_sR, zJ_sI, zJ_sJ, zJ_sR, zR_sI, zR_sJ, zR_sR] using (J_mas I :)) (by first | exact (J_mst I :) | simpa [KC, KR, LO, zN_sI, zN_sJ, zN_sR, zL_sI, zL_sJ, zL_sR, zI_sI, zI_sJ, zI_sR, zJ_sI, zJ_sJ, zJ_sR, zR_sI, zR_sJ, zR_sR] using (J_mst I :)) (by first | exact (J_mgo I :) | simpa [KC, KR, LO, zN_sI, zN_sJ, zN_sR, zL_sI, zL_sJ, zL_sR, zI_sI, zI_sJ, zI_sR, zJ_sI, zJ_sJ, zJ_sR, zR_sI, zR_sJ, zR_sR] using (J_mgo I :)) (by first | exact (J_mag I :) | simpa [KC, KR, LO, zN_sI, zN_sJ, zN_sR, zL_sI, zL_sJ, zL_sR, zI_sI, zI_sJ, zI_sR, zJ_sI, zJ_sJ, zJ_sR, zR_sI, zR_sJ, zR_sR] using (J_mag I :)) (by first | exact (J_mwy I :) | simpa [KC, KR, LO, zN_sI, zN_sJ, zN_sR, zL_sI, zL_sJ, zL_sR, zI_sI, zI_sJ, zI_sR, zJ_sI, zJ_sJ, zJ_sR, zR_sI, zR_sJ, zR_sR] using (J_mwy I :)) (by first | exact (J_mfa I :) | simpa [KC, KR, LO, zN_sI, zN_sJ, zN_sR, zL_sI, zL_sJ, zL_sR, zI_sI, zI_sJ, zI_sR, zJ_sI, zJ_sJ, zJ_sR, zR_sI, zR_sJ, zR_sR] using (J_mfa I :)) (by first | exact (J_mfb I :) | simpa [KC, KR, LO, zN_sI, zN_sJ, zN_sR, zL_sI, zL_sJ, zL_sR, zI_sI, zI_sJ, zI_sR, zJ_sI, zJ_sJ, zJ_sR, zR_sI, zR_sJ, zR_sR] using (J_mfb I :)) (by
            intro j hj hg
            have hj : j < zN C 5 := hj
            have hg : ¬ zI R 138 0 j = 0 := hg
            have := J_mop I j hj hg
            have q := hnm j hj hg
            simpa [zN_sI, zN_sJ, zN_sR, zL_sI, zL_sJ, zL_sR, zI_sI, zI_sJ, zI_sR, zJ_sI, zJ_sJ, zJ_sR, zR_sI, zR_sJ, zR_sR, q.1, q.2] using this) (by first | exact fun m m2 a b c d e => (J_mdj I m m2 a b c d e :) | simpa [KC, KR, LO, zN_sI, zN_sJ, zN_sR, zL_sI, zL_sJ, zL_sR, zI_sI, zI_sJ, zI_sR, zJ_sI, zJ_sJ, zJ_sR, zR_sI, zR_sJ, zR_sR] using (J_mdj I :)) (by first | exact (J_mfr I :) | simpa [KC, KR, LO, zN_sI, zN_sJ, zN_sR, zL_sI, zL_sJ, zL_sR, zI_sI, zI_sJ, zI_sR, zJ_sI, zJ_sJ, zJ_sR, zR_sI, zR_sJ, zR_sR] using (J_mfr I :)) (by first | exact (J_rpf I :) | simpa [KC, KR, LO, zN_sI, zN_sJ, zN_sR, zL_sI, zL_sJ, zL_sR, zI_sI, zI_sJ, zI_sR, zJ_sI, zJ_sJ, zJ_sR, zR_sI, zR_sJ, zR_sR] using (J_rpf I :)) (by first | exact (J_rtx I :) | simpa [KC, KR, LO, zN_sI, zN_sJ, zN_sR, zL_sI, zL_sJ, zL_sR, zI_sI, zI_sJ, zI_sR, zJ_sI, zJ_sJ, zJ_sR, zR_sI, zR_sJ, zR_sR] using (J_rtx I :)) (by first | exact (J_tap I :) | simpa [KC, KR, LO, zN_sI, zN_sJ, zN_sR, zL_sI, zL_sJ, zL_sR, zI_sI, zI_sJ, zI_sR, zJ_sI, zJ_sJ, zJ_sR, zR_sI, zR_sJ, zR_sR] using (J_tap I :)) (by first | exact (J_row I :) | simpa [KC, KR, LO, zN_sI, zN_sJ, zN_sR, zL_sI, zL_sJ, zL_sR, zI_sI, zI_sJ, zI_sR, zJ_sI, zJ_sJ, zJ_sR, zR_sI, zR_sJ, zR_sR] using (J_row I :)) (by first | exact (J_sur I :) | simpa [KC, KR, LO, zN_sI, zN_sJ, zN_sR, zL_sI, zL_sJ, zL_sR, zI_sI, zI_sJ, zI_sR, zJ_sI, zJ_sJ, zJ_sR, zR_sI, zR_sJ, zR_sR] using (J_sur I :)) (by first | exact (J_ref I :) | simpa [KC, KR, LO, zN_sI, zN_sJ, zN_sR, zL_sI, zL_sJ, zL_sR, zI_sI, zI_sJ, zI_sR, zJ_sI, zJ_sJ, zJ_sR, zR_sI, zR_sJ, zR_sR] using (J_ref I :))
        · simp only [h5, if_false]
          exact t_refB I (by decide)
      · simp only [h4, if_false]
        exact t_refB I (by decide)
    · simp only [h3, if_false]
      exact t_refB I (by decide)
  · simp only [h, if_false, zop, if_true]
    exact t_refB I (by decide)
/-- the account that one has become: both sides follow it -/
theorem l_last (I : Inv C R) : ∀ (n : Nat) (x : Int32) (k f g : Nat), zib x (zN C 3) = true → zN C 3 ≤ x.toNatClampNeg + n → k + n ≤ 40 → n < f → n < g → ∃ y : Int32, zib y (zN C 3) = true ∧ f_X9_lastOf_4 f (some x.toNatClampNeg) (nI k) C = some (some y.toNatClampNeg) ∧ f_X10_lastOf_2 g 0 x R = some y ∧ ¬ zI R 114 0 y.toNatClampNeg = 2 := by
  have hr := J_kr I
  have hm := (J_mx I).1
  unfold KR at hr
  intro n
  induction n with
  | zero =>
    intro x k f g hx hn
    have := (zib_ex hx).1
    omega
  | succ n ih =>
    intro x k f g hx hn hk hf hg
    obtain ⟨f, rfl⟩ : ∃ f', f = f' + 1 := ⟨f - 1, by omega⟩
    obtain ⟨g, rfl⟩ : ∃ g', g = g' + 1 := ⟨g - 1, by omega⟩
    have hle : ¬ (40 : Int32) ≤ nI k := fun z => by have := (nJ_le (a := 40) (by omega) (by omega)).mp z; omega
    have h40 := zib_mono hx hm
    have hi := (zib_ex hx).1
    rw [f_X9_lastOf_4, f_X10_lastOf_2]
    simp only [hr, hle, if_false, Option.bind_some, zgd, h40, if_true]
    by_cases h2 : zI R 114 0 x.toNatClampNeg = 2
    · obtain ⟨a1, a2, a3, a4, a5⟩ := J_amv I _ hi h2
      simp only [h2, a1, zop, if_true, ← nI_succ]
      exact ih _ (k + 1) f g a2 (by omega) (by omega) (by omega) (by omega)
    · have a1 := (J_ano2 I _ hi h2).1
      simp only [h2, a1, zop, if_false]
      exact ⟨x, hx, rfl, rfl, h2⟩
theorem e_last (I : Inv C R) {x : Int32} (hx : zib x (zN C 3) = true) : ∃ y : Int32, zib y (zN C 3) = true ∧ f_X9_lastOf (some x.toNatClampNeg) C = some (some y.toNatClampNeg) ∧ f_X10_lastOf 0 x R = some y ∧ ¬ zI R 114 0 y.toNatClampNeg = 2 := by
  have hm := (J_mx I).1
  exact l_last I 40 x 0 fu fu hx (by omega) (by omega) (by unfold fu; omega) (by unfold fu; omega)
theorem t_accountOf (I : Inv C R) (x1 x2 : Int32) : TT (f_X9_accountOf 0 x1 x2 C) (f_X10_accountOf 0 x1 x2 R) := by
  have hr := J_kr I
  unfold KR at hr
  unfold f_X9_accountOf f_X10_accountOf
  rw [e_accAt I, e_isAcc I, Option.bind_some, Option.bind_some]
  by_cases h : zib x1 (zN C 3) = true
  · have h40 := zib_mono h (J_mx I).1
    have hi := (zib_ex h).1
    obtain ⟨b1, b2⟩ := J_abk I _ hi
    obtain ⟨y, y1, y2, y3, y4⟩ := e_last I h
    simp only [h, h40, hr, if_true, zop, Option.bind_some, zgd, zlt, show ¬ (1 : Int32) = 0 by decide, if_false, b1, (J_bno I _ (zib_ex b2).1).2, nI_rd (zib_ex b2).2, J_ast I _ hi, y2, y3, J_ano I _ (zib_ex y1).1, nI_rd (zib_ex y1).2, (J_aov I _ hi).1, (J_agd I _ hi).1]
    split
    · exact TT.refl I
    split
    · exact TT.refl I
    split
    · by_cases h2 : zI R 114 0 x1.toNatClampNeg = 2
      · obtain ⟨a1, a2, a3, a4, a5⟩ := J_amv I _ hi h2
        simp only [a1, Option.bind_some, J_ano I _ (zib_ex a2).1, nI_rd (zib_ex a2).2]
        exact TT.refl I
      · obtain ⟨a1, a2, a3⟩ := J_ano2 I _ hi h2
        simp only [a1, a2]
        exact TT.refl I
    split
    · by_cases h2 : zI R 114 0 x1.toNatClampNeg = 2
      · obtain ⟨a1, a2, a3, a4, a5⟩ := J_amv I _ hi h2
        simp only [a1, a4]
        exact TT.refl I
      · obtain ⟨a1, a2, a3⟩ := J_ano2 I _ hi h2
        simp only [a1, a3]
        exact TT.refl I
    split
    · exact TT.refl I
    split
    · exact TT.refl I
    split
    · exact TT.refl I
    exact t_refB I (by decide)
  · simp only [h, if_false, zop, if_true]
    exact t_refB I (by decide)
theorem t_count (I : Inv C R) (x1 : Int32) : TR (f_X9_count 0 x1 C) (f_X10_count 0 x1 R) := by
  have hr := J_kr I
  have hk := J_kc I
  have hm := J_mx I
  unfold KR at hr
  unfold KC at hk
  unfold f_X9_count f_X10_count f_X10_count_22 f_X6_size
  obtain ⟨a2, p2, q2⟩ := l_open I (zN C 3) 0 0 fu fu (by omega) (by unfold fu; omega) (by unfold fu; omega)
  obtain ⟨a3, p3, q3⟩ := l_ends I (zN C 4) 0 0 fu fu (by omega) (by unfold fu; omega) (by unfold fu; omega)
  obtain ⟨a5, p5, q5⟩ := l_goes I (zN C 5) 0 0 fu fu (by omega) (by unfold fu; omega) (by unfold fu; omega)
  rw [show f_X9_openAccounts 0 C = some a2 from p2, show f_X9_linesNotEnded 0 none C = some a3 from p3, show f_X9_movesThatGoOn 0 C = some a5 from p5, show f_X10_count_96 fu 0 0 0 R = some a2 from q2, show f_X10_count_131 fu 0 0 0 R = some a3 from q3, show f_X10_count_171 fu 0 0 0 R = some a5 from q5]
  simp only [hk, Option.bind_some, (J_la I).size, (J_lm I).size, (J_lr I).size, J_cnt I, (J_day I).1, (J_ngt I).1, (J_tap I).1, (J_row I).1, (J_sur I).1]
  have hc : x1 ≤ 10 ∨ ¬ x1 ≤ 10 := Classical.em _
  by_cases hn : x1 = 0 ∨ x1 = 1 ∨ x1 = 2 ∨ x1 = 3 ∨ x1 = 4 ∨ x1 = 5 ∨ x1 = 6 ∨ x1 = 7 ∨ x1 = 8 ∨ x1 = 9 ∨ x1 = 10
  · rcases hn with rfl | rfl | rfl | rfl | rfl | rfl | rfl | rfl | rfl | rfl | rfl <;> exact ⟨_, rfl, rfl⟩
  · have hn' : ¬ x1 = 0 ∧ ¬ x1 = 1 ∧ ¬ x1 = 2 ∧ ¬ x1 = 3 ∧ ¬ x1 = 4 ∧ ¬ x1 = 5 ∧ ¬ x1 = 6 ∧ ¬ x1 = 7 ∧ ¬ x1 = 8 ∧ ¬ x1 = 9 ∧ ¬ x1 = 10 := by simpa only [not_or] using hn
    simp only [hn', if_false]
    unfold f_X9_refusalsCounted
    simp only [hk, hr, Option.bind_some]
    by_cases hz : zib (x1 - 10) 7 = true
    · have hzz := zib_ex hz
      have hx : x1 = nI ((x1 - 10).toNatClampNeg + 10) := by
        rw [← nJ_add, nI_rd hzz.2, show nI 10 = 10 from rfl, Int32.sub_add_cancel]
      generalize hj : (x1 - 10).toNatClampNeg = j at *
      have hx10 : x1 - 10 = nI j := by rw [← hj, nI_rd hzz.2]
      have h1 : ¬ x1 ≤ 10 := by
        rw [hx]
        intro z
        have := (nJ_le (b := 10) (by omega) (by omega)).mp z
        have : j = 0 := by omega
        subst this
        exact hn'.2.2.2.2.2.2.2.2.2.2 hx
      have h2 : ¬ 17 ≤ x1 := by
        rw [hx]
        intro z
        have := (nJ_le (a := 17) (by omega) (by omega)).mp z
        omega
      have h3 : ¬ x1 - 10 < 1 := by
        rw [hx10]
        intro z
        have := (nJ_lt (b := 1) (by omega) (by omega)).mp z
        apply h1
        rw [hx]
        exact (nJ_le (b := 10) (by omega) (by omega)).mpr (by omega)
      have h4 : ¬ 6 < x1 - 10 := by
        rw [hx10]
        intro z
        have := (nJ_lt (a := 6) (by omega) (by omega)).mp z
        omega
      simp only [h1, h2, h3, h4, hz, if_false, zgd, if_true]
      exact ⟨_, rfl, by rw [J_ref I j hzz.1]⟩
    · have h1 : x1 - 10 < 1 ∨ 6 < x1 - 10 := by
        by_cases q0 : x1 - 10 < 0
        · exact Or.inl (Int32.lt_trans q0 (by decide))
        · refine Or.inr ?_
          have q : ¬ (x1 - 10).toNatClampNeg < 7 := fun z => hz (zib_of q0 z)
          rw [← nI_rd q0]
          exact (nJ_lt (a := 6) (by decide) rd_lt).mpr (by omega)
      have hl : (if x1 - 10 < 1 then (some (-9) : Option Int32) else (if 6 < x1 - 10 then some (-9) else zgd (zib (x1 - 10) 7) (some (zI C 20 0 (x1 - 10).toNatClampNeg)))) = some (-9) := by
        by_cases q : x1 - 10 < 1
        · rw [if_pos q]
        · rw [if_neg q, if_pos (h1.resolve_left q)]
      rw [hl]
      simp only [Option.bind_some]
      by_cases g1 : x1 ≤ 10
      · simp only [g1, if_true]
        exact ⟨_, rfl, rfl⟩
      · by_cases g2 : 17 ≤ x1
        · simp only [g1, g2, if_false, if_true]
          exact ⟨_, rfl, rfl⟩
        · exfalso
          apply hz
          have g3 : ¬ x1 < 0 := fun z => g1 (Int32.le_of_lt (Int32.lt_trans z (by decide)))
          have g4 := nI_rd g3
          have hj2 : x1.toNatClampNeg < 2 ^ 31 := rd_lt
          generalize x1.toNatClampNeg = j at g4 hj2
          have g5 : ¬ j ≤ 10 := fun z => g1 (by rw [← g4]; exact (nJ_le (b := 10) hj2 (by decide)).mpr z)
          have g6 : ¬ 17 ≤ j := fun z => g2 (by rw [← g4]; exact (nJ_le (a := 17) (by decide) hj2).mpr z)
          have g7 : x1 - 10 = nI (j - 10) := by
            rw [← g4, show j = (j - 10) + 10 by omega, ← nJ_add, show nI 10 = 10 from rfl, Int32.add_sub_cancel, Nat.add_sub_cancel]
          rw [g7]
          exact zib_nI (by omega) (by decide)
end ZD
