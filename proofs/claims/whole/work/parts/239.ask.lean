/-! ===== an ask ===== -/
abbrev mvW (S : zH) (m a n : Nat) (x3 day : Int32) : zH := zsI (zsI (zsR (zsR (zsI (zsI (znw S 5 0) 5 m 5 (-9)) 5 m 6 1) 5 m 0 (some a)) 5 m 1 (some n)) 5 m 2 x3) 5 m 3 day
abbrev mrW (S : zH) (m : Nat) (x y x3 day : Int32) : zH := zsI (zsI (zsI (zsI (zsI (zsI (zsI (zsI S 40 0 51 (nI (m + 1))) 130 0 m x) 131 0 m y) 140 0 m x3) 138 0 m 1) 135 0 m (-9)) 136 0 m day) 137 0 m (-9)
theorem zsI_comm {S : zH} {p i k q j l : Nat} {x y : Int32} (h : ¬ (p = q ∧ i = j ∧ k = l)) : zsI (zsI S p i k x) q j l y = zsI (zsI S q j l y) p i k x := by
  unfold zsI
  refine Prod.ext rfl (Prod.ext rfl (Prod.ext ?_ rfl))
  funext a b c
  show (if a = q ∧ b = j ∧ c = l then y else if a = p ∧ b = i ∧ c = k then x else _) = (if a = p ∧ b = i ∧ c = k then x else if a = q ∧ b = j ∧ c = l then y else _)
  by_cases h1 : a = q ∧ b = j ∧ c = l
  · rw [if_pos h1, if_neg (fun z => h ⟨z.1.symm.trans h1.1, z.2.1.symm.trans h1.2.1, z.2.2.symm.trans h1.2.2⟩), if_pos h1]
  · rw [if_neg h1, if_neg h1]
theorem opW_comm (S : zH) (n m : Nat) (b nm jt c a x : Int32) : opW (zsI (zsI S 40 0 51 a) 130 0 m x) n b nm jt c = zsI (zsI (opW S n b nm jt c) 40 0 51 a) 130 0 m x := by
  unfold opW
  rw [zsI_comm (p := 130) (q := 110) (by omega), zsI_comm (p := 130) (q := 111) (by omega), zsI_comm (p := 130) (q := 112) (by omega), zsI_comm (p := 130) (q := 115) (by omega), zsI_comm (p := 130) (q := 116) (by omega), zsI_comm (p := 130) (q := 40) (k := m) (by omega)]
  rw [zsI_comm (p := 40) (k := 51) (q := 110) (by omega), zsI_comm (p := 40) (k := 51) (q := 111) (by omega), zsI_comm (p := 40) (k := 51) (q := 112) (by omega), zsI_comm (p := 40) (k := 51) (q := 115) (by omega), zsI_comm (p := 40) (k := 51) (q := 116) (by omega), zsI_comm (p := 40) (k := 51) (q := 40) (l := 49) (by omega)]
section ZAS
variable {C R : zH}
theorem e_noMv (I : Inv C R) {x1 : Int32} (h : zib x1 (zN C 3) = true) (q2 : f_X10_isMoving 0 x1 R = some 0) : ∀ m, m < zN C 5 → ¬ zI R 138 0 m = 0 → ¬ zI R 130 0 m = x1 ∧ ¬ zI R 131 0 m = x1 := by
  have hr := J_kr I
  unfold KR at hr
  have hmx := (J_mx I).2.2.1
  have key : ∀ n k f, k + n = zN C 5 → n < f → f_X10_isMoving_2 f 0 x1 (nI k) R = some 0 → ∀ m, k ≤ m → m < zN C 5 → ¬ zI R 138 0 m = 0 → ¬ zI R 130 0 m = x1 ∧ ¬ zI R 131 0 m = x1 := by
    intro n
    induction n with
    | zero => intro k f h1 h2 h3 m hm1 hm2; omega
    | succ n ih =>
      intro k f h1 h2 h3 m hm1 hm2 hg
      obtain ⟨f, rfl⟩ : ∃ f', f = f' + 1 := ⟨f - 1, by omega⟩
      have hle : ¬ nI (zN C 5) ≤ nI k := fun z => by have := (nJ_le (by omega) (by omega)).mp z; omega
      have z30 : zib (nI k) 30 = true := zib_nI (by omega) (by decide)
      rw [f_X10_isMoving_2] at h3
      simp only [hr, Option.bind_some, (J_cnt I).2.2.1, hle, if_false, zgd, z30, if_true, nI_clamp (show k < 2 ^ 31 by omega), ← nI_succ] at h3
      by_cases e : m = k
      · subst e
        rw [if_neg hg] at h3
        split at h3
        · exact absurd (Option.some.inj h3) (by decide)
        · split at h3
          · exact absurd (Option.some.inj h3) (by decide)
          · exact ⟨by assumption, by assumption⟩
      · split at h3
        · exact ih (k + 1) f (by omega) (by omega) h3 m (by omega) hm2 hg
        · split at h3
          · exact absurd (Option.some.inj h3) (by decide)
          · split at h3
            · exact absurd (Option.some.inj h3) (by decide)
            · exact ih (k + 1) f (by omega) (by omega) h3 m (by omega) hm2 hg
  intro m hm1 hg
  exact key (zN C 5) 0 fu (by omega) (by unfold fu; omega) q2 m (Nat.zero_le _) hm1 hg
theorem n_mov (I : Inv C R) {n : Nat} {x x3 : Int32} (hml : zN C 5 < 30) (hn : zN C 3 = n + 1) (hx : zib x n = true) (hs1 : zI R 114 0 x.toNatClampNeg = 0) (hs2 : zI R 114 0 n = 0) (hno : ∀ k, k < zN C 5 → ¬ zI R 138 0 k = 0 → ¬ zI R 130 0 k = x ∧ ¬ zI R 131 0 k = x) (hlo : ∀ k, k < zN C 5 → zib (zI R 130 0 k) n = true ∧ zib (zI R 131 0 k) n = true) : ∀ k, k ≠ 6 → Jv (mvW C (zN C 5) x.toNatClampNeg n x3 (zI R 40 0 46)) (mrW R (zN C 5) x (nI n) x3 (zI R 40 0 46)) k := by
  have hal := J_al I
  obtain ⟨c1, c2, c3, c4⟩ := J_cnt I
  have hmx := J_mx I
  have f := J_mfr I (zN C 5) (Nat.le_refl _) hml
  have hd := (J_day I).2
  have hng := J_ngt I
  have hx2 : zib x (n + 1) = true := zib_mono hx (Nat.le_succ _)
  have hn2 : zib (nI n) (n + 1) = true := zib_nI (by omega) (by omega)
  have hn3 : (nI n).toNatClampNeg = n := nI_clamp (by omega)
  have hxn := (zib_ex hx).1
  have ng0 : (0 : Int32) ≤ zI R 40 0 53 := Int32.not_lt.mp hng.2.1
  exact Inv_mx12 (by simpa [KC, KR, LO, wN_sI, wN_sJ, wN_sR, wL_sI, wL_sJ, wL_sR, wI_sI, wI_sJ, wI_sR, wJ_sI, wJ_sJ, wJ_sR, wR_sI, wR_sJ, wR_sR, wN_nw, wL_nw, wI_nw, wJ_nw, wR_nw] using (J_kc I :)) (by simpa [KC, KR, LO, wN_sI, wN_sJ, wN_sR, wL_sI, wL_sJ, wL_sR, wI_sI, wI_sJ, wI_sR, wJ_sI, wJ_sJ, wJ_sR, wR_sI, wR_sJ, wR_sR, wN_nw, wL_nw, wI_nw, wJ_nw, wR_nw] using (J_kr I :)) (by
    refine ⟨?_, ?_, ?_, ?_⟩
    · simpa [wN_sI, wN_sJ, wN_sR, wL_sI, wL_sJ, wL_sR, wI_sI, wI_sJ, wI_sR, wJ_sI, wJ_sJ, wJ_sR, wR_sI, wR_sJ, wR_sR, wN_nw, wL_nw, wI_nw, wJ_nw, wR_nw] using c1
    · simpa [wN_sI, wN_sJ, wN_sR, wL_sI, wL_sJ, wL_sR, wI_sI, wI_sJ, wI_sR, wJ_sI, wJ_sJ, wJ_sR, wR_sI, wR_sJ, wR_sR, wN_nw, wL_nw, wI_nw, wJ_nw, wR_nw] using c2
    · simp [wN_sI, wN_sJ, wN_sR, wL_sI, wL_sJ, wL_sR, wI_sI, wI_sJ, wI_sR, wJ_sI, wJ_sJ, wJ_sR, wR_sI, wR_sJ, wR_sR, wN_nw, wL_nw, wI_nw, wJ_nw, wR_nw]
    · simpa [wN_sI, wN_sJ, wN_sR, wL_sI, wL_sJ, wL_sR, wI_sI, wI_sJ, wI_sR, wJ_sI, wJ_sJ, wJ_sR, wR_sI, wR_sJ, wR_sR, wN_nw, wL_nw, wI_nw, wJ_nw, wR_nw] using c4) (by
    refine ⟨hmx.1, hmx.2.1, ?_, hmx.2.2.2⟩
    show zN C 5 + 1 ≤ 30
    omega) (by simpa [KC, KR, LO, wN_sI, wN_sJ, wN_sR, wL_sI, wL_sJ, wL_sR, wI_sI, wI_sJ, wI_sR, wJ_sI, wJ_sJ, wJ_sR, wR_sI, wR_sJ, wR_sR, wN_nw, wL_nw, wI_nw, wJ_nw, wR_nw] using (J_la I :)) (by simpa [KC, KR, LO, wN_sI, wN_sJ, wN_sR, wL_sI, wL_sJ, wL_sR, wI_sI, wI_sJ, wI_sR, wJ_sI, wJ_sJ, wJ_sR, wR_sI, wR_sJ, wR_sR, wN_nw, wL_nw, wI_nw, wJ_nw, wR_nw] using (J_ll I :)) (by simpa [KC, KR, LO, wN_sI, wN_sJ, wN_sR, wL_sI, wL_sJ, wL_sR, wI_sI, wI_sJ, wI_sR, wJ_sI, wJ_sJ, wJ_sR, wR_sI, wR_sJ, wR_sR, wN_nw, wL_nw, wI_nw, wJ_nw, wR_nw] using (J_lr I :)) (by simpa [KC, KR, LO, wN_sI, wN_sJ, wN_sR, wL_sI, wL_sJ, wL_sR, wI_sI, wI_sJ, wI_sR, wJ_sI, wJ_sJ, wJ_sR, wR_sI, wR_sJ, wR_sR, wN_nw, wL_nw, wI_nw, wJ_nw, wR_nw] using (J_al I :)) (by simpa [KC, KR, LO, wN_sI, wN_sJ, wN_sR, wL_sI, wL_sJ, wL_sR, wI_sI, wI_sJ, wI_sR, wJ_sI, wJ_sJ, wJ_sR, wR_sI, wR_sJ, wR_sR, wN_nw, wL_nw, wI_nw, wJ_nw, wR_nw] using (J_bno I :)) (by simpa [KC, KR, LO, wN_sI, wN_sJ, wN_sR, wL_sI, wL_sJ, wL_sR, wI_sI, wI_sJ, wI_sR, wJ_sI, wJ_sJ, wJ_sR, wR_sI, wR_sJ, wR_sR, wN_nw, wL_nw, wI_nw, wJ_nw, wR_nw] using (J_bfee I :)) (by simpa [KC, KR, LO, wN_sI, wN_sJ, wN_sR, wL_sI, wL_sJ, wL_sR, wI_sI, wI_sJ, wI_sR, wJ_sI, wJ_sJ, wJ_sR, wR_sI, wR_sJ, wR_sR, wN_nw, wL_nw, wI_nw, wJ_nw, wR_nw] using (J_bcap I :)) (by simpa [KC, KR, LO, wN_sI, wN_sJ, wN_sR, wL_sI, wL_sJ, wL_sR, wI_sI, wI_sJ, wI_sR, wJ_sI, wJ_sJ, wJ_sR, wR_sI, wR_sJ, wR_sR, wN_nw, wL_nw, wI_nw, wJ_nw, wR_nw] using (J_bow I :)) (by simpa [KC, KR, LO, wN_sI, wN_sJ, wN_sR, wL_sI, wL_sJ, wL_sR, wI_sI, wI_sJ, wI_sR, wJ_sI, wJ_sJ, wJ_sR, wR_sI, wR_sJ, wR_sR, wN_nw, wL_nw, wI_nw, wJ_nw, wR_nw] using (J_bdid I :)) (by simpa [KC, KR, LO, wN_sI, wN_sJ, wN_sR, wL_sI, wL_sJ, wL_sR, wI_sI, wI_sJ, wI_sR, wJ_sI, wJ_sJ, wJ_sR, wR_sI, wR_sJ, wR_sR, wN_nw, wL_nw, wI_nw, wJ_nw, wR_nw] using (J_bnet I :)) (by simpa [KC, KR, LO, wN_sI, wN_sJ, wN_sR, wL_sI, wL_sJ, wL_sR, wI_sI, wI_sJ, wI_sR, wJ_sI, wJ_sJ, wJ_sR, wR_sI, wR_sJ, wR_sR, wN_nw, wL_nw, wI_nw, wJ_nw, wR_nw] using (J_day I :)) (by simpa [KC, KR, LO, wN_sI, wN_sJ, wN_sR, wL_sI, wL_sJ, wL_sR, wI_sI, wI_sJ, wI_sR, wJ_sI, wJ_sJ, wJ_sR, wR_sI, wR_sJ, wR_sR, wN_nw, wL_nw, wI_nw, wJ_nw, wR_nw] using (J_ngt I :)) (by simpa [KC, KR, LO, wN_sI, wN_sJ, wN_sR, wL_sI, wL_sJ, wL_sR, wI_sI, wI_sJ, wI_sR, wJ_sI, wJ_sJ, wJ_sR, wR_sI, wR_sJ, wR_sR, wN_nw, wL_nw, wI_nw, wJ_nw, wR_nw] using (J_due I :)) (by simpa [KC, KR, LO, wN_sI, wN_sJ, wN_sR, wL_sI, wL_sJ, wL_sR, wI_sI, wI_sJ, wI_sR, wJ_sI, wJ_sJ, wJ_sR, wR_sI, wR_sJ, wR_sR, wN_nw, wL_nw, wI_nw, wJ_nw, wR_nw] using (J_hol I :)) (by simpa [KC, KR, LO, wN_sI, wN_sJ, wN_sR, wL_sI, wL_sJ, wL_sR, wI_sI, wI_sJ, wI_sR, wJ_sI, wJ_sJ, wJ_sR, wR_sI, wR_sJ, wR_sR, wN_nw, wL_nw, wI_nw, wJ_nw, wR_nw] using (J_lat I :)) (by simpa [KC, KR, LO, wN_sI, wN_sJ, wN_sR, wL_sI, wL_sJ, wL_sR, wI_sI, wI_sJ, wI_sR, wJ_sI, wJ_sJ, wJ_sR, wR_sI, wR_sJ, wR_sR, wN_nw, wL_nw, wI_nw, wJ_nw, wR_nw] using (J_ano I :)) (by simpa [KC, KR, LO, wN_sI, wN_sJ, wN_sR, wL_sI, wL_sJ, wL_sR, wI_sI, wI_sJ, wI_sR, wJ_sI, wJ_sJ, wJ_sR, wR_sI, wR_sJ, wR_sR, wN_nw, wL_nw, wI_nw, wJ_nw, wR_nw] using (J_abk I :)) (by simpa [KC, KR, LO, wN_sI, wN_sJ, wN_sR, wL_sI, wL_sJ, wL_sR, wI_sI, wI_sJ, wI_sR, wJ_sI, wJ_sJ, wJ_sR, wR_sI, wR_sJ, wR_sR, wN_nw, wL_nw, wI_nw, wJ_nw, wR_nw] using (J_anm I :)) (by simpa [KC, KR, LO, wN_sI, wN_sJ, wN_sR, wL_sI, wL_sJ, wL_sR, wI_sI, wI_sJ, wI_sR, wJ_sI, wJ_sJ, wJ_sR, wR_sI, wR_sJ, wR_sR, wN_nw, wL_nw, wI_nw, wJ_nw, wR_nw] using (J_asum I :)) (by simpa [KC, KR, LO, wN_sI, wN_sJ, wN_sR, wL_sI, wL_sJ, wL_sR, wI_sI, wI_sJ, wI_sR, wJ_sI, wJ_sJ, wJ_sR, wR_sI, wR_sJ, wR_sR, wN_nw, wL_nw, wI_nw, wJ_nw, wR_nw] using (J_aov I :)) (by simpa [KC, KR, LO, wN_sI, wN_sJ, wN_sR, wL_sI, wL_sJ, wL_sR, wI_sI, wI_sJ, wI_sR, wJ_sI, wJ_sJ, wJ_sR, wR_sI, wR_sJ, wR_sR, wN_nw, wL_nw, wI_nw, wJ_nw, wR_nw] using (J_ast I :)) (by simpa [KC, KR, LO, wN_sI, wN_sJ, wN_sR, wL_sI, wL_sJ, wL_sR, wI_sI, wI_sJ, wI_sR, wJ_sI, wJ_sJ, wJ_sR, wR_sI, wR_sJ, wR_sR, wN_nw, wL_nw, wI_nw, wJ_nw, wR_nw] using (J_amv I :)) (by simpa [KC, KR, LO, wN_sI, wN_sJ, wN_sR, wL_sI, wL_sJ, wL_sR, wI_sI, wI_sJ, wI_sR, wJ_sI, wJ_sJ, wJ_sR, wR_sI, wR_sJ, wR_sR, wN_nw, wL_nw, wI_nw, wJ_nw, wR_nw] using (J_ano2 I :)) (by simpa [KC, KR, LO, wN_sI, wN_sJ, wN_sR, wL_sI, wL_sJ, wL_sR, wI_sI, wI_sJ, wI_sR, wJ_sI, wJ_sJ, wJ_sR, wR_sI, wR_sJ, wR_sR, wN_nw, wL_nw, wI_nw, wJ_nw, wR_nw] using (J_agd I :)) (by simpa [KC, KR, LO, wN_sI, wN_sJ, wN_sR, wL_sI, wL_sJ, wL_sR, wI_sI, wI_sJ, wI_sR, wJ_sI, wJ_sJ, wJ_sR, wR_sI, wR_sJ, wR_sR, wN_nw, wL_nw, wI_nw, wJ_nw, wR_nw] using (J_akp I :)) (by simpa [KC, KR, LO, wN_sI, wN_sJ, wN_sR, wL_sI, wL_sJ, wL_sR, wI_sI, wI_sJ, wI_sR, wJ_sI, wJ_sJ, wJ_sR, wR_sI, wR_sJ, wR_sR, wN_nw, wL_nw, wI_nw, wJ_nw, wR_nw] using (J_ahs I :)) (by simpa [KC, KR, LO, wN_sI, wN_sJ, wN_sR, wL_sI, wL_sJ, wL_sR, wI_sI, wI_sJ, wI_sR, wJ_sI, wJ_sJ, wJ_sR, wR_sI, wR_sJ, wR_sR, wN_nw, wL_nw, wI_nw, wJ_nw, wR_nw] using (J_afr I :)) (by simpa [KC, KR, LO, wN_sI, wN_sJ, wN_sR, wL_sI, wL_sJ, wL_sR, wI_sI, wI_sJ, wI_sR, wJ_sI, wJ_sJ, wJ_sR, wR_sI, wR_sJ, wR_sR, wN_nw, wL_nw, wI_nw, wJ_nw, wR_nw] using (J_lk I :)) (by simpa [KC, KR, LO, wN_sI, wN_sJ, wN_sR, wL_sI, wL_sJ, wL_sR, wI_sI, wI_sJ, wI_sR, wJ_sI, wJ_sJ, wJ_sR, wR_sI, wR_sJ, wR_sR, wN_nw, wL_nw, wI_nw, wJ_nw, wR_nw] using (J_lft I :)) (by simpa [KC, KR, LO, wN_sI, wN_sJ, wN_sR, wL_sI, wL_sJ, wL_sR, wI_sI, wI_sJ, wI_sR, wJ_sI, wJ_sJ, wJ_sR, wR_sI, wR_sJ, wR_sR, wN_nw, wL_nw, wI_nw, wJ_nw, wR_nw] using (J_lam I :)) (by simpa [KC, KR, LO, wN_sI, wN_sJ, wN_sR, wL_sI, wL_sJ, wL_sR, wI_sI, wI_sJ, wI_sR, wJ_sI, wJ_sJ, wJ_sR, wR_sI, wR_sJ, wR_sR, wN_nw, wL_nw, wI_nw, wJ_nw, wR_nw] using (J_led I :)) (by simpa [KC, KR, LO, wN_sI, wN_sJ, wN_sR, wL_sI, wL_sJ, wL_sR, wI_sI, wI_sJ, wI_sR, wJ_sI, wJ_sJ, wJ_sR, wR_sI, wR_sJ, wR_sR, wN_nw, wL_nw, wI_nw, wJ_nw, wR_nw] using (J_ldn I :)) (by simpa [KC, KR, LO, wN_sI, wN_sJ, wN_sR, wL_sI, wL_sJ, wL_sR, wI_sI, wI_sJ, wI_sR, wJ_sI, wJ_sJ, wJ_sR, wR_sI, wR_sJ, wR_sR, wN_nw, wL_nw, wI_nw, wJ_nw, wR_nw] using (J_lbk I :)) (by simpa [KC, KR, LO, wN_sI, wN_sJ, wN_sR, wL_sI, wL_sJ, wL_sR, wI_sI, wI_sJ, wI_sR, wJ_sI, wJ_sJ, wJ_sR, wR_sI, wR_sJ, wR_sR, wN_nw, wL_nw, wI_nw, wJ_nw, wR_nw] using (J_ldu I :)) (by simpa [KC, KR, LO, wN_sI, wN_sJ, wN_sR, wL_sI, wL_sJ, wL_sR, wI_sI, wI_sJ, wI_sR, wJ_sI, wJ_sJ, wJ_sR, wR_sI, wR_sJ, wR_sR, wN_nw, wL_nw, wI_nw, wJ_nw, wR_nw] using (J_lfr I :)) (by
    intro i hi
    have hi : i < zN C 5 + 1 := hi
    by_cases e : i = zN C 5
    · subst e
      simp [wN_sI, wN_sJ, wN_sR, wL_sI, wL_sJ, wL_sR, wI_sI, wI_sJ, wI_sR, wJ_sI, wJ_sJ, wJ_sR, wR_sI, wR_sJ, wR_sR, wN_nw, wL_nw, wI_nw, wJ_nw, wR_nw, hn, hx2, hn2, hn3, hxn]
    · have := J_mac I i (by omega)
      simpa [wN_sI, wN_sJ, wN_sR, wL_sI, wL_sJ, wL_sR, wI_sI, wI_sJ, wI_sR, wJ_sI, wJ_sJ, wJ_sR, wR_sI, wR_sJ, wR_sR, wN_nw, wL_nw, wI_nw, wJ_nw, wR_nw, e] using this) (by
    intro i hi
    have hi : i < zN C 5 + 1 := hi
    by_cases e : i = zN C 5
    · simp [wN_sI, wN_sJ, wN_sR, wL_sI, wL_sJ, wL_sR, wI_sI, wI_sJ, wI_sR, wJ_sI, wJ_sJ, wJ_sR, wR_sI, wR_sJ, wR_sR, wN_nw, wL_nw, wI_nw, wJ_nw, wR_nw, e]
    · have := J_mpt I i (by omega)
      simpa [wN_sI, wN_sJ, wN_sR, wL_sI, wL_sJ, wL_sR, wI_sI, wI_sJ, wI_sR, wJ_sI, wJ_sJ, wJ_sR, wR_sI, wR_sJ, wR_sR, wN_nw, wL_nw, wI_nw, wJ_nw, wR_nw, e] using this) (by
    intro i hi
    have hi : i < zN C 5 + 1 := hi
    by_cases e : i = zN C 5
    · simp [wN_sI, wN_sJ, wN_sR, wL_sI, wL_sJ, wL_sR, wI_sI, wI_sJ, wI_sR, wJ_sI, wJ_sJ, wJ_sR, wR_sI, wR_sJ, wR_sR, wN_nw, wL_nw, wI_nw, wJ_nw, wR_nw, e, hd]
    · have := J_mas I i (by omega)
      simpa [wN_sI, wN_sJ, wN_sR, wL_sI, wL_sJ, wL_sR, wI_sI, wI_sJ, wI_sR, wJ_sI, wJ_sJ, wJ_sR, wR_sI, wR_sJ, wR_sR, wN_nw, wL_nw, wI_nw, wJ_nw, wR_nw, e] using this) (by
    intro i hi
    have hi : i < zN C 5 + 1 := hi
    by_cases e : i = zN C 5
    · simp [wN_sI, wN_sJ, wN_sR, wL_sI, wL_sJ, wL_sR, wI_sI, wI_sJ, wI_sR, wJ_sI, wJ_sJ, wJ_sR, wR_sI, wR_sJ, wR_sR, wN_nw, wL_nw, wI_nw, wJ_nw, wR_nw, e, f]
    · have := J_mst I i (by omega)
      simpa [wN_sI, wN_sJ, wN_sR, wL_sI, wL_sJ, wL_sR, wI_sI, wI_sJ, wI_sR, wJ_sI, wJ_sJ, wJ_sR, wR_sI, wR_sJ, wR_sR, wN_nw, wL_nw, wI_nw, wJ_nw, wR_nw, e] using this) (by
    intro i hi
    have hi : i < zN C 5 + 1 := hi
    by_cases e : i = zN C 5
    · simp [wN_sI, wN_sJ, wN_sR, wL_sI, wL_sJ, wL_sR, wI_sI, wI_sJ, wI_sR, wJ_sI, wJ_sJ, wJ_sR, wR_sI, wR_sJ, wR_sR, wN_nw, wL_nw, wI_nw, wJ_nw, wR_nw, e]
    · have := J_mgo I i (by omega)
      simpa [wN_sI, wN_sJ, wN_sR, wL_sI, wL_sJ, wL_sR, wI_sI, wI_sJ, wI_sR, wJ_sI, wJ_sJ, wJ_sR, wR_sI, wR_sJ, wR_sR, wN_nw, wL_nw, wI_nw, wJ_nw, wR_nw, e] using this) (by
    intro i hi
    have hi : i < zN C 5 + 1 := hi
    by_cases e : i = zN C 5
    · simp [wN_sI, wN_sJ, wN_sR, wL_sI, wL_sJ, wL_sR, wI_sI, wI_sJ, wI_sR, wJ_sI, wJ_sJ, wJ_sR, wR_sI, wR_sJ, wR_sR, wN_nw, wL_nw, wI_nw, wJ_nw, wR_nw, e, f]
    · have := J_mag I i (by omega)
      simpa [wN_sI, wN_sJ, wN_sR, wL_sI, wL_sJ, wL_sR, wI_sI, wI_sJ, wI_sR, wJ_sI, wJ_sJ, wJ_sR, wR_sI, wR_sJ, wR_sR, wN_nw, wL_nw, wI_nw, wJ_nw, wR_nw, e] using this) (by
    intro i hi
    have hi : i < zN C 5 + 1 := hi
    by_cases e : i = zN C 5
    · simp [wN_sI, wN_sJ, wN_sR, wL_sI, wL_sJ, wL_sR, wI_sI, wI_sJ, wI_sR, wJ_sI, wJ_sJ, wJ_sR, wR_sI, wR_sJ, wR_sR, wN_nw, wL_nw, wI_nw, wJ_nw, wR_nw, e, f]
    · have := J_mwy I i (by omega)
      simpa [wN_sI, wN_sJ, wN_sR, wL_sI, wL_sJ, wL_sR, wI_sI, wI_sJ, wI_sR, wJ_sI, wJ_sJ, wJ_sR, wR_sI, wR_sJ, wR_sR, wN_nw, wL_nw, wI_nw, wJ_nw, wR_nw, e] using this) (by
    intro i hi
    have hi : i < zN C 5 + 1 := hi
    by_cases e : i = zN C 5
    · refine ⟨?_, ?_, ?_⟩
      · simp [wN_sI, wN_sJ, wN_sR, wL_sI, wL_sJ, wL_sR, wI_sI, wI_sJ, wI_sR, wJ_sI, wJ_sJ, wJ_sR, wR_sI, wR_sJ, wR_sR, wN_nw, wL_nw, wI_nw, wJ_nw, wR_nw, e, f]
      · simp [wN_sI, wN_sJ, wN_sR, wL_sI, wL_sJ, wL_sR, wI_sI, wI_sJ, wI_sR, wJ_sI, wJ_sJ, wJ_sR, wR_sI, wR_sJ, wR_sR, wN_nw, wL_nw, wI_nw, wJ_nw, wR_nw, e, f]
      · simpa [wN_sI, wN_sJ, wN_sR, wL_sI, wL_sJ, wL_sR, wI_sI, wI_sJ, wI_sR, wJ_sI, wJ_sJ, wJ_sR, wR_sI, wR_sJ, wR_sR, wN_nw, wL_nw, wI_nw, wJ_nw, wR_nw, e, f] using ng0
    · have := J_mfa I i (by omega)
      simpa [wN_sI, wN_sJ, wN_sR, wL_sI, wL_sJ, wL_sR, wI_sI, wI_sJ, wI_sR, wJ_sI, wJ_sJ, wJ_sR, wR_sI, wR_sJ, wR_sR, wN_nw, wL_nw, wI_nw, wJ_nw, wR_nw, e] using this) (by
    intro i hi
    have hi : i < zN C 5 + 1 := hi
    by_cases e : i = zN C 5
    · simp [wN_sI, wN_sJ, wN_sR, wL_sI, wL_sJ, wL_sR, wI_sI, wI_sJ, wI_sR, wJ_sI, wJ_sJ, wJ_sR, wR_sI, wR_sJ, wR_sR, wN_nw, wL_nw, wI_nw, wJ_nw, wR_nw, e, f]
    · have := J_mfb I i (by omega)
      simpa [wN_sI, wN_sJ, wN_sR, wL_sI, wL_sJ, wL_sR, wI_sI, wI_sJ, wI_sR, wJ_sI, wJ_sJ, wJ_sR, wR_sI, wR_sJ, wR_sR, wN_nw, wL_nw, wI_nw, wJ_nw, wR_nw, e] using this) (by
    intro i hi hg
    have hi : i < zN C 5 + 1 := hi
    by_cases e : i = zN C 5
    · subst e
      simp [wN_sI, wN_sJ, wN_sR, wL_sI, wL_sJ, wL_sR, wI_sI, wI_sJ, wI_sR, wJ_sI, wJ_sJ, wJ_sR, wR_sI, wR_sJ, wR_sR, wN_nw, wL_nw, wI_nw, wJ_nw, wR_nw, hs1, hs2, hn3]
    · have := J_mop I i (by omega)
      have hg' : ¬ zI R 138 0 i = 0 := by simpa [wN_sI, wN_sJ, wN_sR, wL_sI, wL_sJ, wL_sR, wI_sI, wI_sJ, wI_sR, wJ_sI, wJ_sJ, wJ_sR, wR_sI, wR_sJ, wR_sR, wN_nw, wL_nw, wI_nw, wJ_nw, wR_nw, e] using hg
      simpa [wN_sI, wN_sJ, wN_sR, wL_sI, wL_sJ, wL_sR, wI_sI, wI_sJ, wI_sR, wJ_sI, wJ_sJ, wJ_sR, wR_sI, wR_sJ, wR_sR, wN_nw, wL_nw, wI_nw, wJ_nw, wR_nw, e] using this hg') (by
    intro i j hi hj hne gi gj
    have hi : i < zN C 5 + 1 := hi
    have hj : j < zN C 5 + 1 := hj
    by_cases e1 : i = zN C 5
    · have e2 : ¬ j = zN C 5 := fun z => hne (e1.trans z.symm)
      subst e1
      have gj' : ¬ zI R 138 0 j = 0 := by simpa [wN_sI, wN_sJ, wN_sR, wL_sI, wL_sJ, wL_sR, wI_sI, wI_sJ, wI_sR, wJ_sI, wJ_sJ, wJ_sR, wR_sI, wR_sJ, wR_sR, wN_nw, wL_nw, wI_nw, wJ_nw, wR_nw, e2] using gj
      obtain ⟨p1, p2⟩ := hno j (by omega) gj'
      have p3 := (zib_ex (hlo j (by omega)).2)
      have p4 : ¬ nI n = zI R 131 0 j := fun z => by
        rw [← z, hn3] at p3
        omega
      simp [wN_sI, wN_sJ, wN_sR, wL_sI, wL_sJ, wL_sR, wI_sI, wI_sJ, wI_sR, wJ_sI, wJ_sJ, wJ_sR, wR_sI, wR_sJ, wR_sR, wN_nw, wL_nw, wI_nw, wJ_nw, wR_nw, e2, p4, Ne.symm p1, Ne.symm p2]
    · have gi' : ¬ zI R 138 0 i = 0 := by simpa [wN_sI, wN_sJ, wN_sR, wL_sI, wL_sJ, wL_sR, wI_sI, wI_sJ, wI_sR, wJ_sI, wJ_sJ, wJ_sR, wR_sI, wR_sJ, wR_sR, wN_nw, wL_nw, wI_nw, wJ_nw, wR_nw, e1] using gi
      by_cases e2 : j = zN C 5
      · subst e2
        obtain ⟨p1, p2⟩ := hno i (by omega) gi'
        have p3 := (zib_ex (hlo i (by omega)).2)
        have p5 := (zib_ex (hlo i (by omega)).1)
        have p4 : ¬ zI R 131 0 i = nI n := fun z => by
          rw [z, hn3] at p3
          omega
        have p6 : ¬ zI R 130 0 i = nI n := fun z => by
          rw [z, hn3] at p5
          omega
        simp [wN_sI, wN_sJ, wN_sR, wL_sI, wL_sJ, wL_sR, wI_sI, wI_sJ, wI_sR, wJ_sI, wJ_sJ, wJ_sR, wR_sI, wR_sJ, wR_sR, wN_nw, wL_nw, wI_nw, wJ_nw, wR_nw, e1, p1, p4, p6]
      · have gj' : ¬ zI R 138 0 j = 0 := by simpa [wN_sI, wN_sJ, wN_sR, wL_sI, wL_sJ, wL_sR, wI_sI, wI_sJ, wI_sR, wJ_sI, wJ_sJ, wJ_sR, wR_sI, wR_sJ, wR_sR, wN_nw, wL_nw, wI_nw, wJ_nw, wR_nw, e2] using gj
        have := J_mdj I i j (by omega) (by omega) hne gi' gj'
        simpa [wN_sI, wN_sJ, wN_sR, wL_sI, wL_sJ, wL_sR, wI_sI, wI_sJ, wI_sR, wJ_sI, wJ_sJ, wJ_sR, wR_sI, wR_sJ, wR_sR, wN_nw, wL_nw, wI_nw, wJ_nw, wR_nw, e1, e2] using this) (by
    intro i hi hi2
    have hi : zN C 5 + 1 ≤ i := hi
    have e : ¬ i = zN C 5 := by omega
    have := J_mfr I i (by omega) hi2
    simpa [wN_sI, wN_sJ, wN_sR, wL_sI, wL_sJ, wL_sR, wI_sI, wI_sJ, wI_sR, wJ_sI, wJ_sJ, wJ_sR, wR_sI, wR_sJ, wR_sR, wN_nw, wL_nw, wI_nw, wJ_nw, wR_nw, e] using this) (by simpa [KC, KR, LO, wN_sI, wN_sJ, wN_sR, wL_sI, wL_sJ, wL_sR, wI_sI, wI_sJ, wI_sR, wJ_sI, wJ_sJ, wJ_sR, wR_sI, wR_sJ, wR_sR, wN_nw, wL_nw, wI_nw, wJ_nw, wR_nw] using (J_rpf I :)) (by simpa [KC, KR, LO, wN_sI, wN_sJ, wN_sR, wL_sI, wL_sJ, wL_sR, wI_sI, wI_sJ, wI_sR, wJ_sI, wJ_sJ, wJ_sR, wR_sI, wR_sJ, wR_sR, wN_nw, wL_nw, wI_nw, wJ_nw, wR_nw] using (J_rtx I :)) (by simpa [KC, KR, LO, wN_sI, wN_sJ, wN_sR, wL_sI, wL_sJ, wL_sR, wI_sI, wI_sJ, wI_sR, wJ_sI, wJ_sJ, wJ_sR, wR_sI, wR_sJ, wR_sR, wN_nw, wL_nw, wI_nw, wJ_nw, wR_nw] using (J_tap I :)) (by simpa [KC, KR, LO, wN_sI, wN_sJ, wN_sR, wL_sI, wL_sJ, wL_sR, wI_sI, wI_sJ, wI_sR, wJ_sI, wJ_sJ, wJ_sR, wR_sI, wR_sJ, wR_sR, wN_nw, wL_nw, wI_nw, wJ_nw, wR_nw] using (J_row I :)) (by simpa [KC, KR, LO, wN_sI, wN_sJ, wN_sR, wL_sI, wL_sJ, wL_sR, wI_sI, wI_sJ, wI_sR, wJ_sI, wJ_sJ, wJ_sR, wR_sI, wR_sJ, wR_sR, wN_nw, wL_nw, wI_nw, wJ_nw, wR_nw] using (J_sur I :)) (by simpa [KC, KR, LO, wN_sI, wN_sJ, wN_sR, wL_sI, wL_sJ, wL_sR, wI_sI, wI_sJ, wI_sR, wJ_sI, wJ_sJ, wJ_sR, wR_sI, wR_sJ, wR_sR, wN_nw, wL_nw, wI_nw, wJ_nw, wR_nw] using (J_ref I :))
end ZAS
