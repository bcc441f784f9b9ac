/-! ===== holidays, late banks, rivals ===== -/
section ZK
variable {C R : zH}
theorem l_hol {R : zH} (hr : KR R) (o2 : zib (zI R 40 0 47) 21 = true) (x : Int32) : ∀ (n k f : Nat), k + n = (zI R 40 0 47).toNatClampNeg → n < f → ((∃ j, k ≤ j ∧ j < (zI R 40 0 47).toNatClampNeg ∧ zI R 101 0 j = x) → f_X10_holiday_30 f 0 x 0 (nI k) R = f_X10_holiday_65 0 x (-3) R) ∧ ((¬ ∃ j, k ≤ j ∧ j < (zI R 40 0 47).toNatClampNeg ∧ zI R 101 0 j = x) → f_X10_holiday_30 f 0 x 0 (nI k) R = f_X10_holiday_65 0 x 0 R) := by
  unfold KR at hr
  have hn := nI_rd (zib_ex o2).2
  have hl := (zib_ex o2).1
  intro n
  induction n with
  | zero =>
    intro k f h hf
    obtain ⟨f, rfl⟩ : ∃ f', f = f' + 1 := ⟨f - 1, by omega⟩
    have hle : zI R 40 0 47 ≤ nI k := by
      rw [← hn]
      exact (nJ_le (by omega) (by omega)).mpr (by omega)
    rw [f_X10_holiday_30, if_pos hle]
    exact ⟨fun ⟨j, j1, j2, j3⟩ => by omega, fun _ => rfl⟩
  | succ n ih =>
    intro k f h hf
    obtain ⟨f, rfl⟩ : ∃ f', f = f' + 1 := ⟨f - 1, by omega⟩
    have hle : ¬ zI R 40 0 47 ≤ nI k := by
      rw [← hn]
      exact fun z => by have := (nJ_le (by omega) (by omega)).mp z; omega
    rw [f_X10_holiday_30]
    simp only [hr, hle, if_false, Option.bind_some, zgd, zib_nI (show k < 20 by omega) (by decide), if_true, nI_clamp (show k < 2 ^ 31 by omega), ← nI_succ]
    obtain ⟨i1, i2⟩ := ih (k + 1) f (by omega) (by omega)
    by_cases e : zI R 101 0 k = x
    · rw [if_pos e]
      refine ⟨fun _ => ?_, fun z => absurd ⟨k, Nat.le_refl _, by omega, e⟩ z⟩
      cases f with
      | zero => omega
      | succ f =>
        rw [f_X10_holiday_30]
        simp only [show ¬ (-3 : Int32) = 0 by decide, if_false]
        split <;> rfl
    · rw [if_neg e]
      refine ⟨fun ⟨j, j1, j2, j3⟩ => i1 ⟨j, ?_, j2, j3⟩, fun z => i2 fun ⟨j, j1, j2, j3⟩ => z ⟨j, by omega, j2, j3⟩⟩
      have : ¬ j = k := fun q => e (by rw [← q]; exact j3)
      omega
theorem hol_no {x y : Int32} (R : zH) (h : ¬ y = 0) : f_X10_holiday_30 fu 0 x y 0 R = f_X10_holiday_65 0 x y R := by
  show f_X10_holiday_30 (3999 + 1) 0 x y 0 R = _
  rw [f_X10_holiday_30]
  simp only [h, if_false]
  split <;> rfl
theorem t_holiday (I : Inv C R) (x1 : Int32) : TT (f_X9_holiday 0 x1 C) (f_X10_holiday 0 x1 R) := by
  have hr := J_kr I
  have hk := J_kc I
  unfold KR at hr
  unfold KC at hk
  obtain ⟨o1, o2, o3, o4⟩ := J_hol I
  obtain ⟨d1, d2⟩ := J_day I
  have qo := zib_ex o2
  unfold f_X9_holiday f_X10_holiday f_X9_holiday_37
  simp only [hk, Option.bind_some, d1, o1, e_wit]
  by_cases h1 : zI R 40 0 46 ≤ x1
  · have h0 : ¬ x1 < 0 := fun z => (zib_ex d2).2 (Int32.lt_of_le_of_lt h1 z)
    by_cases h2 : 1500 < x1
    · have e : ow x1 (zI R 40 0 46) 1500 = -6 := by
        unfold ow
        rw [if_pos h1, if_neg (fun z => absurd h2 (Int32.not_lt.mpr z))]
      simp only [h1, h2, e, if_true, show ¬ (-6 : Int32) = 0 by decide, if_false, hol_no, not_false_eq_true, f_X10_holiday_65]
      exact t_refB I (by decide)
    · have e : ow x1 (zI R 40 0 46) 1500 = 0 := by
        unfold ow
        rw [if_pos h1, if_pos (Int32.not_lt.mp h2)]
      simp only [h1, h2, e, if_true, if_false]
      by_cases h3 : zI R 40 0 47 = 20
      · simp only [h3, if_true, show ¬ (20 : Int32) < 20 by decide, if_false, hol_no R (show ¬ (-6 : Int32) = 0 by decide), f_X10_holiday_65, show ¬ (-6 : Int32) = 0 by decide]
        exact t_refB I (by decide)
      · have hz := zib9 o2 (by decide) h3
        have hlt : zI R 40 0 47 < 20 := by
          have := (zib_ex hz).1
          rw [← nI_rd qo.2]
          exact (nJ_lt (b := 20) rd_lt (by decide)).mpr this
        have hx := nI_rd h0
        have hl : x1.toNatClampNeg < 1501 := by
          have := Int32.not_lt.mp h2
          rw [← hx] at this
          have := (nJ_le (b := 1500) rd_lt (by decide)).mp this
          omega
        generalize x1.toNatClampNeg = d at hx hl
        subst hx
        obtain ⟨w1, w2⟩ := l_hol (J_kr I) o2 (nI d) (zI R 40 0 47).toNatClampNeg 0 fu (by omega) (by unfold fu; omega)
        have hzz : (∃ j, 0 ≤ j ∧ j < (zI R 40 0 47).toNatClampNeg ∧ zI R 101 0 j = nI d) ↔ ∃ j, j < (zI R 40 0 47).toNatClampNeg ∧ zI R 101 0 j = nI d := ⟨fun ⟨j, _, h⟩ => ⟨j, h⟩, fun ⟨j, h⟩ => ⟨j, Nat.zero_le _, h⟩⟩
        rw [hzz] at w1 w2
        simp only [h3, hlt, if_true, if_false, e_rest I hl, Option.bind_some]
        by_cases e2 : ∃ j, j < (zI R 40 0 47).toNatClampNeg ∧ zI R 101 0 j = nI d
        · rw [show f_X10_holiday_30 fu 0 (nI d) 0 0 R = _ from w1 e2]
          simp only [if_pos e2, show ¬ (1 : Int32) = 0 by decide, if_false, f_X10_holiday_65, show ¬ (-3 : Int32) = 0 by decide]
          exact t_refB I (by decide)
        · rw [show f_X10_holiday_30 fu 0 (nI d) 0 0 R = _ from w2 e2]
          have hle : ¬ Int32.ofNat 1501 ≤ nI d := fun z => by have := (nJ_le (a := 1501) (by decide) (by omega)).mp z; omega
          obtain ⟨s1, s2⟩ := zib_s hz (by decide)
          simp only [if_neg e2, if_true, f_X10_holiday_65, f_X2_addHoliday, nI_pos (show d < 2 ^ 31 by omega), if_false, hk, hr, Option.bind_some, hle, zgd, zlt, zib_nI hl (by decide), nI_clamp (show d < 2 ^ 31 by omega), hz, zN_sI, zN_sJ, zN_sR, zL_sI, zL_sJ, zL_sR, zI_sI, zI_sJ, zI_sR, zJ_sI, zJ_sJ, zJ_sR, zR_sI, zR_sJ, zR_sR, o1, and_self, show ¬ (1 : Nat) = 21 by decide, show ¬ (40 : Nat) = 101 by decide, false_and]
          refine TT.mk rfl ?_
          exact Inv_mk (by first | exact (J_kc I :) | simpa [KC, KR, LO, zN_sI, zN_sJ, zN_sR, zL_sI, zL_sJ, zL_sR, zI_sI, zI_sJ, zI_sR, zJ_sI, zJ_sJ, zJ_sR, zR_sI, zR_sJ, zR_sR] using (J_kc I :)) (by first | exact (J_kr I :) | simpa [KC, KR, LO, zN_sI, zN_sJ, zN_sR, zL_sI, zL_sJ, zL_sR, zI_sI, zI_sJ, zI_sR, zJ_sI, zJ_sJ, zJ_sR, zR_sI, zR_sJ, zR_sR] using (J_kr I :)) (by first | exact (J_cnt I :) | simpa [KC, KR, LO, zN_sI, zN_sJ, zN_sR, zL_sI, zL_sJ, zL_sR, zI_sI, zI_sJ, zI_sR, zJ_sI, zJ_sJ, zJ_sR, zR_sI, zR_sJ, zR_sR] using (J_cnt I :)) (by first | exact (J_mx I :) | simpa [KC, KR, LO, zN_sI, zN_sJ, zN_sR, zL_sI, zL_sJ, zL_sR, zI_sI, zI_sJ, zI_sR, zJ_sI, zJ_sJ, zJ_sR, zR_sI, zR_sJ, zR_sR] using (J_mx I :)) (by first | exact (J_la I :) | simpa [KC, KR, LO, zN_sI, zN_sJ, zN_sR, zL_sI, zL_sJ, zL_sR, zI_sI, zI_sJ, zI_sR, zJ_sI, zJ_sJ, zJ_sR, zR_sI, zR_sJ, zR_sR] using (J_la I :)) (by first | exact (J_ll I :) | simpa [KC, KR, LO, zN_sI, zN_sJ, zN_sR, zL_sI, zL_sJ, zL_sR, zI_sI, zI_sJ, zI_sR, zJ_sI, zJ_sJ, zJ_sR, zR_sI, zR_sJ, zR_sR] using (J_ll I :)) (by first | exact (J_lm I :) | simpa [KC, KR, LO, zN_sI, zN_sJ, zN_sR, zL_sI, zL_sJ, zL_sR, zI_sI, zI_sJ, zI_sR, zJ_sI, zJ_sJ, zJ_sR, zR_sI, zR_sJ, zR_sR] using (J_lm I :)) (by first | exact (J_lr I :) | simpa [KC, KR, LO, zN_sI, zN_sJ, zN_sR, zL_sI, zL_sJ, zL_sR, zI_sI, zI_sJ, zI_sR, zJ_sI, zJ_sJ, zJ_sR, zR_sI, zR_sJ, zR_sR] using (J_lr I :)) (by first | exact (J_al I :) | simpa [KC, KR, LO, zN_sI, zN_sJ, zN_sR, zL_sI, zL_sJ, zL_sR, zI_sI, zI_sJ, zI_sR, zJ_sI, zJ_sJ, zJ_sR, zR_sI, zR_sJ, zR_sR] using (J_al I :)) (by first | exact (J_bno I :) | simpa [KC, KR, LO, zN_sI, zN_sJ, zN_sR, zL_sI, zL_sJ, zL_sR, zI_sI, zI_sJ, zI_sR, zJ_sI, zJ_sJ, zJ_sR, zR_sI, zR_sJ, zR_sR] using (J_bno I :)) (by first | exact (J_bfee I :) | simpa [KC, KR, LO, zN_sI, zN_sJ, zN_sR, zL_sI, zL_sJ, zL_sR, zI_sI, zI_sJ, zI_sR, zJ_sI, zJ_sJ, zJ_sR, zR_sI, zR_sJ, zR_sR] using (J_bfee I :)) (by first | exact (J_bcap I :) | simpa [KC, KR, LO, zN_sI, zN_sJ, zN_sR, zL_sI, zL_sJ, zL_sR, zI_sI, zI_sJ, zI_sR, zJ_sI, zJ_sJ, zJ_sR, zR_sI, zR_sJ, zR_sR] using (J_bcap I :)) (by first | exact (J_bow I :) | simpa [KC, KR, LO, zN_sI, zN_sJ, zN_sR, zL_sI, zL_sJ, zL_sR, zI_sI, zI_sJ, zI_sR, zJ_sI, zJ_sJ, zJ_sR, zR_sI, zR_sJ, zR_sR] using (J_bow I :)) (by first | exact (J_bdid I :) | simpa [KC, KR, LO, zN_sI, zN_sJ, zN_sR, zL_sI, zL_sJ, zL_sR, zI_sI, zI_sJ, zI_sR, zJ_sI, zJ_sJ, zJ_sR, zR_sI, zR_sJ, zR_sR] using (J_bdid I :)) (by first | exact (J_bnet I :) | simpa [KC, KR, LO, zN_sI, zN_sJ, zN_sR, zL_sI, zL_sJ, zL_sR, zI_sI, zI_sJ, zI_sR, zJ_sI, zJ_sJ, zJ_sR, zR_sI, zR_sJ, zR_sR] using (J_bnet I :)) (by first | exact (J_day I :) | simpa [KC, KR, LO, zN_sI, zN_sJ, zN_sR, zL_sI, zL_sJ, zL_sR, zI_sI, zI_sJ, zI_sR, zJ_sI, zJ_sJ, zJ_sR, zR_sI, zR_sJ, zR_sR] using (J_day I :)) (by first | exact (J_ngt I :) | simpa [KC, KR, LO, zN_sI, zN_sJ, zN_sR, zL_sI, zL_sJ, zL_sR, zI_sI, zI_sJ, zI_sR, zJ_sI, zJ_sJ, zJ_sR, zR_sI, zR_sJ, zR_sR] using (J_ngt I :)) (by first | exact (J_due I :) | simpa [KC, KR, LO, zN_sI, zN_sJ, zN_sR, zL_sI, zL_sJ, zL_sR, zI_sI, zI_sJ, zI_sR, zJ_sI, zJ_sJ, zJ_sR, zR_sI, zR_sJ, zR_sR] using (J_due I :)) (by
            refine ⟨by simp [zN_sI, zN_sJ, zN_sR, zL_sI, zL_sJ, zL_sR, zI_sI, zI_sJ, zI_sR, zJ_sI, zJ_sJ, zJ_sR, zR_sI, zR_sJ, zR_sR], by simpa [zN_sI, zN_sJ, zN_sR, zL_sI, zL_sJ, zL_sR, zI_sI, zI_sJ, zI_sR, zJ_sI, zJ_sJ, zJ_sR, zR_sI, zR_sJ, zR_sR] using s1, ?_, ?_⟩
            · intro k hk2
              have hk2 : k < (zI R 40 0 47).toNatClampNeg + 1 := by
                rw [← s2]
                simpa [zN_sI, zN_sJ, zN_sR, zL_sI, zL_sJ, zL_sR, zI_sI, zI_sJ, zI_sR, zJ_sI, zJ_sJ, zJ_sR, zR_sI, zR_sJ, zR_sR] using hk2
              by_cases e : k = (zI R 40 0 47).toNatClampNeg
              · simp [zN_sI, zN_sJ, zN_sR, zL_sI, zL_sJ, zL_sR, zI_sI, zI_sJ, zI_sR, zJ_sI, zJ_sJ, zJ_sR, zR_sI, zR_sJ, zR_sR, e, zib_nI hl]
              · simpa [zN_sI, zN_sJ, zN_sR, zL_sI, zL_sJ, zL_sR, zI_sI, zI_sJ, zI_sR, zJ_sI, zJ_sJ, zJ_sR, zR_sI, zR_sJ, zR_sR, e] using o3 k (by omega)
            · intro j hj
              have hj' := o4 j hj
              have hn : (zI (zsI (zsI R 101 0 (zI R 40 0 47).toNatClampNeg (nI d)) 40 0 47 (zI R 40 0 47 + 1)) 40 0 47).toNatClampNeg = (zI R 40 0 47).toNatClampNeg + 1 := by
                rw [← s2]
                simp [zN_sI, zN_sJ, zN_sR, zL_sI, zL_sJ, zL_sR, zI_sI, zI_sJ, zI_sR, zJ_sI, zJ_sJ, zJ_sR, zR_sI, zR_sJ, zR_sR]
              rw [hn]
              by_cases e : j = d
              · subst e
                constructor
                · intro _
                  exact ⟨(zI R 40 0 47).toNatClampNeg, by omega, by simp [zN_sI, zN_sJ, zN_sR, zL_sI, zL_sJ, zL_sR, zI_sI, zI_sJ, zI_sR, zJ_sI, zJ_sJ, zJ_sR, zR_sI, zR_sJ, zR_sR]⟩
                · intro _
                  simp [zN_sI, zN_sJ, zN_sR, zL_sI, zL_sJ, zL_sR, zI_sI, zI_sJ, zI_sR, zJ_sI, zJ_sJ, zJ_sR, zR_sI, zR_sJ, zR_sR]
              · have e3 : zI (zsI (zsI C 21 0 d (1 &&& 1)) 1 0 2 (zI R 40 0 47 + 1)) 21 0 j = zI C 21 0 j := by simp [zN_sI, zN_sJ, zN_sR, zL_sI, zL_sJ, zL_sR, zI_sI, zI_sJ, zI_sR, zJ_sI, zJ_sJ, zJ_sR, zR_sI, zR_sJ, zR_sR, e]
                rw [e3, hj']
                constructor
                · rintro ⟨k, k1, k2⟩
                  refine ⟨k, by omega, ?_⟩
                  have : ¬ k = (zI R 40 0 47).toNatClampNeg := by omega
                  simpa [zN_sI, zN_sJ, zN_sR, zL_sI, zL_sJ, zL_sR, zI_sI, zI_sJ, zI_sR, zJ_sI, zJ_sJ, zJ_sR, zR_sI, zR_sJ, zR_sR, this] using k2
                · rintro ⟨k, k1, k2⟩
                  by_cases q : k = (zI R 40 0 47).toNatClampNeg
                  · have : nI d = nI j := by simpa [zN_sI, zN_sJ, zN_sR, zL_sI, zL_sJ, zL_sR, zI_sI, zI_sJ, zI_sR, zJ_sI, zJ_sJ, zJ_sR, zR_sI, zR_sJ, zR_sR, q] using k2
                    rw [nI_inj (by omega) (by omega)] at this
                    exact absurd this.symm e
                  · exact ⟨k, by omega, by simpa [zN_sI, zN_sJ, zN_sR, zL_sI, zL_sJ, zL_sR, zI_sI, zI_sJ, zI_sR, zJ_sI, zJ_sJ, zJ_sR, zR_sI, zR_sJ, zR_sR, q] using k2⟩) (by first | exact (J_lat I :) | simpa [KC, KR, LO, zN_sI, zN_sJ, zN_sR, zL_sI, zL_sJ, zL_sR, zI_sI, zI_sJ, zI_sR, zJ_sI, zJ_sJ, zJ_sR, zR_sI, zR_sJ, zR_sR] using (J_lat I :)) (by first | exact (J_ano I :) | simpa [KC, KR, LO, zN_sI, zN_sJ, zN_sR, zL_sI, zL_sJ, zL_sR, zI_sI, zI_sJ, zI_sR, zJ_sI, zJ_sJ, zJ_sR, zR_sI, zR_sJ, zR_sR] using (J_ano I :)) (by first | exact (J_abk I :) | simpa [KC, KR, LO, zN_sI, zN_sJ, zN_sR, zL_sI, zL_sJ, zL_sR, zI_sI, zI_sJ, zI_sR, zJ_sI, zJ_sJ, zJ_sR, zR_sI, zR_sJ, zR_sR] using (J_abk I :)) (by first | exact (J_anm I :) | simpa [KC, KR, LO, zN_sI, zN_sJ, zN_sR, zL_sI, zL_sJ, zL_sR, zI_sI, zI_sJ, zI_sR, zJ_sI, zJ_sJ, zJ_sR, zR_sI, zR_sJ, zR_sR] using (J_anm I :)) (by first | exact (J_asum I :) | simpa [KC, KR, LO, zN_sI, zN_sJ, zN_sR, zL_sI, zL_sJ, zL_sR, zI_sI, zI_sJ, zI_sR, zJ_sI, zJ_sJ, zJ_sR, zR_sI, zR_sJ, zR_sR] using (J_asum I :)) (by first | exact (J_aov I :) | simpa [KC, KR, LO, zN_sI, zN_sJ, zN_sR, zL_sI, zL_sJ, zL_sR, zI_sI, zI_sJ, zI_sR, zJ_sI, zJ_sJ, zJ_sR, zR_sI, zR_sJ, zR_sR] using (J_aov I :)) (by first | exact (J_ast I :) | simpa [KC, KR, LO, zN_sI, zN_sJ, zN_sR, zL_sI, zL_sJ, zL_sR, zI_sI, zI_sJ, zI_sR, zJ_sI, zJ_sJ, zJ_sR, zR_sI, zR_sJ, zR_sR] using (J_ast I :)) (by first | exact (J_amv I :) | simpa [KC, KR, LO, zN_sI, zN_sJ, zN_sR, zL_sI, zL_sJ, zL_sR, zI_sI, zI_sJ, zI_sR, zJ_sI, zJ_sJ, zJ_sR, zR_sI, zR_sJ, zR_sR] using (J_amv I :)) (by first | exact (J_ano2 I :) | simpa [KC, KR, LO, zN_sI, zN_sJ, zN_sR, zL_sI, zL_sJ, zL_sR, zI_sI, zI_sJ, zI_sR, zJ_sI, zJ_sJ, zJ_sR, zR_sI, zR_sJ, zR_sR] using (J_ano2 I :)) (by first | exact (J_agd I :) | simpa [KC, KR, LO, zN_sI, zN_sJ, zN_sR, zL_sI, zL_sJ, zL_sR, zI_sI, zI_sJ, zI_sR, zJ_sI, zJ_sJ, zJ_sR, zR_sI, zR_sJ, zR_sR] using (J_agd I :)) (by first | exact (J_akp I :) | simpa [KC, KR, LO, zN_sI, zN_sJ, zN_sR, zL_sI, zL_sJ, zL_sR, zI_sI, zI_sJ, zI_sR, zJ_sI, zJ_sJ, zJ_sR, zR_sI, zR_sJ, zR_sR] using (J_akp I :)) (by first | exact (J_ahs I :) | simpa [KC, KR, LO, zN_sI, zN_sJ, zN_sR, zL_sI, zL_sJ, zL_sR, zI_sI, zI_sJ, zI_sR, zJ_sI, zJ_sJ, zJ_sR, zR_sI, zR_sJ, zR_sR] using (J_ahs I :)) (by first | exact (J_afr I :) | simpa [KC, KR, LO, zN_sI, zN_sJ, zN_sR, zL_sI, zL_sJ, zL_sR, zI_sI, zI_sJ, zI_sR, zJ_sI, zJ_sJ, zJ_sR, zR_sI, zR_sJ, zR_sR] using (J_afr I :)) (by first | exact (J_lk I :) | simpa [KC, KR, LO, zN_sI, zN_sJ, zN_sR, zL_sI, zL_sJ, zL_sR, zI_sI, zI_sJ, zI_sR, zJ_sI, zJ_sJ, zJ_sR, zR_sI, zR_sJ, zR_sR] using (J_lk I :)) (by first | exact (J_lft I :) | simpa [KC, KR, LO, zN_sI, zN_sJ, zN_sR, zL_sI, zL_sJ, zL_sR, zI_sI, zI_sJ, zI_sR, zJ_sI, zJ_sJ, zJ_sR, zR_sI, zR_sJ, zR_sR] using (J_lft I :)) (by first | exact (J_lam I :) | simpa [KC, KR, LO, zN_sI, zN_sJ, zN_sR, zL_sI, zL_sJ, zL_sR, zI_sI, zI_sJ, zI_sR, zJ_sI, zJ_sJ, zJ_sR, zR_sI, zR_sJ, zR_sR] using (J_lam I :)) (by first | exact (J_led I :) | simpa [KC, KR, LO, zN_sI, zN_sJ, zN_sR, zL_sI, zL_sJ, zL_sR, zI_sI, zI_sJ, zI_sR, zJ_sI, zJ_sJ, zJ_sR, zR_sI, zR_sJ, zR_sR] using (J_led I :)) (by first | exact (J_ldn I :) | simpa [KC, KR, LO, zN_sI, zN_sJ, zN_sR, zL_sI, zL_sJ, zL_sR, zI_sI, zI_sJ, zI_sR, zJ_sI, zJ_sJ, zJ_sR, zR_sI, zR_sJ, zR_sR] using (J_ldn I :)) (by first | exact (J_lbk I :) | simpa [KC, KR, LO, zN_sI, zN_sJ, zN_sR, zL_sI, zL_sJ, zL_sR, zI_sI, zI_sJ, zI_sR, zJ_sI, zJ_sJ, zJ_sR, zR_sI, zR_sJ, zR_sR] using (J_lbk I :)) (by first | exact (J_ldu I :) | simpa [KC, KR, LO, zN_sI, zN_sJ, zN_sR, zL_sI, zL_sJ, zL_sR, zI_sI, zI_sJ, zI_sR, zJ_sI, zJ_sJ, zJ_sR, zR_sI, zR_sJ, zR_sR] using (J_ldu I :)) (by first | exact (J_lfr I :) | simpa [KC, KR, LO, zN_sI, zN_sJ, zN_sR, zL_sI, zL_sJ, zL_sR, zI_sI, zI_sJ, zI_sR, zJ_sI, zJ_sJ, zJ_sR, zR_sI, zR_sJ, zR_sR] using (J_lfr I :)) (by first | exact (J_mac I :) | simpa [KC, KR, LO, zN_sI, zN_sJ, zN_sR, zL_sI, zL_sJ, zL_sR, zI_sI, zI_sJ, zI_sR, zJ_sI, zJ_sJ, zJ_sR, zR_sI, zR_sJ, zR_sR] using (J_mac I :)) (by first | exact (J_mpt I :) | simpa [KC, KR, LO, zN_sI, zN_sJ, zN_sR, zL_sI, zL_sJ, zL_sR, zI_sI, zI_sJ, zI_sR, zJ_sI, zJ_sJ, zJ_sR, zR_sI, zR_sJ, zR_sR] using (J_mpt I :)) (by first | exact (J_mas I :) | simpa [KC, KR, LO, zN_sI, zN_sJ, zN_sR, zL_sI, zL_sJ, zL_sR, zI_sI, zI_sJ, zI_sR, zJ_sI, zJ_sJ, zJ_sR, zR_sI, zR_sJ, zR_sR] using (J_mas I :)) (by first | exact (J_mst I :) | simpa [KC, KR, LO, zN_sI, zN_sJ, zN_sR, zL_sI, zL_sJ, zL_sR, zI_sI, zI_sJ, zI_sR, zJ_sI, zJ_sJ, zJ_sR, zR_sI, zR_sJ, zR_sR] using (J_mst I :)) (by first | exact (J_mgo I :) | simpa [KC, KR, LO, zN_sI, zN_sJ, zN_sR, zL_sI, zL_sJ, zL_sR, zI_sI, zI_sJ, zI_sR, zJ_sI, zJ_sJ, zJ_sR, zR_sI, zR_sJ, zR_sR] using (J_mgo I :)) (by first | exact (J_mag I :) | simpa [KC, KR, LO, zN_sI, zN_sJ, zN_sR, zL_sI, zL_sJ, zL_sR, zI_sI, zI_sJ, zI_sR, zJ_sI, zJ_sJ, zJ_sR, zR_sI, zR_sJ, zR_sR] using (J_mag I :)) (by first | exact (J_mwy I :) | simpa [KC, KR, LO, zN_sI, zN_sJ, zN_sR, zL_sI, zL_sJ, zL_sR, zI_sI, zI_sJ, zI_sR, zJ_sI, zJ_sJ, zJ_sR, zR_sI, zR_sJ, zR_sR] using (J_mwy I :)) (by first | exact (J_mfa I :) | simpa [KC, KR, LO, zN_sI, zN_sJ, zN_sR, zL_sI, zL_sJ, zL_sR, zI_sI, zI_sJ, zI_sR, zJ_sI, zJ_sJ, zJ_sR, zR_sI, zR_sJ, zR_sR] using (J_mfa I :)) (by first | exact (J_mfb I :) | simpa [KC, KR, LO, zN_sI, zN_sJ, zN_sR, zL_sI, zL_sJ, zL_sR, zI_sI, zI_sJ, zI_sR, zJ_sI, zJ_sJ, zJ_sR, zR_sI, zR_sJ, zR_sR] using (J_mfb I :)) (by first | exact (J_mop I :) | simpa [KC, KR, LO, zN_sI, zN_sJ, zN_sR, zL_sI, zL_sJ, zL_sR, zI_sI, zI_sJ, zI_sR, zJ_sI, zJ_sJ, zJ_sR, zR_sI, zR_sJ, zR_sR] using (J_mop I :)) (by first | exact fun m m2 a b c d e => (J_mdj I m m2 a b c d e :) | simpa [KC, KR, LO, zN_sI, zN_sJ, zN_sR, zL_sI, zL_sJ, zL_sR, zI_sI, zI_sJ, zI_sR, zJ_sI, zJ_sJ, zJ_sR, zR_sI, zR_sJ, zR_sR] using (J_mdj I :)) (by first | exact (J_mfr I :) | simpa [KC, KR, LO, zN_sI, zN_sJ, zN_sR, zL_sI, zL_sJ, zL_sR, zI_sI, zI_sJ, zI_sR, zJ_sI, zJ_sJ, zJ_sR, zR_sI, zR_sJ, zR_sR] using (J_mfr I :)) (by first | exact (J_rpf I :) | simpa [KC, KR, LO, zN_sI, zN_sJ, zN_sR, zL_sI, zL_sJ, zL_sR, zI_sI, zI_sJ, zI_sR, zJ_sI, zJ_sJ, zJ_sR, zR_sI, zR_sJ, zR_sR] using (J_rpf I :)) (by first | exact (J_rtx I :) | simpa [KC, KR, LO, zN_sI, zN_sJ, zN_sR, zL_sI, zL_sJ, zL_sR, zI_sI, zI_sJ, zI_sR, zJ_sI, zJ_sJ, zJ_sR, zR_sI, zR_sJ, zR_sR] using (J_rtx I :)) (by first | exact (J_tap I :) | simpa [KC, KR, LO, zN_sI, zN_sJ, zN_sR, zL_sI, zL_sJ, zL_sR, zI_sI, zI_sJ, zI_sR, zJ_sI, zJ_sJ, zJ_sR, zR_sI, zR_sJ, zR_sR] using (J_tap I :)) (by first | exact (J_row I :) | simpa [KC, KR, LO, zN_sI, zN_sJ, zN_sR, zL_sI, zL_sJ, zL_sR, zI_sI, zI_sJ, zI_sR, zJ_sI, zJ_sJ, zJ_sR, zR_sI, zR_sJ, zR_sR] using (J_row I :)) (by first | exact (J_sur I :) | simpa [KC, KR, LO, zN_sI, zN_sJ, zN_sR, zL_sI, zL_sJ, zL_sR, zI_sI, zI_sJ, zI_sR, zJ_sI, zJ_sJ, zJ_sR, zR_sI, zR_sJ, zR_sR] using (J_sur I :)) (by first | exact (J_ref I :) | simpa [KC, KR, LO, zN_sI, zN_sJ, zN_sR, zL_sI, zL_sJ, zL_sR, zI_sI, zI_sJ, zI_sR, zJ_sI, zJ_sJ, zJ_sR, zR_sI, zR_sJ, zR_sR] using (J_ref I :))
  · have e : ow x1 (zI R 40 0 46) 1500 = -4 := by
      unfold ow
      rw [if_neg h1]
    simp only [h1, e, if_false, show ¬ (-4 : Int32) = 0 by decide, hol_no R (show ¬ (-4 : Int32) = 0 by decide), f_X10_holiday_65]
    exact t_refB I (by decide)
/-- the reference looks through its late banks -/
theorem l_late {R : zH} (hr : KR R) (o2 : zib (zI R 40 0 48) 61 = true) (x y : Int32) : ∀ (n k f : Nat), k + n = (zI R 40 0 48).toNatClampNeg → n < f → ((∃ j, k ≤ j ∧ j < (zI R 40 0 48).toNatClampNeg ∧ zI R 102 0 j = x ∧ zI R 103 0 j = y) → f_X10_isLate_2 f 0 x y (nI k) R = some 1) ∧ ((¬ ∃ j, k ≤ j ∧ j < (zI R 40 0 48).toNatClampNeg ∧ zI R 102 0 j = x ∧ zI R 103 0 j = y) → f_X10_isLate_2 f 0 x y (nI k) R = some 0) := by
  unfold KR at hr
  have hn := nI_rd (zib_ex o2).2
  have hl := (zib_ex o2).1
  intro n
  induction n with
  | zero =>
    intro k f h hf
    obtain ⟨f, rfl⟩ : ∃ f', f = f' + 1 := ⟨f - 1, by omega⟩
    have hle : zI R 40 0 48 ≤ nI k := by
      rw [← hn]
      exact (nJ_le (by omega) (by omega)).mpr (by omega)
    rw [f_X10_isLate_2, if_pos hle]
    exact ⟨fun ⟨j, j1, j2, j3⟩ => by omega, fun _ => rfl⟩
  | succ n ih =>
    intro k f h hf
    obtain ⟨f, rfl⟩ : ∃ f', f = f' + 1 := ⟨f - 1, by omega⟩
    have hle : ¬ zI R 40 0 48 ≤ nI k := by
      rw [← hn]
      exact fun z => by have := (nJ_le (by omega) (by omega)).mp z; omega
    rw [f_X10_isLate_2]
    simp only [hr, hle, if_false, Option.bind_some, zgd, zib_nI (show k < 60 by omega) (by decide), if_true, nI_clamp (show k < 2 ^ 31 by omega), ← nI_succ]
    obtain ⟨i1, i2⟩ := ih (k + 1) f (by omega) (by omega)
    have step : ¬ (zI R 102 0 k = x ∧ zI R 103 0 k = y) → ((∃ j, k ≤ j ∧ j < (zI R 40 0 48).toNatClampNeg ∧ zI R 102 0 j = x ∧ zI R 103 0 j = y) → f_X10_isLate_2 f 0 x y (nI (k + 1)) R = some 1) ∧ ((¬ ∃ j, k ≤ j ∧ j < (zI R 40 0 48).toNatClampNeg ∧ zI R 102 0 j = x ∧ zI R 103 0 j = y) → f_X10_isLate_2 f 0 x y (nI (k + 1)) R = some 0) := by
      intro e
      refine ⟨fun ⟨j, j1, j2, j3⟩ => i1 ⟨j, ?_, j2, j3⟩, fun z => i2 fun ⟨j, j1, j2, j3⟩ => z ⟨j, by omega, j2, j3⟩⟩
      have : ¬ j = k := fun q => e (by rw [← q]; exact j3)
      omega
    by_cases e : zI R 102 0 k = x
    · rw [if_pos e]
      by_cases e2 : zI R 103 0 k = y
      · rw [if_pos e2]
        exact ⟨fun _ => rfl, fun z => absurd ⟨k, Nat.le_refl _, by omega, e, e2⟩ z⟩
      · rw [if_neg e2]
        exact step fun z => e2 z.2
    · rw [if_neg e]
      exact step fun z => e z.1
theorem e_late (I : Inv C R) {x y : Int32} (hx : zib x 8 = true) : ∃ a : Int32, (a = 0 ∨ a = 1) ∧ f_X2_isLate 0 x y C = some a ∧ f_X10_isLate 0 x y R = some a ∧ (a = 1 ↔ ∃ j, j < (zI R 40 0 48).toNatClampNeg ∧ zI R 102 0 j = x ∧ zI R 103 0 j = y) := by
  have hk := J_kc I
  unfold KC at hk
  obtain ⟨o1, o2, o3, o4⟩ := J_lat I
  have hl := (zib_ex o2).1
  obtain ⟨w1, w2⟩ := l_late (J_kr I) o2 x y (zI R 40 0 48).toNatClampNeg 0 fu (by omega) (by unfold fu; omega)
  have hzz : (∃ j, 0 ≤ j ∧ j < (zI R 40 0 48).toNatClampNeg ∧ zI R 102 0 j = x ∧ zI R 103 0 j = y) ↔ ∃ j, j < (zI R 40 0 48).toNatClampNeg ∧ zI R 102 0 j = x ∧ zI R 103 0 j = y := ⟨fun ⟨j, _, h⟩ => ⟨j, h⟩, fun ⟨j, h⟩ => ⟨j, Nat.zero_le _, h⟩⟩
  rw [hzz] at w1 w2
  rw [show f_X10_isLate 0 x y R = f_X10_isLate_2 fu 0 x y (nI 0) R from rfl]
  unfold f_X2_isLate
  by_cases h0 : y < 0
  · have hno : ¬ ∃ j, j < (zI R 40 0 48).toNatClampNeg ∧ zI R 102 0 j = x ∧ zI R 103 0 j = y := fun ⟨j, j1, j2, j3⟩ => (zib_ex (o3 j j1).1).2 (j3 ▸ h0)
    exact ⟨0, Or.inl rfl, by rw [if_pos h0], w2 hno, ⟨fun z => absurd z (by decide), fun z => absurd z hno⟩⟩
  · by_cases h1 : zib y 1501 = true
    · have hy := nI_rd h0
      have hyl := (zib_ex h1).1
      have hxx := nI_rd (zib_ex hx).2
      have hxl := (zib_ex hx).1
      have hle : ¬ Int32.ofNat 1501 ≤ y := by
        rw [show (Int32.ofNat 1501 ≤ y) = _ from zib_lt (n := 1501) (by decide) h0]
        exact fun z => z h1
      have hb := o4 y.toNatClampNeg x.toNatClampNeg hyl hxl
      rw [hxx, hy] at hb
      simp only [h0, hk, Option.bind_some, hle, if_false, zgd, h1, if_true]
      by_cases e : ∃ j, j < (zI R 40 0 48).toNatClampNeg ∧ zI R 102 0 j = x ∧ zI R 103 0 j = y
      · rw [if_pos (hb.mpr e)]
        exact ⟨1, Or.inr rfl, rfl, w1 e, ⟨fun _ => e, fun _ => rfl⟩⟩
      · rw [if_neg (fun z => e (hb.mp z))]
        exact ⟨0, Or.inl rfl, rfl, w2 e, ⟨fun z => absurd z (by decide), fun z => absurd z e⟩⟩
    · have hno : ¬ ∃ j, j < (zI R 40 0 48).toNatClampNeg ∧ zI R 102 0 j = x ∧ zI R 103 0 j = y := fun ⟨j, j1, j2, j3⟩ => h1 (j3 ▸ (o3 j j1).1)
      have hle : Int32.ofNat 1501 ≤ y := by
        rw [show (Int32.ofNat 1501 ≤ y) = _ from zib_lt (n := 1501) (by decide) h0]
        exact h1
      simp only [h0, hk, Option.bind_some, hle, if_false, if_true]
      exact ⟨0, Or.inl rfl, rfl, w2 hno, ⟨fun z => absurd z (by decide), fun z => absurd z hno⟩⟩
theorem t_addL (I : Inv C R) {b d : Nat} (hbl : b < 8) (hl : d < 1501) (hz : zib (zI R 40 0 48) 60 = true) : TT (Option.bind (f_X2_addLate 0 (nI b) (nI d) C) (fun o => some (o.1, o.2))) (f_X10_late_57 0 (nI b) (nI d) 0 R) := by
  have hr := J_kr I
  have hk := J_kc I
  unfold KR at hr
  unfold KC at hk
  obtain ⟨o1, o2, o3, o4⟩ := J_lat I
  have h : zib (nI b) 8 = true := zib_nI hbl (by decide)
  have hle : ¬ Int32.ofNat 1501 ≤ nI d := fun z => by have := (nJ_le (a := 1501) (by decide) (by omega)).mp z; omega
  obtain ⟨s1, s2⟩ := zib_s hz (by decide)
  simp only [if_true, if_false, f_X10_late_57, f_X2_addLate, nI_pos (show d < 2 ^ 31 by omega), hk, hr, Option.bind_some, hle, zgd, zlt, zib_nI hl (by decide), nI_clamp (show d < 2 ^ 31 by omega), hz, zN_sI, zN_sJ, zN_sR, zL_sI, zL_sJ, zL_sR, zI_sI, zI_sJ, zI_sR, zJ_sI, zJ_sJ, zJ_sR, zR_sI, zR_sJ, zR_sR, o1, and_self, show ¬ (1 : Nat) = 22 by decide, show ¬ (40 : Nat) = 102 by decide, show ¬ (40 : Nat) = 103 by decide, false_and]
  refine TT.mk rfl ?_
  exact Inv_mk (by first | exact (J_kc I :) | simpa [KC, KR, LO, zN_sI, zN_sJ, zN_sR, zL_sI, zL_sJ, zL_sR, zI_sI, zI_sJ, zI_sR, zJ_sI, zJ_sJ, zJ_sR, zR_sI, zR_sJ, zR_sR] using (J_kc I :)) (by first | exact (J_kr I :) | simpa [KC, KR, LO, zN_sI, zN_sJ, zN_sR, zL_sI, zL_sJ, zL_sR, zI_sI, zI_sJ, zI_sR, zJ_sI, zJ_sJ, zJ_sR, zR_sI, zR_sJ, zR_sR] using (J_kr I :)) (by first | exact (J_cnt I :) | simpa [KC, KR, LO, zN_sI, zN_sJ, zN_sR, zL_sI, zL_sJ, zL_sR, zI_sI, zI_sJ, zI_sR, zJ_sI, zJ_sJ, zJ_sR, zR_sI, zR_sJ, zR_sR] using (J_cnt I :)) (by first | exact (J_mx I :) | simpa [KC, KR, LO, zN_sI, zN_sJ, zN_sR, zL_sI, zL_sJ, zL_sR, zI_sI, zI_sJ, zI_sR, zJ_sI, zJ_sJ, zJ_sR, zR_sI, zR_sJ, zR_sR] using (J_mx I :)) (by first | exact (J_la I :) | simpa [KC, KR, LO, zN_sI, zN_sJ, zN_sR, zL_sI, zL_sJ, zL_sR, zI_sI, zI_sJ, zI_sR, zJ_sI, zJ_sJ, zJ_sR, zR_sI, zR_sJ, zR_sR] using (J_la I :)) (by first | exact (J_ll I :) | simpa [KC, KR, LO, zN_sI, zN_sJ, zN_sR, zL_sI, zL_sJ, zL_sR, zI_sI, zI_sJ, zI_sR, zJ_sI, zJ_sJ, zJ_sR, zR_sI, zR_sJ, zR_sR] using (J_ll I :)) (by first | exact (J_lm I :) | simpa [KC, KR, LO, zN_sI, zN_sJ, zN_sR, zL_sI, zL_sJ, zL_sR, zI_sI, zI_sJ, zI_sR, zJ_sI, zJ_sJ, zJ_sR, zR_sI, zR_sJ, zR_sR] using (J_lm I :)) (by first | exact (J_lr I :) | simpa [KC, KR, LO, zN_sI, zN_sJ, zN_sR, zL_sI, zL_sJ, zL_sR, zI_sI, zI_sJ, zI_sR, zJ_sI, zJ_sJ, zJ_sR, zR_sI, zR_sJ, zR_sR] using (J_lr I :)) (by first | exact (J_al I :) | simpa [KC, KR, LO, zN_sI, zN_sJ, zN_sR, zL_sI, zL_sJ, zL_sR, zI_sI, zI_sJ, zI_sR, zJ_sI, zJ_sJ, zJ_sR, zR_sI, zR_sJ, zR_sR] using (J_al I :)) (by first | exact (J_bno I :) | simpa [KC, KR, LO, zN_sI, zN_sJ, zN_sR, zL_sI, zL_sJ, zL_sR, zI_sI, zI_sJ, zI_sR, zJ_sI, zJ_sJ, zJ_sR, zR_sI, zR_sJ, zR_sR] using (J_bno I :)) (by first | exact (J_bfee I :) | simpa [KC, KR, LO, zN_sI, zN_sJ, zN_sR, zL_sI, zL_sJ, zL_sR, zI_sI, zI_sJ, zI_sR, zJ_sI, zJ_sJ, zJ_sR, zR_sI, zR_sJ, zR_sR] using (J_bfee I :)) (by first | exact (J_bcap I :) | simpa [KC, KR, LO, zN_sI, zN_sJ, zN_sR, zL_sI, zL_sJ, zL_sR, zI_sI, zI_sJ, zI_sR, zJ_sI, zJ_sJ, zJ_sR, zR_sI, zR_sJ, zR_sR] using (J_bcap I :)) (by first | exact (J_bow I :) | simpa [KC, KR, LO, zN_sI, zN_sJ, zN_sR, zL_sI, zL_sJ, zL_sR, zI_sI, zI_sJ, zI_sR, zJ_sI, zJ_sJ, zJ_sR, zR_sI, zR_sJ, zR_sR] using (J_bow I :)) (by first | exact (J_bdid I :) | simpa [KC, KR, LO, zN_sI, zN_sJ, zN_sR, zL_sI, zL_sJ, zL_sR, zI_sI, zI_sJ, zI_sR, zJ_sI, zJ_sJ, zJ_sR, zR_sI, zR_sJ, zR_sR] using (J_bdid I :)) (by first | exact (J_bnet I :) | simpa [KC, KR, LO, zN_sI, zN_sJ, zN_sR, zL_sI, zL_sJ, zL_sR, zI_sI, zI_sJ, zI_sR, zJ_sI, zJ_sJ, zJ_sR, zR_sI, zR_sJ, zR_sR] using (J_bnet I :)) (by first | exact (J_day I :) | simpa [KC, KR, LO, zN_sI, zN_sJ, zN_sR, zL_sI, zL_sJ, zL_sR, zI_sI, zI_sJ, zI_sR, zJ_sI, zJ_sJ, zJ_sR, zR_sI, zR_sJ, zR_sR] using (J_day I :)) (by first | exact (J_ngt I :) | simpa [KC, KR, LO, zN_sI, zN_sJ, zN_sR, zL_sI, zL_sJ, zL_sR, zI_sI, zI_sJ, zI_sR, zJ_sI, zJ_sJ, zJ_sR, zR_sI, zR_sJ, zR_sR] using (J_ngt I :)) (by first | exact (J_due I :) | simpa [KC, KR, LO, zN_sI, zN_sJ, zN_sR, zL_sI, zL_sJ, zL_sR, zI_sI, zI_sJ, zI_sR, zJ_sI, zJ_sJ, zJ_sR, zR_sI, zR_sJ, zR_sR] using (J_due I :)) (by first | exact (J_hol I :) | simpa [KC, KR, LO, zN_sI, zN_sJ, zN_sR, zL_sI, zL_sJ, zL_sR, zI_sI, zI_sJ, zI_sR, zJ_sI, zJ_sJ, zJ_sR, zR_sI, zR_sJ, zR_sR] using (J_hol I :)) (by
    have hn : (zI (zsI (zsI (zsI R 102 0 (zI R 40 0 48).toNatClampNeg (nI b)) 103 0 (zI R 40 0 48).toNatClampNeg (nI d)) 40 0 48 (zI R 40 0 48 + 1)) 40 0 48).toNatClampNeg = (zI R 40 0 48).toNatClampNeg + 1 := by
      rw [← s2]
      simp [zN_sI, zN_sJ, zN_sR, zL_sI, zL_sJ, zL_sR, zI_sI, zI_sJ, zI_sR, zJ_sI, zJ_sJ, zJ_sR, zR_sI, zR_sJ, zR_sR]
    refine ⟨by simp [zN_sI, zN_sJ, zN_sR, zL_sI, zL_sJ, zL_sR, zI_sI, zI_sJ, zI_sR, zJ_sI, zJ_sJ, zJ_sR, zR_sI, zR_sJ, zR_sR], by simpa [zN_sI, zN_sJ, zN_sR, zL_sI, zL_sJ, zL_sR, zI_sI, zI_sJ, zI_sR, zJ_sI, zJ_sJ, zJ_sR, zR_sI, zR_sJ, zR_sR] using s1, ?_, ?_⟩
    · intro k hk2
      rw [hn] at hk2
      by_cases e : k = (zI R 40 0 48).toNatClampNeg
      · simp [zN_sI, zN_sJ, zN_sR, zL_sI, zL_sJ, zL_sR, zI_sI, zI_sJ, zI_sR, zJ_sI, zJ_sJ, zJ_sR, zR_sI, zR_sJ, zR_sR, e, zib_nI hl, h]
      · simpa [zN_sI, zN_sJ, zN_sR, zL_sI, zL_sJ, zL_sR, zI_sI, zI_sJ, zI_sR, zJ_sI, zJ_sJ, zJ_sR, zR_sI, zR_sJ, zR_sR, e] using o3 k (by omega)
    · intro j c hj hc
      have hj' := o4 j c hj hc
      rw [hn]
      by_cases e : j = d
      · subst e
        have e3 : zI (zsI (zsI C 22 0 j (zI C 22 0 j ||| 1 <<< (nI b &&& 31))) 1 0 3 (zI R 40 0 48 + 1)) 22 0 j = zI C 22 0 j ||| 1 <<< (nI b &&& 31) := by simp [zN_sI, zN_sJ, zN_sR, zL_sI, zL_sJ, zL_sR, zI_sI, zI_sJ, zI_sR, zJ_sI, zJ_sJ, zJ_sR, zR_sI, zR_sJ, zR_sR]
        rw [e3, bit_set _ hbl hc, hj']
        constructor
        · rintro (q | ⟨k, k1, k2, k3⟩)
          · exact ⟨(zI R 40 0 48).toNatClampNeg, by omega, by simp [zN_sI, zN_sJ, zN_sR, zL_sI, zL_sJ, zL_sR, zI_sI, zI_sJ, zI_sR, zJ_sI, zJ_sJ, zJ_sR, zR_sI, zR_sJ, zR_sR, q], by simp [zN_sI, zN_sJ, zN_sR, zL_sI, zL_sJ, zL_sR, zI_sI, zI_sJ, zI_sR, zJ_sI, zJ_sJ, zJ_sR, zR_sI, zR_sJ, zR_sR]⟩
          · have : ¬ k = (zI R 40 0 48).toNatClampNeg := by omega
            exact ⟨k, by omega, by simpa [zN_sI, zN_sJ, zN_sR, zL_sI, zL_sJ, zL_sR, zI_sI, zI_sJ, zI_sR, zJ_sI, zJ_sJ, zJ_sR, zR_sI, zR_sJ, zR_sR, this] using k2, by simpa [zN_sI, zN_sJ, zN_sR, zL_sI, zL_sJ, zL_sR, zI_sI, zI_sJ, zI_sR, zJ_sI, zJ_sJ, zJ_sR, zR_sI, zR_sJ, zR_sR, this] using k3⟩
        · rintro ⟨k, k1, k2, k3⟩
          by_cases q : k = (zI R 40 0 48).toNatClampNeg
          · have : nI b = nI c := by simpa [zN_sI, zN_sJ, zN_sR, zL_sI, zL_sJ, zL_sR, zI_sI, zI_sJ, zI_sR, zJ_sI, zJ_sJ, zJ_sR, zR_sI, zR_sJ, zR_sR, q] using k2
            rw [nI_inj (by omega) (by omega)] at this
            exact Or.inl this.symm
          · exact Or.inr ⟨k, by omega, by simpa [zN_sI, zN_sJ, zN_sR, zL_sI, zL_sJ, zL_sR, zI_sI, zI_sJ, zI_sR, zJ_sI, zJ_sJ, zJ_sR, zR_sI, zR_sJ, zR_sR, q] using k2, by simpa [zN_sI, zN_sJ, zN_sR, zL_sI, zL_sJ, zL_sR, zI_sI, zI_sJ, zI_sR, zJ_sI, zJ_sJ, zJ_sR, zR_sI, zR_sJ, zR_sR, q] using k3⟩
      · have e3 : zI (zsI (zsI C 22 0 d (zI C 22 0 d ||| 1 <<< (nI b &&& 31))) 1 0 3 (zI R 40 0 48 + 1)) 22 0 j = zI C 22 0 j := by simp [zN_sI, zN_sJ, zN_sR, zL_sI, zL_sJ, zL_sR, zI_sI, zI_sJ, zI_sR, zJ_sI, zJ_sJ, zJ_sR, zR_sI, zR_sJ, zR_sR, e]
        rw [e3, hj']
        constructor
        · rintro ⟨k, k1, k2, k3⟩
          have : ¬ k = (zI R 40 0 48).toNatClampNeg := by omega
          exact ⟨k, by omega, by simpa [zN_sI, zN_sJ, zN_sR, zL_sI, zL_sJ, zL_sR, zI_sI, zI_sJ, zI_sR, zJ_sI, zJ_sJ, zJ_sR, zR_sI, zR_sJ, zR_sR, this] using k2, by simpa [zN_sI, zN_sJ, zN_sR, zL_sI, zL_sJ, zL_sR, zI_sI, zI_sJ, zI_sR, zJ_sI, zJ_sJ, zJ_sR, zR_sI, zR_sJ, zR_sR, this] using k3⟩
        · rintro ⟨k, k1, k2, k3⟩
          by_cases q : k = (zI R 40 0 48).toNatClampNeg
          · have : nI d = nI j := by simpa [zN_sI, zN_sJ, zN_sR, zL_sI, zL_sJ, zL_sR, zI_sI, zI_sJ, zI_sR, zJ_sI, zJ_sJ, zJ_sR, zR_sI, zR_sJ, zR_sR, q] using k3
            rw [nI_inj (by omega) (by omega)] at this
            exact absurd this.symm e
          · exact ⟨k, by omega, by simpa [zN_sI, zN_sJ, zN_sR, zL_sI, zL_sJ, zL_sR, zI_sI, zI_sJ, zI_sR, zJ_sI, zJ_sJ, zJ_sR, zR_sI, zR_sJ, zR_sR, q] using k2, by simpa [zN_sI, zN_sJ, zN_sR, zL_sI, zL_sJ, zL_sR, zI_sI, zI_sJ, zI_sR, zJ_sI, zJ_sJ, zJ_sR, zR_sI, zR_sJ, zR_sR, q] using k3⟩) (by first | exact (J_ano I :) | simpa [KC, KR, LO, zN_sI, zN_sJ, zN_sR, zL_sI, zL_sJ, zL_sR, zI_sI, zI_sJ, zI_sR, zJ_sI, zJ_sJ, zJ_sR, zR_sI, zR_sJ, zR_sR] using (J_ano I :)) (by first | exact (J_abk I :) | simpa [KC, KR, LO, zN_sI, zN_sJ, zN_sR, zL_sI, zL_sJ, zL_sR, zI_sI, zI_sJ, zI_sR, zJ_sI, zJ_sJ, zJ_sR, zR_sI, zR_sJ, zR_sR] using (J_abk I :)) (by first | exact (J_anm I :) | simpa [KC, KR, LO, zN_sI, zN_sJ, zN_sR, zL_sI, zL_sJ, zL_sR, zI_sI, zI_sJ, zI_sR, zJ_sI, zJ_sJ, zJ_sR, zR_sI, zR_sJ, zR_sR] using (J_anm I :)) (by first | exact (J_asum I :) | simpa [KC, KR, LO, zN_sI, zN_sJ, zN_sR, zL_sI, zL_sJ, zL_sR, zI_sI, zI_sJ, zI_sR, zJ_sI, zJ_sJ, zJ_sR, zR_sI, zR_sJ, zR_sR] using (J_asum I :)) (by first | exact (J_aov I :) | simpa [KC, KR, LO, zN_sI, zN_sJ, zN_sR, zL_sI, zL_sJ, zL_sR, zI_sI, zI_sJ, zI_sR, zJ_sI, zJ_sJ, zJ_sR, zR_sI, zR_sJ, zR_sR] using (J_aov I :)) (by first | exact (J_ast I :) | simpa [KC, KR, LO, zN_sI, zN_sJ, zN_sR, zL_sI, zL_sJ, zL_sR, zI_sI, zI_sJ, zI_sR, zJ_sI, zJ_sJ, zJ_sR, zR_sI, zR_sJ, zR_sR] using (J_ast I :)) (by first | exact (J_amv I :) | simpa [KC, KR, LO, zN_sI, zN_sJ, zN_sR, zL_sI, zL_sJ, zL_sR, zI_sI, zI_sJ, zI_sR, zJ_sI, zJ_sJ, zJ_sR, zR_sI, zR_sJ, zR_sR] using (J_amv I :)) (by first | exact (J_ano2 I :) | simpa [KC, KR, LO, zN_sI, zN_sJ, zN_sR, zL_sI, zL_sJ, zL_sR, zI_sI, zI_sJ, zI_sR, zJ_sI, zJ_sJ, zJ_sR, zR_sI, zR_sJ, zR_sR] using (J_ano2 I :)) (by first | exact (J_agd I :) | simpa [KC, KR, LO, zN_sI, zN_sJ, zN_sR, zL_sI, zL_sJ, zL_sR, zI_sI, zI_sJ, zI_sR, zJ_sI, zJ_sJ, zJ_sR, zR_sI, zR_sJ, zR_sR] using (J_agd I :)) (by first | exact (J_akp I :) | simpa [KC, KR, LO, zN_sI, zN_sJ, zN_sR, zL_sI, zL_sJ, zL_sR, zI_sI, zI_sJ, zI_sR, zJ_sI, zJ_sJ, zJ_sR, zR_sI, zR_sJ, zR_sR] using (J_akp I :)) (by first | exact (J_ahs I :) | simpa [KC, KR, LO, zN_sI, zN_sJ, zN_sR, zL_sI, zL_sJ, zL_sR, zI_sI, zI_sJ, zI_sR, zJ_sI, zJ_sJ, zJ_sR, zR_sI, zR_sJ, zR_sR] using (J_ahs I :)) (by first | exact (J_afr I :) | simpa [KC, KR, LO, zN_sI, zN_sJ, zN_sR, zL_sI, zL_sJ, zL_sR, zI_sI, zI_sJ, zI_sR, zJ_sI, zJ_sJ, zJ_sR, zR_sI, zR_sJ, zR_sR] using (J_afr I :)) (by first | exact (J_lk I :) | simpa [KC, KR, LO, zN_sI, zN_sJ, zN_sR, zL_sI, zL_sJ, zL_sR, zI_sI, zI_sJ, zI_sR, zJ_sI, zJ_sJ, zJ_sR, zR_sI, zR_sJ, zR_sR] using (J_lk I :)) (by first | exact (J_lft I :) | simpa [KC, KR, LO, zN_sI, zN_sJ, zN_sR, zL_sI, zL_sJ, zL_sR, zI_sI, zI_sJ, zI_sR, zJ_sI, zJ_sJ, zJ_sR, zR_sI, zR_sJ, zR_sR] using (J_lft I :)) (by first | exact (J_lam I :) | simpa [KC, KR, LO, zN_sI, zN_sJ, zN_sR, zL_sI, zL_sJ, zL_sR, zI_sI, zI_sJ, zI_sR, zJ_sI, zJ_sJ, zJ_sR, zR_sI, zR_sJ, zR_sR] using (J_lam I :)) (by first | exact (J_led I :) | simpa [KC, KR, LO, zN_sI, zN_sJ, zN_sR, zL_sI, zL_sJ, zL_sR, zI_sI, zI_sJ, zI_sR, zJ_sI, zJ_sJ, zJ_sR, zR_sI, zR_sJ, zR_sR] using (J_led I :)) (by first | exact (J_ldn I :) | simpa [KC, KR, LO, zN_sI, zN_sJ, zN_sR, zL_sI, zL_sJ, zL_sR, zI_sI, zI_sJ, zI_sR, zJ_sI, zJ_sJ, zJ_sR, zR_sI, zR_sJ, zR_sR] using (J_ldn I :)) (by first | exact (J_lbk I :) | simpa [KC, KR, LO, zN_sI, zN_sJ, zN_sR, zL_sI, zL_sJ, zL_sR, zI_sI, zI_sJ, zI_sR, zJ_sI, zJ_sJ, zJ_sR, zR_sI, zR_sJ, zR_sR] using (J_lbk I :)) (by first | exact (J_ldu I :) | simpa [KC, KR, LO, zN_sI, zN_sJ, zN_sR, zL_sI, zL_sJ, zL_sR, zI_sI, zI_sJ, zI_sR, zJ_sI, zJ_sJ, zJ_sR, zR_sI, zR_sJ, zR_sR] using (J_ldu I :)) (by first | exact (J_lfr I :) | simpa [KC, KR, LO, zN_sI, zN_sJ, zN_sR, zL_sI, zL_sJ, zL_sR, zI_sI, zI_sJ, zI_sR, zJ_sI, zJ_sJ, zJ_sR, zR_sI, zR_sJ, zR_sR] using (J_lfr I :)) (by first | exact (J_mac I :) | simpa [KC, KR, LO, zN_sI, zN_sJ, zN_sR, zL_sI, zL_sJ, zL_sR, zI_sI, zI_sJ, zI_sR, zJ_sI, zJ_sJ, zJ_sR, zR_sI, zR_sJ, zR_sR] using (J_mac I :)) (by first | exact (J_mpt I :) | simpa [KC, KR, LO, zN_sI, zN_sJ, zN_sR, zL_sI, zL_sJ, zL_sR, zI_sI, zI_sJ, zI_sR, zJ_sI, zJ_sJ, zJ_sR, zR_sI, zR_sJ, zR_sR] using (J_mpt I :)) (by first | exact (J_mas I :) | simpa [KC, KR, LO, zN_sI, zN_sJ, zN_sR, zL_sI, zL_sJ, zL_sR, zI_sI, zI_sJ, zI_sR, zJ_sI, zJ_sJ, zJ_sR, zR_sI, zR_sJ, zR_sR] using (J_mas I :)) (by first | exact (J_mst I :) | simpa [KC, KR, LO, zN_sI, zN_sJ, zN_sR, zL_sI, zL_sJ, zL_sR, zI_sI, zI_sJ, zI_sR, zJ_sI, zJ_sJ, zJ_sR, zR_sI, zR_sJ, zR_sR] using (J_mst I :)) (by first | exact (J_mgo I :) | simpa [KC, KR, LO, zN_sI, zN_sJ, zN_sR, zL_sI, zL_sJ, zL_sR, zI_sI, zI_sJ, zI_sR, zJ_sI, zJ_sJ, zJ_sR, zR_sI, zR_sJ, zR_sR] using (J_mgo I :)) (by first | exact (J_mag I :) | simpa [KC, KR, LO, zN_sI, zN_sJ, zN_sR, zL_sI, zL_sJ, zL_sR, zI_sI, zI_sJ, zI_sR, zJ_sI, zJ_sJ, zJ_sR, zR_sI, zR_sJ, zR_sR] using (J_mag I :)) (by first | exact (J_mwy I :) | simpa [KC, KR, LO, zN_sI, zN_sJ, zN_sR, zL_sI, zL_sJ, zL_sR, zI_sI, zI_sJ, zI_sR, zJ_sI, zJ_sJ, zJ_sR, zR_sI, zR_sJ, zR_sR] using (J_mwy I :)) (by first | exact (J_mfa I :) | simpa [KC, KR, LO, zN_sI, zN_sJ, zN_sR, zL_sI, zL_sJ, zL_sR, zI_sI, zI_sJ, zI_sR, zJ_sI, zJ_sJ, zJ_sR, zR_sI, zR_sJ, zR_sR] using (J_mfa I :)) (by first | exact (J_mfb I :) | simpa [KC, KR, LO, zN_sI, zN_sJ, zN_sR, zL_sI, zL_sJ, zL_sR, zI_sI, zI_sJ, zI_sR, zJ_sI, zJ_sJ, zJ_sR, zR_sI, zR_sJ, zR_sR] using (J_mfb I :)) (by first | exact (J_mop I :) | simpa [KC, KR, LO, zN_sI, zN_sJ, zN_sR, zL_sI, zL_sJ, zL_sR, zI_sI, zI_sJ, zI_sR, zJ_sI, zJ_sJ, zJ_sR, zR_sI, zR_sJ, zR_sR] using (J_mop I :)) (by first | exact fun m m2 a b c d e => (J_mdj I m m2 a b c d e :) | simpa [KC, KR, LO, zN_sI, zN_sJ, zN_sR, zL_sI, zL_sJ, zL_sR, zI_sI, zI_sJ, zI_sR, zJ_sI, zJ_sJ, zJ_sR, zR_sI, zR_sJ, zR_sR] using (J_mdj I :)) (by first | exact (J_mfr I :) | simpa [KC, KR, LO, zN_sI, zN_sJ, zN_sR, zL_sI, zL_sJ, zL_sR, zI_sI, zI_sJ, zI_sR, zJ_sI, zJ_sJ, zJ_sR, zR_sI, zR_sJ, zR_sR] using (J_mfr I :)) (by first | exact (J_rpf I :) | simpa [KC, KR, LO, zN_sI, zN_sJ, zN_sR, zL_sI, zL_sJ, zL_sR, zI_sI, zI_sJ, zI_sR, zJ_sI, zJ_sJ, zJ_sR, zR_sI, zR_sJ, zR_sR] using (J_rpf I :)) (by first | exact (J_rtx I :) | simpa [KC, KR, LO, zN_sI, zN_sJ, zN_sR, zL_sI, zL_sJ, zL_sR, zI_sI, zI_sJ, zI_sR, zJ_sI, zJ_sJ, zJ_sR, zR_sI, zR_sJ, zR_sR] using (J_rtx I :)) (by first | exact (J_tap I :) | simpa [KC, KR, LO, zN_sI, zN_sJ, zN_sR, zL_sI, zL_sJ, zL_sR, zI_sI, zI_sJ, zI_sR, zJ_sI, zJ_sJ, zJ_sR, zR_sI, zR_sJ, zR_sR] using (J_tap I :)) (by first | exact (J_row I :) | simpa [KC, KR, LO, zN_sI, zN_sJ, zN_sR, zL_sI, zL_sJ, zL_sR, zI_sI, zI_sJ, zI_sR, zJ_sI, zJ_sJ, zJ_sR, zR_sI, zR_sJ, zR_sR] using (J_row I :)) (by first | exact (J_sur I :) | simpa [KC, KR, LO, zN_sI, zN_sJ, zN_sR, zL_sI, zL_sJ, zL_sR, zI_sI, zI_sJ, zI_sR, zJ_sI, zJ_sJ, zJ_sR, zR_sI, zR_sJ, zR_sR] using (J_sur I :)) (by first | exact (J_ref I :) | simpa [KC, KR, LO, zN_sI, zN_sJ, zN_sR, zL_sI, zL_sJ, zL_sR, zI_sI, zI_sJ, zI_sR, zJ_sI, zJ_sJ, zJ_sR, zR_sI, zR_sJ, zR_sR] using (J_ref I :))
theorem t_late (I : Inv C R) (x1 x2 : Int32) : TT (f_X9_late 0 x1 x2 C) (f_X10_late 0 x1 x2 R) := by
  have hr := J_kr I
  have hk := J_kc I
  unfold KR at hr
  unfold KC at hk
  obtain ⟨o1, o2, o3, o4⟩ := J_lat I
  obtain ⟨d1, d2⟩ := J_day I
  have qo := zib_ex o2
  unfold f_X9_late f_X10_late f_X9_late_70
  rw [e_bnkAt I, e_isBank, Option.bind_some, Option.bind_some]
  by_cases h : zib x1 8 = true
  · obtain ⟨a, a0, a1, a2, a3⟩ := e_late I (y := x2) h
    simp only [h, hk, hr, if_true, zop, Option.bind_some, show ¬ (1 : Int32) = 0 by decide, if_false, a1, a2, d1, o1, e_wit]
    by_cases ha : a = 0
    · have hno : ¬ ∃ j, j < (zI R 40 0 48).toNatClampNeg ∧ zI R 102 0 j = x1 ∧ zI R 103 0 j = x2 := fun z => by
        have := a3.mpr z
        rw [ha] at this
        exact absurd this (by decide)
      simp only [ha, if_true]
      by_cases h1 : zI R 40 0 46 ≤ x2
      · have h0 : ¬ x2 < 0 := fun z => (zib_ex d2).2 (Int32.lt_of_le_of_lt h1 z)
        by_cases h2 : 1500 < x2
        · have e : ow x2 (zI R 40 0 46) 1500 = -6 := by
            unfold ow
            rw [if_pos h1, if_neg (fun z => absurd h2 (Int32.not_lt.mpr z))]
          simp only [h1, h2, e, if_true, show ¬ (-6 : Int32) = 0 by decide, if_false, f_X10_late_57]
          exact t_refB I (by decide)
        · have e : ow x2 (zI R 40 0 46) 1500 = 0 := by
            unfold ow
            rw [if_pos h1, if_pos (Int32.not_lt.mp h2)]
          simp only [h1, h2, e, if_true, if_false]
          by_cases h3 : zI R 40 0 48 = 60
          · simp only [h3, if_true, show ¬ (60 : Int32) < 60 by decide, if_false, f_X10_late_57, show ¬ (-6 : Int32) = 0 by decide]
            exact t_refB I (by decide)
          · have hz := zib9 o2 (by decide) h3
            have hlt : zI R 40 0 48 < 60 := by
              have := (zib_ex hz).1
              rw [← nI_rd qo.2]
              exact (nJ_lt (b := 60) rd_lt (by decide)).mpr this
            have hx := nI_rd h0
            have hl : x2.toNatClampNeg < 1501 := by
              have := Int32.not_lt.mp h2
              rw [← hx] at this
              have := (nJ_le (b := 1500) rd_lt (by decide)).mp this
              omega
            have hb := nI_rd (zib_ex h).2
            have hbl := (zib_ex h).1
            generalize x2.toNatClampNeg = d at hx hl
            generalize x1.toNatClampNeg = b at hb hbl
            subst hx
            subst hb
            simp only [h3, hlt, if_true, if_false]
            exact t_addL I hbl hl hz
      · have e : ow x2 (zI R 40 0 46) 1500 = -4 := by
          unfold ow
          rw [if_neg h1]
        simp only [h1, e, if_false, show ¬ (-4 : Int32) = 0 by decide, f_X10_late_57]
        exact t_refB I (by decide)
    · simp only [ha, if_false]
      exact t_refB I (by decide)
  · simp only [h, if_false, zop, if_true]
    exact t_refB I (by decide)
end ZK
