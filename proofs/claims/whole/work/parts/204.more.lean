/-! ===== calls that change little, more ===== -/
theorem nJ_add (a b : Nat) : nI a + nI b = nI (a + b) := (Int32.ofNat_add a b).symm
theorem nJ_mul (a b : Nat) : nI a * nI b = nI (a * b) := (Int32.ofNat_mul a b).symm
theorem Ia5 (x : Int32) : x + 4 - 4 = x := by rw [Int32.add_sub_cancel]
theorem Ia6 (x y z w : Int32) (h : y + -z = w) : x + y - z = x + w := by rw [Int32.sub_eq_add_neg, Int32.add_assoc, h]
def lk5 (y : Int32) : Int32 := if y = 0 then 2 else if y = 1 then 1 else 0
def lks (a b y p : Int32) : Int32 := if ((a / p) - (a / p) / 10 * 10) = ((b / p) - (b / p) / 10 * 10) then y else y + 1
def alk (a b : Int32) : Int32 := lk5 (lks a b (lks a b (lks a b (lks a b 0 1) 10) 100) 1000)
theorem al_s {n : Nat} {a b y p : Int32} {S : zH} (h1 : ¬ 1000 < p) (h2 : ¬ p = 0) : f_X0_alike_4 (n + 1) a b y p S = f_X0_alike_4 n a b (lks a b y p) (p * 10) S := by
  rw [f_X0_alike_4, if_neg h1]
  unfold lks
  simp only [h2, decide_false, Bool.not_false, zgd, if_true]
  split <;> rfl
theorem al_e {n : Nat} {a b y : Int32} {S : zH} : f_X0_alike_4 (n + 1) a b y 10000 S = some (lk5 y) := by
  rw [f_X0_alike_4, if_pos (by decide)]
  unfold lk5
  split
  · rfl
  · split <;> rfl
theorem e_alike (a b : Int32) (S : zH) : f_X0_alike a b S = some (alk a b) := by
  unfold f_X0_alike
  show f_X0_alike_4 (3995 + 1 + 1 + 1 + 1 + 1) a b 0 1 S = _
  rw [al_s (by decide) (by decide), show (1 : Int32) * 10 = 10 by decide, al_s (by decide) (by decide), show (10 : Int32) * 10 = 100 by decide, al_s (by decide) (by decide), show (100 : Int32) * 10 = 1000 by decide, al_s (by decide) (by decide), show (1000 : Int32) * 10 = 10000 by decide, al_e]
  rfl
theorem lo_s {n : Nat} {a b y p : Int32} {S : zH} (h1 : ¬ 10000 ≤ p) (h2 : ¬ p = 0) : f_X10_likeOf_4 (n + 1) a b y p S = f_X10_likeOf_4 n a b (lks a b y p) (p * 10) S := by
  rw [f_X10_likeOf_4, if_neg h1]
  unfold lks
  simp only [h2, decide_false, Bool.not_false, zgd, if_true, Int32.add_zero]
  split <;> rfl
theorem lo_e {n : Nat} {a b y : Int32} {S : zH} : f_X10_likeOf_4 (n + 1) a b y 10000 S = some (lk5 y) := by
  rw [f_X10_likeOf_4, if_pos (by decide)]
  unfold lk5
  split
  · rfl
  · split <;> rfl
theorem e_likeOf (a b : Int32) (S : zH) : f_X10_likeOf a b S = some (alk a b) := by
  unfold f_X10_likeOf
  show f_X10_likeOf_4 (3995 + 1 + 1 + 1 + 1 + 1) a b 0 1 S = _
  rw [lo_s (by decide) (by decide), show (1 : Int32) * 10 = 10 by decide, lo_s (by decide) (by decide), show (10 : Int32) * 10 = 100 by decide, lo_s (by decide) (by decide), show (100 : Int32) * 10 = 1000 by decide, lo_s (by decide) (by decide), show (1000 : Int32) * 10 = 10000 by decide, lo_e]
  rfl
theorem lk5_c (y : Int32) : lk5 y = 0 ∨ lk5 y = 1 ∨ lk5 y = 2 := by
  unfold lk5
  split
  · exact Or.inr (Or.inr rfl)
  · split
    · exact Or.inr (Or.inl rfl)
    · exact Or.inl rfl
theorem alk_c (a b : Int32) : alk a b = 0 ∨ alk a b = 1 ∨ alk a b = 2 := lk5_c _
/-- how much an account is like a name -/
def lkn (nm jt x : Int32) : Int32 := if jt < 0 then alk nm x else if alk nm x < alk jt x then alk jt x else alk nm x
theorem lkn_c (a b c : Int32) : lkn a b c = 0 ∨ lkn a b c = 1 ∨ lkn a b c = 2 := by
  unfold lkn
  split
  · exact alk_c _ _
  · split <;> exact alk_c _ _
theorem e_lkn (S : zH) (i : Nat) (x : Int32) : f_X0_likeness i x S = some (lkn (zI S 3 i 2) (zI S 3 i 3) x) := by
  unfold f_X0_likeness f_X0_isJoint lkn
  simp only [e_alike, Option.bind_some]
  split
  · rfl
  · simp only [Option.bind_some, show ¬ (1 : Int32) = 0 by decide, if_false]
theorem e_lks {S : zH} (hr : KR S) {x : Int32} (h : zib x 40 = true) (y : Int32) : f_X10_likes 0 x y S = some (lkn (zI S 111 0 x.toNatClampNeg) (zI S 112 0 x.toNatClampNeg) y) := by
  unfold KR at hr
  unfold f_X10_likes f_X10_likes_34 lkn
  simp only [hr, Option.bind_some, h, zgd, if_true, e_likeOf]
  by_cases hj : zI S 112 0 x.toNatClampNeg < 0
  · rw [if_neg (fun z => absurd hj (Int32.not_lt.mpr z)), if_pos hj]
    rcases alk_c (zI S 111 0 x.toNatClampNeg) y with q | q | q <;> rw [q] <;> decide
  · rw [if_pos (Int32.not_lt.mp hj), if_neg hj]
    by_cases hl : alk (zI S 111 0 x.toNatClampNeg) y < alk (zI S 112 0 x.toNatClampNeg) y
    · rw [if_pos hl, if_pos (Int32.le_of_lt hl)]
    · rw [if_neg hl]
      split
      · have := Int32.le_antisymm (by assumption) (Int32.not_lt.mp hl)
        rw [this]
      · rfl
section ZB
variable {C R : zH}
theorem t_like (I : Inv C R) (x1 x2 : Int32) : TT (f_X9_like 0 x1 x2 C) (f_X10_like 0 x1 x2 R) := by
  unfold f_X9_like f_X10_like f_X10_like_20
  rw [e_accAt I, e_isAcc I, Option.bind_some, Option.bind_some, e_out, e_wit]
  by_cases h : zib x1 (zN C 3) = true
  · have h40 := zib_mono h (J_mx I).1
    have hi := (zib_ex h).1
    simp only [h, if_true, zop, Option.bind_some, show ¬ (1 : Int32) = 0 by decide, if_false, e_lkn, e_lks (J_kr I) h40]
    by_cases h2 : ow x2 0 9999 = 0
    · simp only [h2, if_true]
      exact TT.mk (by rw [(J_anm I _ hi).1, (J_anm I _ hi).2]) I
    · simp only [h2, if_false]
      exact t_refB I (ow_ref h2)
  · simp only [h, if_false, zop, if_true, show ¬ (-1 : Int32) = 0 by decide]
    exact t_refB I (by decide)
theorem t_agree (I : Inv C R) (x1 : Int32) : TT (f_X9_agree 0 x1 C) (f_X10_agree 0 x1 R) := by
  have hr := J_kr I
  unfold KR at hr
  unfold f_X9_agree f_X10_agree f_X10_agree_46 f_X9_agree_40 f_X0_isJoint
  rw [e_movAt I, e_isMov I, Option.bind_some, Option.bind_some]
  by_cases h : zib x1 (zN C 5) = true
  · have h30 := zib_mono h (J_mx I).2.2.1
    have hi := (zib_ex h).1
    obtain ⟨m1, m2, m3, m4, m5⟩ := J_mac I _ hi
    have m2' := zib_mono m2 (J_mx I).1
    simp only [h, h30, hr, if_true, zop, Option.bind_some, zgd, zlt, show ¬ (1 : Int32) = 0 by decide, if_false, m1, m2', (J_anm I _ (zib_ex m2).1).2, J_mag I _ hi, (J_mgo I _ hi).1]
    by_cases h3 : zI R 112 0 (zI R 130 0 x1.toNatClampNeg).toNatClampNeg < 0
    · simp only [h3, if_true, Option.bind_some]
      exact t_refB I (by decide)
    · simp only [h3, if_false, Option.bind_some, show ¬ (1 : Int32) = 0 by decide]
      by_cases h4 : zI R 139 0 x1.toNatClampNeg = 0
      · simp only [h4, if_true]
        by_cases h5 : zI R 138 0 x1.toNatClampNeg = 0
        · simp only [h5, if_true]
          exact t_refB I (by decide)
        · simp only [h5, if_false]
          refine TT.mk rfl ?_
          exact Inv_mk (by first | exact (J_kc I :) | simpa [KC, KR, LO, zN_sI, zN_sJ, zN_sR, zL_sI, zL_sJ, zL_sR, zI_sI, zI_sJ, zI_sR, zJ_sI, zJ_sJ, zJ_sR, zR_sI, zR_sJ, zR_sR] using (J_kc I :)) (by first | exact (J_kr I :) | simpa [KC, KR, LO, zN_sI, zN_sJ, zN_sR, zL_sI, zL_sJ, zL_sR, zI_sI, zI_sJ, zI_sR, zJ_sI, zJ_sJ, zJ_sR, zR_sI, zR_sJ, zR_sR] using (J_kr I :)) (by first | exact (J_cnt I :) | simpa [KC, KR, LO, zN_sI, zN_sJ, zN_sR, zL_sI, zL_sJ, zL_sR, zI_sI, zI_sJ, zI_sR, zJ_sI, zJ_sJ, zJ_sR, zR_sI, zR_sJ, zR_sR] using (J_cnt I :)) (by first | exact (J_mx I :) | simpa [KC, KR, LO, zN_sI, zN_sJ, zN_sR, zL_sI, zL_sJ, zL_sR, zI_sI, zI_sJ, zI_sR, zJ_sI, zJ_sJ, zJ_sR, zR_sI, zR_sJ, zR_sR] using (J_mx I :)) (by first | exact (J_la I :) | simpa [KC, KR, LO, zN_sI, zN_sJ, zN_sR, zL_sI, zL_sJ, zL_sR, zI_sI, zI_sJ, zI_sR, zJ_sI, zJ_sJ, zJ_sR, zR_sI, zR_sJ, zR_sR] using (J_la I :)) (by first | exact (J_ll I :) | simpa [KC, KR, LO, zN_sI, zN_sJ, zN_sR, zL_sI, zL_sJ, zL_sR, zI_sI, zI_sJ, zI_sR, zJ_sI, zJ_sJ, zJ_sR, zR_sI, zR_sJ, zR_sR] using (J_ll I :)) (by first | exact (J_lm I :) | simpa [KC, KR, LO, zN_sI, zN_sJ, zN_sR, zL_sI, zL_sJ, zL_sR, zI_sI, zI_sJ, zI_sR, zJ_sI, zJ_sJ, zJ_sR, zR_sI, zR_sJ, zR_sR] using (J_lm I :)) (by first | exact (J_lr I :) | simpa [KC, KR, LO, zN_sI, zN_sJ, zN_sR, zL_sI, zL_sJ, zL_sR, zI_sI, zI_sJ, zI_sR, zJ_sI, zJ_sJ, zJ_sR, zR_sI, zR_sJ, zR_sR] using (J_lr I :)) (by first | exact (J_al I :) | simpa [KC, KR, LO, zN_sI, zN_sJ, zN_sR, zL_sI, zL_sJ, zL_sR, zI_sI, zI_sJ, zI_sR, zJ_sI, zJ_sJ, zJ_sR, zR_sI, zR_sJ, zR_sR] using (J_al I :)) (by first | exact (J_bno I :) | simpa [KC, KR, LO, zN_sI, zN_sJ, zN_sR, zL_sI, zL_sJ, zL_sR, zI_sI, zI_sJ, zI_sR, zJ_sI, zJ_sJ, zJ_sR, zR_sI, zR_sJ, zR_sR] using (J_bno I :)) (by first | exact (J_bfee I :) | simpa [KC, KR, LO, zN_sI, zN_sJ, zN_sR, zL_sI, zL_sJ, zL_sR, zI_sI, zI_sJ, zI_sR, zJ_sI, zJ_sJ, zJ_sR, zR_sI, zR_sJ, zR_sR] using (J_bfee I :)) (by first | exact (J_bcap I :) | simpa [KC, KR, LO, zN_sI, zN_sJ, zN_sR, zL_sI, zL_sJ, zL_sR, zI_sI, zI_sJ, zI_sR, zJ_sI, zJ_sJ, zJ_sR, zR_sI, zR_sJ, zR_sR] using (J_bcap I :)) (by first | exact (J_bow I :) | simpa [KC, KR, LO, zN_sI, zN_sJ, zN_sR, zL_sI, zL_sJ, zL_sR, zI_sI, zI_sJ, zI_sR, zJ_sI, zJ_sJ, zJ_sR, zR_sI, zR_sJ, zR_sR] using (J_bow I :)) (by first | exact (J_bdid I :) | simpa [KC, KR, LO, zN_sI, zN_sJ, zN_sR, zL_sI, zL_sJ, zL_sR, zI_sI, zI_sJ, zI_sR, zJ_sI, zJ_sJ, zJ_sR, zR_sI, zR_sJ, zR_sR] using (J_bdid I :)) (by first | exact (J_bnet I :) | simpa [KC, KR, LO, zN_sI, zN_sJ, zN_sR, zL_sI, zL_sJ, zL_sR, zI_sI, zI_sJ, zI_sR, zJ_sI, zJ_sJ, zJ_sR, zR_sI, zR_sJ, zR_sR] using (J_bnet I :)) (by first | exact (J_day I :) | simpa [KC, KR, LO, zN_sI, zN_sJ, zN_sR, zL_sI, zL_sJ, zL_sR, zI_sI, zI_sJ, zI_sR, zJ_sI, zJ_sJ, zJ_sR, zR_sI, zR_sJ, zR_sR] using (J_day I :)) (by first | exact (J_ngt I :) | simpa [KC, KR, LO, zN_sI, zN_sJ, zN_sR, zL_sI, zL_sJ, zL_sR, zI_sI, zI_sJ, zI_sR, zJ_sI, zJ_sJ, zJ_sR, zR_sI, zR_sJ, zR_sR] using (J_ngt I :)) (by first | exact (J_due I :) | simpa [KC, KR, LO, zN_sI, zN_sJ, zN_sR, zL_sI, zL_sJ, zL_sR, zI_sI, zI_sJ, zI_sR, zJ_sI, zJ_sJ, zJ_sR, zR_sI, zR_sJ, zR_sR] using (J_due I :)) (by first | exact (J_hol I :) | simpa [KC, KR, LO, zN_sI, zN_sJ, zN_sR, zL_sI, zL_sJ, zL_sR, zI_sI, zI_sJ, zI_sR, zJ_sI, zJ_sJ, zJ_sR, zR_sI, zR_sJ, zR_sR] using (J_hol I :)) (by first | exact (J_lat I :) | simpa [KC, KR, LO, zN_sI, zN_sJ, zN_sR, zL_sI, zL_sJ, zL_sR, zI_sI, zI_sJ, zI_sR, zJ_sI, zJ_sJ, zJ_sR, zR_sI, zR_sJ, zR_sR] using (J_lat I :)) (by first | exact (J_ano I :) | simpa [KC, KR, LO, zN_sI, zN_sJ, zN_sR, zL_sI, zL_sJ, zL_sR, zI_sI, zI_sJ, zI_sR, zJ_sI, zJ_sJ, zJ_sR, zR_sI, zR_sJ, zR_sR] using (J_ano I :)) (by first | exact (J_abk I :) | simpa [KC, KR, LO, zN_sI, zN_sJ, zN_sR, zL_sI, zL_sJ, zL_sR, zI_sI, zI_sJ, zI_sR, zJ_sI, zJ_sJ, zJ_sR, zR_sI, zR_sJ, zR_sR] using (J_abk I :)) (by first | exact (J_anm I :) | simpa [KC, KR, LO, zN_sI, zN_sJ, zN_sR, zL_sI, zL_sJ, zL_sR, zI_sI, zI_sJ, zI_sR, zJ_sI, zJ_sJ, zJ_sR, zR_sI, zR_sJ, zR_sR] using (J_anm I :)) (by first | exact (J_asum I :) | simpa [KC, KR, LO, zN_sI, zN_sJ, zN_sR, zL_sI, zL_sJ, zL_sR, zI_sI, zI_sJ, zI_sR, zJ_sI, zJ_sJ, zJ_sR, zR_sI, zR_sJ, zR_sR] using (J_asum I :)) (by first | exact (J_aov I :) | simpa [KC, KR, LO, zN_sI, zN_sJ, zN_sR, zL_sI, zL_sJ, zL_sR, zI_sI, zI_sJ, zI_sR, zJ_sI, zJ_sJ, zJ_sR, zR_sI, zR_sJ, zR_sR] using (J_aov I :)) (by first | exact (J_ast I :) | simpa [KC, KR, LO, zN_sI, zN_sJ, zN_sR, zL_sI, zL_sJ, zL_sR, zI_sI, zI_sJ, zI_sR, zJ_sI, zJ_sJ, zJ_sR, zR_sI, zR_sJ, zR_sR] using (J_ast I :)) (by first | exact (J_amv I :) | simpa [KC, KR, LO, zN_sI, zN_sJ, zN_sR, zL_sI, zL_sJ, zL_sR, zI_sI, zI_sJ, zI_sR, zJ_sI, zJ_sJ, zJ_sR, zR_sI, zR_sJ, zR_sR] using (J_amv I :)) (by first | exact (J_ano2 I :) | simpa [KC, KR, LO, zN_sI, zN_sJ, zN_sR, zL_sI, zL_sJ, zL_sR, zI_sI, zI_sJ, zI_sR, zJ_sI, zJ_sJ, zJ_sR, zR_sI, zR_sJ, zR_sR] using (J_ano2 I :)) (by first | exact (J_agd I :) | simpa [KC, KR, LO, zN_sI, zN_sJ, zN_sR, zL_sI, zL_sJ, zL_sR, zI_sI, zI_sJ, zI_sR, zJ_sI, zJ_sJ, zJ_sR, zR_sI, zR_sJ, zR_sR] using (J_agd I :)) (by first | exact (J_akp I :) | simpa [KC, KR, LO, zN_sI, zN_sJ, zN_sR, zL_sI, zL_sJ, zL_sR, zI_sI, zI_sJ, zI_sR, zJ_sI, zJ_sJ, zJ_sR, zR_sI, zR_sJ, zR_sR] using (J_akp I :)) (by first | exact (J_ahs I :) | simpa [KC, KR, LO, zN_sI, zN_sJ, zN_sR, zL_sI, zL_sJ, zL_sR, zI_sI, zI_sJ, zI_sR, zJ_sI, zJ_sJ, zJ_sR, zR_sI, zR_sJ, zR_sR] using (J_ahs I :)) (by first | exact (J_afr I :) | simpa [KC, KR, LO, zN_sI, zN_sJ, zN_sR, zL_sI, zL_sJ, zL_sR, zI_sI, zI_sJ, zI_sR, zJ_sI, zJ_sJ, zJ_sR, zR_sI, zR_sJ, zR_sR] using (J_afr I :)) (by first | exact (J_lk I :) | simpa [KC, KR, LO, zN_sI, zN_sJ, zN_sR, zL_sI, zL_sJ, zL_sR, zI_sI, zI_sJ, zI_sR, zJ_sI, zJ_sJ, zJ_sR, zR_sI, zR_sJ, zR_sR] using (J_lk I :)) (by first | exact (J_lft I :) | simpa [KC, KR, LO, zN_sI, zN_sJ, zN_sR, zL_sI, zL_sJ, zL_sR, zI_sI, zI_sJ, zI_sR, zJ_sI, zJ_sJ, zJ_sR, zR_sI, zR_sJ, zR_sR] using (J_lft I :)) (by first | exact (J_lam I :) | simpa [KC, KR, LO, zN_sI, zN_sJ, zN_sR, zL_sI, zL_sJ, zL_sR, zI_sI, zI_sJ, zI_sR, zJ_sI, zJ_sJ, zJ_sR, zR_sI, zR_sJ, zR_sR] using (J_lam I :)) (by first | exact (J_led I :) | simpa [KC, KR, LO, zN_sI, zN_sJ, zN_sR, zL_sI, zL_sJ, zL_sR, zI_sI, zI_sJ, zI_sR, zJ_sI, zJ_sJ, zJ_sR, zR_sI, zR_sJ, zR_sR] using (J_led I :)) (by first | exact (J_ldn I :) | simpa [KC, KR, LO, zN_sI, zN_sJ, zN_sR, zL_sI, zL_sJ, zL_sR, zI_sI, zI_sJ, zI_sR, zJ_sI, zJ_sJ, zJ_sR, zR_sI, zR_sJ, zR_sR] using (J_ldn I :)) (by first | exact (J_lbk I :) | simpa [KC, KR, LO, zN_sI, zN_sJ, zN_sR, zL_sI, zL_sJ, zL_sR, zI_sI, zI_sJ, zI_sR, zJ_sI, zJ_sJ, zJ_sR, zR_sI, zR_sJ, zR_sR] using (J_lbk I :)) (by first | exact (J_ldu I :) | simpa [KC, KR, LO, zN_sI, zN_sJ, zN_sR, zL_sI, zL_sJ, zL_sR, zI_sI, zI_sJ, zI_sR, zJ_sI, zJ_sJ, zJ_sR, zR_sI, zR_sJ, zR_sR] using (J_ldu I :)) (by first | exact (J_lfr I :) | simpa [KC, KR, LO, zN_sI, zN_sJ, zN_sR, zL_sI, zL_sJ, zL_sR, zI_sI, zI_sJ, zI_sR, zJ_sI, zJ_sJ, zJ_sR, zR_sI, zR_sJ, zR_sR] using (J_lfr I :)) (by first | exact (J_mac I :) | simpa [KC, KR, LO, zN_sI, zN_sJ, zN_sR, zL_sI, zL_sJ, zL_sR, zI_sI, zI_sJ, zI_sR, zJ_sI, zJ_sJ, zJ_sR, zR_sI, zR_sJ, zR_sR] using (J_mac I :)) (by first | exact (J_mpt I :) | simpa [KC, KR, LO, zN_sI, zN_sJ, zN_sR, zL_sI, zL_sJ, zL_sR, zI_sI, zI_sJ, zI_sR, zJ_sI, zJ_sJ, zJ_sR, zR_sI, zR_sJ, zR_sR] using (J_mpt I :)) (by first | exact (J_mas I :) | simpa [KC, KR, LO, zN_sI, zN_sJ, zN_sR, zL_sI, zL_sJ, zL_sR, zI_sI, zI_sJ, zI_sR, zJ_sI, zJ_sJ, zJ_sR, zR_sI, zR_sJ, zR_sR] using (J_mas I :)) (by first | exact (J_mst I :) | simpa [KC, KR, LO, zN_sI, zN_sJ, zN_sR, zL_sI, zL_sJ, zL_sR, zI_sI, zI_sJ, zI_sR, zJ_sI, zJ_sJ, zJ_sR, zR_sI, zR_sJ, zR_sR] using (J_mst I :)) (by first | exact (J_mgo I :) | simpa [KC, KR, LO, zN_sI, zN_sJ, zN_sR, zL_sI, zL_sJ, zL_sR, zI_sI, zI_sJ, zI_sR, zJ_sI, zJ_sJ, zJ_sR, zR_sI, zR_sJ, zR_sR] using (J_mgo I :)) (by
            intro j hj
            simp [zN_sI, zN_sJ, zN_sR, zL_sI, zL_sJ, zL_sR, zI_sI, zI_sJ, zI_sR, zJ_sI, zJ_sJ, zJ_sR, zR_sI, zR_sJ, zR_sR, J_mag I j hj]) (by first | exact (J_mwy I :) | simpa [KC, KR, LO, zN_sI, zN_sJ, zN_sR, zL_sI, zL_sJ, zL_sR, zI_sI, zI_sJ, zI_sR, zJ_sI, zJ_sJ, zJ_sR, zR_sI, zR_sJ, zR_sR] using (J_mwy I :)) (by first | exact (J_mfa I :) | simpa [KC, KR, LO, zN_sI, zN_sJ, zN_sR, zL_sI, zL_sJ, zL_sR, zI_sI, zI_sJ, zI_sR, zJ_sI, zJ_sJ, zJ_sR, zR_sI, zR_sJ, zR_sR] using (J_mfa I :)) (by first | exact (J_mfb I :) | simpa [KC, KR, LO, zN_sI, zN_sJ, zN_sR, zL_sI, zL_sJ, zL_sR, zI_sI, zI_sJ, zI_sR, zJ_sI, zJ_sJ, zJ_sR, zR_sI, zR_sJ, zR_sR] using (J_mfb I :)) (by first | exact (J_mop I :) | simpa [KC, KR, LO, zN_sI, zN_sJ, zN_sR, zL_sI, zL_sJ, zL_sR, zI_sI, zI_sJ, zI_sR, zJ_sI, zJ_sJ, zJ_sR, zR_sI, zR_sJ, zR_sR] using (J_mop I :)) (by first | exact fun m m2 a b c d e => (J_mdj I m m2 a b c d e :) | simpa [KC, KR, LO, zN_sI, zN_sJ, zN_sR, zL_sI, zL_sJ, zL_sR, zI_sI, zI_sJ, zI_sR, zJ_sI, zJ_sJ, zJ_sR, zR_sI, zR_sJ, zR_sR] using (J_mdj I :)) (by
            intro j hj hj2
            have := J_mfr I j hj hj2
            have hne : ¬ j = x1.toNatClampNeg := by have : zN C 5 ≤ j := hj; omega
            simpa [zN_sI, zN_sJ, zN_sR, zL_sI, zL_sJ, zL_sR, zI_sI, zI_sJ, zI_sR, zJ_sI, zJ_sJ, zJ_sR, zR_sI, zR_sJ, zR_sR, hne] using this) (by first | exact (J_rpf I :) | simpa [KC, KR, LO, zN_sI, zN_sJ, zN_sR, zL_sI, zL_sJ, zL_sR, zI_sI, zI_sJ, zI_sR, zJ_sI, zJ_sJ, zJ_sR, zR_sI, zR_sJ, zR_sR] using (J_rpf I :)) (by first | exact (J_rtx I :) | simpa [KC, KR, LO, zN_sI, zN_sJ, zN_sR, zL_sI, zL_sJ, zL_sR, zI_sI, zI_sJ, zI_sR, zJ_sI, zJ_sJ, zJ_sR, zR_sI, zR_sJ, zR_sR] using (J_rtx I :)) (by first | exact (J_tap I :) | simpa [KC, KR, LO, zN_sI, zN_sJ, zN_sR, zL_sI, zL_sJ, zL_sR, zI_sI, zI_sJ, zI_sR, zJ_sI, zJ_sJ, zJ_sR, zR_sI, zR_sJ, zR_sR] using (J_tap I :)) (by first | exact (J_row I :) | simpa [KC, KR, LO, zN_sI, zN_sJ, zN_sR, zL_sI, zL_sJ, zL_sR, zI_sI, zI_sJ, zI_sR, zJ_sI, zJ_sJ, zJ_sR, zR_sI, zR_sJ, zR_sR] using (J_row I :)) (by first | exact (J_sur I :) | simpa [KC, KR, LO, zN_sI, zN_sJ, zN_sR, zL_sI, zL_sJ, zL_sR, zI_sI, zI_sJ, zI_sR, zJ_sI, zJ_sJ, zJ_sR, zR_sI, zR_sJ, zR_sR] using (J_sur I :)) (by first | exact (J_ref I :) | simpa [KC, KR, LO, zN_sI, zN_sJ, zN_sR, zL_sI, zL_sJ, zL_sR, zI_sI, zI_sJ, zI_sR, zJ_sI, zJ_sJ, zJ_sR, zR_sI, zR_sJ, zR_sR] using (J_ref I :))
      · simp only [h4, if_false]
        exact t_refB I (by decide)
  · simp only [h, if_false, zop, if_true]
    exact t_refB I (by decide)
theorem t_moveOf (I : Inv C R) (x1 x2 : Int32) : TT (f_X9_moveOf 0 x1 x2 C) (f_X10_moveOf 0 x1 x2 R) := by
  have hr := J_kr I
  unfold KR at hr
  unfold f_X9_moveOf f_X10_moveOf
  rw [e_movAt I, e_isMov I, Option.bind_some, Option.bind_some]
  by_cases h : zib x1 (zN C 5) = true
  · have h30 := zib_mono h (J_mx I).2.2.1
    have hi := (zib_ex h).1
    obtain ⟨m1, m2, m3, m4, m5⟩ := J_mac I _ hi
    simp only [h, h30, hr, if_true, zop, Option.bind_some, zgd, zlt, show ¬ (1 : Int32) = 0 by decide, if_false, m1, m3, J_ano I _ (zib_ex m2).1, J_ano I _ (zib_ex m4).1, (J_mgo I _ hi).1, (J_mst I _ hi).1, (J_mst I _ hi).2, J_mwy I _ hi, (J_mfa I _ hi).1, (J_mas I _ hi).1, nI_rd (zib_ex m2).2, nI_rd (zib_ex m4).2]
    split
    · exact TT.refl I
    split
    · exact TT.refl I
    split
    · exact TT.refl I
    split
    · split <;> exact TT.refl I
    split
    · exact TT.refl I
    split
    · exact TT.refl I
    split
    · by_cases h6 : zI R 134 0 x1.toNatClampNeg = 0
      · have q := (J_mfb I _ hi).1 h6
        simp only [q]
        exact TT.refl I
      · have q := (J_mfb I _ hi).2 h6
        simp only [q.1, Option.bind_some, (J_bno I _ (zib_ex q.2).1).2, nI_rd (zib_ex q.2).2]
        exact TT.refl I
    split
    · exact TT.refl I
    split
    · exact TT.refl I
    exact t_refB I (by decide)
  · simp only [h, if_false, zop, if_true]
    exact t_refB I (by decide)
/-- a move is refused or taken back -/
theorem t_stop (I : Inv C R) {x w : Int32} (h : zib x (zN C 5) = true) (hg : ¬ zI R 138 0 x.toNatClampNeg = 0) : TU (f_X4_stop x.toNatClampNeg w C) (f_X10_refuses 0 x w R) := by
  have hr := J_kr I
  unfold KR at hr
  have h30 := zib_mono h (J_mx I).2.2.1
  have hi := (zib_ex h).1
  obtain ⟨m1, m2, m3, m4, m5⟩ := J_mac I _ hi
  have m2' := zib_mono m2 (J_mx I).1
  have m4' := zib_mono m4 (J_mx I).1
  have ho := (zib_ex m2).1
  have hw := (zib_ex m4).1
  obtain ⟨p1, p2⟩ := J_mop I _ hi hg
  unfold f_X4_stop f_X10_refuses
  simp only [zN_sI, zN_sJ, zN_sR, zL_sI, zL_sJ, zL_sR, zI_sI, zI_sJ, zI_sR, zJ_sI, zJ_sJ, zJ_sR, zR_sI, zR_sJ, zR_sR, zlt, zgd, h30, hr, m1, m3, m2', m4', Option.bind_some, if_true, show ¬ (131 : Nat) = 138 by decide, show ¬ (131 : Nat) = 133 by decide, show ¬ (130 : Nat) = 138 by decide, show ¬ (130 : Nat) = 133 by decide, false_and, if_false]
  refine ⟨_, _, rfl, rfl, ?_⟩
  generalize ho' : (zI R 130 0 x.toNatClampNeg).toNatClampNeg = o at *
  generalize hw' : (zI R 131 0 x.toNatClampNeg).toNatClampNeg = n at *
  exact Inv_mk (by first | exact (J_kc I :) | simpa [KC, KR, LO, zN_sI, zN_sJ, zN_sR, zL_sI, zL_sJ, zL_sR, zI_sI, zI_sJ, zI_sR, zJ_sI, zJ_sJ, zJ_sR, zR_sI, zR_sJ, zR_sR] using (J_kc I :)) (by first | exact (J_kr I :) | simpa [KC, KR, LO, zN_sI, zN_sJ, zN_sR, zL_sI, zL_sJ, zL_sR, zI_sI, zI_sJ, zI_sR, zJ_sI, zJ_sJ, zJ_sR, zR_sI, zR_sJ, zR_sR] using (J_kr I :)) (by first | exact (J_cnt I :) | simpa [KC, KR, LO, zN_sI, zN_sJ, zN_sR, zL_sI, zL_sJ, zL_sR, zI_sI, zI_sJ, zI_sR, zJ_sI, zJ_sJ, zJ_sR, zR_sI, zR_sJ, zR_sR] using (J_cnt I :)) (by first | exact (J_mx I :) | simpa [KC, KR, LO, zN_sI, zN_sJ, zN_sR, zL_sI, zL_sJ, zL_sR, zI_sI, zI_sJ, zI_sR, zJ_sI, zJ_sJ, zJ_sR, zR_sI, zR_sJ, zR_sR] using (J_mx I :)) (by first | exact (J_la I :) | simpa [KC, KR, LO, zN_sI, zN_sJ, zN_sR, zL_sI, zL_sJ, zL_sR, zI_sI, zI_sJ, zI_sR, zJ_sI, zJ_sJ, zJ_sR, zR_sI, zR_sJ, zR_sR] using (J_la I :)) (by first | exact (J_ll I :) | simpa [KC, KR, LO, zN_sI, zN_sJ, zN_sR, zL_sI, zL_sJ, zL_sR, zI_sI, zI_sJ, zI_sR, zJ_sI, zJ_sJ, zJ_sR, zR_sI, zR_sJ, zR_sR] using (J_ll I :)) (by first | exact (J_lm I :) | simpa [KC, KR, LO, zN_sI, zN_sJ, zN_sR, zL_sI, zL_sJ, zL_sR, zI_sI, zI_sJ, zI_sR, zJ_sI, zJ_sJ, zJ_sR, zR_sI, zR_sJ, zR_sR] using (J_lm I :)) (by first | exact (J_lr I :) | simpa [KC, KR, LO, zN_sI, zN_sJ, zN_sR, zL_sI, zL_sJ, zL_sR, zI_sI, zI_sJ, zI_sR, zJ_sI, zJ_sJ, zJ_sR, zR_sI, zR_sJ, zR_sR] using (J_lr I :)) (by first | exact (J_al I :) | simpa [KC, KR, LO, zN_sI, zN_sJ, zN_sR, zL_sI, zL_sJ, zL_sR, zI_sI, zI_sJ, zI_sR, zJ_sI, zJ_sJ, zJ_sR, zR_sI, zR_sJ, zR_sR] using (J_al I :)) (by first | exact (J_bno I :) | simpa [KC, KR, LO, zN_sI, zN_sJ, zN_sR, zL_sI, zL_sJ, zL_sR, zI_sI, zI_sJ, zI_sR, zJ_sI, zJ_sJ, zJ_sR, zR_sI, zR_sJ, zR_sR] using (J_bno I :)) (by first | exact (J_bfee I :) | simpa [KC, KR, LO, zN_sI, zN_sJ, zN_sR, zL_sI, zL_sJ, zL_sR, zI_sI, zI_sJ, zI_sR, zJ_sI, zJ_sJ, zJ_sR, zR_sI, zR_sJ, zR_sR] using (J_bfee I :)) (by first | exact (J_bcap I :) | simpa [KC, KR, LO, zN_sI, zN_sJ, zN_sR, zL_sI, zL_sJ, zL_sR, zI_sI, zI_sJ, zI_sR, zJ_sI, zJ_sJ, zJ_sR, zR_sI, zR_sJ, zR_sR] using (J_bcap I :)) (by first | exact (J_bow I :) | simpa [KC, KR, LO, zN_sI, zN_sJ, zN_sR, zL_sI, zL_sJ, zL_sR, zI_sI, zI_sJ, zI_sR, zJ_sI, zJ_sJ, zJ_sR, zR_sI, zR_sJ, zR_sR] using (J_bow I :)) (by first | exact (J_bdid I :) | simpa [KC, KR, LO, zN_sI, zN_sJ, zN_sR, zL_sI, zL_sJ, zL_sR, zI_sI, zI_sJ, zI_sR, zJ_sI, zJ_sJ, zJ_sR, zR_sI, zR_sJ, zR_sR] using (J_bdid I :)) (by first | exact (J_bnet I :) | simpa [KC, KR, LO, zN_sI, zN_sJ, zN_sR, zL_sI, zL_sJ, zL_sR, zI_sI, zI_sJ, zI_sR, zJ_sI, zJ_sJ, zJ_sR, zR_sI, zR_sJ, zR_sR] using (J_bnet I :)) (by first | exact (J_day I :) | simpa [KC, KR, LO, zN_sI, zN_sJ, zN_sR, zL_sI, zL_sJ, zL_sR, zI_sI, zI_sJ, zI_sR, zJ_sI, zJ_sJ, zJ_sR, zR_sI, zR_sJ, zR_sR] using (J_day I :)) (by first | exact (J_ngt I :) | simpa [KC, KR, LO, zN_sI, zN_sJ, zN_sR, zL_sI, zL_sJ, zL_sR, zI_sI, zI_sJ, zI_sR, zJ_sI, zJ_sJ, zJ_sR, zR_sI, zR_sJ, zR_sR] using (J_ngt I :)) (by first | exact (J_due I :) | simpa [KC, KR, LO, zN_sI, zN_sJ, zN_sR, zL_sI, zL_sJ, zL_sR, zI_sI, zI_sJ, zI_sR, zJ_sI, zJ_sJ, zJ_sR, zR_sI, zR_sJ, zR_sR] using (J_due I :)) (by first | exact (J_hol I :) | simpa [KC, KR, LO, zN_sI, zN_sJ, zN_sR, zL_sI, zL_sJ, zL_sR, zI_sI, zI_sJ, zI_sR, zJ_sI, zJ_sJ, zJ_sR, zR_sI, zR_sJ, zR_sR] using (J_hol I :)) (by first | exact (J_lat I :) | simpa [KC, KR, LO, zN_sI, zN_sJ, zN_sR, zL_sI, zL_sJ, zL_sR, zI_sI, zI_sJ, zI_sR, zJ_sI, zJ_sJ, zJ_sR, zR_sI, zR_sJ, zR_sR] using (J_lat I :)) (by first | exact (J_ano I :) | simpa [KC, KR, LO, zN_sI, zN_sJ, zN_sR, zL_sI, zL_sJ, zL_sR, zI_sI, zI_sJ, zI_sR, zJ_sI, zJ_sJ, zJ_sR, zR_sI, zR_sJ, zR_sR] using (J_ano I :)) (by first | exact (J_abk I :) | simpa [KC, KR, LO, zN_sI, zN_sJ, zN_sR, zL_sI, zL_sJ, zL_sR, zI_sI, zI_sJ, zI_sR, zJ_sI, zJ_sJ, zJ_sR, zR_sI, zR_sJ, zR_sR] using (J_abk I :)) (by first | exact (J_anm I :) | simpa [KC, KR, LO, zN_sI, zN_sJ, zN_sR, zL_sI, zL_sJ, zL_sR, zI_sI, zI_sJ, zI_sR, zJ_sI, zJ_sJ, zJ_sR, zR_sI, zR_sJ, zR_sR] using (J_anm I :)) (by
    intro j hj
    simp [zN_sI, zN_sJ, zN_sR, zL_sI, zL_sJ, zL_sR, zI_sI, zI_sJ, zI_sR, zJ_sI, zJ_sJ, zJ_sR, zR_sI, zR_sJ, zR_sR, J_asum I j hj, J_asum I o ho, J_asum I n hw]) (by first | exact (J_aov I :) | simpa [KC, KR, LO, zN_sI, zN_sJ, zN_sR, zL_sI, zL_sJ, zL_sR, zI_sI, zI_sJ, zI_sR, zJ_sI, zJ_sJ, zJ_sR, zR_sI, zR_sJ, zR_sR] using (J_aov I :)) (by
    intro j hj
    simp [zN_sI, zN_sJ, zN_sR, zL_sI, zL_sJ, zL_sR, zI_sI, zI_sJ, zI_sR, zJ_sI, zJ_sJ, zJ_sR, zR_sI, zR_sJ, zR_sR, J_ast I j hj]) (by
    intro j hj
    have := J_amv I j hj
    by_cases e : j = n
    · simp [zN_sI, zN_sJ, zN_sR, zL_sI, zL_sJ, zL_sR, zI_sI, zI_sJ, zI_sR, zJ_sI, zJ_sJ, zJ_sR, zR_sI, zR_sJ, zR_sR, e]
    · simpa [zN_sI, zN_sJ, zN_sR, zL_sI, zL_sJ, zL_sR, zI_sI, zI_sJ, zI_sR, zJ_sI, zJ_sJ, zJ_sR, zR_sI, zR_sJ, zR_sR, e] using this) (by
    intro j hj
    have := J_ano2 I j hj
    by_cases e : j = n
    · subst e
      simpa [zN_sI, zN_sJ, zN_sR, zL_sI, zL_sJ, zL_sR, zI_sI, zI_sJ, zI_sR, zJ_sI, zJ_sJ, zJ_sR, zR_sI, zR_sJ, zR_sR, p2] using this
    · simpa [zN_sI, zN_sJ, zN_sR, zL_sI, zL_sJ, zL_sR, zI_sI, zI_sJ, zI_sR, zJ_sI, zJ_sJ, zJ_sR, zR_sI, zR_sJ, zR_sR, e] using this) (by first | exact (J_agd I :) | simpa [KC, KR, LO, zN_sI, zN_sJ, zN_sR, zL_sI, zL_sJ, zL_sR, zI_sI, zI_sJ, zI_sR, zJ_sI, zJ_sJ, zJ_sR, zR_sI, zR_sJ, zR_sR] using (J_agd I :)) (by first | exact (J_akp I :) | simpa [KC, KR, LO, zN_sI, zN_sJ, zN_sR, zL_sI, zL_sJ, zL_sR, zI_sI, zI_sJ, zI_sR, zJ_sI, zJ_sJ, zJ_sR, zR_sI, zR_sJ, zR_sR] using (J_akp I :)) (by first | exact (J_ahs I :) | simpa [KC, KR, LO, zN_sI, zN_sJ, zN_sR, zL_sI, zL_sJ, zL_sR, zI_sI, zI_sJ, zI_sR, zJ_sI, zJ_sJ, zJ_sR, zR_sI, zR_sJ, zR_sR] using (J_ahs I :)) (by
    intro j hj hj2
    have := J_afr I j hj hj2
    have hne : ¬ j = n := by have : zN C 3 ≤ j := hj; omega
    have hne2 : ¬ j = o := by have : zN C 3 ≤ j := hj; omega
    simpa [zN_sI, zN_sJ, zN_sR, zL_sI, zL_sJ, zL_sR, zI_sI, zI_sJ, zI_sR, zJ_sI, zJ_sJ, zJ_sR, zR_sI, zR_sJ, zR_sR, hne, hne2] using this) (by first | exact (J_lk I :) | simpa [KC, KR, LO, zN_sI, zN_sJ, zN_sR, zL_sI, zL_sJ, zL_sR, zI_sI, zI_sJ, zI_sR, zJ_sI, zJ_sJ, zJ_sR, zR_sI, zR_sJ, zR_sR] using (J_lk I :)) (by first | exact (J_lft I :) | simpa [KC, KR, LO, zN_sI, zN_sJ, zN_sR, zL_sI, zL_sJ, zL_sR, zI_sI, zI_sJ, zI_sR, zJ_sI, zJ_sJ, zJ_sR, zR_sI, zR_sJ, zR_sR] using (J_lft I :)) (by first | exact (J_lam I :) | simpa [KC, KR, LO, zN_sI, zN_sJ, zN_sR, zL_sI, zL_sJ, zL_sR, zI_sI, zI_sJ, zI_sR, zJ_sI, zJ_sJ, zJ_sR, zR_sI, zR_sJ, zR_sR] using (J_lam I :)) (by first | exact (J_led I :) | simpa [KC, KR, LO, zN_sI, zN_sJ, zN_sR, zL_sI, zL_sJ, zL_sR, zI_sI, zI_sJ, zI_sR, zJ_sI, zJ_sJ, zJ_sR, zR_sI, zR_sJ, zR_sR] using (J_led I :)) (by first | exact (J_ldn I :) | simpa [KC, KR, LO, zN_sI, zN_sJ, zN_sR, zL_sI, zL_sJ, zL_sR, zI_sI, zI_sJ, zI_sR, zJ_sI, zJ_sJ, zJ_sR, zR_sI, zR_sJ, zR_sR] using (J_ldn I :)) (by first | exact (J_lbk I :) | simpa [KC, KR, LO, zN_sI, zN_sJ, zN_sR, zL_sI, zL_sJ, zL_sR, zI_sI, zI_sJ, zI_sR, zJ_sI, zJ_sJ, zJ_sR, zR_sI, zR_sJ, zR_sR] using (J_lbk I :)) (by first | exact (J_ldu I :) | simpa [KC, KR, LO, zN_sI, zN_sJ, zN_sR, zL_sI, zL_sJ, zL_sR, zI_sI, zI_sJ, zI_sR, zJ_sI, zJ_sJ, zJ_sR, zR_sI, zR_sJ, zR_sR] using (J_ldu I :)) (by first | exact (J_lfr I :) | simpa [KC, KR, LO, zN_sI, zN_sJ, zN_sR, zL_sI, zL_sJ, zL_sR, zI_sI, zI_sJ, zI_sR, zJ_sI, zJ_sJ, zJ_sR, zR_sI, zR_sJ, zR_sR] using (J_lfr I :)) (by first | exact (J_mac I :) | simpa [KC, KR, LO, zN_sI, zN_sJ, zN_sR, zL_sI, zL_sJ, zL_sR, zI_sI, zI_sJ, zI_sR, zJ_sI, zJ_sJ, zJ_sR, zR_sI, zR_sJ, zR_sR] using (J_mac I :)) (by first | exact (J_mpt I :) | simpa [KC, KR, LO, zN_sI, zN_sJ, zN_sR, zL_sI, zL_sJ, zL_sR, zI_sI, zI_sJ, zI_sR, zJ_sI, zJ_sJ, zJ_sR, zR_sI, zR_sJ, zR_sR] using (J_mpt I :)) (by first | exact (J_mas I :) | simpa [KC, KR, LO, zN_sI, zN_sJ, zN_sR, zL_sI, zL_sJ, zL_sR, zI_sI, zI_sJ, zI_sR, zJ_sI, zJ_sJ, zJ_sR, zR_sI, zR_sJ, zR_sR] using (J_mas I :)) (by first | exact (J_mst I :) | simpa [KC, KR, LO, zN_sI, zN_sJ, zN_sR, zL_sI, zL_sJ, zL_sR, zI_sI, zI_sJ, zI_sR, zJ_sI, zJ_sJ, zJ_sR, zR_sI, zR_sJ, zR_sR] using (J_mst I :)) (by
    intro j hj
    have := J_mgo I j hj
    by_cases e : j = x.toNatClampNeg
    · simp [zN_sI, zN_sJ, zN_sR, zL_sI, zL_sJ, zL_sR, zI_sI, zI_sJ, zI_sR, zJ_sI, zJ_sJ, zJ_sR, zR_sI, zR_sJ, zR_sR, e]
    · simpa [zN_sI, zN_sJ, zN_sR, zL_sI, zL_sJ, zL_sR, zI_sI, zI_sJ, zI_sR, zJ_sI, zJ_sJ, zJ_sR, zR_sI, zR_sJ, zR_sR, e] using this) (by first | exact (J_mag I :) | simpa [KC, KR, LO, zN_sI, zN_sJ, zN_sR, zL_sI, zL_sJ, zL_sR, zI_sI, zI_sJ, zI_sR, zJ_sI, zJ_sJ, zJ_sR, zR_sI, zR_sJ, zR_sR] using (J_mag I :)) (by
    intro j hj
    simp [zN_sI, zN_sJ, zN_sR, zL_sI, zL_sJ, zL_sR, zI_sI, zI_sJ, zI_sR, zJ_sI, zJ_sJ, zJ_sR, zR_sI, zR_sJ, zR_sR, J_mwy I j hj]) (by first | exact (J_mfa I :) | simpa [KC, KR, LO, zN_sI, zN_sJ, zN_sR, zL_sI, zL_sJ, zL_sR, zI_sI, zI_sJ, zI_sR, zJ_sI, zJ_sJ, zJ_sR, zR_sI, zR_sJ, zR_sR] using (J_mfa I :)) (by first | exact (J_mfb I :) | simpa [KC, KR, LO, zN_sI, zN_sJ, zN_sR, zL_sI, zL_sJ, zL_sR, zI_sI, zI_sJ, zI_sR, zJ_sI, zJ_sJ, zJ_sR, zR_sI, zR_sJ, zR_sR] using (J_mfb I :)) (by
    intro j hj
    have hj : j < zN C 5 := hj
    have := J_mop I j hj
    have hd := J_mdj I x.toNatClampNeg j hi hj
    obtain ⟨n1, n2, n3, n4, n5⟩ := J_mac I j hj
    by_cases e : j = x.toNatClampNeg
    · simp [zN_sI, zN_sJ, zN_sR, zL_sI, zL_sJ, zL_sR, zI_sI, zI_sJ, zI_sR, zJ_sI, zJ_sJ, zJ_sR, zR_sI, zR_sJ, zR_sR, e]
    · intro hgj
      have hgj : ¬ zI R 138 0 j = 0 := by simpa [zN_sI, zN_sJ, zN_sR, zL_sI, zL_sJ, zL_sR, zI_sI, zI_sJ, zI_sR, zJ_sI, zJ_sJ, zJ_sR, zR_sI, zR_sJ, zR_sR, e] using hgj
      have := this hgj
      have hd := hd (fun z => e z.symm) hg hgj
      have hd2 := J_mdj I j x.toNatClampNeg hj hi e hgj hg
      have e1 : ¬ (zI R 130 0 j).toNatClampNeg = n := by
        rw [← hw', rd_inj (zib_ex n2).2 (zib_ex m4).2]
        exact hd2.2.1
      have e2 : ¬ (zI R 131 0 j).toNatClampNeg = n := by
        rw [← hw', rd_inj (zib_ex n4).2 (zib_ex m4).2]
        exact hd2.2.2
      simpa [zN_sI, zN_sJ, zN_sR, zL_sI, zL_sJ, zL_sR, zI_sI, zI_sJ, zI_sR, zJ_sI, zJ_sJ, zJ_sR, zR_sI, zR_sJ, zR_sR, e1, e2] using this) (by
    intro j k hj hk hjk
    have := J_mdj I j k hj hk hjk
    by_cases e1 : j = x.toNatClampNeg
    · simp [zN_sI, zN_sJ, zN_sR, zL_sI, zL_sJ, zL_sR, zI_sI, zI_sJ, zI_sR, zJ_sI, zJ_sJ, zJ_sR, zR_sI, zR_sJ, zR_sR, e1]
    · by_cases e2 : k = x.toNatClampNeg
      · simp [zN_sI, zN_sJ, zN_sR, zL_sI, zL_sJ, zL_sR, zI_sI, zI_sJ, zI_sR, zJ_sI, zJ_sJ, zJ_sR, zR_sI, zR_sJ, zR_sR, e2]
      · simpa [zN_sI, zN_sJ, zN_sR, zL_sI, zL_sJ, zL_sR, zI_sI, zI_sJ, zI_sR, zJ_sI, zJ_sJ, zJ_sR, zR_sI, zR_sJ, zR_sR, e1, e2] using this) (by
    intro j hj hj2
    have := J_mfr I j hj hj2
    have hne : ¬ j = x.toNatClampNeg := by have : zN C 5 ≤ j := hj; omega
    simpa [zN_sI, zN_sJ, zN_sR, zL_sI, zL_sJ, zL_sR, zI_sI, zI_sJ, zI_sR, zJ_sI, zJ_sJ, zJ_sR, zR_sI, zR_sJ, zR_sR, hne] using this) (by first | exact (J_rpf I :) | simpa [KC, KR, LO, zN_sI, zN_sJ, zN_sR, zL_sI, zL_sJ, zL_sR, zI_sI, zI_sJ, zI_sR, zJ_sI, zJ_sJ, zJ_sR, zR_sI, zR_sJ, zR_sR] using (J_rpf I :)) (by first | exact (J_rtx I :) | simpa [KC, KR, LO, zN_sI, zN_sJ, zN_sR, zL_sI, zL_sJ, zL_sR, zI_sI, zI_sJ, zI_sR, zJ_sI, zJ_sJ, zJ_sR, zR_sI, zR_sJ, zR_sR] using (J_rtx I :)) (by first | exact (J_tap I :) | simpa [KC, KR, LO, zN_sI, zN_sJ, zN_sR, zL_sI, zL_sJ, zL_sR, zI_sI, zI_sJ, zI_sR, zJ_sI, zJ_sJ, zJ_sR, zR_sI, zR_sJ, zR_sR] using (J_tap I :)) (by first | exact (J_row I :) | simpa [KC, KR, LO, zN_sI, zN_sJ, zN_sR, zL_sI, zL_sJ, zL_sR, zI_sI, zI_sJ, zI_sR, zJ_sI, zJ_sJ, zJ_sR, zR_sI, zR_sJ, zR_sR] using (J_row I :)) (by first | exact (J_sur I :) | simpa [KC, KR, LO, zN_sI, zN_sJ, zN_sR, zL_sI, zL_sJ, zL_sR, zI_sI, zI_sJ, zI_sR, zJ_sI, zJ_sJ, zJ_sR, zR_sI, zR_sJ, zR_sR] using (J_sur I :)) (by first | exact (J_ref I :) | simpa [KC, KR, LO, zN_sI, zN_sJ, zN_sR, zL_sI, zL_sJ, zL_sR, zI_sI, zI_sJ, zI_sR, zJ_sI, zJ_sJ, zJ_sR, zR_sI, zR_sJ, zR_sR] using (J_ref I :))
theorem t_takeBack (I : Inv C R) (x1 : Int32) : TT (f_X9_takeBack 0 x1 C) (f_X10_takeBack 0 x1 R) := by
  have hr := J_kr I
  unfold KR at hr
  unfold f_X9_takeBack f_X10_takeBack f_X10_takeBack_34 f_X9_takeBack_32
  rw [e_movAt I, e_isMov I, Option.bind_some, Option.bind_some]
  by_cases h : zib x1 (zN C 5) = true
  · have h30 := zib_mono h (J_mx I).2.2.1
    have hi := (zib_ex h).1
    simp only [h, h30, hr, if_true, zop, Option.bind_some, zgd, show ¬ (1 : Int32) = 0 by decide, if_false, (J_mgo I _ hi).1, (J_mst I _ hi).1]
    by_cases h3 : zI R 138 0 x1.toNatClampNeg = 0
    · simp only [h3, if_true]
      exact t_refB I (by decide)
    · simp only [h3, if_false]
      by_cases h4 : zI R 132 0 x1.toNatClampNeg < 6
      · simp only [h4, if_true]
        obtain ⟨C', R', q1, q2, q3⟩ := t_stop I (w := 3) h h3
        rw [q1, q2]
        exact TT.refl q3
      · simp only [h4, if_false]
        exact t_refB I (by decide)
  · simp only [h, if_false, zop, if_true]
    exact t_refB I (by decide)
end ZB
