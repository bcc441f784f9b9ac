/-! ===== small pieces of both sides ===== -/
def TT {α : Type} (c r : Option (α × zH)) : Prop := ∃ a C' R', c = some (a, C') ∧ r = some (a, R') ∧ Inv C' R'
def ow (a b c : Int32) : Int32 := if b ≤ a then (if a ≤ c then 0 else -6) else -4
theorem ow_cases (a b c : Int32) : ow a b c = 0 ∨ ow a b c = -4 ∨ ow a b c = -6 := by
  unfold ow
  split
  · split
    · exact Or.inl rfl
    · exact Or.inr (Or.inr rfl)
  · exact Or.inr (Or.inl rfl)
theorem ow_in {a b c : Int32} (h : ow a b c = 0) : b ≤ a ∧ a ≤ c := by
  unfold ow at h
  split at h
  · split at h
    · exact ⟨by assumption, by assumption⟩
    · exact absurd h (by decide)
  · exact absurd h (by decide)
theorem e_out (a b c : Int32) (S : zH) : f_X9_outside a b c S = some (ow a b c) := by
  unfold f_X9_outside ow
  split
  · split <;> rfl
  · rfl
theorem e_wit (a b c : Int32) (S : zH) : f_X10_within a b c S = some (ow a b c) := by
  unfold f_X10_within ow
  split
  · split <;> rfl
  · rfl
section ZE
variable {C R : zH}
theorem LO.size {p n : Nat} (h : LO C p n) : zl_size p 0 C = some (nI n) := by
  obtain ⟨a, h1, h2, h3⟩ := h
  unfold zl_size
  rw [h2]
theorem LO.get {p n k : Nat} (h : LO C p n) (hk : k < n) : zl_get p 0 (nI k) C = some (some k) := by
  obtain ⟨a, h1, h2, h3, h4, h5, h6, h7⟩ := h
  have hl : zL C (p + 4) a < 100 := by omega
  unfold zl_get
  rw [h1, Option.bind_some, h2, zib_nI (by omega) (by omega), nI_clamp (by omega), h6 k hk]
  have e1 : decide (nI k < 0) = false := decide_eq_false (nI_pos (by omega))
  have e2 : decide (nI k < nI n) = true := decide_eq_true ((nJ_lt (by omega) (by omega)).mpr hk)
  rw [e1, e2]
  rfl
theorem LO.getx {p n : Nat} {x : Int32} (h : LO C p n) (hk : zib x n = true) : zl_get p 0 x C = some (some x.toNatClampNeg) := by
  have := h.get (zib_ex hk).1
  rwa [nI_rd (zib_ex hk).2] at this
theorem LO.lt {p n : Nat} (h : LO C p n) : n < 100 := by
  obtain ⟨a, h1, h2, h3, h4, h5, h6, h7⟩ := h
  omega
theorem e_isIn (x : Int32) {n : Nat} (hn : n < 2 ^ 31) (S : zH) : f_X10_isIn x (nI n) S = some (if zib x n = true then 1 else 0) := by
  unfold f_X10_isIn
  by_cases h0 : x < 0
  · rw [if_pos h0, zib_neg h0]
    rfl
  · rw [if_neg h0]
    by_cases h1 : zib x n = true
    · rw [if_neg (by rw [zib_lt hn h0]; exact fun z => z h1), if_pos h1]
    · rw [if_pos (by rw [zib_lt hn h0]; exact h1), if_neg h1]
theorem zb1 {c : Prop} [Decidable c] : decide (((if c then 1 else 0 : Int32)) &&& 1 = (if c then 1 else 0 : Int32)) = true := by
  split <;> decide
theorem e_isBank (x : Int32) (S : zH) : f_X10_isBank x S = some (if zib x 8 = true then 1 else 0) := by
  unfold f_X10_isBank
  have := e_isIn x (n := 8) (by decide) S
  rw [show (nI 8) = 8 from rfl] at this
  rw [this, Option.bind_some, zb1]
  rfl
theorem e_isAcc (I : Inv C R) (x : Int32) : f_X10_isAccount 0 x R = some (if zib x (zN C 3) = true then 1 else 0) := by
  unfold f_X10_isAccount
  rw [(J_cnt I).1, e_isIn x (by have := (J_mx I).1; omega), Option.bind_some, zb1]
  rfl
theorem e_isLin (I : Inv C R) (x : Int32) : f_X10_isLine 0 x R = some (if zib x (zN C 4) = true then 1 else 0) := by
  unfold f_X10_isLine
  rw [(J_cnt I).2.1, e_isIn x (by have := (J_mx I).2.1; omega), Option.bind_some, zb1]
  rfl
theorem e_isMov (I : Inv C R) (x : Int32) : f_X10_isMove 0 x R = some (if zib x (zN C 5) = true then 1 else 0) := by
  unfold f_X10_isMove
  rw [(J_cnt I).2.2.1, e_isIn x (by have := (J_mx I).2.2.1; omega), Option.bind_some, zb1]
  rfl
theorem e_at {p n : Nat} (x : Int32) (h : LO C p n) {r : Option Nat} (hr : r = some 0) : (if x < 0 then (some none : Option (Option Nat)) else (Option.bind r (fun i3 => Option.bind (zl_size p i3 C) (fun o6 => if o6 ≤ x then (some none) else (Option.bind r (fun i11 => Option.bind (zl_get p i11 x C) (fun o14 => some o14))))))) = some (if zib x n = true then some x.toNatClampNeg else none) := by
  by_cases h0 : x < 0
  · rw [if_pos h0, zib_neg h0]
    rfl
  · rw [if_neg h0, hr, Option.bind_some, h.size, Option.bind_some]
    by_cases h1 : zib x n = true
    · rw [if_neg (by rw [zib_lt (by have := h.lt; omega) h0]; exact fun z => z h1), if_pos h1, Option.bind_some, h.getx h1]
      rfl
    · rw [if_pos (by rw [zib_lt (by have := h.lt; omega) h0]; exact h1), if_neg h1]
theorem e_accAt (I : Inv C R) (x : Int32) : f_X9_accountAt 0 x C = some (if zib x (zN C 3) = true then some x.toNatClampNeg else none) := by
  have hk := J_kc I
  unfold KC at hk
  exact e_at x (J_la I) hk.2.2.1
theorem e_linAt (I : Inv C R) (x : Int32) : f_X9_lineAt 0 x C = some (if zib x (zN C 4) = true then some x.toNatClampNeg else none) := by
  have hk := J_kc I
  unfold KC at hk
  exact e_at x (J_ll I) hk.2.2.2.1
theorem e_movAt (I : Inv C R) (x : Int32) : f_X9_moveAt 0 x C = some (if zib x (zN C 5) = true then some x.toNatClampNeg else none) := by
  have hk := J_kc I
  unfold KC at hk
  exact e_at x (J_lm I) hk.2.2.2.2.1
theorem e_bnkAt (I : Inv C R) (x : Int32) : f_X9_bankAt 0 x C = some (if zib x 8 = true then some x.toNatClampNeg else none) := by
  have hk := J_kc I
  unfold KC at hk
  unfold f_X9_bankAt
  by_cases h0 : x < 0
  · rw [if_pos h0, zib_neg h0]
    rfl
  · rw [if_neg h0]
    simp only [hk, Option.bind_some]
    have e8 : (Int32.ofNat 8 ≤ x) = ¬ (zib x 8 = true) := zib_lt (n := 8) (by decide) h0
    by_cases h1 : zib x 8 = true
    · rw [if_neg (by rw [e8]; exact fun z => z h1), if_pos h1, h1]
      simp only [zgd, (J_bno I _ (zib_ex h1).1).1, if_true]
    · rw [if_pos (by rw [e8]; exact h1), if_neg h1]
/-- a refusal is counted on both sides -/
theorem t_ref (I : Inv C R) {x : Int32} (hx : x = -1 ∨ x = -2 ∨ x = -3 ∨ x = -4 ∨ x = -6) : TT (f_X9_refuse 0 x C) (f_X10_refuse 0 x R) := by
  have hk := J_kc I
  have hr := J_kr I
  unfold KC at hk
  unfold KR at hr
  have key : ∀ k, k < 7 → ∀ y : Int32, -y = nI k → f_X9_refuse 0 y C = some (y, zsI C 20 0 k (zI C 20 0 k + 1)) → f_X10_refuse 0 y R = some (y, zsI R 100 0 k (zI R 100 0 k + 1)) → TT (f_X9_refuse 0 y C) (f_X10_refuse 0 y R) := by
    intro k hk7 y _ h1 h2
    refine ⟨y, _, _, h1, h2, ?_⟩
    exact Inv_mk (by first | exact (J_kc I :) | simpa [KC, KR, LO, zN_sI, zN_sJ, zN_sR, zL_sI, zL_sJ, zL_sR, zI_sI, zI_sJ, zI_sR, zJ_sI, zJ_sJ, zJ_sR, zR_sI, zR_sJ, zR_sR] using (J_kc I :)) (by first | exact (J_kr I :) | simpa [KC, KR, LO, zN_sI, zN_sJ, zN_sR, zL_sI, zL_sJ, zL_sR, zI_sI, zI_sJ, zI_sR, zJ_sI, zJ_sJ, zJ_sR, zR_sI, zR_sJ, zR_sR] using (J_kr I :)) (by first | exact (J_cnt I :) | simpa [KC, KR, LO, zN_sI, zN_sJ, zN_sR, zL_sI, zL_sJ, zL_sR, zI_sI, zI_sJ, zI_sR, zJ_sI, zJ_sJ, zJ_sR, zR_sI, zR_sJ, zR_sR] using (J_cnt I :)) (by first | exact (J_mx I :) | simpa [KC, KR, LO, zN_sI, zN_sJ, zN_sR, zL_sI, zL_sJ, zL_sR, zI_sI, zI_sJ, zI_sR, zJ_sI, zJ_sJ, zJ_sR, zR_sI, zR_sJ, zR_sR] using (J_mx I :)) (by first | exact (J_la I :) | simpa [KC, KR, LO, zN_sI, zN_sJ, zN_sR, zL_sI, zL_sJ, zL_sR, zI_sI, zI_sJ, zI_sR, zJ_sI, zJ_sJ, zJ_sR, zR_sI, zR_sJ, zR_sR] using (J_la I :)) (by first | exact (J_ll I :) | simpa [KC, KR, LO, zN_sI, zN_sJ, zN_sR, zL_sI, zL_sJ, zL_sR, zI_sI, zI_sJ, zI_sR, zJ_sI, zJ_sJ, zJ_sR, zR_sI, zR_sJ, zR_sR] using (J_ll I :)) (by first | exact (J_lm I :) | simpa [KC, KR, LO, zN_sI, zN_sJ, zN_sR, zL_sI, zL_sJ, zL_sR, zI_sI, zI_sJ, zI_sR, zJ_sI, zJ_sJ, zJ_sR, zR_sI, zR_sJ, zR_sR] using (J_lm I :)) (by first | exact (J_lr I :) | simpa [KC, KR, LO, zN_sI, zN_sJ, zN_sR, zL_sI, zL_sJ, zL_sR, zI_sI, zI_sJ, zI_sR, zJ_sI, zJ_sJ, zJ_sR, zR_sI, zR_sJ, zR_sR] using (J_lr I :)) (by first | exact (J_al I :) | simpa [KC, KR, LO, zN_sI, zN_sJ, zN_sR, zL_sI, zL_sJ, zL_sR, zI_sI, zI_sJ, zI_sR, zJ_sI, zJ_sJ, zJ_sR, zR_sI, zR_sJ, zR_sR] using (J_al I :)) (by first | exact (J_bno I :) | simpa [KC, KR, LO, zN_sI, zN_sJ, zN_sR, zL_sI, zL_sJ, zL_sR, zI_sI, zI_sJ, zI_sR, zJ_sI, zJ_sJ, zJ_sR, zR_sI, zR_sJ, zR_sR] using (J_bno I :)) (by first | exact (J_bfee I :) | simpa [KC, KR, LO, zN_sI, zN_sJ, zN_sR, zL_sI, zL_sJ, zL_sR, zI_sI, zI_sJ, zI_sR, zJ_sI, zJ_sJ, zJ_sR, zR_sI, zR_sJ, zR_sR] using (J_bfee I :)) (by first | exact (J_bcap I :) | simpa [KC, KR, LO, zN_sI, zN_sJ, zN_sR, zL_sI, zL_sJ, zL_sR, zI_sI, zI_sJ, zI_sR, zJ_sI, zJ_sJ, zJ_sR, zR_sI, zR_sJ, zR_sR] using (J_bcap I :)) (by first | exact (J_bow I :) | simpa [KC, KR, LO, zN_sI, zN_sJ, zN_sR, zL_sI, zL_sJ, zL_sR, zI_sI, zI_sJ, zI_sR, zJ_sI, zJ_sJ, zJ_sR, zR_sI, zR_sJ, zR_sR] using (J_bow I :)) (by first | exact (J_bdid I :) | simpa [KC, KR, LO, zN_sI, zN_sJ, zN_sR, zL_sI, zL_sJ, zL_sR, zI_sI, zI_sJ, zI_sR, zJ_sI, zJ_sJ, zJ_sR, zR_sI, zR_sJ, zR_sR] using (J_bdid I :)) (by first | exact (J_bnet I :) | simpa [KC, KR, LO, zN_sI, zN_sJ, zN_sR, zL_sI, zL_sJ, zL_sR, zI_sI, zI_sJ, zI_sR, zJ_sI, zJ_sJ, zJ_sR, zR_sI, zR_sJ, zR_sR] using (J_bnet I :)) (by first | exact (J_day I :) | simpa [KC, KR, LO, zN_sI, zN_sJ, zN_sR, zL_sI, zL_sJ, zL_sR, zI_sI, zI_sJ, zI_sR, zJ_sI, zJ_sJ, zJ_sR, zR_sI, zR_sJ, zR_sR] using (J_day I :)) (by first | exact (J_ngt I :) | simpa [KC, KR, LO, zN_sI, zN_sJ, zN_sR, zL_sI, zL_sJ, zL_sR, zI_sI, zI_sJ, zI_sR, zJ_sI, zJ_sJ, zJ_sR, zR_sI, zR_sJ, zR_sR] using (J_ngt I :)) (by first | exact (J_due I :) | simpa [KC, KR, LO, zN_sI, zN_sJ, zN_sR, zL_sI, zL_sJ, zL_sR, zI_sI, zI_sJ, zI_sR, zJ_sI, zJ_sJ, zJ_sR, zR_sI, zR_sJ, zR_sR] using (J_due I :)) (by first | exact (J_hol I :) | simpa [KC, KR, LO, zN_sI, zN_sJ, zN_sR, zL_sI, zL_sJ, zL_sR, zI_sI, zI_sJ, zI_sR, zJ_sI, zJ_sJ, zJ_sR, zR_sI, zR_sJ, zR_sR] using (J_hol I :)) (by first | exact (J_lat I :) | simpa [KC, KR, LO, zN_sI, zN_sJ, zN_sR, zL_sI, zL_sJ, zL_sR, zI_sI, zI_sJ, zI_sR, zJ_sI, zJ_sJ, zJ_sR, zR_sI, zR_sJ, zR_sR] using (J_lat I :)) (by first | exact (J_ano I :) | simpa [KC, KR, LO, zN_sI, zN_sJ, zN_sR, zL_sI, zL_sJ, zL_sR, zI_sI, zI_sJ, zI_sR, zJ_sI, zJ_sJ, zJ_sR, zR_sI, zR_sJ, zR_sR] using (J_ano I :)) (by first | exact (J_abk I :) | simpa [KC, KR, LO, zN_sI, zN_sJ, zN_sR, zL_sI, zL_sJ, zL_sR, zI_sI, zI_sJ, zI_sR, zJ_sI, zJ_sJ, zJ_sR, zR_sI, zR_sJ, zR_sR] using (J_abk I :)) (by first | exact (J_anm I :) | simpa [KC, KR, LO, zN_sI, zN_sJ, zN_sR, zL_sI, zL_sJ, zL_sR, zI_sI, zI_sJ, zI_sR, zJ_sI, zJ_sJ, zJ_sR, zR_sI, zR_sJ, zR_sR] using (J_anm I :)) (by first | exact (J_asum I :) | simpa [KC, KR, LO, zN_sI, zN_sJ, zN_sR, zL_sI, zL_sJ, zL_sR, zI_sI, zI_sJ, zI_sR, zJ_sI, zJ_sJ, zJ_sR, zR_sI, zR_sJ, zR_sR] using (J_asum I :)) (by first | exact (J_aov I :) | simpa [KC, KR, LO, zN_sI, zN_sJ, zN_sR, zL_sI, zL_sJ, zL_sR, zI_sI, zI_sJ, zI_sR, zJ_sI, zJ_sJ, zJ_sR, zR_sI, zR_sJ, zR_sR] using (J_aov I :)) (by first | exact (J_ast I :) | simpa [KC, KR, LO, zN_sI, zN_sJ, zN_sR, zL_sI, zL_sJ, zL_sR, zI_sI, zI_sJ, zI_sR, zJ_sI, zJ_sJ, zJ_sR, zR_sI, zR_sJ, zR_sR] using (J_ast I :)) (by first | exact (J_amv I :) | simpa [KC, KR, LO, zN_sI, zN_sJ, zN_sR, zL_sI, zL_sJ, zL_sR, zI_sI, zI_sJ, zI_sR, zJ_sI, zJ_sJ, zJ_sR, zR_sI, zR_sJ, zR_sR] using (J_amv I :)) (by first | exact (J_ano2 I :) | simpa [KC, KR, LO, zN_sI, zN_sJ, zN_sR, zL_sI, zL_sJ, zL_sR, zI_sI, zI_sJ, zI_sR, zJ_sI, zJ_sJ, zJ_sR, zR_sI, zR_sJ, zR_sR] using (J_ano2 I :)) (by first | exact (J_agd I :) | simpa [KC, KR, LO, zN_sI, zN_sJ, zN_sR, zL_sI, zL_sJ, zL_sR, zI_sI, zI_sJ, zI_sR, zJ_sI, zJ_sJ, zJ_sR, zR_sI, zR_sJ, zR_sR] using (J_agd I :)) (by first | exact (J_akp I :) | simpa [KC, KR, LO, zN_sI, zN_sJ, zN_sR, zL_sI, zL_sJ, zL_sR, zI_sI, zI_sJ, zI_sR, zJ_sI, zJ_sJ, zJ_sR, zR_sI, zR_sJ, zR_sR] using (J_akp I :)) (by first | exact (J_ahs I :) | simpa [KC, KR, LO, zN_sI, zN_sJ, zN_sR, zL_sI, zL_sJ, zL_sR, zI_sI, zI_sJ, zI_sR, zJ_sI, zJ_sJ, zJ_sR, zR_sI, zR_sJ, zR_sR] using (J_ahs I :)) (by first | exact (J_afr I :) | simpa [KC, KR, LO, zN_sI, zN_sJ, zN_sR, zL_sI, zL_sJ, zL_sR, zI_sI, zI_sJ, zI_sR, zJ_sI, zJ_sJ, zJ_sR, zR_sI, zR_sJ, zR_sR] using (J_afr I :)) (by first | exact (J_lk I :) | simpa [KC, KR, LO, zN_sI, zN_sJ, zN_sR, zL_sI, zL_sJ, zL_sR, zI_sI, zI_sJ, zI_sR, zJ_sI, zJ_sJ, zJ_sR, zR_sI, zR_sJ, zR_sR] using (J_lk I :)) (by first | exact (J_lft I :) | simpa [KC, KR, LO, zN_sI, zN_sJ, zN_sR, zL_sI, zL_sJ, zL_sR, zI_sI, zI_sJ, zI_sR, zJ_sI, zJ_sJ, zJ_sR, zR_sI, zR_sJ, zR_sR] using (J_lft I :)) (by first | exact (J_lam I :) | simpa [KC, KR, LO, zN_sI, zN_sJ, zN_sR, zL_sI, zL_sJ, zL_sR, zI_sI, zI_sJ, zI_sR, zJ_sI, zJ_sJ, zJ_sR, zR_sI, zR_sJ, zR_sR] using (J_lam I :)) (by first | exact (J_led I :) | simpa [KC, KR, LO, zN_sI, zN_sJ, zN_sR, zL_sI, zL_sJ, zL_sR, zI_sI, zI_sJ, zI_sR, zJ_sI, zJ_sJ, zJ_sR, zR_sI, zR_sJ, zR_sR] using (J_led I :)) (by first | exact (J_ldn I :) | simpa [KC, KR, LO, zN_sI, zN_sJ, zN_sR, zL_sI, zL_sJ, zL_sR, zI_sI, zI_sJ, zI_sR, zJ_sI, zJ_sJ, zJ_sR, zR_sI, zR_sJ, zR_sR] using (J_ldn I :)) (by first | exact (J_lbk I :) | simpa [KC, KR, LO, zN_sI, zN_sJ, zN_sR, zL_sI, zL_sJ, zL_sR, zI_sI, zI_sJ, zI_sR, zJ_sI, zJ_sJ, zJ_sR, zR_sI, zR_sJ, zR_sR] using (J_lbk I :)) (by first | exact (J_ldu I :) | simpa [KC, KR, LO, zN_sI, zN_sJ, zN_sR, zL_sI, zL_sJ, zL_sR, zI_sI, zI_sJ, zI_sR, zJ_sI, zJ_sJ, zJ_sR, zR_sI, zR_sJ, zR_sR] using (J_ldu I :)) (by first | exact (J_lfr I :) | simpa [KC, KR, LO, zN_sI, zN_sJ, zN_sR, zL_sI, zL_sJ, zL_sR, zI_sI, zI_sJ, zI_sR, zJ_sI, zJ_sJ, zJ_sR, zR_sI, zR_sJ, zR_sR] using (J_lfr I :)) (by first | exact (J_mac I :) | simpa [KC, KR, LO, zN_sI, zN_sJ, zN_sR, zL_sI, zL_sJ, zL_sR, zI_sI, zI_sJ, zI_sR, zJ_sI, zJ_sJ, zJ_sR, zR_sI, zR_sJ, zR_sR] using (J_mac I :)) (by first | exact (J_mpt I :) | simpa [KC, KR, LO, zN_sI, zN_sJ, zN_sR, zL_sI, zL_sJ, zL_sR, zI_sI, zI_sJ, zI_sR, zJ_sI, zJ_sJ, zJ_sR, zR_sI, zR_sJ, zR_sR] using (J_mpt I :)) (by first | exact (J_mas I :) | simpa [KC, KR, LO, zN_sI, zN_sJ, zN_sR, zL_sI, zL_sJ, zL_sR, zI_sI, zI_sJ, zI_sR, zJ_sI, zJ_sJ, zJ_sR, zR_sI, zR_sJ, zR_sR] using (J_mas I :)) (by first | exact (J_mst I :) | simpa [KC, KR, LO, zN_sI, zN_sJ, zN_sR, zL_sI, zL_sJ, zL_sR, zI_sI, zI_sJ, zI_sR, zJ_sI, zJ_sJ, zJ_sR, zR_sI, zR_sJ, zR_sR] using (J_mst I :)) (by first | exact (J_mgo I :) | simpa [KC, KR, LO, zN_sI, zN_sJ, zN_sR, zL_sI, zL_sJ, zL_sR, zI_sI, zI_sJ, zI_sR, zJ_sI, zJ_sJ, zJ_sR, zR_sI, zR_sJ, zR_sR] using (J_mgo I :)) (by first | exact (J_mag I :) | simpa [KC, KR, LO, zN_sI, zN_sJ, zN_sR, zL_sI, zL_sJ, zL_sR, zI_sI, zI_sJ, zI_sR, zJ_sI, zJ_sJ, zJ_sR, zR_sI, zR_sJ, zR_sR] using (J_mag I :)) (by first | exact (J_mwy I :) | simpa [KC, KR, LO, zN_sI, zN_sJ, zN_sR, zL_sI, zL_sJ, zL_sR, zI_sI, zI_sJ, zI_sR, zJ_sI, zJ_sJ, zJ_sR, zR_sI, zR_sJ, zR_sR] using (J_mwy I :)) (by first | exact (J_mfa I :) | simpa [KC, KR, LO, zN_sI, zN_sJ, zN_sR, zL_sI, zL_sJ, zL_sR, zI_sI, zI_sJ, zI_sR, zJ_sI, zJ_sJ, zJ_sR, zR_sI, zR_sJ, zR_sR] using (J_mfa I :)) (by first | exact (J_mfb I :) | simpa [KC, KR, LO, zN_sI, zN_sJ, zN_sR, zL_sI, zL_sJ, zL_sR, zI_sI, zI_sJ, zI_sR, zJ_sI, zJ_sJ, zJ_sR, zR_sI, zR_sJ, zR_sR] using (J_mfb I :)) (by first | exact (J_mop I :) | simpa [KC, KR, LO, zN_sI, zN_sJ, zN_sR, zL_sI, zL_sJ, zL_sR, zI_sI, zI_sJ, zI_sR, zJ_sI, zJ_sJ, zJ_sR, zR_sI, zR_sJ, zR_sR] using (J_mop I :)) (by first | exact fun m m2 a b c d e => (J_mdj I m m2 a b c d e :) | simpa [KC, KR, LO, zN_sI, zN_sJ, zN_sR, zL_sI, zL_sJ, zL_sR, zI_sI, zI_sJ, zI_sR, zJ_sI, zJ_sJ, zJ_sR, zR_sI, zR_sJ, zR_sR] using (J_mdj I :)) (by first | exact (J_mfr I :) | simpa [KC, KR, LO, zN_sI, zN_sJ, zN_sR, zL_sI, zL_sJ, zL_sR, zI_sI, zI_sJ, zI_sR, zJ_sI, zJ_sJ, zJ_sR, zR_sI, zR_sJ, zR_sR] using (J_mfr I :)) (by first | exact (J_rpf I :) | simpa [KC, KR, LO, zN_sI, zN_sJ, zN_sR, zL_sI, zL_sJ, zL_sR, zI_sI, zI_sJ, zI_sR, zJ_sI, zJ_sJ, zJ_sR, zR_sI, zR_sJ, zR_sR] using (J_rpf I :)) (by first | exact (J_rtx I :) | simpa [KC, KR, LO, zN_sI, zN_sJ, zN_sR, zL_sI, zL_sJ, zL_sR, zI_sI, zI_sJ, zI_sR, zJ_sI, zJ_sJ, zJ_sR, zR_sI, zR_sJ, zR_sR] using (J_rtx I :)) (by first | exact (J_tap I :) | simpa [KC, KR, LO, zN_sI, zN_sJ, zN_sR, zL_sI, zL_sJ, zL_sR, zI_sI, zI_sJ, zI_sR, zJ_sI, zJ_sJ, zJ_sR, zR_sI, zR_sJ, zR_sR] using (J_tap I :)) (by first | exact (J_row I :) | simpa [KC, KR, LO, zN_sI, zN_sJ, zN_sR, zL_sI, zL_sJ, zL_sR, zI_sI, zI_sJ, zI_sR, zJ_sI, zJ_sJ, zJ_sR, zR_sI, zR_sJ, zR_sR] using (J_row I :)) (by first | exact (J_sur I :) | simpa [KC, KR, LO, zN_sI, zN_sJ, zN_sR, zL_sI, zL_sJ, zL_sR, zI_sI, zI_sJ, zI_sR, zJ_sI, zJ_sJ, zJ_sR, zR_sI, zR_sJ, zR_sR] using (J_sur I :)) (by
      intro j hj
      simp [zI_sI, J_ref I j hj, J_ref I k hk7])
  rcases hx with rfl | rfl | rfl | rfl | rfl
  · exact key 1 (by decide) _ (by decide) (by simp [f_X9_refuse, hk, zgd, zlt, zib]) (by simp [f_X10_refuse, hr, zgd, zlt, zib])
  · exact key 2 (by decide) _ (by decide) (by simp [f_X9_refuse, hk, zgd, zlt, zib]) (by simp [f_X10_refuse, hr, zgd, zlt, zib])
  · exact key 3 (by decide) _ (by decide) (by simp [f_X9_refuse, hk, zgd, zlt, zib]) (by simp [f_X10_refuse, hr, zgd, zlt, zib])
  · exact key 4 (by decide) _ (by decide) (by simp [f_X9_refuse, hk, zgd, zlt, zib]) (by simp [f_X10_refuse, hr, zgd, zlt, zib])
  · exact key 6 (by decide) _ (by decide) (by simp [f_X9_refuse, hk, zgd, zlt, zib]) (by simp [f_X10_refuse, hr, zgd, zlt, zib])
end ZE
