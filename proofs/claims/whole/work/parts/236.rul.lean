/-! ===== a rule is told ===== -/
theorem wN_cp (S : zH) (p a p' b n q : Nat) : zN (zcpI S p a p' b n) q = zN S q := (rfl)
theorem wL_cp (S : zH) (p a p' b n q j : Nat) : zL (zcpI S p a p' b n) q j = zL S q j := (rfl)
theorem wI_cp (S : zH) (p a p' b n q j l : Nat) : zI (zcpI S p a p' b n) q j l = if q = p' ∧ j = b ∧ l < n then zI S p a l else zI S q j l := (rfl)
theorem wJ_cp (S : zH) (p a p' b n q j l : Nat) : zJ (zcpI S p a p' b n) q j l = zJ S q j l := (rfl)
theorem wR_cp (S : zH) (p a p' b n q j l : Nat) : zR (zcpI S p a p' b n) q j l = zR S q j l := (rfl)
section ZHC
variable {tx ty : Nat → Int32} {sz : Nat}
theorem hNum_c (h : ∀ k, ch tx sz k = ch ty sz k) : ∀ n k v, hNum tx sz n k v = hNum ty sz n k v
  | 0, k, v => rfl
  | n + 1, k, v => by rw [hNum, hNum, h k, hNum_c h n]
theorem hLoop_c (h : ∀ k, ch tx sz k = ch ty sz k) (P : Nat → Bool × Nat × List Int32) (s1 s2 : Int32) : ∀ n k acc, hLoop tx sz P s1 s2 n k acc = hLoop ty sz P s1 s2 n k acc
  | 0, _, _ => rfl
  | n + 1, k, acc => by rw [hLoop, hLoop, h k, hLoop_c h P s1 s2 n]
theorem hBin_c (h : ∀ k, ch tx sz k = ch ty sz k) (P : Nat → Bool × Nat × List Int32) (s1 s2 : Int32) : hBin tx sz P s1 s2 = hBin ty sz P s1 s2 := by
  funext k
  unfold hBin
  rw [hLoop_c h]
theorem hCl_c (h : ∀ k, ch tx sz k = ch ty sz k) (k : Nat) (c : List Int32) : hCl tx sz k c = hCl ty sz k c := by
  unfold hCl
  rw [h]
theorem hBr_c (h : ∀ k, ch tx sz k = ch ty sz k) (S : Nat → Bool × Nat × List Int32) : hBr tx sz S = hBr ty sz S := by
  funext k
  unfold hBr
  simp only [h, hCl_c h]
theorem hSum_c (h : ∀ k, ch tx sz k = ch ty sz k) (U : Nat → Bool × Nat × List Int32) : hSum tx sz U = hSum ty sz U := by
  unfold hSum hTerm
  rw [hBin_c h, hBin_c h]
theorem hUnit_c (h : ∀ k, ch tx sz k = ch ty sz k) : ∀ lv, hUnit tx sz lv = hUnit ty sz lv
  | 0 => by
    funext k
    rw [hUnit, hUnit, h k, hNum_c h]
  | lv + 1 => by
    funext k
    rw [hUnit, hUnit, h k, hNum_c h, hUnit_c h lv, hSum_c h, hBr_c h]
theorem hAll_c (h : ∀ k, k < sz → tx k = ty k) : hAll tx sz = hAll ty sz := by
  have h' : ∀ k, ch tx sz k = ch ty sz k := by
    intro k
    unfold ch
    by_cases e : k < sz
    · rw [if_pos e, if_pos e, h k e]
    · rw [if_neg e, if_neg e]
  unfold hAll
  rw [hSum_c h', hUnit_c h']
end ZHC
theorem RTx.congr {n : Nat} {code code' : Nat → Int32} {size : Int32} {text text' : Nat → Int32} (h : RTx n code size text) (e : ∀ k, k < size.toNatClampNeg → text k = text' k) (e2 : ∀ j, j < n → code j = code' j) : RTx n code' size text' := by
  obtain ⟨x1, x2, x3, x4, x5, x6⟩ := h
  rw [hAll_c e] at x3 x4 x5 x6
  exact ⟨x1, fun k hk => by rw [← e k hk]; exact x2 k hk, x3, x4, x5, fun j hj => by rw [← e2 j hj]; exact x6 j hj⟩
section ZRT
variable {C R : zH}
/-- the reference reads its tape -/
theorem e_tape (hr : KR R) {sz : Nat} (hsz : sz ≤ 60) : ∃ v R', f_X10_goesThrough 0 (-1) (nI sz) R = some (v, R') ∧ SR R R' ∧ ((hAll (fun k => zI R 157 0 k) sz).1 = true → zI R' 40 0 64 = 1) ∧ (¬ (hAll (fun k => zI R 157 0 k) sz).1 = true → zI R' 40 0 64 = 0) ∧ zI R' 40 0 60 = nI (hAll (fun k => zI R 157 0 k) sz).2.1 := by
  have hkr := id hr
  unfold KR at hkr
  generalize hRx : zsI (zsI (zsI (zsI (zsI R 40 0 62 (-1)) 40 0 63 (nI sz)) 40 0 60 0) 40 0 61 0) 40 0 64 1 = Rx
  have td : TD Rx (fun k => zI R 157 0 k) sz := by
    subst hRx
    refine ⟨by omega, by simp [wI_sI], by simp [wR_sI, hkr], by simp [wL_sI, hkr], Or.inl ⟨by simp [wI_sI], by simp [wR_sI, hkr], by simp [wL_sI, hkr], fun k hk => ?_⟩⟩
    simp only [wI_sI, show ¬ (157 = 40) by decide, false_and, if_false]
  have st : RSt Rx Rx 0 0 := by
    refine ⟨FR.rf, ?_, ?_, ?_⟩ <;> subst hRx <;> simp [wI_sI] <;> rfl
  obtain ⟨v, R', q1, q2⟩ := r_all td 5 0 30 (by decide) (by decide) Rx 0 st (Nat.zero_le _)
  have s0 : SR R Rx := by
    subst hRx
    exact ((((SR.rf.set 40 0 62 (by decide) _).set 40 0 63 (by decide) _).set 40 0 60 (by decide) _).set 40 0 61 (by decide) _).set 40 0 64 (by decide) _
  refine ⟨v, R', ?_, ?_, ?_, ?_, ?_⟩
  · unfold f_X10_goesThrough f_X10_sumOf
    simp only [zlt, hRx]
    rw [q1]
    rfl
  · by_cases e : (hSum (fun k => zI R 157 0 k) sz (hUnit (fun k => zI R 157 0 k) sz 5) 0).1 = true
    · exact s0.tr (q2.1 e).1.1.sr
    · exact s0.tr (q2.2 e).1.sr
  · intro e
    exact (q2.1 e).1.2.2.2
  · intro e
    exact (q2.2 e).2.2
  · by_cases e : (hSum (fun k => zI R 157 0 k) sz (hUnit (fun k => zI R 157 0 k) sz 5) 0).1 = true
    · exact (q2.1 e).1.2.1
    · exact (q2.2 e).2.1
/-- both tapes are wiped -/
theorem t_wipe (I : Inv C R) : Inv (zsI C 8 0 1 0) (zsI R 40 0 59 0) := by
  exact Inv_mk (by simpa [KC, KR, LO, wN_sI, wN_sJ, wN_sR, wL_sI, wL_sJ, wL_sR, wI_sI, wI_sJ, wI_sR, wJ_sI, wJ_sJ, wJ_sR, wR_sI, wR_sJ, wR_sR, wN_nw, wL_nw, wI_nw, wJ_nw, wR_nw] using (J_kc I :)) (by simpa [KC, KR, LO, wN_sI, wN_sJ, wN_sR, wL_sI, wL_sJ, wL_sR, wI_sI, wI_sJ, wI_sR, wJ_sI, wJ_sJ, wJ_sR, wR_sI, wR_sJ, wR_sR, wN_nw, wL_nw, wI_nw, wJ_nw, wR_nw] using (J_kr I :)) (by simpa [KC, KR, LO, wN_sI, wN_sJ, wN_sR, wL_sI, wL_sJ, wL_sR, wI_sI, wI_sJ, wI_sR, wJ_sI, wJ_sJ, wJ_sR, wR_sI, wR_sJ, wR_sR, wN_nw, wL_nw, wI_nw, wJ_nw, wR_nw] using (J_cnt I :)) (by simpa [KC, KR, LO, wN_sI, wN_sJ, wN_sR, wL_sI, wL_sJ, wL_sR, wI_sI, wI_sJ, wI_sR, wJ_sI, wJ_sJ, wJ_sR, wR_sI, wR_sJ, wR_sR, wN_nw, wL_nw, wI_nw, wJ_nw, wR_nw] using (J_mx I :)) (by simpa [KC, KR, LO, wN_sI, wN_sJ, wN_sR, wL_sI, wL_sJ, wL_sR, wI_sI, wI_sJ, wI_sR, wJ_sI, wJ_sJ, wJ_sR, wR_sI, wR_sJ, wR_sR, wN_nw, wL_nw, wI_nw, wJ_nw, wR_nw] using (J_la I :)) (by simpa [KC, KR, LO, wN_sI, wN_sJ, wN_sR, wL_sI, wL_sJ, wL_sR, wI_sI, wI_sJ, wI_sR, wJ_sI, wJ_sJ, wJ_sR, wR_sI, wR_sJ, wR_sR, wN_nw, wL_nw, wI_nw, wJ_nw, wR_nw] using (J_ll I :)) (by simpa [KC, KR, LO, wN_sI, wN_sJ, wN_sR, wL_sI, wL_sJ, wL_sR, wI_sI, wI_sJ, wI_sR, wJ_sI, wJ_sJ, wJ_sR, wR_sI, wR_sJ, wR_sR, wN_nw, wL_nw, wI_nw, wJ_nw, wR_nw] using (J_lm I :)) (by simpa [KC, KR, LO, wN_sI, wN_sJ, wN_sR, wL_sI, wL_sJ, wL_sR, wI_sI, wI_sJ, wI_sR, wJ_sI, wJ_sJ, wJ_sR, wR_sI, wR_sJ, wR_sR, wN_nw, wL_nw, wI_nw, wJ_nw, wR_nw] using (J_lr I :)) (by simpa [KC, KR, LO, wN_sI, wN_sJ, wN_sR, wL_sI, wL_sJ, wL_sR, wI_sI, wI_sJ, wI_sR, wJ_sI, wJ_sJ, wJ_sR, wR_sI, wR_sJ, wR_sR, wN_nw, wL_nw, wI_nw, wJ_nw, wR_nw] using (J_al I :)) (by simpa [KC, KR, LO, wN_sI, wN_sJ, wN_sR, wL_sI, wL_sJ, wL_sR, wI_sI, wI_sJ, wI_sR, wJ_sI, wJ_sJ, wJ_sR, wR_sI, wR_sJ, wR_sR, wN_nw, wL_nw, wI_nw, wJ_nw, wR_nw] using (J_bno I :)) (by simpa [KC, KR, LO, wN_sI, wN_sJ, wN_sR, wL_sI, wL_sJ, wL_sR, wI_sI, wI_sJ, wI_sR, wJ_sI, wJ_sJ, wJ_sR, wR_sI, wR_sJ, wR_sR, wN_nw, wL_nw, wI_nw, wJ_nw, wR_nw] using (J_bfee I :)) (by simpa [KC, KR, LO, wN_sI, wN_sJ, wN_sR, wL_sI, wL_sJ, wL_sR, wI_sI, wI_sJ, wI_sR, wJ_sI, wJ_sJ, wJ_sR, wR_sI, wR_sJ, wR_sR, wN_nw, wL_nw, wI_nw, wJ_nw, wR_nw] using (J_bcap I :)) (by simpa [KC, KR, LO, wN_sI, wN_sJ, wN_sR, wL_sI, wL_sJ, wL_sR, wI_sI, wI_sJ, wI_sR, wJ_sI, wJ_sJ, wJ_sR, wR_sI, wR_sJ, wR_sR, wN_nw, wL_nw, wI_nw, wJ_nw, wR_nw] using (J_bow I :)) (by simpa [KC, KR, LO, wN_sI, wN_sJ, wN_sR, wL_sI, wL_sJ, wL_sR, wI_sI, wI_sJ, wI_sR, wJ_sI, wJ_sJ, wJ_sR, wR_sI, wR_sJ, wR_sR, wN_nw, wL_nw, wI_nw, wJ_nw, wR_nw] using (J_bdid I :)) (by simpa [KC, KR, LO, wN_sI, wN_sJ, wN_sR, wL_sI, wL_sJ, wL_sR, wI_sI, wI_sJ, wI_sR, wJ_sI, wJ_sJ, wJ_sR, wR_sI, wR_sJ, wR_sR, wN_nw, wL_nw, wI_nw, wJ_nw, wR_nw] using (J_bnet I :)) (by simpa [KC, KR, LO, wN_sI, wN_sJ, wN_sR, wL_sI, wL_sJ, wL_sR, wI_sI, wI_sJ, wI_sR, wJ_sI, wJ_sJ, wJ_sR, wR_sI, wR_sJ, wR_sR, wN_nw, wL_nw, wI_nw, wJ_nw, wR_nw] using (J_day I :)) (by simpa [KC, KR, LO, wN_sI, wN_sJ, wN_sR, wL_sI, wL_sJ, wL_sR, wI_sI, wI_sJ, wI_sR, wJ_sI, wJ_sJ, wJ_sR, wR_sI, wR_sJ, wR_sR, wN_nw, wL_nw, wI_nw, wJ_nw, wR_nw] using (J_ngt I :)) (by simpa [KC, KR, LO, wN_sI, wN_sJ, wN_sR, wL_sI, wL_sJ, wL_sR, wI_sI, wI_sJ, wI_sR, wJ_sI, wJ_sJ, wJ_sR, wR_sI, wR_sJ, wR_sR, wN_nw, wL_nw, wI_nw, wJ_nw, wR_nw] using (J_due I :)) (by simpa [KC, KR, LO, wN_sI, wN_sJ, wN_sR, wL_sI, wL_sJ, wL_sR, wI_sI, wI_sJ, wI_sR, wJ_sI, wJ_sJ, wJ_sR, wR_sI, wR_sJ, wR_sR, wN_nw, wL_nw, wI_nw, wJ_nw, wR_nw] using (J_hol I :)) (by simpa [KC, KR, LO, wN_sI, wN_sJ, wN_sR, wL_sI, wL_sJ, wL_sR, wI_sI, wI_sJ, wI_sR, wJ_sI, wJ_sJ, wJ_sR, wR_sI, wR_sJ, wR_sR, wN_nw, wL_nw, wI_nw, wJ_nw, wR_nw] using (J_lat I :)) (by simpa [KC, KR, LO, wN_sI, wN_sJ, wN_sR, wL_sI, wL_sJ, wL_sR, wI_sI, wI_sJ, wI_sR, wJ_sI, wJ_sJ, wJ_sR, wR_sI, wR_sJ, wR_sR, wN_nw, wL_nw, wI_nw, wJ_nw, wR_nw] using (J_ano I :)) (by simpa [KC, KR, LO, wN_sI, wN_sJ, wN_sR, wL_sI, wL_sJ, wL_sR, wI_sI, wI_sJ, wI_sR, wJ_sI, wJ_sJ, wJ_sR, wR_sI, wR_sJ, wR_sR, wN_nw, wL_nw, wI_nw, wJ_nw, wR_nw] using (J_abk I :)) (by simpa [KC, KR, LO, wN_sI, wN_sJ, wN_sR, wL_sI, wL_sJ, wL_sR, wI_sI, wI_sJ, wI_sR, wJ_sI, wJ_sJ, wJ_sR, wR_sI, wR_sJ, wR_sR, wN_nw, wL_nw, wI_nw, wJ_nw, wR_nw] using (J_anm I :)) (by simpa [KC, KR, LO, wN_sI, wN_sJ, wN_sR, wL_sI, wL_sJ, wL_sR, wI_sI, wI_sJ, wI_sR, wJ_sI, wJ_sJ, wJ_sR, wR_sI, wR_sJ, wR_sR, wN_nw, wL_nw, wI_nw, wJ_nw, wR_nw] using (J_asum I :)) (by simpa [KC, KR, LO, wN_sI, wN_sJ, wN_sR, wL_sI, wL_sJ, wL_sR, wI_sI, wI_sJ, wI_sR, wJ_sI, wJ_sJ, wJ_sR, wR_sI, wR_sJ, wR_sR, wN_nw, wL_nw, wI_nw, wJ_nw, wR_nw] using (J_aov I :)) (by simpa [KC, KR, LO, wN_sI, wN_sJ, wN_sR, wL_sI, wL_sJ, wL_sR, wI_sI, wI_sJ, wI_sR, wJ_sI, wJ_sJ, wJ_sR, wR_sI, wR_sJ, wR_sR, wN_nw, wL_nw, wI_nw, wJ_nw, wR_nw] using (J_ast I :)) (by simpa [KC, KR, LO, wN_sI, wN_sJ, wN_sR, wL_sI, wL_sJ, wL_sR, wI_sI, wI_sJ, wI_sR, wJ_sI, wJ_sJ, wJ_sR, wR_sI, wR_sJ, wR_sR, wN_nw, wL_nw, wI_nw, wJ_nw, wR_nw] using (J_amv I :)) (by simpa [KC, KR, LO, wN_sI, wN_sJ, wN_sR, wL_sI, wL_sJ, wL_sR, wI_sI, wI_sJ, wI_sR, wJ_sI, wJ_sJ, wJ_sR, wR_sI, wR_sJ, wR_sR, wN_nw, wL_nw, wI_nw, wJ_nw, wR_nw] using (J_ano2 I :)) (by simpa [KC, KR, LO, wN_sI, wN_sJ, wN_sR, wL_sI, wL_sJ, wL_sR, wI_sI, wI_sJ, wI_sR, wJ_sI, wJ_sJ, wJ_sR, wR_sI, wR_sJ, wR_sR, wN_nw, wL_nw, wI_nw, wJ_nw, wR_nw] using (J_agd I :)) (by simpa [KC, KR, LO, wN_sI, wN_sJ, wN_sR, wL_sI, wL_sJ, wL_sR, wI_sI, wI_sJ, wI_sR, wJ_sI, wJ_sJ, wJ_sR, wR_sI, wR_sJ, wR_sR, wN_nw, wL_nw, wI_nw, wJ_nw, wR_nw] using (J_akp I :)) (by simpa [KC, KR, LO, wN_sI, wN_sJ, wN_sR, wL_sI, wL_sJ, wL_sR, wI_sI, wI_sJ, wI_sR, wJ_sI, wJ_sJ, wJ_sR, wR_sI, wR_sJ, wR_sR, wN_nw, wL_nw, wI_nw, wJ_nw, wR_nw] using (J_ahs I :)) (by simpa [KC, KR, LO, wN_sI, wN_sJ, wN_sR, wL_sI, wL_sJ, wL_sR, wI_sI, wI_sJ, wI_sR, wJ_sI, wJ_sJ, wJ_sR, wR_sI, wR_sJ, wR_sR, wN_nw, wL_nw, wI_nw, wJ_nw, wR_nw] using (J_afr I :)) (by simpa [KC, KR, LO, wN_sI, wN_sJ, wN_sR, wL_sI, wL_sJ, wL_sR, wI_sI, wI_sJ, wI_sR, wJ_sI, wJ_sJ, wJ_sR, wR_sI, wR_sJ, wR_sR, wN_nw, wL_nw, wI_nw, wJ_nw, wR_nw] using (J_lk I :)) (by simpa [KC, KR, LO, wN_sI, wN_sJ, wN_sR, wL_sI, wL_sJ, wL_sR, wI_sI, wI_sJ, wI_sR, wJ_sI, wJ_sJ, wJ_sR, wR_sI, wR_sJ, wR_sR, wN_nw, wL_nw, wI_nw, wJ_nw, wR_nw] using (J_lft I :)) (by simpa [KC, KR, LO, wN_sI, wN_sJ, wN_sR, wL_sI, wL_sJ, wL_sR, wI_sI, wI_sJ, wI_sR, wJ_sI, wJ_sJ, wJ_sR, wR_sI, wR_sJ, wR_sR, wN_nw, wL_nw, wI_nw, wJ_nw, wR_nw] using (J_lam I :)) (by simpa [KC, KR, LO, wN_sI, wN_sJ, wN_sR, wL_sI, wL_sJ, wL_sR, wI_sI, wI_sJ, wI_sR, wJ_sI, wJ_sJ, wJ_sR, wR_sI, wR_sJ, wR_sR, wN_nw, wL_nw, wI_nw, wJ_nw, wR_nw] using (J_led I :)) (by simpa [KC, KR, LO, wN_sI, wN_sJ, wN_sR, wL_sI, wL_sJ, wL_sR, wI_sI, wI_sJ, wI_sR, wJ_sI, wJ_sJ, wJ_sR, wR_sI, wR_sJ, wR_sR, wN_nw, wL_nw, wI_nw, wJ_nw, wR_nw] using (J_ldn I :)) (by simpa [KC, KR, LO, wN_sI, wN_sJ, wN_sR, wL_sI, wL_sJ, wL_sR, wI_sI, wI_sJ, wI_sR, wJ_sI, wJ_sJ, wJ_sR, wR_sI, wR_sJ, wR_sR, wN_nw, wL_nw, wI_nw, wJ_nw, wR_nw] using (J_lbk I :)) (by simpa [KC, KR, LO, wN_sI, wN_sJ, wN_sR, wL_sI, wL_sJ, wL_sR, wI_sI, wI_sJ, wI_sR, wJ_sI, wJ_sJ, wJ_sR, wR_sI, wR_sJ, wR_sR, wN_nw, wL_nw, wI_nw, wJ_nw, wR_nw] using (J_ldu I :)) (by simpa [KC, KR, LO, wN_sI, wN_sJ, wN_sR, wL_sI, wL_sJ, wL_sR, wI_sI, wI_sJ, wI_sR, wJ_sI, wJ_sJ, wJ_sR, wR_sI, wR_sJ, wR_sR, wN_nw, wL_nw, wI_nw, wJ_nw, wR_nw] using (J_lfr I :)) (by simpa [KC, KR, LO, wN_sI, wN_sJ, wN_sR, wL_sI, wL_sJ, wL_sR, wI_sI, wI_sJ, wI_sR, wJ_sI, wJ_sJ, wJ_sR, wR_sI, wR_sJ, wR_sR, wN_nw, wL_nw, wI_nw, wJ_nw, wR_nw] using (J_mac I :)) (by simpa [KC, KR, LO, wN_sI, wN_sJ, wN_sR, wL_sI, wL_sJ, wL_sR, wI_sI, wI_sJ, wI_sR, wJ_sI, wJ_sJ, wJ_sR, wR_sI, wR_sJ, wR_sR, wN_nw, wL_nw, wI_nw, wJ_nw, wR_nw] using (J_mpt I :)) (by simpa [KC, KR, LO, wN_sI, wN_sJ, wN_sR, wL_sI, wL_sJ, wL_sR, wI_sI, wI_sJ, wI_sR, wJ_sI, wJ_sJ, wJ_sR, wR_sI, wR_sJ, wR_sR, wN_nw, wL_nw, wI_nw, wJ_nw, wR_nw] using (J_mas I :)) (by simpa [KC, KR, LO, wN_sI, wN_sJ, wN_sR, wL_sI, wL_sJ, wL_sR, wI_sI, wI_sJ, wI_sR, wJ_sI, wJ_sJ, wJ_sR, wR_sI, wR_sJ, wR_sR, wN_nw, wL_nw, wI_nw, wJ_nw, wR_nw] using (J_mst I :)) (by simpa [KC, KR, LO, wN_sI, wN_sJ, wN_sR, wL_sI, wL_sJ, wL_sR, wI_sI, wI_sJ, wI_sR, wJ_sI, wJ_sJ, wJ_sR, wR_sI, wR_sJ, wR_sR, wN_nw, wL_nw, wI_nw, wJ_nw, wR_nw] using (J_mgo I :)) (by simpa [KC, KR, LO, wN_sI, wN_sJ, wN_sR, wL_sI, wL_sJ, wL_sR, wI_sI, wI_sJ, wI_sR, wJ_sI, wJ_sJ, wJ_sR, wR_sI, wR_sJ, wR_sR, wN_nw, wL_nw, wI_nw, wJ_nw, wR_nw] using (J_mag I :)) (by simpa [KC, KR, LO, wN_sI, wN_sJ, wN_sR, wL_sI, wL_sJ, wL_sR, wI_sI, wI_sJ, wI_sR, wJ_sI, wJ_sJ, wJ_sR, wR_sI, wR_sJ, wR_sR, wN_nw, wL_nw, wI_nw, wJ_nw, wR_nw] using (J_mwy I :)) (by simpa [KC, KR, LO, wN_sI, wN_sJ, wN_sR, wL_sI, wL_sJ, wL_sR, wI_sI, wI_sJ, wI_sR, wJ_sI, wJ_sJ, wJ_sR, wR_sI, wR_sJ, wR_sR, wN_nw, wL_nw, wI_nw, wJ_nw, wR_nw] using (J_mfa I :)) (by simpa [KC, KR, LO, wN_sI, wN_sJ, wN_sR, wL_sI, wL_sJ, wL_sR, wI_sI, wI_sJ, wI_sR, wJ_sI, wJ_sJ, wJ_sR, wR_sI, wR_sJ, wR_sR, wN_nw, wL_nw, wI_nw, wJ_nw, wR_nw] using (J_mfb I :)) (by simpa [KC, KR, LO, wN_sI, wN_sJ, wN_sR, wL_sI, wL_sJ, wL_sR, wI_sI, wI_sJ, wI_sR, wJ_sI, wJ_sJ, wJ_sR, wR_sI, wR_sJ, wR_sR, wN_nw, wL_nw, wI_nw, wJ_nw, wR_nw] using (J_mop I :)) (by simpa [KC, KR, LO, wN_sI, wN_sJ, wN_sR, wL_sI, wL_sJ, wL_sR, wI_sI, wI_sJ, wI_sR, wJ_sI, wJ_sJ, wJ_sR, wR_sI, wR_sJ, wR_sR, wN_nw, wL_nw, wI_nw, wJ_nw, wR_nw] using (J_mdj I :)) (by simpa [KC, KR, LO, wN_sI, wN_sJ, wN_sR, wL_sI, wL_sJ, wL_sR, wI_sI, wI_sJ, wI_sR, wJ_sI, wJ_sJ, wJ_sR, wR_sI, wR_sJ, wR_sR, wN_nw, wL_nw, wI_nw, wJ_nw, wR_nw] using (J_mfr I :)) (by simpa [KC, KR, LO, wN_sI, wN_sJ, wN_sR, wL_sI, wL_sJ, wL_sR, wI_sI, wI_sJ, wI_sR, wJ_sI, wJ_sJ, wJ_sR, wR_sI, wR_sJ, wR_sR, wN_nw, wL_nw, wI_nw, wJ_nw, wR_nw] using (J_rpf I :)) (by simpa [KC, KR, LO, wN_sI, wN_sJ, wN_sR, wL_sI, wL_sJ, wL_sR, wI_sI, wI_sJ, wI_sR, wJ_sI, wJ_sJ, wJ_sR, wR_sI, wR_sJ, wR_sR, wN_nw, wL_nw, wI_nw, wJ_nw, wR_nw] using (J_rtx I :)) (by
    refine ⟨by simp [wN_sI, wN_sJ, wN_sR, wL_sI, wL_sJ, wL_sR, wI_sI, wI_sJ, wI_sR, wJ_sI, wJ_sJ, wJ_sR, wR_sI, wR_sJ, wR_sR], by simp [wN_sI, wN_sJ, wN_sR, wL_sI, wL_sJ, wL_sR, wI_sI, wI_sJ, wI_sR, wJ_sI, wJ_sJ, wJ_sR, wR_sI, wR_sJ, wR_sR, zib], fun k hk => ?_⟩
    rw [wI_sI, if_pos ⟨rfl, rfl, rfl⟩] at hk
    exact absurd hk (Nat.not_lt_zero _)) (by simpa [KC, KR, LO, wN_sI, wN_sJ, wN_sR, wL_sI, wL_sJ, wL_sR, wI_sI, wI_sJ, wI_sR, wJ_sI, wJ_sJ, wJ_sR, wR_sI, wR_sJ, wR_sR, wN_nw, wL_nw, wI_nw, wJ_nw, wR_nw] using (J_row I :)) (by simpa [KC, KR, LO, wN_sI, wN_sJ, wN_sR, wL_sI, wL_sJ, wL_sR, wI_sI, wI_sJ, wI_sR, wJ_sI, wJ_sJ, wJ_sR, wR_sI, wR_sJ, wR_sR, wN_nw, wL_nw, wI_nw, wJ_nw, wR_nw] using (J_sur I :)) (by simpa [KC, KR, LO, wN_sI, wN_sJ, wN_sR, wL_sI, wL_sJ, wL_sR, wI_sI, wI_sJ, wI_sR, wJ_sI, wJ_sJ, wJ_sR, wR_sI, wR_sJ, wR_sR, wN_nw, wL_nw, wI_nw, wJ_nw, wR_nw] using (J_ref I :))
theorem l_cpy (hr : KR R) {r sz : Nat} (hrl : r < 30) (hsz : sz ≤ 60) (h52 : zI R 40 0 52 = nI r) (x1 x2 : Int32) : ∀ (n i f : Nat) (R1 : zH), i + n = sz → n < f → FX r R R1 → (∀ k, k < i → zI R1 144 0 (60 * r + k) = zI R 157 0 k) → ∃ R2, f_X10_rule_116 f 0 x1 x2 (nI sz) (nI i) R1 = some (nI (r + 1), zsI (zsI (zsI (zsI R2 141 0 r (nI sz)) 142 0 r x1) 143 0 r x2) 40 0 52 (nI (r + 1))) ∧ FX r R R2 ∧ ∀ k, k < sz → zI R2 144 0 (60 * r + k) = zI R 157 0 k := by
  intro n
  induction n with
  | zero =>
    intro i f R1 hi hf F hz
    obtain ⟨f, rfl⟩ : ∃ f', f = f' + 1 := ⟨f - 1, by omega⟩
    have hle : nI sz ≤ nI i := (nJ_le (by omega) (by omega)).mpr (by omega)
    have h1 := F.kr hr
    unfold KR at h1
    have e52 : zI R1 40 0 52 = nI r := (F.1 40 0 52 (by simp)).trans h52
    rw [f_X10_rule_116, if_pos hle]
    have hi' : i = sz := by omega
    subst hi'
    refine ⟨R1, ?_, F, hz⟩
    simp only [h1, e52, wN_sI, wN_sJ, wN_sR, wL_sI, wL_sJ, wL_sR, wI_sI, wI_sJ, wI_sR, wJ_sI, wJ_sJ, wJ_sR, wR_sI, wR_sJ, wR_sR, Option.bind_some, zgd, zlt, zib_nI hrl (show 30 < 2 ^ 31 by decide), if_true, nI_clamp (show r < 2 ^ 31 by omega), show ¬ (40 : Nat) = 141 by decide, show ¬ (40 : Nat) = 142 by decide, show ¬ (40 : Nat) = 143 by decide, false_and, if_false, ← nI_succ, and_self]
  | succ n ih =>
    intro i f R1 hi hf F hz
    obtain ⟨f, rfl⟩ : ∃ f', f = f' + 1 := ⟨f - 1, by omega⟩
    have hle : ¬ nI sz ≤ nI i := fun z => by have := (nJ_le (by omega) (by omega)).mp z; omega
    have h1 := F.kr hr
    unfold KR at h1
    have e52 : zI R1 40 0 52 = nI r := (F.1 40 0 52 (by simp)).trans h52
    have e60 : (60 : Int32) * nI r + nI i = nI (60 * r + i) := by
      rw [show (60 : Int32) * nI r = nI (60 * r) from nJ_mul 60 r, nJ_add]
    rw [f_X10_rule_116, if_neg hle]
    simp only [h1, e52, e60, Option.bind_some, zgd, zlt, zib_nI (show i < 60 by omega) (show 60 < 2 ^ 31 by decide), zib_nI (show 60 * r + i < 1800 by omega) (show 1800 < 2 ^ 31 by decide), if_true, nI_clamp (show i < 2 ^ 31 by omega), nI_clamp (show 60 * r + i < 2 ^ 31 by omega), ← nI_succ]
    refine ih (i + 1) f _ (by omega) (by omega) (F.set (by omega) _) (fun k hk => ?_)
    rw [wI_sI]
    by_cases e : k = i
    · rw [if_pos ⟨rfl, rfl, by rw [e]⟩, e]
      exact F.1 157 0 i (by simp)
    · rw [if_neg (fun z => e (by have := z.2.2; omega))]
      exact hz k (by omega)
end ZRT
