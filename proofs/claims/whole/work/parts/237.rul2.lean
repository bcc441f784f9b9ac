/-! ===== a rule is told: the call ===== -/
abbrev ruW (S : zH) (r n : Nat) (x1 x2 : Int32) : zH := zsR (zsI (zsI (zcpI (znw (znw S 6 0) 25 n) 29 0 25 r n) 6 r 0 x1) 6 r 1 x2) 6 r 2 (some r)
abbrev rrW (S : zH) (r sz : Nat) (x1 x2 : Int32) : zH := zsI (zsI (zsI (zsI S 141 0 r (nI sz)) 142 0 r x1) 143 0 r x2) 40 0 52 (nI (r + 1))
section ZRV
variable {C R : zH}
theorem n_rul (I : Inv C R) {r n sz : Nat} (hr : zN C 6 = r) (hrl : r < 30) (x1 x2 : Int32) (hx : RTx n (fun k => zI C 29 0 k) (nI sz) (fun k => zI R 144 0 (60 * r + k))) : ∀ k, k ≠ 7 → Jv (ruW C r n x1 x2) (rrW R r sz x1 x2) k := by
  have hal := J_al I
  have h25 : zN C 25 = r := by rw [hal.2.2.1, hr]
  obtain ⟨c1, c2, c3, c4⟩ := J_cnt I
  exact Inv_mx13 (by simpa [KC, KR, LO, wN_sI, wN_sJ, wN_sR, wL_sI, wL_sJ, wL_sR, wI_sI, wI_sJ, wI_sR, wJ_sI, wJ_sJ, wJ_sR, wR_sI, wR_sJ, wR_sR, wN_nw, wL_nw, wI_nw, wJ_nw, wR_nw, wN_cp, wL_cp, wI_cp, wJ_cp, wR_cp] using (J_kc I :)) (by simpa [KC, KR, LO, wN_sI, wN_sJ, wN_sR, wL_sI, wL_sJ, wL_sR, wI_sI, wI_sJ, wI_sR, wJ_sI, wJ_sJ, wJ_sR, wR_sI, wR_sJ, wR_sR, wN_nw, wL_nw, wI_nw, wJ_nw, wR_nw, wN_cp, wL_cp, wI_cp, wJ_cp, wR_cp] using (J_kr I :)) (by
    refine ⟨?_, ?_, ?_, ?_⟩
    · simpa [wN_sI, wN_sJ, wN_sR, wL_sI, wL_sJ, wL_sR, wI_sI, wI_sJ, wI_sR, wJ_sI, wJ_sJ, wJ_sR, wR_sI, wR_sJ, wR_sR, wN_nw, wL_nw, wI_nw, wJ_nw, wR_nw, wN_cp, wL_cp, wI_cp, wJ_cp, wR_cp, wN_cp, wL_cp, wI_cp, wJ_cp, wR_cp] using c1
    · simpa [wN_sI, wN_sJ, wN_sR, wL_sI, wL_sJ, wL_sR, wI_sI, wI_sJ, wI_sR, wJ_sI, wJ_sJ, wJ_sR, wR_sI, wR_sJ, wR_sR, wN_nw, wL_nw, wI_nw, wJ_nw, wR_nw, wN_cp, wL_cp, wI_cp, wJ_cp, wR_cp, wN_cp, wL_cp, wI_cp, wJ_cp, wR_cp] using c2
    · simpa [wN_sI, wN_sJ, wN_sR, wL_sI, wL_sJ, wL_sR, wI_sI, wI_sJ, wI_sR, wJ_sI, wJ_sJ, wJ_sR, wR_sI, wR_sJ, wR_sR, wN_nw, wL_nw, wI_nw, wJ_nw, wR_nw, wN_cp, wL_cp, wI_cp, wJ_cp, wR_cp, wN_cp, wL_cp, wI_cp, wJ_cp, wR_cp] using c3
    · simp [wN_sI, wN_sJ, wN_sR, wL_sI, wL_sJ, wL_sR, wI_sI, wI_sJ, wI_sR, wJ_sI, wJ_sJ, wJ_sR, wR_sI, wR_sJ, wR_sR, wN_nw, wL_nw, wI_nw, wJ_nw, wR_nw, wN_cp, wL_cp, wI_cp, wJ_cp, wR_cp, wN_cp, wL_cp, wI_cp, wJ_cp, wR_cp, hr]) (by
    have := J_mx I
    refine ⟨this.1, this.2.1, this.2.2.1, ?_⟩
    show zN C 6 + 1 ≤ 30
    omega) (by simpa [KC, KR, LO, wN_sI, wN_sJ, wN_sR, wL_sI, wL_sJ, wL_sR, wI_sI, wI_sJ, wI_sR, wJ_sI, wJ_sJ, wJ_sR, wR_sI, wR_sJ, wR_sR, wN_nw, wL_nw, wI_nw, wJ_nw, wR_nw, wN_cp, wL_cp, wI_cp, wJ_cp, wR_cp] using (J_la I :)) (by simpa [KC, KR, LO, wN_sI, wN_sJ, wN_sR, wL_sI, wL_sJ, wL_sR, wI_sI, wI_sJ, wI_sR, wJ_sI, wJ_sJ, wJ_sR, wR_sI, wR_sJ, wR_sR, wN_nw, wL_nw, wI_nw, wJ_nw, wR_nw, wN_cp, wL_cp, wI_cp, wJ_cp, wR_cp] using (J_ll I :)) (by simpa [KC, KR, LO, wN_sI, wN_sJ, wN_sR, wL_sI, wL_sJ, wL_sR, wI_sI, wI_sJ, wI_sR, wJ_sI, wJ_sJ, wJ_sR, wR_sI, wR_sJ, wR_sR, wN_nw, wL_nw, wI_nw, wJ_nw, wR_nw, wN_cp, wL_cp, wI_cp, wJ_cp, wR_cp] using (J_lm I :)) (by
    refine ⟨hal.1, hal.2.1, ?_, hal.2.2.2.1, hal.2.2.2.2⟩
    show zN C 25 + 1 = zN C 6 + 1
    rw [hal.2.2.1]) (by simpa [KC, KR, LO, wN_sI, wN_sJ, wN_sR, wL_sI, wL_sJ, wL_sR, wI_sI, wI_sJ, wI_sR, wJ_sI, wJ_sJ, wJ_sR, wR_sI, wR_sJ, wR_sR, wN_nw, wL_nw, wI_nw, wJ_nw, wR_nw, wN_cp, wL_cp, wI_cp, wJ_cp, wR_cp] using (J_bno I :)) (by simpa [KC, KR, LO, wN_sI, wN_sJ, wN_sR, wL_sI, wL_sJ, wL_sR, wI_sI, wI_sJ, wI_sR, wJ_sI, wJ_sJ, wJ_sR, wR_sI, wR_sJ, wR_sR, wN_nw, wL_nw, wI_nw, wJ_nw, wR_nw, wN_cp, wL_cp, wI_cp, wJ_cp, wR_cp] using (J_bfee I :)) (by simpa [KC, KR, LO, wN_sI, wN_sJ, wN_sR, wL_sI, wL_sJ, wL_sR, wI_sI, wI_sJ, wI_sR, wJ_sI, wJ_sJ, wJ_sR, wR_sI, wR_sJ, wR_sR, wN_nw, wL_nw, wI_nw, wJ_nw, wR_nw, wN_cp, wL_cp, wI_cp, wJ_cp, wR_cp] using (J_bcap I :)) (by simpa [KC, KR, LO, wN_sI, wN_sJ, wN_sR, wL_sI, wL_sJ, wL_sR, wI_sI, wI_sJ, wI_sR, wJ_sI, wJ_sJ, wJ_sR, wR_sI, wR_sJ, wR_sR, wN_nw, wL_nw, wI_nw, wJ_nw, wR_nw, wN_cp, wL_cp, wI_cp, wJ_cp, wR_cp] using (J_bow I :)) (by simpa [KC, KR, LO, wN_sI, wN_sJ, wN_sR, wL_sI, wL_sJ, wL_sR, wI_sI, wI_sJ, wI_sR, wJ_sI, wJ_sJ, wJ_sR, wR_sI, wR_sJ, wR_sR, wN_nw, wL_nw, wI_nw, wJ_nw, wR_nw, wN_cp, wL_cp, wI_cp, wJ_cp, wR_cp] using (J_bdid I :)) (by simpa [KC, KR, LO, wN_sI, wN_sJ, wN_sR, wL_sI, wL_sJ, wL_sR, wI_sI, wI_sJ, wI_sR, wJ_sI, wJ_sJ, wJ_sR, wR_sI, wR_sJ, wR_sR, wN_nw, wL_nw, wI_nw, wJ_nw, wR_nw, wN_cp, wL_cp, wI_cp, wJ_cp, wR_cp] using (J_bnet I :)) (by simpa [KC, KR, LO, wN_sI, wN_sJ, wN_sR, wL_sI, wL_sJ, wL_sR, wI_sI, wI_sJ, wI_sR, wJ_sI, wJ_sJ, wJ_sR, wR_sI, wR_sJ, wR_sR, wN_nw, wL_nw, wI_nw, wJ_nw, wR_nw, wN_cp, wL_cp, wI_cp, wJ_cp, wR_cp] using (J_day I :)) (by simpa [KC, KR, LO, wN_sI, wN_sJ, wN_sR, wL_sI, wL_sJ, wL_sR, wI_sI, wI_sJ, wI_sR, wJ_sI, wJ_sJ, wJ_sR, wR_sI, wR_sJ, wR_sR, wN_nw, wL_nw, wI_nw, wJ_nw, wR_nw, wN_cp, wL_cp, wI_cp, wJ_cp, wR_cp] using (J_ngt I :)) (by simpa [KC, KR, LO, wN_sI, wN_sJ, wN_sR, wL_sI, wL_sJ, wL_sR, wI_sI, wI_sJ, wI_sR, wJ_sI, wJ_sJ, wJ_sR, wR_sI, wR_sJ, wR_sR, wN_nw, wL_nw, wI_nw, wJ_nw, wR_nw, wN_cp, wL_cp, wI_cp, wJ_cp, wR_cp] using (J_due I :)) (by simpa [KC, KR, LO, wN_sI, wN_sJ, wN_sR, wL_sI, wL_sJ, wL_sR, wI_sI, wI_sJ, wI_sR, wJ_sI, wJ_sJ, wJ_sR, wR_sI, wR_sJ, wR_sR, wN_nw, wL_nw, wI_nw, wJ_nw, wR_nw, wN_cp, wL_cp, wI_cp, wJ_cp, wR_cp] using (J_hol I :)) (by simpa [KC, KR, LO, wN_sI, wN_sJ, wN_sR, wL_sI, wL_sJ, wL_sR, wI_sI, wI_sJ, wI_sR, wJ_sI, wJ_sJ, wJ_sR, wR_sI, wR_sJ, wR_sR, wN_nw, wL_nw, wI_nw, wJ_nw, wR_nw, wN_cp, wL_cp, wI_cp, wJ_cp, wR_cp] using (J_lat I :)) (by simpa [KC, KR, LO, wN_sI, wN_sJ, wN_sR, wL_sI, wL_sJ, wL_sR, wI_sI, wI_sJ, wI_sR, wJ_sI, wJ_sJ, wJ_sR, wR_sI, wR_sJ, wR_sR, wN_nw, wL_nw, wI_nw, wJ_nw, wR_nw, wN_cp, wL_cp, wI_cp, wJ_cp, wR_cp] using (J_ano I :)) (by simpa [KC, KR, LO, wN_sI, wN_sJ, wN_sR, wL_sI, wL_sJ, wL_sR, wI_sI, wI_sJ, wI_sR, wJ_sI, wJ_sJ, wJ_sR, wR_sI, wR_sJ, wR_sR, wN_nw, wL_nw, wI_nw, wJ_nw, wR_nw, wN_cp, wL_cp, wI_cp, wJ_cp, wR_cp] using (J_abk I :)) (by simpa [KC, KR, LO, wN_sI, wN_sJ, wN_sR, wL_sI, wL_sJ, wL_sR, wI_sI, wI_sJ, wI_sR, wJ_sI, wJ_sJ, wJ_sR, wR_sI, wR_sJ, wR_sR, wN_nw, wL_nw, wI_nw, wJ_nw, wR_nw, wN_cp, wL_cp, wI_cp, wJ_cp, wR_cp] using (J_anm I :)) (by simpa [KC, KR, LO, wN_sI, wN_sJ, wN_sR, wL_sI, wL_sJ, wL_sR, wI_sI, wI_sJ, wI_sR, wJ_sI, wJ_sJ, wJ_sR, wR_sI, wR_sJ, wR_sR, wN_nw, wL_nw, wI_nw, wJ_nw, wR_nw, wN_cp, wL_cp, wI_cp, wJ_cp, wR_cp] using (J_asum I :)) (by simpa [KC, KR, LO, wN_sI, wN_sJ, wN_sR, wL_sI, wL_sJ, wL_sR, wI_sI, wI_sJ, wI_sR, wJ_sI, wJ_sJ, wJ_sR, wR_sI, wR_sJ, wR_sR, wN_nw, wL_nw, wI_nw, wJ_nw, wR_nw, wN_cp, wL_cp, wI_cp, wJ_cp, wR_cp] using (J_aov I :)) (by simpa [KC, KR, LO, wN_sI, wN_sJ, wN_sR, wL_sI, wL_sJ, wL_sR, wI_sI, wI_sJ, wI_sR, wJ_sI, wJ_sJ, wJ_sR, wR_sI, wR_sJ, wR_sR, wN_nw, wL_nw, wI_nw, wJ_nw, wR_nw, wN_cp, wL_cp, wI_cp, wJ_cp, wR_cp] using (J_ast I :)) (by simpa [KC, KR, LO, wN_sI, wN_sJ, wN_sR, wL_sI, wL_sJ, wL_sR, wI_sI, wI_sJ, wI_sR, wJ_sI, wJ_sJ, wJ_sR, wR_sI, wR_sJ, wR_sR, wN_nw, wL_nw, wI_nw, wJ_nw, wR_nw, wN_cp, wL_cp, wI_cp, wJ_cp, wR_cp] using (J_amv I :)) (by simpa [KC, KR, LO, wN_sI, wN_sJ, wN_sR, wL_sI, wL_sJ, wL_sR, wI_sI, wI_sJ, wI_sR, wJ_sI, wJ_sJ, wJ_sR, wR_sI, wR_sJ, wR_sR, wN_nw, wL_nw, wI_nw, wJ_nw, wR_nw, wN_cp, wL_cp, wI_cp, wJ_cp, wR_cp] using (J_ano2 I :)) (by simpa [KC, KR, LO, wN_sI, wN_sJ, wN_sR, wL_sI, wL_sJ, wL_sR, wI_sI, wI_sJ, wI_sR, wJ_sI, wJ_sJ, wJ_sR, wR_sI, wR_sJ, wR_sR, wN_nw, wL_nw, wI_nw, wJ_nw, wR_nw, wN_cp, wL_cp, wI_cp, wJ_cp, wR_cp] using (J_agd I :)) (by simpa [KC, KR, LO, wN_sI, wN_sJ, wN_sR, wL_sI, wL_sJ, wL_sR, wI_sI, wI_sJ, wI_sR, wJ_sI, wJ_sJ, wJ_sR, wR_sI, wR_sJ, wR_sR, wN_nw, wL_nw, wI_nw, wJ_nw, wR_nw, wN_cp, wL_cp, wI_cp, wJ_cp, wR_cp] using (J_akp I :)) (by simpa [KC, KR, LO, wN_sI, wN_sJ, wN_sR, wL_sI, wL_sJ, wL_sR, wI_sI, wI_sJ, wI_sR, wJ_sI, wJ_sJ, wJ_sR, wR_sI, wR_sJ, wR_sR, wN_nw, wL_nw, wI_nw, wJ_nw, wR_nw, wN_cp, wL_cp, wI_cp, wJ_cp, wR_cp] using (J_ahs I :)) (by simpa [KC, KR, LO, wN_sI, wN_sJ, wN_sR, wL_sI, wL_sJ, wL_sR, wI_sI, wI_sJ, wI_sR, wJ_sI, wJ_sJ, wJ_sR, wR_sI, wR_sJ, wR_sR, wN_nw, wL_nw, wI_nw, wJ_nw, wR_nw, wN_cp, wL_cp, wI_cp, wJ_cp, wR_cp] using (J_afr I :)) (by simpa [KC, KR, LO, wN_sI, wN_sJ, wN_sR, wL_sI, wL_sJ, wL_sR, wI_sI, wI_sJ, wI_sR, wJ_sI, wJ_sJ, wJ_sR, wR_sI, wR_sJ, wR_sR, wN_nw, wL_nw, wI_nw, wJ_nw, wR_nw, wN_cp, wL_cp, wI_cp, wJ_cp, wR_cp] using (J_lk I :)) (by simpa [KC, KR, LO, wN_sI, wN_sJ, wN_sR, wL_sI, wL_sJ, wL_sR, wI_sI, wI_sJ, wI_sR, wJ_sI, wJ_sJ, wJ_sR, wR_sI, wR_sJ, wR_sR, wN_nw, wL_nw, wI_nw, wJ_nw, wR_nw, wN_cp, wL_cp, wI_cp, wJ_cp, wR_cp] using (J_lft I :)) (by simpa [KC, KR, LO, wN_sI, wN_sJ, wN_sR, wL_sI, wL_sJ, wL_sR, wI_sI, wI_sJ, wI_sR, wJ_sI, wJ_sJ, wJ_sR, wR_sI, wR_sJ, wR_sR, wN_nw, wL_nw, wI_nw, wJ_nw, wR_nw, wN_cp, wL_cp, wI_cp, wJ_cp, wR_cp] using (J_lam I :)) (by simpa [KC, KR, LO, wN_sI, wN_sJ, wN_sR, wL_sI, wL_sJ, wL_sR, wI_sI, wI_sJ, wI_sR, wJ_sI, wJ_sJ, wJ_sR, wR_sI, wR_sJ, wR_sR, wN_nw, wL_nw, wI_nw, wJ_nw, wR_nw, wN_cp, wL_cp, wI_cp, wJ_cp, wR_cp] using (J_led I :)) (by simpa [KC, KR, LO, wN_sI, wN_sJ, wN_sR, wL_sI, wL_sJ, wL_sR, wI_sI, wI_sJ, wI_sR, wJ_sI, wJ_sJ, wJ_sR, wR_sI, wR_sJ, wR_sR, wN_nw, wL_nw, wI_nw, wJ_nw, wR_nw, wN_cp, wL_cp, wI_cp, wJ_cp, wR_cp] using (J_ldn I :)) (by simpa [KC, KR, LO, wN_sI, wN_sJ, wN_sR, wL_sI, wL_sJ, wL_sR, wI_sI, wI_sJ, wI_sR, wJ_sI, wJ_sJ, wJ_sR, wR_sI, wR_sJ, wR_sR, wN_nw, wL_nw, wI_nw, wJ_nw, wR_nw, wN_cp, wL_cp, wI_cp, wJ_cp, wR_cp] using (J_lbk I :)) (by simpa [KC, KR, LO, wN_sI, wN_sJ, wN_sR, wL_sI, wL_sJ, wL_sR, wI_sI, wI_sJ, wI_sR, wJ_sI, wJ_sJ, wJ_sR, wR_sI, wR_sJ, wR_sR, wN_nw, wL_nw, wI_nw, wJ_nw, wR_nw, wN_cp, wL_cp, wI_cp, wJ_cp, wR_cp] using (J_ldu I :)) (by simpa [KC, KR, LO, wN_sI, wN_sJ, wN_sR, wL_sI, wL_sJ, wL_sR, wI_sI, wI_sJ, wI_sR, wJ_sI, wJ_sJ, wJ_sR, wR_sI, wR_sJ, wR_sR, wN_nw, wL_nw, wI_nw, wJ_nw, wR_nw, wN_cp, wL_cp, wI_cp, wJ_cp, wR_cp] using (J_lfr I :)) (by simpa [KC, KR, LO, wN_sI, wN_sJ, wN_sR, wL_sI, wL_sJ, wL_sR, wI_sI, wI_sJ, wI_sR, wJ_sI, wJ_sJ, wJ_sR, wR_sI, wR_sJ, wR_sR, wN_nw, wL_nw, wI_nw, wJ_nw, wR_nw, wN_cp, wL_cp, wI_cp, wJ_cp, wR_cp] using (J_mac I :)) (by simpa [KC, KR, LO, wN_sI, wN_sJ, wN_sR, wL_sI, wL_sJ, wL_sR, wI_sI, wI_sJ, wI_sR, wJ_sI, wJ_sJ, wJ_sR, wR_sI, wR_sJ, wR_sR, wN_nw, wL_nw, wI_nw, wJ_nw, wR_nw, wN_cp, wL_cp, wI_cp, wJ_cp, wR_cp] using (J_mpt I :)) (by simpa [KC, KR, LO, wN_sI, wN_sJ, wN_sR, wL_sI, wL_sJ, wL_sR, wI_sI, wI_sJ, wI_sR, wJ_sI, wJ_sJ, wJ_sR, wR_sI, wR_sJ, wR_sR, wN_nw, wL_nw, wI_nw, wJ_nw, wR_nw, wN_cp, wL_cp, wI_cp, wJ_cp, wR_cp] using (J_mas I :)) (by simpa [KC, KR, LO, wN_sI, wN_sJ, wN_sR, wL_sI, wL_sJ, wL_sR, wI_sI, wI_sJ, wI_sR, wJ_sI, wJ_sJ, wJ_sR, wR_sI, wR_sJ, wR_sR, wN_nw, wL_nw, wI_nw, wJ_nw, wR_nw, wN_cp, wL_cp, wI_cp, wJ_cp, wR_cp] using (J_mst I :)) (by simpa [KC, KR, LO, wN_sI, wN_sJ, wN_sR, wL_sI, wL_sJ, wL_sR, wI_sI, wI_sJ, wI_sR, wJ_sI, wJ_sJ, wJ_sR, wR_sI, wR_sJ, wR_sR, wN_nw, wL_nw, wI_nw, wJ_nw, wR_nw, wN_cp, wL_cp, wI_cp, wJ_cp, wR_cp] using (J_mgo I :)) (by simpa [KC, KR, LO, wN_sI, wN_sJ, wN_sR, wL_sI, wL_sJ, wL_sR, wI_sI, wI_sJ, wI_sR, wJ_sI, wJ_sJ, wJ_sR, wR_sI, wR_sJ, wR_sR, wN_nw, wL_nw, wI_nw, wJ_nw, wR_nw, wN_cp, wL_cp, wI_cp, wJ_cp, wR_cp] using (J_mag I :)) (by simpa [KC, KR, LO, wN_sI, wN_sJ, wN_sR, wL_sI, wL_sJ, wL_sR, wI_sI, wI_sJ, wI_sR, wJ_sI, wJ_sJ, wJ_sR, wR_sI, wR_sJ, wR_sR, wN_nw, wL_nw, wI_nw, wJ_nw, wR_nw, wN_cp, wL_cp, wI_cp, wJ_cp, wR_cp] using (J_mwy I :)) (by simpa [KC, KR, LO, wN_sI, wN_sJ, wN_sR, wL_sI, wL_sJ, wL_sR, wI_sI, wI_sJ, wI_sR, wJ_sI, wJ_sJ, wJ_sR, wR_sI, wR_sJ, wR_sR, wN_nw, wL_nw, wI_nw, wJ_nw, wR_nw, wN_cp, wL_cp, wI_cp, wJ_cp, wR_cp] using (J_mfa I :)) (by simpa [KC, KR, LO, wN_sI, wN_sJ, wN_sR, wL_sI, wL_sJ, wL_sR, wI_sI, wI_sJ, wI_sR, wJ_sI, wJ_sJ, wJ_sR, wR_sI, wR_sJ, wR_sR, wN_nw, wL_nw, wI_nw, wJ_nw, wR_nw, wN_cp, wL_cp, wI_cp, wJ_cp, wR_cp] using (J_mfb I :)) (by simpa [KC, KR, LO, wN_sI, wN_sJ, wN_sR, wL_sI, wL_sJ, wL_sR, wI_sI, wI_sJ, wI_sR, wJ_sI, wJ_sJ, wJ_sR, wR_sI, wR_sJ, wR_sR, wN_nw, wL_nw, wI_nw, wJ_nw, wR_nw, wN_cp, wL_cp, wI_cp, wJ_cp, wR_cp] using (J_mop I :)) (by simpa [KC, KR, LO, wN_sI, wN_sJ, wN_sR, wL_sI, wL_sJ, wL_sR, wI_sI, wI_sJ, wI_sR, wJ_sI, wJ_sJ, wJ_sR, wR_sI, wR_sJ, wR_sR, wN_nw, wL_nw, wI_nw, wJ_nw, wR_nw, wN_cp, wL_cp, wI_cp, wJ_cp, wR_cp] using (J_mdj I :)) (by simpa [KC, KR, LO, wN_sI, wN_sJ, wN_sR, wL_sI, wL_sJ, wL_sR, wI_sI, wI_sJ, wI_sR, wJ_sI, wJ_sJ, wJ_sR, wR_sI, wR_sJ, wR_sR, wN_nw, wL_nw, wI_nw, wJ_nw, wR_nw, wN_cp, wL_cp, wI_cp, wJ_cp, wR_cp] using (J_mfr I :)) (by
    intro i hi
    have hi : i < zN C 6 + 1 := hi
    by_cases e : i = r
    · subst e
      simp [wN_sI, wN_sJ, wN_sR, wL_sI, wL_sJ, wL_sR, wI_sI, wI_sJ, wI_sR, wJ_sI, wJ_sJ, wJ_sR, wR_sI, wR_sJ, wR_sR, wN_nw, wL_nw, wI_nw, wJ_nw, wR_nw, wN_cp, wL_cp, wI_cp, wJ_cp, wR_cp, wN_cp, wL_cp, wI_cp, wJ_cp, wR_cp]
    · have := J_rpf I i (by omega)
      have e2 : ¬ i = zN C 6 := by rw [hr]; exact e
      simpa [wN_sI, wN_sJ, wN_sR, wL_sI, wL_sJ, wL_sR, wI_sI, wI_sJ, wI_sR, wJ_sI, wJ_sJ, wJ_sR, wR_sI, wR_sJ, wR_sR, wN_nw, wL_nw, wI_nw, wJ_nw, wR_nw, wN_cp, wL_cp, wI_cp, wJ_cp, wR_cp, wN_cp, wL_cp, wI_cp, wJ_cp, wR_cp, e, e2] using this) (by
    intro i hi
    have hi : i < zN C 6 + 1 := hi
    by_cases e : i = r
    · subst e
      have e1 : zL (ruW C i n x1 x2) 25 i = n := by simp [wN_sI, wN_sJ, wN_sR, wL_sI, wL_sJ, wL_sR, wI_sI, wI_sJ, wI_sR, wJ_sI, wJ_sJ, wJ_sR, wR_sI, wR_sJ, wR_sR, wN_nw, wL_nw, wI_nw, wJ_nw, wR_nw, wN_cp, wL_cp, wI_cp, wJ_cp, wR_cp, wN_cp, wL_cp, wI_cp, wJ_cp, wR_cp, h25]
      have e2 : zI (rrW R i sz x1 x2) 141 0 i = nI sz := by simp [wN_sI, wN_sJ, wN_sR, wL_sI, wL_sJ, wL_sR, wI_sI, wI_sJ, wI_sR, wJ_sI, wJ_sJ, wJ_sR, wR_sI, wR_sJ, wR_sR, wN_nw, wL_nw, wI_nw, wJ_nw, wR_nw, wN_cp, wL_cp, wI_cp, wJ_cp, wR_cp, wN_cp, wL_cp, wI_cp, wJ_cp, wR_cp]
      rw [e1, e2]
      refine hx.congr (fun k hk => ?_) (fun j hj => ?_)
      · simp [wN_sI, wN_sJ, wN_sR, wL_sI, wL_sJ, wL_sR, wI_sI, wI_sJ, wI_sR, wJ_sI, wJ_sJ, wJ_sR, wR_sI, wR_sJ, wR_sR, wN_nw, wL_nw, wI_nw, wJ_nw, wR_nw, wN_cp, wL_cp, wI_cp, wJ_cp, wR_cp, wN_cp, wL_cp, wI_cp, wJ_cp, wR_cp]
      · simp [wN_sI, wN_sJ, wN_sR, wL_sI, wL_sJ, wL_sR, wI_sI, wI_sJ, wI_sR, wJ_sI, wJ_sJ, wJ_sR, wR_sI, wR_sJ, wR_sR, wN_nw, wL_nw, wI_nw, wJ_nw, wR_nw, wN_cp, wL_cp, wI_cp, wJ_cp, wR_cp, wN_cp, wL_cp, wI_cp, wJ_cp, wR_cp, hj]
    · have := J_rtx I i (by omega)
      have e2 : ¬ i = zN C 25 := by rw [h25]; exact e
      simpa [wN_sI, wN_sJ, wN_sR, wL_sI, wL_sJ, wL_sR, wI_sI, wI_sJ, wI_sR, wJ_sI, wJ_sJ, wJ_sR, wR_sI, wR_sJ, wR_sR, wN_nw, wL_nw, wI_nw, wJ_nw, wR_nw, wN_cp, wL_cp, wI_cp, wJ_cp, wR_cp, wN_cp, wL_cp, wI_cp, wJ_cp, wR_cp, e, e2] using this) (by simpa [KC, KR, LO, wN_sI, wN_sJ, wN_sR, wL_sI, wL_sJ, wL_sR, wI_sI, wI_sJ, wI_sR, wJ_sI, wJ_sJ, wJ_sR, wR_sI, wR_sJ, wR_sR, wN_nw, wL_nw, wI_nw, wJ_nw, wR_nw, wN_cp, wL_cp, wI_cp, wJ_cp, wR_cp] using (J_tap I :)) (by simpa [KC, KR, LO, wN_sI, wN_sJ, wN_sR, wL_sI, wL_sJ, wL_sR, wI_sI, wI_sJ, wI_sR, wJ_sI, wJ_sJ, wJ_sR, wR_sI, wR_sJ, wR_sR, wN_nw, wL_nw, wI_nw, wJ_nw, wR_nw, wN_cp, wL_cp, wI_cp, wJ_cp, wR_cp] using (J_row I :)) (by simpa [KC, KR, LO, wN_sI, wN_sJ, wN_sR, wL_sI, wL_sJ, wL_sR, wI_sI, wI_sJ, wI_sR, wJ_sI, wJ_sJ, wJ_sR, wR_sI, wR_sJ, wR_sR, wN_nw, wL_nw, wI_nw, wJ_nw, wR_nw, wN_cp, wL_cp, wI_cp, wJ_cp, wR_cp] using (J_sur I :)) (by simpa [KC, KR, LO, wN_sI, wN_sJ, wN_sR, wL_sI, wL_sJ, wL_sR, wI_sI, wI_sJ, wI_sR, wJ_sI, wJ_sJ, wJ_sR, wR_sI, wR_sJ, wR_sR, wN_nw, wL_nw, wI_nw, wJ_nw, wR_nw, wN_cp, wL_cp, wI_cp, wJ_cp, wR_cp] using (J_ref I :))
theorem t_rule (I : Inv C R) (x1 x2 : Int32) : TT (f_X9_rule 0 x1 x2 C) (f_X10_rule 0 x1 x2 R) := by
  have hk := J_kc I
  have hr := J_kr I
  unfold KC at hk
  unfold KR at hr
  obtain ⟨d1, d2⟩ := J_day I
  have hmx := (J_mx I).2.2.2
  have hc := (J_cnt I).2.2.2
  have hsz := (J_lr I).size
  have eI : f_X10_isIn x1 4 R = _ := e_isIn x1 (n := 4) (by decide) R
  unfold f_X9_rule f_X10_rule
  rw [eI, e_wit]
  by_cases h : zib x1 4 = true
  · have q0 : ¬ x1 < 0 := (zib_ex h).2
    have q1 : x1 ≤ 3 := by
      rw [← nI_rd q0]
      exact (nJ_le (b := 3) rd_lt (by decide)).mpr (by have := (zib_ex h).1; omega)
    simp only [q0, q1, h, hk, Option.bind_some, if_true, if_false, show ¬ (1 : Int32) = 0 by decide, d1, f_X6_size, hsz]
    unfold ow
    by_cases h2 : zI R 40 0 46 ≤ x2
    · simp only [h2, if_true]
      by_cases h3 : 1500 < x2
      · simp only [h3, if_true, if_neg (Int32.not_le.mpr h3), show ¬ (-6 : Int32) = 0 by decide, if_false, f_X10_rule_43]
        exact t_refB I (by decide)
      simp only [h3, if_false, if_pos (Int32.not_lt.mp h3), if_true]
      by_cases h4 : zN C 6 = 30
      · simp only [hc, h4, show nI 30 = 30 from rfl, show ¬ (30 : Int32) < 30 by decide, if_true, if_false, f_X10_rule_43, show ¬ (-6 : Int32) = 0 by decide]
        exact t_refB I (by decide)
      have hrl : zN C 6 < 30 := by omega
      have e1 : nI (zN C 6) < 30 := (nJ_lt (b := 30) (by omega) (by decide)).mpr hrl
      have e2 : ¬ nI (zN C 6) = 30 := fun z => h4 ((nI_inj (b := 30) (by omega) (by decide)).mp z)
      simp only [hc, e1, e2, if_true, if_false]
      obtain ⟨p1, p2, p3⟩ := J_tap I
      have z59 := zib_ex p2
      have n59 := nI_rd z59.2
      generalize hS : (zI R 40 0 59).toNatClampNeg = sz at *
      have t : TC C (fun k => zI R 157 0 k) sz := by
        refine ⟨by simp only [hk], by simp only [hk], by simp only [hk], by simp only [hk], by rw [p1, n59], by omega, fun k hk => (p3 k hk).1⟩
      have hb : ∀ k, k < sz → zib ((fun k => zI R 157 0 k) k) 256 = true := fun k hk => (p3 k hk).2
      obtain ⟨v, R1, g1, g2, g3, g4, g5⟩ := e_tape (J_kr I) (sz := sz) (by omega)
      have hg := hSum_good (tx := fun k => zI R 157 0 k) (hUnit_good (tx := fun k => zI R 157 0 k) (sz := sz) 5) 0 (Nat.zero_le _)
      change 0 ≤ (hAll (fun k => zI R 157 0 k) sz).2.1 ∧ (hAll (fun k => zI R 157 0 k) sz).2.1 ≤ sz ∧ ((hAll (fun k => zI R 157 0 k) sz).1 = true → 0 < (hAll (fun k => zI R 157 0 k) sz).2.1 ∧ (hAll (fun k => zI R 157 0 k) sz).2.2.length % 2 = 1 ∧ (hAll (fun k => zI R 157 0 k) sz).2.2.length ≤ (hAll (fun k => zI R 157 0 k) sz).2.1 - 0) at hg
      have h59 : zI R1 40 0 59 = nI sz := (g2.1 40 0 59 (by decide) (by decide)).trans n59.symm
      unfold f_X10_rule_43
      rw [if_pos rfl, ← n59, g1, Option.bind_some]
      by_cases ok : (hAll (fun k => zI R 157 0 k) sz).1 = true ∧ (hAll (fun k => zI R 157 0 k) sz).2.1 = sz
      · obtain ⟨C1, e3, e4⟩ := (e_read t hb).1 ok
        have I2 := t_wipe (Inv_SC (Inv_SR I g2) e4.1.sc)
        obtain ⟨g6, g7, g8⟩ := hg.2.2 ok.1
        have hk2 := J_kc I2
        unfold KC at hk2
        have hk1 := e4.1.sc.kc (J_kc I)
        unfold KC at hk1
        simp only [e3, Option.bind_some, f_X8_wipe, zlt, hk1, if_true, g3 ok.1, show ¬ (1 : Int32) = 0 by decide, if_false, g5, ok.2, h59, f_X10_rule_87]
        have hN : zN (zsI C1 8 0 1 0) 6 = zN C 6 := e4.1.2.2.2.1 6
        have c52 : zI (zsI R1 40 0 59 0) 40 0 52 = nI (zN C 6) := by rw [(J_cnt I2).2.2.2, hN]
        obtain ⟨R3, r1, r2, r3⟩ := l_cpy (J_kr I2) (r := zN C 6) (sz := sz) hrl (by omega) c52 x1 x2 sz 0 fu _ (by omega) (by unfold fu; omega) FX.rf (fun k hk => absurd hk (Nat.not_lt_zero _))
        rw [show f_X10_rule_116 fu 0 x1 x2 (nI sz) 0 (zsI R1 40 0 59 0) = _ from r1]
        have I3 : Inv (zsI C1 8 0 1 0) R3 := by
          refine Inv_FX I2 r2 (fun r hr => ?_)
          have x := J_rtx I2 r hr
          rw [hN] at hr
          rw [r2.1 141 0 r (by simp)]
          refine x.congr (fun k hk => ?_) (fun j hj => rfl)
          have := (zib_ex x.1).1
          exact (r2.1 144 0 (60 * r + k) (fun z => by have := z.2; omega)).symm
        have hlen : (hAll (fun k => zI R 157 0 k) sz).2.2.length < 60 := by omega
        have h25 : zN (zsI C1 8 0 1 0) 25 = zN C 6 := by rw [(J_al I2).2.2.1, hN]
        generalize hn : (hAll (fun k => zI R 157 0 k) sz).2.2.length = n at *
        have hx : RTx n (fun k => zI (zsI C1 8 0 1 0) 29 0 k) (nI sz) (fun k => zI R3 144 0 (60 * zN C 6 + k)) := by
          have base : RTx n (fun k => zI (zsI C1 8 0 1 0) 29 0 k) (nI sz) (fun k => zI R 157 0 k) := by
            refine ⟨zib_nI (by omega) (by decide), ?_, ?_, ?_, ?_, ?_⟩
            · rw [nI_clamp (by omega)]
              exact fun k hk => (p3 k hk).2
            · rw [nI_clamp (by omega)]
              exact ok.1
            · rw [nI_clamp (by omega)]
              exact ok.2
            · rw [nI_clamp (by omega)]
              exact hn
            · rw [nI_clamp (by omega)]
              intro j hj
              rw [e4.2.2.2.2.2 j (by omega)]
              simp [wI_sI]
          refine base.congr (fun k hk => ?_) (fun j hj => rfl)
          rw [nI_clamp (by omega)] at hk
          show zI R 157 0 k = zI R3 144 0 (60 * zN C 6 + k)
          rw [r3 k hk]
          simp only [wI_sI, show ¬ (157 : Nat) = 40 by decide, false_and, if_false]
          exact (g2.1 157 0 k (by decide) (by simp)).symm
        have H := n_rul I3 (r := zN C 6) (n := n) (sz := sz) hN hrl x1 x2 hx
        obtain ⟨a, l1, l2, l3, l4, l5, l6, l7⟩ := J_lr I3
        have hl0 : LO (ruW (zsI C1 8 0 1 0) (zN C 6) n x1 x2) 13 (zN C 6) := by
          rw [← hN]
          exact ⟨a, l1, l2, l3, l4, l5, l6, l7⟩
        obtain ⟨C', y1, y2, y3⟩ := hl0.add (by omega)
        have hsize : zI C1 8 0 5 = nI n := by rw [e4.2.2.2.1, hn]
        have hcr : f_X8_codeRead 0 (znw (zsI C1 8 0 1 0) 6 0) = some (some (zN C 6), zcpI (znw (znw (zsI C1 8 0 1 0) 6 0) 25 n) 29 0 25 (zN C 6) n) := by
          have a1 : zR (znw (zsI C1 8 0 1 0) 6 0) 8 0 4 = some 0 := by simpa [wN_sI, wN_sJ, wN_sR, wL_sI, wL_sJ, wL_sR, wI_sI, wI_sJ, wI_sR, wJ_sI, wJ_sJ, wJ_sR, wR_sI, wR_sJ, wR_sR, wN_nw, wL_nw, wI_nw, wJ_nw, wR_nw] using (show zR C1 8 0 4 = some 0 by simp only [hk1])
          have a2 : zI (znw (zsI C1 8 0 1 0) 6 0) 8 0 5 = nI n := by simpa [wN_sI, wN_sJ, wN_sR, wL_sI, wL_sJ, wL_sR, wI_sI, wI_sJ, wI_sR, wJ_sI, wJ_sJ, wJ_sR, wR_sI, wR_sJ, wR_sR, wN_nw, wL_nw, wI_nw, wJ_nw, wR_nw] using hsize
          have a3 : zL (znw (zsI C1 8 0 1 0) 6 0) 29 0 = 60 := by simpa [wN_sI, wN_sJ, wN_sR, wL_sI, wL_sJ, wL_sR, wI_sI, wI_sJ, wI_sR, wJ_sI, wJ_sJ, wJ_sR, wR_sI, wR_sJ, wR_sR, wN_nw, wL_nw, wI_nw, wJ_nw, wR_nw] using (show zL C1 29 0 = 60 by simp only [hk1])
          have a4 : zN (znw (zsI C1 8 0 1 0) 6 0) 25 = zN C 6 := h25
          have a5 : (0 : Int32) < nI n := (nJ_lt (a := 0) (by decide) (by omega)).mpr (by omega)
          unfold f_X8_codeRead za_copy
          rw [a1, a2, if_pos a5]
          simp only [Option.bind_some, a3, a4, zgd, zib_nI hlen (show 60 < 2 ^ 31 by decide), a5, decide_true, Bool.and_self, Nat.le_refl, if_true, nI_clamp (show n < 2 ^ 31 by omega)]
        have k0 : ∀ q, zR (znw (zsI C1 8 0 1 0) 6 0) 0 0 q = zR C1 0 0 q := fun q => by simp [wN_sI, wN_sJ, wN_sR, wL_sI, wL_sJ, wL_sR, wI_sI, wI_sJ, wI_sR, wJ_sI, wJ_sJ, wJ_sR, wR_sI, wR_sJ, wR_sR, wN_nw, wL_nw, wI_nw, wJ_nw, wR_nw]
        have k7 : zR (ruW (zsI C1 8 0 1 0) (zN C 6) n x1 x2) 7 0 0 = some 0 := by
          simpa [wN_sI, wN_sJ, wN_sR, wL_sI, wL_sJ, wL_sR, wI_sI, wI_sJ, wI_sR, wJ_sI, wJ_sJ, wJ_sR, wR_sI, wR_sJ, wR_sR, wN_nw, wL_nw, wI_nw, wJ_nw, wR_nw, wN_cp, wL_cp, wI_cp, wJ_cp, wR_cp] using (show zR C1 7 0 0 = some 0 by simp only [hk1])
        have k7' : zR C' 7 0 0 = some 0 := (y3.2.2.1 7 0 0 (by decide) (by decide)).trans k7
        have hi5 : f_X5_init (zN C 6) x1 x2 (some (zN C 6)) (zcpI (znw (znw (zsI C1 8 0 1 0) 6 0) 25 n) 29 0 25 (zN C 6) n) = some (ruW (zsI C1 8 0 1 0) (zN C 6) n x1 x2) := rfl
        have k05 : zR (zsI C1 8 0 1 0) 0 0 5 = some 0 := by simpa [wN_sI, wN_sJ, wN_sR, wL_sI, wL_sJ, wL_sR, wI_sI, wI_sJ, wI_sR, wJ_sI, wJ_sJ, wJ_sR, wR_sI, wR_sJ, wR_sR, wN_nw, wL_nw, wI_nw, wJ_nw, wR_nw] using (show zR C1 0 0 5 = some 0 by simp only [hk1])
        simp only [k0, hk1, Option.bind_some, hcr, hN, hi5, k05, f_X6_add, k7, y1, k7', y2.size]
        refine TT.mk rfl ?_
        refine Inv_ls13 (C := ruW (zsI C1 8 0 1 0) (zN C 6) n x1 x2) H ?_ y3
        have : zN (ruW (zsI C1 8 0 1 0) (zN C 6) n x1 x2) 6 = zN C 6 + 1 := by
          show zN (zsI C1 8 0 1 0) 6 + 1 = _
          rw [hN]
        rw [this]
        exact y2
      · obtain ⟨C1, e3, e4⟩ := (e_read t hb).2 ok
        have I2 := t_wipe (Inv_SC (Inv_SR I g2) e4.1.sc)
        have hk1 := e4.1.sc.kc (J_kc I)
        unfold KC at hk1
        have h9 : ¬ nI (hAll (fun k => zI R 157 0 k) sz).2.1 = -9 := nI_n9 (by omega)
        simp only [e3, Option.bind_some, f_X8_wipe, zlt, hk1, h9, if_false]
        have e60 : zI (zsI R1 40 0 59 0) 40 0 60 = nI (hAll (fun k => zI R 157 0 k) sz).2.1 := by
          rw [wI_sI, if_neg (by decide), g5]
        have fin : f_X10_rule_87 0 x1 x2 0 R1 = some (-20 - nI (hAll (fun k => zI R 157 0 k) sz).2.1, zsI R1 40 0 59 0) := by
          unfold f_X10_rule_87
          simp only [zlt, if_true, e60]
        by_cases w : (hAll (fun k => zI R 157 0 k) sz).1 = true
        · have hne : ¬ nI (hAll (fun k => zI R 157 0 k) sz).2.1 = nI sz := fun z => ok ⟨w, (nI_inj (by omega) (by omega)).mp z⟩
          simp only [g3 w, show ¬ (1 : Int32) = 0 by decide, if_false, g5, h59, hne, fin]
          exact TT.mk rfl I2
        · simp only [g4 w, if_true, fin]
          exact TT.mk rfl I2
    · simp only [h2, if_false, show ¬ (-4 : Int32) = 0 by decide, f_X10_rule_43]
      exact t_refB I (by decide)
  · by_cases q0 : x1 < 0
    · simp only [q0, h, if_true, if_false, Option.bind_some]
      exact t_refB I (by decide)
    · have q1 : ¬ x1 ≤ 3 := fun z => h (zib_of q0 (by
        have := rd_le q0 z
        have e : (3 : Int32).toNatClampNeg = 3 := by decide
        omega))
      simp only [q0, q1, h, if_true, if_false, Option.bind_some]
      exact t_refB I (by decide)
end ZRV
