/-! ===== an account is made ===== -/
abbrev acW (S : zH) (n b : Nat) (nm jt day : Int32) : zH := zsR (znw (zsI (zsI (zsI (zsR (zsI S 3 n 0 (nI n)) 3 n 1 (some b)) 3 n 2 nm) 3 n 3 jt) 3 n 4 day) 23 (1500 - day.toNatClampNeg)) 3 n 5 (some (zN S 23))
theorem e_acI {S : zH} {n b : Nat} {nm jt day : Int32} (hd : zib day 1501 = true) : f_X0_init n (nI n) (some b) nm jt day S = some (acW S n b nm jt day) := by
  have q := zib_ex hd
  have e := nI_rd q.2
  unfold f_X0_init
  simp only [zlt]
  by_cases h : 1500 ≤ day
  · have : day.toNatClampNeg = 1500 := by
      rw [← e] at h
      have := (nJ_le (a := 1500) (by decide) rd_lt).mp h
      omega
    rw [if_pos h]
    unfold acW
    rw [this]
    rfl
  · have hs : 1500 - day = nI (1500 - day.toNatClampNeg) := by
      have : nI 1500 - nI day.toNatClampNeg = nI (1500 - day.toNatClampNeg) := nJ_sub (by omega)
      rw [e] at this
      exact this
    rw [if_neg h, hs, zib_nI (by omega) (by decide), nI_clamp (by omega)]
    rfl
abbrev opW (S : zH) (n : Nat) (x nm jt : Int32) (c : Int32) : zH := zsI (zsI (zsI (zsI (zsI (zsI S 110 0 n x) 111 0 n nm) 112 0 n jt) 115 0 n (-9)) 116 0 n (-9)) 40 0 49 c
theorem e_ops {S : zH} (hr : KR S) {n : Nat} (hn : n < 40) (hc : zI S 40 0 49 = nI n) (x nm jt : Int32) : f_X10_opens 0 x nm jt S = some (nI n, opW S n x nm jt (nI (n + 1))) := by
  unfold KR at hr
  unfold f_X10_opens
  simp only [hc, hr, zN_sI, zN_sJ, zN_sR, zL_sI, zL_sJ, zL_sR, zI_sI, zI_sJ, zI_sR, zJ_sI, zJ_sJ, zJ_sR, zR_sI, zR_sJ, zR_sR, Option.bind_some, zgd, zlt, zib_nI hn (by decide), if_true, nI_clamp (show n < 2 ^ 31 by omega), show ¬ (40 : Nat) = 110 by decide, show ¬ (40 : Nat) = 111 by decide, show ¬ (40 : Nat) = 112 by decide, show ¬ (40 : Nat) = 115 by decide, show ¬ (40 : Nat) = 116 by decide, false_and, if_false, ← nI_succ]
section ZM
variable {C R : zH}
theorem t_opens (I : Inv C R) (hn : zN C 3 < 40) {b : Nat} (hb : b < 8) (nm jt : Int32) : ∃ C', f_X9_openAccount 0 (some b) nm jt C = some (some (zN C 3), C') ∧ f_X10_opens 0 (nI b) nm jt R = some (nI (zN C 3), opW R (zN C 3) (nI b) nm jt (nI (zN C 3 + 1))) ∧ Inv C' (opW R (zN C 3) (nI b) nm jt (nI (zN C 3 + 1))) ∧ zN C' 3 = zN C 3 + 1 ∧ zN C' 5 = zN C 5 ∧ zI C' 1 0 4 = zI C 1 0 4 := by
  have hk := J_kc I
  unfold KC at hk
  obtain ⟨d1, d2⟩ := J_day I
  have qd := zib_ex d2
  have hal := J_al I
  obtain ⟨c1, c2, c3, c4⟩ := J_cnt I
  obtain ⟨a, g1, g2, g3, g4, g5, g6, g7⟩ := J_la I
  have hl0 : LO (acW (znw C 3 0) (zN C 3) b nm jt (zI R 40 0 46)) 10 (zN C 3) := ⟨a, g1, g2, g3, g4, g5, g6, g7⟩
  obtain ⟨C', p1, p2, p3⟩ := hl0.add (by omega)
  have hsz : zl_size 10 0 (znw C 3 0) = some (nI (zN C 3)) := by
    show some (zI C 10 0 2) = _
    rw [g2]
  have f := J_afr I (zN C 3) (Nat.le_refl _) hn
  refine ⟨C', ?_, e_ops (J_kr I) hn c1 _ _ _, ?_, ?_, ?_, ?_⟩
  · unfold f_X9_openAccount
    have hz : zR (acW (znw C 3 0) (zN C 3) b nm jt (zI R 40 0 46)) 0 0 2 = some 0 := hk.2.2.1
    simp only [zlt, zR_nw, zI_nw, show ¬ (0 : Nat) = 3 by decide, show ¬ (1 : Nat) = 3 by decide, false_and, if_false, hk, Option.bind_some, hsz, d1, e_acI d2, p1, hz]
  · refine Inv_ls10 (C := acW (znw C 3 0) (zN C 3) b nm jt (zI R 40 0 46)) ?_ p2 p3
    exact Inv_mx10 (by first | exact (J_kc I :) | simpa [KC, KR, LO, zN_sI, zN_sJ, zN_sR, zL_sI, zL_sJ, zL_sR, zI_sI, zI_sJ, zI_sR, zJ_sI, zJ_sJ, zJ_sR, zR_sI, zR_sJ, zR_sR, zN_nw, zL_nw, zI_nw, zJ_nw, zR_nw] using (J_kc I :)) (by first | exact (J_kr I :) | simpa [KC, KR, LO, zN_sI, zN_sJ, zN_sR, zL_sI, zL_sJ, zL_sR, zI_sI, zI_sJ, zI_sR, zJ_sI, zJ_sJ, zJ_sR, zR_sI, zR_sJ, zR_sR, zN_nw, zL_nw, zI_nw, zJ_nw, zR_nw] using (J_kr I :)) (by
      refine ⟨?_, c2, c3, c4⟩
      simp [zN_sI, zN_sJ, zN_sR, zL_sI, zL_sJ, zL_sR, zI_sI, zI_sJ, zI_sR, zJ_sI, zJ_sJ, zJ_sR, zR_sI, zR_sJ, zR_sR, zN_nw, zL_nw, zI_nw, zJ_nw, zR_nw]) (by
      have := J_mx I
      refine ⟨?_, this.2.1, this.2.2.1, this.2.2.2⟩
      show zN C 3 + 1 ≤ 40
      omega) (by first | exact (J_ll I :) | simpa [KC, KR, LO, zN_sI, zN_sJ, zN_sR, zL_sI, zL_sJ, zL_sR, zI_sI, zI_sJ, zI_sR, zJ_sI, zJ_sJ, zJ_sR, zR_sI, zR_sJ, zR_sR, zN_nw, zL_nw, zI_nw, zJ_nw, zR_nw] using (J_ll I :)) (by first | exact (J_lm I :) | simpa [KC, KR, LO, zN_sI, zN_sJ, zN_sR, zL_sI, zL_sJ, zL_sR, zI_sI, zI_sJ, zI_sR, zJ_sI, zJ_sJ, zJ_sR, zR_sI, zR_sJ, zR_sR, zN_nw, zL_nw, zI_nw, zJ_nw, zR_nw] using (J_lm I :)) (by first | exact (J_lr I :) | simpa [KC, KR, LO, zN_sI, zN_sJ, zN_sR, zL_sI, zL_sJ, zL_sR, zI_sI, zI_sJ, zI_sR, zJ_sI, zJ_sJ, zJ_sR, zR_sI, zR_sJ, zR_sR, zN_nw, zL_nw, zI_nw, zJ_nw, zR_nw] using (J_lr I :)) (by
      refine ⟨?_, hal.2.1, hal.2.2.1, hal.2.2.2.1, hal.2.2.2.2⟩
      show zN C 23 + 1 = zN C 3 + 1
      rw [hal.1]) (by first | exact (J_bno I :) | simpa [KC, KR, LO, zN_sI, zN_sJ, zN_sR, zL_sI, zL_sJ, zL_sR, zI_sI, zI_sJ, zI_sR, zJ_sI, zJ_sJ, zJ_sR, zR_sI, zR_sJ, zR_sR, zN_nw, zL_nw, zI_nw, zJ_nw, zR_nw] using (J_bno I :)) (by first | exact (J_bfee I :) | simpa [KC, KR, LO, zN_sI, zN_sJ, zN_sR, zL_sI, zL_sJ, zL_sR, zI_sI, zI_sJ, zI_sR, zJ_sI, zJ_sJ, zJ_sR, zR_sI, zR_sJ, zR_sR, zN_nw, zL_nw, zI_nw, zJ_nw, zR_nw] using (J_bfee I :)) (by first | exact (J_bcap I :) | simpa [KC, KR, LO, zN_sI, zN_sJ, zN_sR, zL_sI, zL_sJ, zL_sR, zI_sI, zI_sJ, zI_sR, zJ_sI, zJ_sJ, zJ_sR, zR_sI, zR_sJ, zR_sR, zN_nw, zL_nw, zI_nw, zJ_nw, zR_nw] using (J_bcap I :)) (by first | exact (J_bow I :) | simpa [KC, KR, LO, zN_sI, zN_sJ, zN_sR, zL_sI, zL_sJ, zL_sR, zI_sI, zI_sJ, zI_sR, zJ_sI, zJ_sJ, zJ_sR, zR_sI, zR_sJ, zR_sR, zN_nw, zL_nw, zI_nw, zJ_nw, zR_nw] using (J_bow I :)) (by first | exact (J_bdid I :) | simpa [KC, KR, LO, zN_sI, zN_sJ, zN_sR, zL_sI, zL_sJ, zL_sR, zI_sI, zI_sJ, zI_sR, zJ_sI, zJ_sJ, zJ_sR, zR_sI, zR_sJ, zR_sR, zN_nw, zL_nw, zI_nw, zJ_nw, zR_nw] using (J_bdid I :)) (by first | exact (J_bnet I :) | simpa [KC, KR, LO, zN_sI, zN_sJ, zN_sR, zL_sI, zL_sJ, zL_sR, zI_sI, zI_sJ, zI_sR, zJ_sI, zJ_sJ, zJ_sR, zR_sI, zR_sJ, zR_sR, zN_nw, zL_nw, zI_nw, zJ_nw, zR_nw] using (J_bnet I :)) (by first | exact (J_day I :) | simpa [KC, KR, LO, zN_sI, zN_sJ, zN_sR, zL_sI, zL_sJ, zL_sR, zI_sI, zI_sJ, zI_sR, zJ_sI, zJ_sJ, zJ_sR, zR_sI, zR_sJ, zR_sR, zN_nw, zL_nw, zI_nw, zJ_nw, zR_nw] using (J_day I :)) (by first | exact (J_ngt I :) | simpa [KC, KR, LO, zN_sI, zN_sJ, zN_sR, zL_sI, zL_sJ, zL_sR, zI_sI, zI_sJ, zI_sR, zJ_sI, zJ_sJ, zJ_sR, zR_sI, zR_sJ, zR_sR, zN_nw, zL_nw, zI_nw, zJ_nw, zR_nw] using (J_ngt I :)) (by first | exact (J_due I :) | simpa [KC, KR, LO, zN_sI, zN_sJ, zN_sR, zL_sI, zL_sJ, zL_sR, zI_sI, zI_sJ, zI_sR, zJ_sI, zJ_sJ, zJ_sR, zR_sI, zR_sJ, zR_sR, zN_nw, zL_nw, zI_nw, zJ_nw, zR_nw] using (J_due I :)) (by first | exact (J_hol I :) | simpa [KC, KR, LO, zN_sI, zN_sJ, zN_sR, zL_sI, zL_sJ, zL_sR, zI_sI, zI_sJ, zI_sR, zJ_sI, zJ_sJ, zJ_sR, zR_sI, zR_sJ, zR_sR, zN_nw, zL_nw, zI_nw, zJ_nw, zR_nw] using (J_hol I :)) (by first | exact (J_lat I :) | simpa [KC, KR, LO, zN_sI, zN_sJ, zN_sR, zL_sI, zL_sJ, zL_sR, zI_sI, zI_sJ, zI_sR, zJ_sI, zJ_sJ, zJ_sR, zR_sI, zR_sJ, zR_sR, zN_nw, zL_nw, zI_nw, zJ_nw, zR_nw] using (J_lat I :)) (by
      intro i hi
      have hi : i < zN C 3 + 1 := hi
      by_cases e : i = zN C 3
      · simp [zN_sI, zN_sJ, zN_sR, zL_sI, zL_sJ, zL_sR, zI_sI, zI_sJ, zI_sR, zJ_sI, zJ_sJ, zJ_sR, zR_sI, zR_sJ, zR_sR, zN_nw, zL_nw, zI_nw, zJ_nw, zR_nw, e]
      · have := J_ano I i (by omega)
        simpa [zN_sI, zN_sJ, zN_sR, zL_sI, zL_sJ, zL_sR, zI_sI, zI_sJ, zI_sR, zJ_sI, zJ_sJ, zJ_sR, zR_sI, zR_sJ, zR_sR, zN_nw, zL_nw, zI_nw, zJ_nw, zR_nw, e] using this) (by
      intro i hi
      have hi : i < zN C 3 + 1 := hi
      by_cases e : i = zN C 3
      · simp [zN_sI, zN_sJ, zN_sR, zL_sI, zL_sJ, zL_sR, zI_sI, zI_sJ, zI_sR, zJ_sI, zJ_sJ, zJ_sR, zR_sI, zR_sJ, zR_sR, zN_nw, zL_nw, zI_nw, zJ_nw, zR_nw, e, nI_clamp (show b < 2 ^ 31 by omega), zib_nI hb]
      · have := J_abk I i (by omega)
        simpa [zN_sI, zN_sJ, zN_sR, zL_sI, zL_sJ, zL_sR, zI_sI, zI_sJ, zI_sR, zJ_sI, zJ_sJ, zJ_sR, zR_sI, zR_sJ, zR_sR, zN_nw, zL_nw, zI_nw, zJ_nw, zR_nw, e] using this) (by
      intro i hi
      have hi : i < zN C 3 + 1 := hi
      by_cases e : i = zN C 3
      · simp [zN_sI, zN_sJ, zN_sR, zL_sI, zL_sJ, zL_sR, zI_sI, zI_sJ, zI_sR, zJ_sI, zJ_sJ, zJ_sR, zR_sI, zR_sJ, zR_sR, zN_nw, zL_nw, zI_nw, zJ_nw, zR_nw, e]
      · have := J_anm I i (by omega)
        simpa [zN_sI, zN_sJ, zN_sR, zL_sI, zL_sJ, zL_sR, zI_sI, zI_sJ, zI_sR, zJ_sI, zJ_sJ, zJ_sR, zR_sI, zR_sJ, zR_sR, zN_nw, zL_nw, zI_nw, zJ_nw, zR_nw, e] using this) (by
      intro i hi
      have hi : i < zN C 3 + 1 := hi
      by_cases e : i = zN C 3
      · simp [zN_sI, zN_sJ, zN_sR, zL_sI, zL_sJ, zL_sR, zI_sI, zI_sJ, zI_sR, zJ_sI, zJ_sJ, zJ_sR, zR_sI, zR_sJ, zR_sR, zN_nw, zL_nw, zI_nw, zJ_nw, zR_nw, e, f]
      · have := J_asum I i (by omega)
        simpa [zN_sI, zN_sJ, zN_sR, zL_sI, zL_sJ, zL_sR, zI_sI, zI_sJ, zI_sR, zJ_sI, zJ_sJ, zJ_sR, zR_sI, zR_sJ, zR_sR, zN_nw, zL_nw, zI_nw, zJ_nw, zR_nw, e] using this) (by
      intro i hi
      have hi : i < zN C 3 + 1 := hi
      by_cases e : i = zN C 3
      · simp [zN_sI, zN_sJ, zN_sR, zL_sI, zL_sJ, zL_sR, zI_sI, zI_sJ, zI_sR, zJ_sI, zJ_sJ, zJ_sR, zR_sI, zR_sJ, zR_sR, zN_nw, zL_nw, zI_nw, zJ_nw, zR_nw, e, f, show zib 0 100000 = true by decide]
      · have := J_aov I i (by omega)
        simpa [zN_sI, zN_sJ, zN_sR, zL_sI, zL_sJ, zL_sR, zI_sI, zI_sJ, zI_sR, zJ_sI, zJ_sJ, zJ_sR, zR_sI, zR_sJ, zR_sR, zN_nw, zL_nw, zI_nw, zJ_nw, zR_nw, e] using this) (by
      intro i hi
      have hi : i < zN C 3 + 1 := hi
      by_cases e : i = zN C 3
      · simp [zN_sI, zN_sJ, zN_sR, zL_sI, zL_sJ, zL_sR, zI_sI, zI_sJ, zI_sR, zJ_sI, zJ_sJ, zJ_sR, zR_sI, zR_sJ, zR_sR, zN_nw, zL_nw, zI_nw, zJ_nw, zR_nw, e, f]
      · have := J_ast I i (by omega)
        simpa [zN_sI, zN_sJ, zN_sR, zL_sI, zL_sJ, zL_sR, zI_sI, zI_sJ, zI_sR, zJ_sI, zJ_sJ, zJ_sR, zR_sI, zR_sJ, zR_sR, zN_nw, zL_nw, zI_nw, zJ_nw, zR_nw, e] using this) (by
      intro i hi h2
      have hi : i < zN C 3 + 1 := hi
      have h2 : zI R 114 0 i = 2 := h2
      by_cases e : i = zN C 3
      · rw [e, f.2.1] at h2
        exact absurd h2 (by decide)
      · obtain ⟨a1, a2, a3, a4, a5⟩ := J_amv I i (by omega) h2
        have a2' := zib_mono a2 (Nat.le_succ _)
        simpa [zN_sI, zN_sJ, zN_sR, zL_sI, zL_sJ, zL_sR, zI_sI, zI_sJ, zI_sR, zJ_sI, zJ_sJ, zJ_sR, zR_sI, zR_sJ, zR_sR, zN_nw, zL_nw, zI_nw, zJ_nw, zR_nw, e] using And.intro a1 ⟨a2', a3, a4, a5⟩) (by
      intro i hi h2
      have hi : i < zN C 3 + 1 := hi
      have h2 : ¬ zI R 114 0 i = 2 := h2
      by_cases e : i = zN C 3
      · simp [zN_sI, zN_sJ, zN_sR, zL_sI, zL_sJ, zL_sR, zI_sI, zI_sJ, zI_sR, zJ_sI, zJ_sJ, zJ_sR, zR_sI, zR_sJ, zR_sR, zN_nw, zL_nw, zI_nw, zJ_nw, zR_nw, e]
      · have := J_ano2 I i (by omega) h2
        simpa [zN_sI, zN_sJ, zN_sR, zL_sI, zL_sJ, zL_sR, zI_sI, zI_sJ, zI_sR, zJ_sI, zJ_sJ, zJ_sR, zR_sI, zR_sJ, zR_sR, zN_nw, zL_nw, zI_nw, zJ_nw, zR_nw, e] using this) (by
      intro i hi
      have hi : i < zN C 3 + 1 := hi
      by_cases e : i = zN C 3
      · simp [zN_sI, zN_sJ, zN_sR, zL_sI, zL_sJ, zL_sR, zI_sI, zI_sJ, zI_sR, zJ_sI, zJ_sJ, zJ_sR, zR_sI, zR_sJ, zR_sR, zN_nw, zL_nw, zI_nw, zJ_nw, zR_nw, e, f, zib]
      · have := J_agd I i (by omega)
        simpa [zN_sI, zN_sJ, zN_sR, zL_sI, zL_sJ, zL_sR, zI_sI, zI_sJ, zI_sR, zJ_sI, zJ_sJ, zJ_sR, zR_sI, zR_sJ, zR_sR, zN_nw, zL_nw, zI_nw, zJ_nw, zR_nw, e] using this) (by
      intro i hi
      have hi : i < zN C 3 + 1 := hi
      by_cases e : i = zN C 3
      · simp [zN_sI, zN_sJ, zN_sR, zL_sI, zL_sJ, zL_sR, zI_sI, zI_sJ, zI_sR, zJ_sI, zJ_sJ, zJ_sR, zR_sI, zR_sJ, zR_sR, zN_nw, zL_nw, zI_nw, zJ_nw, zR_nw, e, hal.1, d2]
      · have := J_akp I i (by omega)
        have e2 : ¬ i = zN C 23 := by rw [hal.1]; exact e
        simpa [zN_sI, zN_sJ, zN_sR, zL_sI, zL_sJ, zL_sR, zI_sI, zI_sJ, zI_sR, zJ_sI, zJ_sJ, zJ_sR, zR_sI, zR_sJ, zR_sR, zN_nw, zL_nw, zI_nw, zJ_nw, zR_nw, e, e2] using this) (by
      intro i hi d hd
      have hi : i < zN C 3 + 1 := hi
      have hd : d < (zI R 40 0 46).toNatClampNeg := hd
      by_cases e : i = zN C 3
      · have := f.2.2.2.2 d (by omega)
        simpa [zN_sI, zN_sJ, zN_sR, zL_sI, zL_sJ, zL_sR, zI_sI, zI_sJ, zI_sR, zJ_sI, zJ_sJ, zJ_sR, zR_sI, zR_sJ, zR_sR, zN_nw, zL_nw, zI_nw, zJ_nw, zR_nw, e, hd] using this
      · have := J_ahs I i (by omega) d hd
        have e2 : ¬ i = zN C 23 := by rw [hal.1]; exact e
        simpa [zN_sI, zN_sJ, zN_sR, zL_sI, zL_sJ, zL_sR, zI_sI, zI_sJ, zI_sR, zJ_sI, zJ_sJ, zJ_sR, zR_sI, zR_sJ, zR_sR, zN_nw, zL_nw, zI_nw, zJ_nw, zR_nw, e, e2] using this) (by
      intro i hi hi2
      have hi : zN C 3 + 1 ≤ i := hi
      exact J_afr I i (by omega) hi2) (by first | exact (J_lk I :) | simpa [KC, KR, LO, zN_sI, zN_sJ, zN_sR, zL_sI, zL_sJ, zL_sR, zI_sI, zI_sJ, zI_sR, zJ_sI, zJ_sJ, zJ_sR, zR_sI, zR_sJ, zR_sR, zN_nw, zL_nw, zI_nw, zJ_nw, zR_nw] using (J_lk I :)) (by
      intro l hl
      obtain ⟨a1, a2, a3, a4⟩ := J_lft I l hl
      exact ⟨a1, zib_mono a2 (Nat.le_succ _), a3, zib_mono a4 (Nat.le_succ _)⟩) (by first | exact (J_lam I :) | simpa [KC, KR, LO, zN_sI, zN_sJ, zN_sR, zL_sI, zL_sJ, zL_sR, zI_sI, zI_sJ, zI_sR, zJ_sI, zJ_sJ, zJ_sR, zR_sI, zR_sJ, zR_sR, zN_nw, zL_nw, zI_nw, zJ_nw, zR_nw] using (J_lam I :)) (by first | exact (J_led I :) | simpa [KC, KR, LO, zN_sI, zN_sJ, zN_sR, zL_sI, zL_sJ, zL_sR, zI_sI, zI_sJ, zI_sR, zJ_sI, zJ_sJ, zJ_sR, zR_sI, zR_sJ, zR_sR, zN_nw, zL_nw, zI_nw, zJ_nw, zR_nw] using (J_led I :)) (by first | exact (J_ldn I :) | simpa [KC, KR, LO, zN_sI, zN_sJ, zN_sR, zL_sI, zL_sJ, zL_sR, zI_sI, zI_sJ, zI_sR, zJ_sI, zJ_sJ, zJ_sR, zR_sI, zR_sJ, zR_sR, zN_nw, zL_nw, zI_nw, zJ_nw, zR_nw] using (J_ldn I :)) (by first | exact (J_lbk I :) | simpa [KC, KR, LO, zN_sI, zN_sJ, zN_sR, zL_sI, zL_sJ, zL_sR, zI_sI, zI_sJ, zI_sR, zJ_sI, zJ_sJ, zJ_sR, zR_sI, zR_sJ, zR_sR, zN_nw, zL_nw, zI_nw, zJ_nw, zR_nw] using (J_lbk I :)) (by first | exact (J_ldu I :) | simpa [KC, KR, LO, zN_sI, zN_sJ, zN_sR, zL_sI, zL_sJ, zL_sR, zI_sI, zI_sJ, zI_sR, zJ_sI, zJ_sJ, zJ_sR, zR_sI, zR_sJ, zR_sR, zN_nw, zL_nw, zI_nw, zJ_nw, zR_nw] using (J_ldu I :)) (by first | exact (J_lfr I :) | simpa [KC, KR, LO, zN_sI, zN_sJ, zN_sR, zL_sI, zL_sJ, zL_sR, zI_sI, zI_sJ, zI_sR, zJ_sI, zJ_sJ, zJ_sR, zR_sI, zR_sJ, zR_sR, zN_nw, zL_nw, zI_nw, zJ_nw, zR_nw] using (J_lfr I :)) (by
      intro l hl
      obtain ⟨a1, a2, a3, a4, a5⟩ := J_mac I l hl
      exact ⟨a1, zib_mono a2 (Nat.le_succ _), a3, zib_mono a4 (Nat.le_succ _), a5⟩) (by first | exact (J_mpt I :) | simpa [KC, KR, LO, zN_sI, zN_sJ, zN_sR, zL_sI, zL_sJ, zL_sR, zI_sI, zI_sJ, zI_sR, zJ_sI, zJ_sJ, zJ_sR, zR_sI, zR_sJ, zR_sR, zN_nw, zL_nw, zI_nw, zJ_nw, zR_nw] using (J_mpt I :)) (by first | exact (J_mas I :) | simpa [KC, KR, LO, zN_sI, zN_sJ, zN_sR, zL_sI, zL_sJ, zL_sR, zI_sI, zI_sJ, zI_sR, zJ_sI, zJ_sJ, zJ_sR, zR_sI, zR_sJ, zR_sR, zN_nw, zL_nw, zI_nw, zJ_nw, zR_nw] using (J_mas I :)) (by first | exact (J_mst I :) | simpa [KC, KR, LO, zN_sI, zN_sJ, zN_sR, zL_sI, zL_sJ, zL_sR, zI_sI, zI_sJ, zI_sR, zJ_sI, zJ_sJ, zJ_sR, zR_sI, zR_sJ, zR_sR, zN_nw, zL_nw, zI_nw, zJ_nw, zR_nw] using (J_mst I :)) (by first | exact (J_mgo I :) | simpa [KC, KR, LO, zN_sI, zN_sJ, zN_sR, zL_sI, zL_sJ, zL_sR, zI_sI, zI_sJ, zI_sR, zJ_sI, zJ_sJ, zJ_sR, zR_sI, zR_sJ, zR_sR, zN_nw, zL_nw, zI_nw, zJ_nw, zR_nw] using (J_mgo I :)) (by first | exact (J_mag I :) | simpa [KC, KR, LO, zN_sI, zN_sJ, zN_sR, zL_sI, zL_sJ, zL_sR, zI_sI, zI_sJ, zI_sR, zJ_sI, zJ_sJ, zJ_sR, zR_sI, zR_sJ, zR_sR, zN_nw, zL_nw, zI_nw, zJ_nw, zR_nw] using (J_mag I :)) (by first | exact (J_mwy I :) | simpa [KC, KR, LO, zN_sI, zN_sJ, zN_sR, zL_sI, zL_sJ, zL_sR, zI_sI, zI_sJ, zI_sR, zJ_sI, zJ_sJ, zJ_sR, zR_sI, zR_sJ, zR_sR, zN_nw, zL_nw, zI_nw, zJ_nw, zR_nw] using (J_mwy I :)) (by first | exact (J_mfa I :) | simpa [KC, KR, LO, zN_sI, zN_sJ, zN_sR, zL_sI, zL_sJ, zL_sR, zI_sI, zI_sJ, zI_sR, zJ_sI, zJ_sJ, zJ_sR, zR_sI, zR_sJ, zR_sR, zN_nw, zL_nw, zI_nw, zJ_nw, zR_nw] using (J_mfa I :)) (by first | exact (J_mfb I :) | simpa [KC, KR, LO, zN_sI, zN_sJ, zN_sR, zL_sI, zL_sJ, zL_sR, zI_sI, zI_sJ, zI_sR, zJ_sI, zJ_sJ, zJ_sR, zR_sI, zR_sJ, zR_sR, zN_nw, zL_nw, zI_nw, zJ_nw, zR_nw] using (J_mfb I :)) (by first | exact (J_mop I :) | simpa [KC, KR, LO, zN_sI, zN_sJ, zN_sR, zL_sI, zL_sJ, zL_sR, zI_sI, zI_sJ, zI_sR, zJ_sI, zJ_sJ, zJ_sR, zR_sI, zR_sJ, zR_sR, zN_nw, zL_nw, zI_nw, zJ_nw, zR_nw] using (J_mop I :)) (by first | exact fun m m2 a b c d e => (J_mdj I m m2 a b c d e :) | simpa [KC, KR, LO, zN_sI, zN_sJ, zN_sR, zL_sI, zL_sJ, zL_sR, zI_sI, zI_sJ, zI_sR, zJ_sI, zJ_sJ, zJ_sR, zR_sI, zR_sJ, zR_sR, zN_nw, zL_nw, zI_nw, zJ_nw, zR_nw] using (J_mdj I :)) (by first | exact (J_mfr I :) | simpa [KC, KR, LO, zN_sI, zN_sJ, zN_sR, zL_sI, zL_sJ, zL_sR, zI_sI, zI_sJ, zI_sR, zJ_sI, zJ_sJ, zJ_sR, zR_sI, zR_sJ, zR_sR, zN_nw, zL_nw, zI_nw, zJ_nw, zR_nw] using (J_mfr I :)) (by first | exact (J_rpf I :) | simpa [KC, KR, LO, zN_sI, zN_sJ, zN_sR, zL_sI, zL_sJ, zL_sR, zI_sI, zI_sJ, zI_sR, zJ_sI, zJ_sJ, zJ_sR, zR_sI, zR_sJ, zR_sR, zN_nw, zL_nw, zI_nw, zJ_nw, zR_nw] using (J_rpf I :)) (by first | exact (J_rtx I :) | simpa [KC, KR, LO, zN_sI, zN_sJ, zN_sR, zL_sI, zL_sJ, zL_sR, zI_sI, zI_sJ, zI_sR, zJ_sI, zJ_sJ, zJ_sR, zR_sI, zR_sJ, zR_sR, zN_nw, zL_nw, zI_nw, zJ_nw, zR_nw] using (J_rtx I :)) (by first | exact (J_tap I :) | simpa [KC, KR, LO, zN_sI, zN_sJ, zN_sR, zL_sI, zL_sJ, zL_sR, zI_sI, zI_sJ, zI_sR, zJ_sI, zJ_sJ, zJ_sR, zR_sI, zR_sJ, zR_sR, zN_nw, zL_nw, zI_nw, zJ_nw, zR_nw] using (J_tap I :)) (by first | exact (J_row I :) | simpa [KC, KR, LO, zN_sI, zN_sJ, zN_sR, zL_sI, zL_sJ, zL_sR, zI_sI, zI_sJ, zI_sR, zJ_sI, zJ_sJ, zJ_sR, zR_sI, zR_sJ, zR_sR, zN_nw, zL_nw, zI_nw, zJ_nw, zR_nw] using (J_row I :)) (by first | exact (J_sur I :) | simpa [KC, KR, LO, zN_sI, zN_sJ, zN_sR, zL_sI, zL_sJ, zL_sR, zI_sI, zI_sJ, zI_sR, zJ_sI, zJ_sJ, zJ_sR, zR_sI, zR_sJ, zR_sR, zN_nw, zL_nw, zI_nw, zJ_nw, zR_nw] using (J_sur I :)) (by first | exact (J_ref I :) | simpa [KC, KR, LO, zN_sI, zN_sJ, zN_sR, zL_sI, zL_sJ, zL_sR, zI_sI, zI_sJ, zI_sR, zJ_sI, zJ_sJ, zJ_sR, zR_sI, zR_sJ, zR_sR, zN_nw, zL_nw, zI_nw, zJ_nw, zR_nw] using (J_ref I :))
  · rw [p3.2.2.2.1 3 (by decide)]
    rfl
  · rw [p3.2.2.2.1 5 (by decide)]
    rfl
  · rw [p3.1 1 0 4 (by decide) (by decide)]
    rfl
theorem t_account (I : Inv C R) (x1 x2 x3 : Int32) : TT (f_X9_account 0 x1 x2 x3 C) (f_X10_account 0 x1 x2 x3 R) := by
  have hk := J_kc I
  unfold KC at hk
  have hm := (J_mx I).1
  obtain ⟨c1, c2, c3, c4⟩ := J_cnt I
  unfold f_X9_account f_X10_account f_X9_account_27 f_X9_account_60 f_X10_account_22 f_X10_account_52
  rw [e_bnkAt I, e_isBank, Option.bind_some, Option.bind_some]
  by_cases h : zib x1 8 = true
  · simp only [h, if_true, zop, Option.bind_some, show ¬ (1 : Int32) = 0 by decide, if_false, hk, (J_la I).size, c1]
    by_cases h1 : x2 < 0
    · simp only [h1, if_true]
      exact t_refB I (by decide)
    by_cases h2 : -1 ≤ x3
    · by_cases h3 : 9999 < x2
      · simp only [h1, h2, h3, if_true, if_false]
        exact t_refB I (by decide)
      by_cases h4 : 9999 < x3
      · simp only [h1, h2, h3, h4, if_true, if_false]
        exact t_refB I (by decide)
      by_cases h5 : zN C 3 = 40
      · simp only [h1, h2, h3, h4, h5, if_true, if_false, show nI 40 = 40 from rfl, show ¬ (40 : Int32) < 40 by decide]
        exact t_refB I (by decide)
      · have hn : zN C 3 < 40 := by omega
        have e1 : nI (zN C 3) < 40 := (nJ_lt (b := 40) (by omega) (by decide)).mpr hn
        have e2 : ¬ nI (zN C 3) = 40 := fun z => h5 ((nI_inj (b := 40) (by omega) (by decide)).mp z)
        obtain ⟨C', q1, q2, q3, q4, q5, q6⟩ := t_opens I hn (zib_ex h).1 x2 x3
        rw [nI_rd (zib_ex h).2] at q2 q3
        simp only [h1, h2, h3, h4, if_true, if_false, e1, e2, q1, q2, Option.bind_some]
        exact TT.mk (J_ano q3 _ (by omega)) q3
    · simp only [h1, h2, if_false]
      exact t_refB I (by decide)
  · simp only [h, if_false, zop, if_true]
    exact t_refB I (by decide)
end ZM
