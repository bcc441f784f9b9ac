/-! ===== a line is made ===== -/
abbrev liW (S : zH) (n : Nat) (kd : Int32) (fr to : Nat) (pe fi ev : Int32) : zH := zsI (zsI (zsI (zsR (zsR (zsI (zsR (znw (zsI S 4 n 9 (-9)) 24 5) 4 n 10 (some (zN S 24))) 4 n 0 kd) 4 n 1 (some fr)) 4 n 2 (some to)) 4 n 3 pe) 4 n 4 ev) 4 n 5 fi
abbrev lrW (S : zH) (n : Nat) (kd fr to pe fi ev : Int32) : zH := zsI (zsI (zsI (zsI (zsI (zsI (zsI (zsI (zsI S 40 0 50 (nI (n + 1))) 120 0 n kd) 121 0 n fr) 122 0 n to) 123 0 n pe) 124 0 n fi) 125 0 n ev) 126 0 n (-1)) 129 0 n (-9)
section ZN
variable {C R : zH}
theorem rd_le {x y : Int32} (hx : ¬ x < 0) (h : x ≤ y) : x.toNatClampNeg ≤ y.toNatClampNeg := by
  have hy : ¬ y < 0 := fun z => hx (Int32.lt_of_le_of_lt h z)
  rw [← nI_rd hx, ← nI_rd hy] at h
  exact (nJ_le rd_lt rd_lt).mp h
theorem nl_cnt (I : Inv C R) (hn : zN C 4 < 60) {kd fr to pe fi ev ev2 : Int32} (h1 : zib kd 4 = true) (h2 : zib fr (zN C 3) = true) (h3 : zib to (zN C 3) = true) (h4 : zib pe 100000 = true) (h5 : zib fi 1501 = true) (h6 : zI R 40 0 46 ≤ fi) (h7 : kd = 0 → ev = 0) (h8 : ¬ kd = 0 → ev = ev2 ∧ zib ev 91 = true ∧ ¬ ev = 0) : (zI (lrW R (zN C 4) kd fr to pe fi ev2) 40 0 49 = nI (zN (liW (znw C 4 0) (zN C 4) kd fr.toNatClampNeg to.toNatClampNeg pe fi ev) 3) ∧ zI (lrW R (zN C 4) kd fr to pe fi ev2) 40 0 50 = nI (zN (liW (znw C 4 0) (zN C 4) kd fr.toNatClampNeg to.toNatClampNeg pe fi ev) 4) ∧ zI (lrW R (zN C 4) kd fr to pe fi ev2) 40 0 51 = nI (zN (liW (znw C 4 0) (zN C 4) kd fr.toNatClampNeg to.toNatClampNeg pe fi ev) 5) ∧ zI (lrW R (zN C 4) kd fr to pe fi ev2) 40 0 52 = nI (zN (liW (znw C 4 0) (zN C 4) kd fr.toNatClampNeg to.toNatClampNeg pe fi ev) 6)) := by
  have hal := J_al I
  obtain ⟨c1, c2, c3, c4⟩ := J_cnt I
  have f := J_lfr I (zN C 4) (Nat.le_refl _) hn
  obtain ⟨u1, u2, u3⟩ := J_due I
  refine ⟨c1, ?_, c3, c4⟩
  simp [wN_sI, wN_sJ, wN_sR, wL_sI, wL_sJ, wL_sR, wI_sI, wI_sJ, wI_sR, wJ_sI, wJ_sJ, wJ_sR, wR_sI, wR_sJ, wR_sR, wN_nw, wL_nw, wI_nw, wJ_nw, wR_nw]
theorem nl_mx (I : Inv C R) (hn : zN C 4 < 60) {kd fr to pe fi ev ev2 : Int32} (h1 : zib kd 4 = true) (h2 : zib fr (zN C 3) = true) (h3 : zib to (zN C 3) = true) (h4 : zib pe 100000 = true) (h5 : zib fi 1501 = true) (h6 : zI R 40 0 46 ≤ fi) (h7 : kd = 0 → ev = 0) (h8 : ¬ kd = 0 → ev = ev2 ∧ zib ev 91 = true ∧ ¬ ev = 0) : (zN (liW (znw C 4 0) (zN C 4) kd fr.toNatClampNeg to.toNatClampNeg pe fi ev) 3 ≤ 40 ∧ zN (liW (znw C 4 0) (zN C 4) kd fr.toNatClampNeg to.toNatClampNeg pe fi ev) 4 ≤ 60 ∧ zN (liW (znw C 4 0) (zN C 4) kd fr.toNatClampNeg to.toNatClampNeg pe fi ev) 5 ≤ 30 ∧ zN (liW (znw C 4 0) (zN C 4) kd fr.toNatClampNeg to.toNatClampNeg pe fi ev) 6 ≤ 30) := by
  have hal := J_al I
  obtain ⟨c1, c2, c3, c4⟩ := J_cnt I
  have f := J_lfr I (zN C 4) (Nat.le_refl _) hn
  obtain ⟨u1, u2, u3⟩ := J_due I
  have := J_mx I
  refine ⟨this.1, ?_, this.2.2.1, this.2.2.2⟩
  simp [wN_sI, wN_sJ, wN_sR, wL_sI, wL_sJ, wL_sR, wI_sI, wI_sJ, wI_sR, wJ_sI, wJ_sJ, wJ_sR, wR_sI, wR_sJ, wR_sR, wN_nw, wL_nw, wI_nw, wJ_nw, wR_nw]
  omega
theorem nl_al (I : Inv C R) (hn : zN C 4 < 60) {kd fr to pe fi ev ev2 : Int32} (h1 : zib kd 4 = true) (h2 : zib fr (zN C 3) = true) (h3 : zib to (zN C 3) = true) (h4 : zib pe 100000 = true) (h5 : zib fi 1501 = true) (h6 : zI R 40 0 46 ≤ fi) (h7 : kd = 0 → ev = 0) (h8 : ¬ kd = 0 → ev = ev2 ∧ zib ev 91 = true ∧ ¬ ev = 0) : (zN (liW (znw C 4 0) (zN C 4) kd fr.toNatClampNeg to.toNatClampNeg pe fi ev) 23 = zN (liW (znw C 4 0) (zN C 4) kd fr.toNatClampNeg to.toNatClampNeg pe fi ev) 3 ∧ zN (liW (znw C 4 0) (zN C 4) kd fr.toNatClampNeg to.toNatClampNeg pe fi ev) 24 = zN (liW (znw C 4 0) (zN C 4) kd fr.toNatClampNeg to.toNatClampNeg pe fi ev) 4 ∧ zN (liW (znw C 4 0) (zN C 4) kd fr.toNatClampNeg to.toNatClampNeg pe fi ev) 25 = zN (liW (znw C 4 0) (zN C 4) kd fr.toNatClampNeg to.toNatClampNeg pe fi ev) 6 ∧ 0 < zN (liW (znw C 4 0) (zN C 4) kd fr.toNatClampNeg to.toNatClampNeg pe fi ev) 0 ∧ 0 < zN (lrW R (zN C 4) kd fr to pe fi ev2) 40) := by
  have hal := J_al I
  obtain ⟨c1, c2, c3, c4⟩ := J_cnt I
  have f := J_lfr I (zN C 4) (Nat.le_refl _) hn
  obtain ⟨u1, u2, u3⟩ := J_due I
  refine ⟨hal.1, ?_, hal.2.2.1, hal.2.2.2.1, hal.2.2.2.2⟩
  simp [wN_sI, wN_sJ, wN_sR, wL_sI, wL_sJ, wL_sR, wI_sI, wI_sJ, wI_sR, wJ_sI, wJ_sJ, wJ_sR, wR_sI, wR_sJ, wR_sR, wN_nw, wL_nw, wI_nw, wJ_nw, wR_nw, hal.2.1]
theorem nl_lk (I : Inv C R) (hn : zN C 4 < 60) {kd fr to pe fi ev ev2 : Int32} (h1 : zib kd 4 = true) (h2 : zib fr (zN C 3) = true) (h3 : zib to (zN C 3) = true) (h4 : zib pe 100000 = true) (h5 : zib fi 1501 = true) (h6 : zI R 40 0 46 ≤ fi) (h7 : kd = 0 → ev = 0) (h8 : ¬ kd = 0 → ev = ev2 ∧ zib ev 91 = true ∧ ¬ ev = 0) : (∀ l, l < zN (liW (znw C 4 0) (zN C 4) kd fr.toNatClampNeg to.toNatClampNeg pe fi ev) 4 → zI (liW (znw C 4 0) (zN C 4) kd fr.toNatClampNeg to.toNatClampNeg pe fi ev) 4 l 0 = zI (lrW R (zN C 4) kd fr to pe fi ev2) 120 0 l ∧ zib (zI (lrW R (zN C 4) kd fr to pe fi ev2) 120 0 l) 4 = true) := by
  have hal := J_al I
  obtain ⟨c1, c2, c3, c4⟩ := J_cnt I
  have f := J_lfr I (zN C 4) (Nat.le_refl _) hn
  obtain ⟨u1, u2, u3⟩ := J_due I
  intro l hl
  have hl : l < zN C 4 + 1 := hl
  by_cases e : l = zN C 4
  · simp [wN_sI, wN_sJ, wN_sR, wL_sI, wL_sJ, wL_sR, wI_sI, wI_sJ, wI_sR, wJ_sI, wJ_sJ, wJ_sR, wR_sI, wR_sJ, wR_sR, wN_nw, wL_nw, wI_nw, wJ_nw, wR_nw, e, h1]
  · have := J_lk I l (by omega)
    simpa [wN_sI, wN_sJ, wN_sR, wL_sI, wL_sJ, wL_sR, wI_sI, wI_sJ, wI_sR, wJ_sI, wJ_sJ, wJ_sR, wR_sI, wR_sJ, wR_sR, wN_nw, wL_nw, wI_nw, wJ_nw, wR_nw, e] using this
theorem nl_lft (I : Inv C R) (hn : zN C 4 < 60) {kd fr to pe fi ev ev2 : Int32} (h1 : zib kd 4 = true) (h2 : zib fr (zN C 3) = true) (h3 : zib to (zN C 3) = true) (h4 : zib pe 100000 = true) (h5 : zib fi 1501 = true) (h6 : zI R 40 0 46 ≤ fi) (h7 : kd = 0 → ev = 0) (h8 : ¬ kd = 0 → ev = ev2 ∧ zib ev 91 = true ∧ ¬ ev = 0) : (∀ l, l < zN (liW (znw C 4 0) (zN C 4) kd fr.toNatClampNeg to.toNatClampNeg pe fi ev) 4 → zR (liW (znw C 4 0) (zN C 4) kd fr.toNatClampNeg to.toNatClampNeg pe fi ev) 4 l 1 = some (zI (lrW R (zN C 4) kd fr to pe fi ev2) 121 0 l).toNatClampNeg ∧ zib (zI (lrW R (zN C 4) kd fr to pe fi ev2) 121 0 l) (zN (liW (znw C 4 0) (zN C 4) kd fr.toNatClampNeg to.toNatClampNeg pe fi ev) 3) = true ∧ zR (liW (znw C 4 0) (zN C 4) kd fr.toNatClampNeg to.toNatClampNeg pe fi ev) 4 l 2 = some (zI (lrW R (zN C 4) kd fr to pe fi ev2) 122 0 l).toNatClampNeg ∧ zib (zI (lrW R (zN C 4) kd fr to pe fi ev2) 122 0 l) (zN (liW (znw C 4 0) (zN C 4) kd fr.toNatClampNeg to.toNatClampNeg pe fi ev) 3) = true) := by
  have hal := J_al I
  obtain ⟨c1, c2, c3, c4⟩ := J_cnt I
  have f := J_lfr I (zN C 4) (Nat.le_refl _) hn
  obtain ⟨u1, u2, u3⟩ := J_due I
  intro l hl
  have hl : l < zN C 4 + 1 := hl
  by_cases e : l = zN C 4
  · simp [wN_sI, wN_sJ, wN_sR, wL_sI, wL_sJ, wL_sR, wI_sI, wI_sJ, wI_sR, wJ_sI, wJ_sJ, wJ_sR, wR_sI, wR_sJ, wR_sR, wN_nw, wL_nw, wI_nw, wJ_nw, wR_nw, e, h2, h3]
  · have := J_lft I l (by omega)
    simpa [wN_sI, wN_sJ, wN_sR, wL_sI, wL_sJ, wL_sR, wI_sI, wI_sJ, wI_sR, wJ_sI, wJ_sJ, wJ_sR, wR_sI, wR_sJ, wR_sR, wN_nw, wL_nw, wI_nw, wJ_nw, wR_nw, e] using this
theorem nl_lam (I : Inv C R) (hn : zN C 4 < 60) {kd fr to pe fi ev ev2 : Int32} (h1 : zib kd 4 = true) (h2 : zib fr (zN C 3) = true) (h3 : zib to (zN C 3) = true) (h4 : zib pe 100000 = true) (h5 : zib fi 1501 = true) (h6 : zI R 40 0 46 ≤ fi) (h7 : kd = 0 → ev = 0) (h8 : ¬ kd = 0 → ev = ev2 ∧ zib ev 91 = true ∧ ¬ ev = 0) : (∀ l, l < zN (liW (znw C 4 0) (zN C 4) kd fr.toNatClampNeg to.toNatClampNeg pe fi ev) 4 → zI (liW (znw C 4 0) (zN C 4) kd fr.toNatClampNeg to.toNatClampNeg pe fi ev) 4 l 3 = zI (lrW R (zN C 4) kd fr to pe fi ev2) 123 0 l ∧ zib (zI (lrW R (zN C 4) kd fr to pe fi ev2) 123 0 l) 100000 = true) := by
  have hal := J_al I
  obtain ⟨c1, c2, c3, c4⟩ := J_cnt I
  have f := J_lfr I (zN C 4) (Nat.le_refl _) hn
  obtain ⟨u1, u2, u3⟩ := J_due I
  intro l hl
  have hl : l < zN C 4 + 1 := hl
  by_cases e : l = zN C 4
  · simp [wN_sI, wN_sJ, wN_sR, wL_sI, wL_sJ, wL_sR, wI_sI, wI_sJ, wI_sR, wJ_sI, wJ_sJ, wJ_sR, wR_sI, wR_sJ, wR_sR, wN_nw, wL_nw, wI_nw, wJ_nw, wR_nw, e, h4]
  · have := J_lam I l (by omega)
    simpa [wN_sI, wN_sJ, wN_sR, wL_sI, wL_sJ, wL_sR, wI_sI, wI_sJ, wI_sR, wJ_sI, wJ_sJ, wJ_sR, wR_sI, wR_sJ, wR_sR, wN_nw, wL_nw, wI_nw, wJ_nw, wR_nw, e] using this
theorem nl_led (I : Inv C R) (hn : zN C 4 < 60) {kd fr to pe fi ev ev2 : Int32} (h1 : zib kd 4 = true) (h2 : zib fr (zN C 3) = true) (h3 : zib to (zN C 3) = true) (h4 : zib pe 100000 = true) (h5 : zib fi 1501 = true) (h6 : zI R 40 0 46 ≤ fi) (h7 : kd = 0 → ev = 0) (h8 : ¬ kd = 0 → ev = ev2 ∧ zib ev 91 = true ∧ ¬ ev = 0) : (∀ l, l < zN (liW (znw C 4 0) (zN C 4) kd fr.toNatClampNeg to.toNatClampNeg pe fi ev) 4 → (zI (lrW R (zN C 4) kd fr to pe fi ev2) 126 0 l < 0 → zI (liW (znw C 4 0) (zN C 4) kd fr.toNatClampNeg to.toNatClampNeg pe fi ev) 4 l 6 = 0) ∧ (¬ zI (lrW R (zN C 4) kd fr to pe fi ev2) 126 0 l < 0 → zI (liW (znw C 4 0) (zN C 4) kd fr.toNatClampNeg to.toNatClampNeg pe fi ev) 4 l 6 = 1 ∧ zI (liW (znw C 4 0) (zN C 4) kd fr.toNatClampNeg to.toNatClampNeg pe fi ev) 4 l 7 = zI (lrW R (zN C 4) kd fr to pe fi ev2) 126 0 l ∧ zib (zI (lrW R (zN C 4) kd fr to pe fi ev2) 126 0 l) 1501 = true)) := by
  have hal := J_al I
  obtain ⟨c1, c2, c3, c4⟩ := J_cnt I
  have f := J_lfr I (zN C 4) (Nat.le_refl _) hn
  obtain ⟨u1, u2, u3⟩ := J_due I
  intro l hl
  have hl : l < zN C 4 + 1 := hl
  by_cases e : l = zN C 4
  · have e9 : (-1 : Int32) < 0 := by decide
    simp [wN_sI, wN_sJ, wN_sR, wL_sI, wL_sJ, wL_sR, wI_sI, wI_sJ, wI_sR, wJ_sI, wJ_sJ, wJ_sR, wR_sI, wR_sJ, wR_sR, wN_nw, wL_nw, wI_nw, wJ_nw, wR_nw, e, e9]
  · have := J_led I l (by omega)
    simpa [wN_sI, wN_sJ, wN_sR, wL_sI, wL_sJ, wL_sR, wI_sI, wI_sJ, wI_sR, wJ_sI, wJ_sJ, wJ_sR, wR_sI, wR_sJ, wR_sR, wN_nw, wL_nw, wI_nw, wJ_nw, wR_nw, e] using this
theorem nl_ldn (I : Inv C R) (hn : zN C 4 < 60) {kd fr to pe fi ev ev2 : Int32} (h1 : zib kd 4 = true) (h2 : zib fr (zN C 3) = true) (h3 : zib to (zN C 3) = true) (h4 : zib pe 100000 = true) (h5 : zib fi 1501 = true) (h6 : zI R 40 0 46 ≤ fi) (h7 : kd = 0 → ev = 0) (h8 : ¬ kd = 0 → ev = ev2 ∧ zib ev 91 = true ∧ ¬ ev = 0) : (∀ l, l < zN (liW (znw C 4 0) (zN C 4) kd fr.toNatClampNeg to.toNatClampNeg pe fi ev) 4 → zI (liW (znw C 4 0) (zN C 4) kd fr.toNatClampNeg to.toNatClampNeg pe fi ev) 4 l 8 = zI (lrW R (zN C 4) kd fr to pe fi ev2) 127 0 l ∧ zI (liW (znw C 4 0) (zN C 4) kd fr.toNatClampNeg to.toNatClampNeg pe fi ev) 4 l 9 = zI (lrW R (zN C 4) kd fr to pe fi ev2) 129 0 l) := by
  have hal := J_al I
  obtain ⟨c1, c2, c3, c4⟩ := J_cnt I
  have f := J_lfr I (zN C 4) (Nat.le_refl _) hn
  obtain ⟨u1, u2, u3⟩ := J_due I
  intro l hl
  have hl : l < zN C 4 + 1 := hl
  by_cases e : l = zN C 4
  · simp [wN_sI, wN_sJ, wN_sR, wL_sI, wL_sJ, wL_sR, wI_sI, wI_sJ, wI_sR, wJ_sI, wJ_sJ, wJ_sR, wR_sI, wR_sJ, wR_sR, wN_nw, wL_nw, wI_nw, wJ_nw, wR_nw, e, f]
  · have := J_ldn I l (by omega)
    simpa [wN_sI, wN_sJ, wN_sR, wL_sI, wL_sJ, wL_sR, wI_sI, wI_sJ, wI_sR, wJ_sI, wJ_sJ, wJ_sR, wR_sI, wR_sJ, wR_sR, wN_nw, wL_nw, wI_nw, wJ_nw, wR_nw, e] using this
theorem nl_lbk (I : Inv C R) (hn : zN C 4 < 60) {kd fr to pe fi ev ev2 : Int32} (h1 : zib kd 4 = true) (h2 : zib fr (zN C 3) = true) (h3 : zib to (zN C 3) = true) (h4 : zib pe 100000 = true) (h5 : zib fi 1501 = true) (h6 : zI R 40 0 46 ≤ fi) (h7 : kd = 0 → ev = 0) (h8 : ¬ kd = 0 → ev = ev2 ∧ zib ev 91 = true ∧ ¬ ev = 0) : (∀ l, l < zN (liW (znw C 4 0) (zN C 4) kd fr.toNatClampNeg to.toNatClampNeg pe fi ev) 4 → zR (liW (znw C 4 0) (zN C 4) kd fr.toNatClampNeg to.toNatClampNeg pe fi ev) 4 l 10 = some l ∧ zL (liW (znw C 4 0) (zN C 4) kd fr.toNatClampNeg to.toNatClampNeg pe fi ev) 24 l = 5 ∧ ∀ w, w < 4 → zI (liW (znw C 4 0) (zN C 4) kd fr.toNatClampNeg to.toNatClampNeg pe fi ev) 24 l (w + 1) = zI (lrW R (zN C 4) kd fr to pe fi ev2) 128 0 (4 * l + w)) := by
  have hal := J_al I
  obtain ⟨c1, c2, c3, c4⟩ := J_cnt I
  have f := J_lfr I (zN C 4) (Nat.le_refl _) hn
  obtain ⟨u1, u2, u3⟩ := J_due I
  intro l hl
  have hl : l < zN C 4 + 1 := hl
  by_cases e : l = zN C 4
  · refine ⟨by simp [wN_sI, wN_sJ, wN_sR, wL_sI, wL_sJ, wL_sR, wI_sI, wI_sJ, wI_sR, wJ_sI, wJ_sJ, wJ_sR, wR_sI, wR_sJ, wR_sR, wN_nw, wL_nw, wI_nw, wJ_nw, wR_nw, e, hal.2.1], by simp [wN_sI, wN_sJ, wN_sR, wL_sI, wL_sJ, wL_sR, wI_sI, wI_sJ, wI_sR, wJ_sI, wJ_sJ, wJ_sR, wR_sI, wR_sJ, wR_sR, wN_nw, wL_nw, wI_nw, wJ_nw, wR_nw, e, hal.2.1], fun w hw => ?_⟩
    have := f.2 w hw
    simp [wN_sI, wN_sJ, wN_sR, wL_sI, wL_sJ, wL_sR, wI_sI, wI_sJ, wI_sR, wJ_sI, wJ_sJ, wJ_sR, wR_sI, wR_sJ, wR_sR, wN_nw, wL_nw, wI_nw, wJ_nw, wR_nw, e, hal.2.1, this]
  · have := J_lbk I l (by omega)
    have e2 : ¬ l = zN C 24 := by rw [hal.2.1]; exact e
    simpa [wN_sI, wN_sJ, wN_sR, wL_sI, wL_sJ, wL_sR, wI_sI, wI_sJ, wI_sR, wJ_sI, wJ_sJ, wJ_sR, wR_sI, wR_sJ, wR_sR, wN_nw, wL_nw, wI_nw, wJ_nw, wR_nw, e, e2] using this
theorem nl_ldu (I : Inv C R) (hn : zN C 4 < 60) {kd fr to pe fi ev ev2 : Int32} (h1 : zib kd 4 = true) (h2 : zib fr (zN C 3) = true) (h3 : zib to (zN C 3) = true) (h4 : zib pe 100000 = true) (h5 : zib fi 1501 = true) (h6 : zI R 40 0 46 ≤ fi) (h7 : kd = 0 → ev = 0) (h8 : ¬ kd = 0 → ev = ev2 ∧ zib ev 91 = true ∧ ¬ ev = 0) : (∀ l, l < zN (liW (znw C 4 0) (zN C 4) kd fr.toNatClampNeg to.toNatClampNeg pe fi ev) 4 → LDu (zI (lrW R (zN C 4) kd fr to pe fi ev2) 40 0 54 + 1).toNatClampNeg (zI (liW (znw C 4 0) (zN C 4) kd fr.toNatClampNeg to.toNatClampNeg pe fi ev) 4 l 4) (zI (liW (znw C 4 0) (zN C 4) kd fr.toNatClampNeg to.toNatClampNeg pe fi ev) 4 l 5) (zI (liW (znw C 4 0) (zN C 4) kd fr.toNatClampNeg to.toNatClampNeg pe fi ev) 4 l 6) (zI (liW (znw C 4 0) (zN C 4) kd fr.toNatClampNeg to.toNatClampNeg pe fi ev) 4 l 7) (zI (lrW R (zN C 4) kd fr to pe fi ev2) 120 0 l) (zI (lrW R (zN C 4) kd fr to pe fi ev2) 124 0 l) (zI (lrW R (zN C 4) kd fr to pe fi ev2) 125 0 l)) := by
  have hal := J_al I
  obtain ⟨c1, c2, c3, c4⟩ := J_cnt I
  have f := J_lfr I (zN C 4) (Nat.le_refl _) hn
  obtain ⟨u1, u2, u3⟩ := J_due I
  intro l hl
  have hl : l < zN C 4 + 1 := hl
  by_cases e : l = zN C 4
  · have hq : (zI R 40 0 54 + 1).toNatClampNeg ≤ fi.toNatClampNeg := rd_le u2 (Int32.le_trans u3 h6)
    have goal : LDu (zI R 40 0 54 + 1).toNatClampNeg ev fi 0 0 kd fi ev2 := by
      refine ⟨h5, h7, h8, ?_⟩
      by_cases hk0 : kd = 0
      · exact Or.inr (Or.inl ⟨hk0, Or.inl ⟨rfl, hq⟩⟩)
      · refine Or.inr (Or.inr ⟨hk0, 0, ?_, ?_, ?_, Or.inl rfl⟩)
        · rw [Nat.mul_zero, Nat.add_zero, nI_rd (zib_ex h5).2]
        · rw [Nat.mul_zero, Nat.add_zero]
          exact hq
        · have := (zib_ex h5).1
          omega
    simpa [wN_sI, wN_sJ, wN_sR, wL_sI, wL_sJ, wL_sR, wI_sI, wI_sJ, wI_sR, wJ_sI, wJ_sJ, wJ_sR, wR_sI, wR_sJ, wR_sR, wN_nw, wL_nw, wI_nw, wJ_nw, wR_nw, e] using goal
  · have := J_ldu I l (by omega)
    simpa [wN_sI, wN_sJ, wN_sR, wL_sI, wL_sJ, wL_sR, wI_sI, wI_sJ, wI_sR, wJ_sI, wJ_sJ, wJ_sR, wR_sI, wR_sJ, wR_sR, wN_nw, wL_nw, wI_nw, wJ_nw, wR_nw, e] using this
theorem nl_lfr (I : Inv C R) (hn : zN C 4 < 60) {kd fr to pe fi ev ev2 : Int32} (h1 : zib kd 4 = true) (h2 : zib fr (zN C 3) = true) (h3 : zib to (zN C 3) = true) (h4 : zib pe 100000 = true) (h5 : zib fi 1501 = true) (h6 : zI R 40 0 46 ≤ fi) (h7 : kd = 0 → ev = 0) (h8 : ¬ kd = 0 → ev = ev2 ∧ zib ev 91 = true ∧ ¬ ev = 0) : (∀ l, zN (liW (znw C 4 0) (zN C 4) kd fr.toNatClampNeg to.toNatClampNeg pe fi ev) 4 ≤ l → l < 60 → zI (lrW R (zN C 4) kd fr to pe fi ev2) 127 0 l = 0 ∧ ∀ w, w < 4 → zI (lrW R (zN C 4) kd fr to pe fi ev2) 128 0 (4 * l + w) = 0) := by
  have hal := J_al I
  obtain ⟨c1, c2, c3, c4⟩ := J_cnt I
  have f := J_lfr I (zN C 4) (Nat.le_refl _) hn
  obtain ⟨u1, u2, u3⟩ := J_due I
  intro l hl hl2
  have hl : zN C 4 + 1 ≤ l := hl
  exact J_lfr I l (by omega) hl2
theorem t_newLine (I : Inv C R) (hn : zN C 4 < 60) {kd fr to pe fi ev ev2 : Int32} (h1 : zib kd 4 = true) (h2 : zib fr (zN C 3) = true) (h3 : zib to (zN C 3) = true) (h4 : zib pe 100000 = true) (h5 : zib fi 1501 = true) (h6 : zI R 40 0 46 ≤ fi) (h7 : kd = 0 → ev = 0) (h8 : ¬ kd = 0 → ev = ev2 ∧ zib ev 91 = true ∧ ¬ ev = 0) :
    TT (f_X9_line_170 0 ev fi pe to.toNatClampNeg fr.toNatClampNeg kd (zN C 4) (zN C 4) (znw C 4 0)) (some (nI (zN C 4), lrW R (zN C 4) kd fr to pe fi ev2)) := by
  have hk := J_kc I
  unfold KC at hk
  have hal := J_al I
  obtain ⟨c1, c2, c3, c4⟩ := J_cnt I
  obtain ⟨a, g1, g2, g3, g4, g5, g6, g7⟩ := J_ll I
  have hl0 : LO (liW (znw C 4 0) (zN C 4) kd fr.toNatClampNeg to.toNatClampNeg pe fi ev) 11 (zN C 4) := ⟨a, g1, g2, g3, g4, g5, g6, g7⟩
  obtain ⟨C', p1, p2, p3⟩ := hl0.add hn
  have f := J_lfr I (zN C 4) (Nat.le_refl _) hn
  have hi0 : f_X3_init (zN C 4) kd (some fr.toNatClampNeg) (some to.toNatClampNeg) pe fi ev (znw C 4 0) = some (liW (znw C 4 0) (zN C 4) kd fr.toNatClampNeg to.toNatClampNeg pe fi ev) := rfl
  have hz : zR (liW (znw C 4 0) (zN C 4) kd fr.toNatClampNeg to.toNatClampNeg pe fi ev) 0 0 3 = some 0 := hk.2.2.2.1
  have hz2 : zR C' 0 0 3 = some 0 := (p3.2.2.1 0 0 3 (by decide) (by decide)).trans hz
  unfold f_X9_line_170
  simp only [hi0, Option.bind_some, hz, p1, hz2, p2.size]
  refine TT.mk ?_ ?_
  · show nI (zN C 4 + 1) - nI 1 = nI (zN C 4)
    rw [nJ_sub (by omega), Nat.add_sub_cancel]
  · refine Inv_ls11 (C := liW (znw C 4 0) (zN C 4) kd fr.toNatClampNeg to.toNatClampNeg pe fi ev) ?_ p2 p3
    obtain ⟨u1, u2, u3⟩ := J_due I
    exact Inv_mx11 (by simpa [KC, KR, LO, wN_sI, wN_sJ, wN_sR, wL_sI, wL_sJ, wL_sR, wI_sI, wI_sJ, wI_sR, wJ_sI, wJ_sJ, wJ_sR, wR_sI, wR_sJ, wR_sR, wN_nw, wL_nw, wI_nw, wJ_nw, wR_nw] using (J_kc I :)) (by simpa [KC, KR, LO, wN_sI, wN_sJ, wN_sR, wL_sI, wL_sJ, wL_sR, wI_sI, wI_sJ, wI_sR, wJ_sI, wJ_sJ, wJ_sR, wR_sI, wR_sJ, wR_sR, wN_nw, wL_nw, wI_nw, wJ_nw, wR_nw] using (J_kr I :)) (nl_cnt I hn h1 h2 h3 h4 h5 h6 h7 h8) (nl_mx I hn h1 h2 h3 h4 h5 h6 h7 h8) (by simpa [KC, KR, LO, wN_sI, wN_sJ, wN_sR, wL_sI, wL_sJ, wL_sR, wI_sI, wI_sJ, wI_sR, wJ_sI, wJ_sJ, wJ_sR, wR_sI, wR_sJ, wR_sR, wN_nw, wL_nw, wI_nw, wJ_nw, wR_nw] using (J_la I :)) (by simpa [KC, KR, LO, wN_sI, wN_sJ, wN_sR, wL_sI, wL_sJ, wL_sR, wI_sI, wI_sJ, wI_sR, wJ_sI, wJ_sJ, wJ_sR, wR_sI, wR_sJ, wR_sR, wN_nw, wL_nw, wI_nw, wJ_nw, wR_nw] using (J_lm I :)) (by simpa [KC, KR, LO, wN_sI, wN_sJ, wN_sR, wL_sI, wL_sJ, wL_sR, wI_sI, wI_sJ, wI_sR, wJ_sI, wJ_sJ, wJ_sR, wR_sI, wR_sJ, wR_sR, wN_nw, wL_nw, wI_nw, wJ_nw, wR_nw] using (J_lr I :)) (nl_al I hn h1 h2 h3 h4 h5 h6 h7 h8) (by simpa [KC, KR, LO, wN_sI, wN_sJ, wN_sR, wL_sI, wL_sJ, wL_sR, wI_sI, wI_sJ, wI_sR, wJ_sI, wJ_sJ, wJ_sR, wR_sI, wR_sJ, wR_sR, wN_nw, wL_nw, wI_nw, wJ_nw, wR_nw] using (J_bno I :)) (by simpa [KC, KR, LO, wN_sI, wN_sJ, wN_sR, wL_sI, wL_sJ, wL_sR, wI_sI, wI_sJ, wI_sR, wJ_sI, wJ_sJ, wJ_sR, wR_sI, wR_sJ, wR_sR, wN_nw, wL_nw, wI_nw, wJ_nw, wR_nw] using (J_bfee I :)) (by simpa [KC, KR, LO, wN_sI, wN_sJ, wN_sR, wL_sI, wL_sJ, wL_sR, wI_sI, wI_sJ, wI_sR, wJ_sI, wJ_sJ, wJ_sR, wR_sI, wR_sJ, wR_sR, wN_nw, wL_nw, wI_nw, wJ_nw, wR_nw] using (J_bcap I :)) (by simpa [KC, KR, LO, wN_sI, wN_sJ, wN_sR, wL_sI, wL_sJ, wL_sR, wI_sI, wI_sJ, wI_sR, wJ_sI, wJ_sJ, wJ_sR, wR_sI, wR_sJ, wR_sR, wN_nw, wL_nw, wI_nw, wJ_nw, wR_nw] using (J_bow I :)) (by simpa [KC, KR, LO, wN_sI, wN_sJ, wN_sR, wL_sI, wL_sJ, wL_sR, wI_sI, wI_sJ, wI_sR, wJ_sI, wJ_sJ, wJ_sR, wR_sI, wR_sJ, wR_sR, wN_nw, wL_nw, wI_nw, wJ_nw, wR_nw] using (J_bdid I :)) (by simpa [KC, KR, LO, wN_sI, wN_sJ, wN_sR, wL_sI, wL_sJ, wL_sR, wI_sI, wI_sJ, wI_sR, wJ_sI, wJ_sJ, wJ_sR, wR_sI, wR_sJ, wR_sR, wN_nw, wL_nw, wI_nw, wJ_nw, wR_nw] using (J_bnet I :)) (by simpa [KC, KR, LO, wN_sI, wN_sJ, wN_sR, wL_sI, wL_sJ, wL_sR, wI_sI, wI_sJ, wI_sR, wJ_sI, wJ_sJ, wJ_sR, wR_sI, wR_sJ, wR_sR, wN_nw, wL_nw, wI_nw, wJ_nw, wR_nw] using (J_day I :)) (by simpa [KC, KR, LO, wN_sI, wN_sJ, wN_sR, wL_sI, wL_sJ, wL_sR, wI_sI, wI_sJ, wI_sR, wJ_sI, wJ_sJ, wJ_sR, wR_sI, wR_sJ, wR_sR, wN_nw, wL_nw, wI_nw, wJ_nw, wR_nw] using (J_ngt I :)) (by simpa [KC, KR, LO, wN_sI, wN_sJ, wN_sR, wL_sI, wL_sJ, wL_sR, wI_sI, wI_sJ, wI_sR, wJ_sI, wJ_sJ, wJ_sR, wR_sI, wR_sJ, wR_sR, wN_nw, wL_nw, wI_nw, wJ_nw, wR_nw] using (J_due I :)) (by simpa [KC, KR, LO, wN_sI, wN_sJ, wN_sR, wL_sI, wL_sJ, wL_sR, wI_sI, wI_sJ, wI_sR, wJ_sI, wJ_sJ, wJ_sR, wR_sI, wR_sJ, wR_sR, wN_nw, wL_nw, wI_nw, wJ_nw, wR_nw] using (J_hol I :)) (by simpa [KC, KR, LO, wN_sI, wN_sJ, wN_sR, wL_sI, wL_sJ, wL_sR, wI_sI, wI_sJ, wI_sR, wJ_sI, wJ_sJ, wJ_sR, wR_sI, wR_sJ, wR_sR, wN_nw, wL_nw, wI_nw, wJ_nw, wR_nw] using (J_lat I :)) (by simpa [KC, KR, LO, wN_sI, wN_sJ, wN_sR, wL_sI, wL_sJ, wL_sR, wI_sI, wI_sJ, wI_sR, wJ_sI, wJ_sJ, wJ_sR, wR_sI, wR_sJ, wR_sR, wN_nw, wL_nw, wI_nw, wJ_nw, wR_nw] using (J_ano I :)) (by simpa [KC, KR, LO, wN_sI, wN_sJ, wN_sR, wL_sI, wL_sJ, wL_sR, wI_sI, wI_sJ, wI_sR, wJ_sI, wJ_sJ, wJ_sR, wR_sI, wR_sJ, wR_sR, wN_nw, wL_nw, wI_nw, wJ_nw, wR_nw] using (J_abk I :)) (by simpa [KC, KR, LO, wN_sI, wN_sJ, wN_sR, wL_sI, wL_sJ, wL_sR, wI_sI, wI_sJ, wI_sR, wJ_sI, wJ_sJ, wJ_sR, wR_sI, wR_sJ, wR_sR, wN_nw, wL_nw, wI_nw, wJ_nw, wR_nw] using (J_anm I :)) (by simpa [KC, KR, LO, wN_sI, wN_sJ, wN_sR, wL_sI, wL_sJ, wL_sR, wI_sI, wI_sJ, wI_sR, wJ_sI, wJ_sJ, wJ_sR, wR_sI, wR_sJ, wR_sR, wN_nw, wL_nw, wI_nw, wJ_nw, wR_nw] using (J_asum I :)) (by simpa [KC, KR, LO, wN_sI, wN_sJ, wN_sR, wL_sI, wL_sJ, wL_sR, wI_sI, wI_sJ, wI_sR, wJ_sI, wJ_sJ, wJ_sR, wR_sI, wR_sJ, wR_sR, wN_nw, wL_nw, wI_nw, wJ_nw, wR_nw] using (J_aov I :)) (by simpa [KC, KR, LO, wN_sI, wN_sJ, wN_sR, wL_sI, wL_sJ, wL_sR, wI_sI, wI_sJ, wI_sR, wJ_sI, wJ_sJ, wJ_sR, wR_sI, wR_sJ, wR_sR, wN_nw, wL_nw, wI_nw, wJ_nw, wR_nw] using (J_ast I :)) (by simpa [KC, KR, LO, wN_sI, wN_sJ, wN_sR, wL_sI, wL_sJ, wL_sR, wI_sI, wI_sJ, wI_sR, wJ_sI, wJ_sJ, wJ_sR, wR_sI, wR_sJ, wR_sR, wN_nw, wL_nw, wI_nw, wJ_nw, wR_nw] using (J_amv I :)) (by simpa [KC, KR, LO, wN_sI, wN_sJ, wN_sR, wL_sI, wL_sJ, wL_sR, wI_sI, wI_sJ, wI_sR, wJ_sI, wJ_sJ, wJ_sR, wR_sI, wR_sJ, wR_sR, wN_nw, wL_nw, wI_nw, wJ_nw, wR_nw] using (J_ano2 I :)) (by simpa [KC, KR, LO, wN_sI, wN_sJ, wN_sR, wL_sI, wL_sJ, wL_sR, wI_sI, wI_sJ, wI_sR, wJ_sI, wJ_sJ, wJ_sR, wR_sI, wR_sJ, wR_sR, wN_nw, wL_nw, wI_nw, wJ_nw, wR_nw] using (J_agd I :)) (by simpa [KC, KR, LO, wN_sI, wN_sJ, wN_sR, wL_sI, wL_sJ, wL_sR, wI_sI, wI_sJ, wI_sR, wJ_sI, wJ_sJ, wJ_sR, wR_sI, wR_sJ, wR_sR, wN_nw, wL_nw, wI_nw, wJ_nw, wR_nw] using (J_akp I :)) (by simpa [KC, KR, LO, wN_sI, wN_sJ, wN_sR, wL_sI, wL_sJ, wL_sR, wI_sI, wI_sJ, wI_sR, wJ_sI, wJ_sJ, wJ_sR, wR_sI, wR_sJ, wR_sR, wN_nw, wL_nw, wI_nw, wJ_nw, wR_nw] using (J_ahs I :)) (by simpa [KC, KR, LO, wN_sI, wN_sJ, wN_sR, wL_sI, wL_sJ, wL_sR, wI_sI, wI_sJ, wI_sR, wJ_sI, wJ_sJ, wJ_sR, wR_sI, wR_sJ, wR_sR, wN_nw, wL_nw, wI_nw, wJ_nw, wR_nw] using (J_afr I :)) (nl_lk I hn h1 h2 h3 h4 h5 h6 h7 h8) (nl_lft I hn h1 h2 h3 h4 h5 h6 h7 h8) (nl_lam I hn h1 h2 h3 h4 h5 h6 h7 h8) (nl_led I hn h1 h2 h3 h4 h5 h6 h7 h8) (nl_ldn I hn h1 h2 h3 h4 h5 h6 h7 h8) (nl_lbk I hn h1 h2 h3 h4 h5 h6 h7 h8) (nl_ldu I hn h1 h2 h3 h4 h5 h6 h7 h8) (nl_lfr I hn h1 h2 h3 h4 h5 h6 h7 h8) (by simpa [KC, KR, LO, wN_sI, wN_sJ, wN_sR, wL_sI, wL_sJ, wL_sR, wI_sI, wI_sJ, wI_sR, wJ_sI, wJ_sJ, wJ_sR, wR_sI, wR_sJ, wR_sR, wN_nw, wL_nw, wI_nw, wJ_nw, wR_nw] using (J_mac I :)) (by simpa [KC, KR, LO, wN_sI, wN_sJ, wN_sR, wL_sI, wL_sJ, wL_sR, wI_sI, wI_sJ, wI_sR, wJ_sI, wJ_sJ, wJ_sR, wR_sI, wR_sJ, wR_sR, wN_nw, wL_nw, wI_nw, wJ_nw, wR_nw] using (J_mpt I :)) (by simpa [KC, KR, LO, wN_sI, wN_sJ, wN_sR, wL_sI, wL_sJ, wL_sR, wI_sI, wI_sJ, wI_sR, wJ_sI, wJ_sJ, wJ_sR, wR_sI, wR_sJ, wR_sR, wN_nw, wL_nw, wI_nw, wJ_nw, wR_nw] using (J_mas I :)) (by simpa [KC, KR, LO, wN_sI, wN_sJ, wN_sR, wL_sI, wL_sJ, wL_sR, wI_sI, wI_sJ, wI_sR, wJ_sI, wJ_sJ, wJ_sR, wR_sI, wR_sJ, wR_sR, wN_nw, wL_nw, wI_nw, wJ_nw, wR_nw] using (J_mst I :)) (by simpa [KC, KR, LO, wN_sI, wN_sJ, wN_sR, wL_sI, wL_sJ, wL_sR, wI_sI, wI_sJ, wI_sR, wJ_sI, wJ_sJ, wJ_sR, wR_sI, wR_sJ, wR_sR, wN_nw, wL_nw, wI_nw, wJ_nw, wR_nw] using (J_mgo I :)) (by simpa [KC, KR, LO, wN_sI, wN_sJ, wN_sR, wL_sI, wL_sJ, wL_sR, wI_sI, wI_sJ, wI_sR, wJ_sI, wJ_sJ, wJ_sR, wR_sI, wR_sJ, wR_sR, wN_nw, wL_nw, wI_nw, wJ_nw, wR_nw] using (J_mag I :)) (by simpa [KC, KR, LO, wN_sI, wN_sJ, wN_sR, wL_sI, wL_sJ, wL_sR, wI_sI, wI_sJ, wI_sR, wJ_sI, wJ_sJ, wJ_sR, wR_sI, wR_sJ, wR_sR, wN_nw, wL_nw, wI_nw, wJ_nw, wR_nw] using (J_mwy I :)) (by simpa [KC, KR, LO, wN_sI, wN_sJ, wN_sR, wL_sI, wL_sJ, wL_sR, wI_sI, wI_sJ, wI_sR, wJ_sI, wJ_sJ, wJ_sR, wR_sI, wR_sJ, wR_sR, wN_nw, wL_nw, wI_nw, wJ_nw, wR_nw] using (J_mfa I :)) (by simpa [KC, KR, LO, wN_sI, wN_sJ, wN_sR, wL_sI, wL_sJ, wL_sR, wI_sI, wI_sJ, wI_sR, wJ_sI, wJ_sJ, wJ_sR, wR_sI, wR_sJ, wR_sR, wN_nw, wL_nw, wI_nw, wJ_nw, wR_nw] using (J_mfb I :)) (by simpa [KC, KR, LO, wN_sI, wN_sJ, wN_sR, wL_sI, wL_sJ, wL_sR, wI_sI, wI_sJ, wI_sR, wJ_sI, wJ_sJ, wJ_sR, wR_sI, wR_sJ, wR_sR, wN_nw, wL_nw, wI_nw, wJ_nw, wR_nw] using (J_mop I :)) (by simpa [KC, KR, LO, wN_sI, wN_sJ, wN_sR, wL_sI, wL_sJ, wL_sR, wI_sI, wI_sJ, wI_sR, wJ_sI, wJ_sJ, wJ_sR, wR_sI, wR_sJ, wR_sR, wN_nw, wL_nw, wI_nw, wJ_nw, wR_nw] using (J_mdj I :)) (by simpa [KC, KR, LO, wN_sI, wN_sJ, wN_sR, wL_sI, wL_sJ, wL_sR, wI_sI, wI_sJ, wI_sR, wJ_sI, wJ_sJ, wJ_sR, wR_sI, wR_sJ, wR_sR, wN_nw, wL_nw, wI_nw, wJ_nw, wR_nw] using (J_mfr I :)) (by simpa [KC, KR, LO, wN_sI, wN_sJ, wN_sR, wL_sI, wL_sJ, wL_sR, wI_sI, wI_sJ, wI_sR, wJ_sI, wJ_sJ, wJ_sR, wR_sI, wR_sJ, wR_sR, wN_nw, wL_nw, wI_nw, wJ_nw, wR_nw] using (J_rpf I :)) (by simpa [KC, KR, LO, wN_sI, wN_sJ, wN_sR, wL_sI, wL_sJ, wL_sR, wI_sI, wI_sJ, wI_sR, wJ_sI, wJ_sJ, wJ_sR, wR_sI, wR_sJ, wR_sR, wN_nw, wL_nw, wI_nw, wJ_nw, wR_nw] using (J_rtx I :)) (by simpa [KC, KR, LO, wN_sI, wN_sJ, wN_sR, wL_sI, wL_sJ, wL_sR, wI_sI, wI_sJ, wI_sR, wJ_sI, wJ_sJ, wJ_sR, wR_sI, wR_sJ, wR_sR, wN_nw, wL_nw, wI_nw, wJ_nw, wR_nw] using (J_tap I :)) (by simpa [KC, KR, LO, wN_sI, wN_sJ, wN_sR, wL_sI, wL_sJ, wL_sR, wI_sI, wI_sJ, wI_sR, wJ_sI, wJ_sJ, wJ_sR, wR_sI, wR_sJ, wR_sR, wN_nw, wL_nw, wI_nw, wJ_nw, wR_nw] using (J_row I :)) (by simpa [KC, KR, LO, wN_sI, wN_sJ, wN_sR, wL_sI, wL_sJ, wL_sR, wI_sI, wI_sJ, wI_sR, wJ_sI, wJ_sJ, wJ_sR, wR_sI, wR_sJ, wR_sR, wN_nw, wL_nw, wI_nw, wJ_nw, wR_nw] using (J_sur I :)) (by simpa [KC, KR, LO, wN_sI, wN_sJ, wN_sR, wL_sI, wL_sJ, wL_sR, wI_sI, wI_sJ, wI_sR, wJ_sI, wJ_sJ, wJ_sR, wR_sI, wR_sJ, wR_sR, wN_nw, wL_nw, wI_nw, wJ_nw, wR_nw] using (J_ref I :))
theorem e_lnR (hr : KR R) {n : Nat} (hn : n < 60) (hc : zI R 40 0 50 = nI n) (x1 x2 x3 x4 x5 x6 : Int32) : f_X10_line_100 0 x1 x2 x3 x4 x5 x6 R = some (nI n, lrW R n x1 x2 x3 x4 x5 x6) := by
  unfold KR at hr
  have e : ¬ nI n = 60 := fun z => by have := (nI_inj (b := 60) (by omega) (by decide)).mp z; omega
  unfold f_X10_line_100
  simp only [hc, hr, e, if_false, wN_sI, wN_sJ, wN_sR, wL_sI, wL_sJ, wL_sR, wI_sI, wI_sJ, wI_sR, wJ_sI, wJ_sJ, wJ_sR, wR_sI, wR_sJ, wR_sR, Option.bind_some, zgd, zlt, zib_nI hn (by decide), if_true, nI_clamp (show n < 2 ^ 31 by omega), ← nI_succ]
theorem t_line (I : Inv C R) (x1 x2 x3 x4 x5 x6 : Int32) : TT (f_X9_line 0 x1 x2 x3 x4 x5 x6 C) (f_X10_line 0 x1 x2 x3 x4 x5 x6 R) := by
  have hk := J_kc I
  unfold KC at hk
  have hm := (J_mx I).2.1
  obtain ⟨c1, c2, c3, c4⟩ := J_cnt I
  obtain ⟨d1, d2⟩ := J_day I
  have e4 := e_isIn x1 (n := 4) (by decide) R
  rw [show (nI 4) = 4 from rfl] at e4
  unfold f_X9_line f_X10_line f_X9_line_9 f_X9_line_47 f_X10_line_36
  rw [e_accAt I, e_accAt I, e_isAcc I, e_isAcc I, e4]
  by_cases h : zib x1 4 = true
  · have q0 := (zib_ex h).2
    have q3 : x1 ≤ 3 := by
      have := (zib_ex h).1
      rw [← nI_rd q0]
      exact (nJ_le rd_lt (by decide) (b := 3)).mpr (by omega)
    have qz : (x1 ≤ 0) = (x1 = 0) := by
      apply propext
      constructor
      · intro z
        exact Int32.le_antisymm z (Int32.not_lt.mp q0)
      · intro z
        rw [z]
        decide
    simp only [q0, q3, h, if_true, if_false, Option.bind_some, show ¬ (1 : Int32) = 0 by decide, qz]
    by_cases h2 : zib x2 (zN C 3) = true
    · by_cases h3 : zib x3 (zN C 3) = true
      · simp only [h2, h3, if_true, zop, show ¬ (1 : Int32) = 0 by decide, if_false, Option.some.injEq, rd_inj (zib_ex h2).2 (zib_ex h3).2]
        by_cases h4 : x2 = x3
        · simp only [h4, if_true]
          exact t_refB I (by decide)
        simp only [h4, if_false]
        unfold f_X9_line_62 f_X9_line_93 f_X10_line_67
        simp only [hk, Option.bind_some, d1]
        by_cases h5 : x4 < 1
        · simp only [h5, if_true, ite_self]
          exact t_refB I (by decide)
        by_cases h6 : x5 < zI R 40 0 46
        · simp only [h5, h6, if_true, if_false, ite_self]
          exact t_refB I (by decide)
        simp only [h5, h6, if_false]
        have h50 : ¬ x5 < 0 := fun z => (zib_ex d2).2 (Int32.lt_of_le_of_lt (Int32.not_lt.mp h6) z)
        have h40 : ¬ x4 < 0 := fun z => h5 (Int32.lt_trans z (by decide))
        have fin : ∀ once : Int32, (once = 0 ∨ once = 1) → (once = 0 ↔ ¬ x1 = 0) → (¬ x1 = 0 → 1 ≤ x6) → TT (f_X9_line_100 0 x1 x4 x5 x6 x2.toNatClampNeg x3.toNatClampNeg once C) (f_X10_line_74 0 x1 x2 x3 x4 x5 x6 R) := by
          intro once ho1 ho hx6
          unfold f_X9_line_100 f_X9_line_127 f_X9_line_139 f_X10_line_74 f_X10_line_109
          simp only [qz]
          by_cases g1 : 99999 < x4
          · simp only [g1, if_true]
            exact t_refB I (by decide)
          by_cases g2 : 1500 < x5
          · simp only [g1, g2, if_true, if_false]
            exact t_refB I (by decide)
          simp only [g1, g2, if_false, hk, Option.bind_some, (J_ll I).size]
          have z4 : zib x4 100000 = true := by
            refine zib_of h40 ?_
            have := rd_le h40 (Int32.not_lt.mp g1)
            have e : (99999 : Int32).toNatClampNeg = 99999 := by decide
            omega
          have z5 : zib x5 1501 = true := by
            refine zib_of h50 ?_
            have := rd_le h50 (Int32.not_lt.mp g2)
            have e : (1500 : Int32).toNatClampNeg = 1500 := by decide
            omega
          by_cases hx0 : x1 = 0
          · have ho0 : ¬ once = 0 := fun z => ho.mp z hx0
            simp only [hx0, if_true, ho0, if_false]
            by_cases g3 : zN C 4 = 60
            · have e1 : ¬ nI 60 < 60 := by decide
              have e2 : f_X10_line_100 0 0 x2 x3 x4 x5 x6 R = Option.bind (f_X10_refuse 0 (-6) R) (fun o1 => some (o1.1, o1.2)) := by
                unfold f_X10_line_100
                rw [c2, g3, if_pos (show nI 60 = 60 from rfl)]
                rfl
              rw [g3, e2]
              simp only [e1, if_false]
              exact t_refB I (by decide)
            · have hn : zN C 4 < 60 := by omega
              have e1 : nI (zN C 4) < 60 := (nJ_lt (b := 60) (by omega) (by decide)).mpr hn
              simp only [e1, if_true, zlt]
              rw [e_lnR (J_kr I) hn c2]
              exact t_newLine I hn (by decide) h2 h3 z4 z5 (Int32.not_lt.mp h6) (fun _ => rfl) (fun z => absurd rfl z)
          · have ho0 : once = 0 := ho.mpr hx0
            simp only [hx0, if_false, ho0, if_true]
            by_cases g4 : 90 < x6
            · simp only [g4, if_true]
              exact t_refB I (by decide)
            simp only [g4, if_false]
            by_cases g3 : zN C 4 = 60
            · have e1 : ¬ nI 60 < 60 := by decide
              have e2 : f_X10_line_100 0 x1 x2 x3 x4 x5 x6 R = Option.bind (f_X10_refuse 0 (-6) R) (fun o1 => some (o1.1, o1.2)) := by
                unfold f_X10_line_100
                rw [c2, g3, if_pos (show nI 60 = 60 from rfl)]
                rfl
              rw [g3, e2]
              simp only [e1, if_false]
              exact t_refB I (by decide)
            · have hn : zN C 4 < 60 := by omega
              have e1 : nI (zN C 4) < 60 := (nJ_lt (b := 60) (by omega) (by decide)).mpr hn
              simp only [e1, if_true, zlt]
              rw [e_lnR (J_kr I) hn c2]
              have x60 : ¬ x6 < 0 := fun z => absurd (Int32.lt_of_le_of_lt (hx6 hx0) z) (by decide)
              refine t_newLine I hn h h2 h3 z4 z5 (Int32.not_lt.mp h6) (fun z => absurd z hx0) (fun _ => ⟨rfl, zib_of x60 ?_, fun z => ?_⟩)
              · have := rd_le x60 (Int32.not_lt.mp g4)
                have e : (90 : Int32).toNatClampNeg = 90 := by decide
                omega
              · have := hx6 hx0
                rw [z] at this
                exact absurd this (by decide)
        by_cases hx0 : x1 = 0
        · have := fin 1 (Or.inr rfl) ⟨fun z => absurd z (by decide), fun z => absurd hx0 z⟩ (fun z => absurd hx0 z)
          simpa only [hx0, if_true, show ¬ (1 : Int32) = 0 by decide, if_false] using this
        · by_cases h7 : 1 ≤ x6
          · have := fin 0 (Or.inl rfl) ⟨fun _ => hx0, fun _ => rfl⟩ (fun _ => h7)
            simpa only [hx0, h7, if_true, if_false] using this
          · simp only [hx0, h7, if_true, if_false]
            exact t_refB I (by decide)
      · simp only [h2, h3, if_true, if_false, zop, show ¬ (1 : Int32) = 0 by decide]
        exact t_refB I (by decide)
    · simp only [h2, if_false, zop, if_true]
      exact t_refB I (by decide)
  · have q : x1 < 0 ∨ ¬ x1 ≤ 3 := by
      by_cases q0 : x1 < 0
      · exact Or.inl q0
      · refine Or.inr fun q1 => h (zib_of q0 ?_)
        have := rd_le q0 q1
        have e : (3 : Int32).toNatClampNeg = 3 := by decide
        omega
    by_cases q0 : x1 < 0
    · simp only [q0, h, if_true, if_false, Option.bind_some]
      exact t_refB I (by decide)
    · have q1 := q.resolve_left q0
      simp only [q0, q1, h, if_true, if_false, Option.bind_some]
      exact t_refB I (by decide)
end ZN
