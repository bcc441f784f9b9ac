/-! ===== an ask: may it leave, and the call ===== -/
section ZAT
variable {C R : zH}
theorem pos64 (v : Int32) : lg_cmp v.toInt64 0 ≤ 0 ↔ ¬ 0 < v := by
  rw [lc_le, show (0 : Int64) = (0 : Int32).toInt64 from rfl, i64_lt]
theorem t_may (I : Inq C R) {x : Int32} {b : Nat} (hx : zib x (zN C 3) = true) (hb : b < 8) (hday : zI C 1 0 4 = zI R 40 0 46) : ∃ a C1 R0 R1 v, f_X9_mayLeave 0 (some x.toNatClampNeg) (some b) C = some (a, C1) ∧ f_X10_puts 0 x (nI b) 0 R = some R0 ∧ f_X10_worth 0 0 (zI R0 40 0 46) R0 = some (v, R1) ∧ SC C C1 ∧ SR R R1 ∧ (a = 0 ↔ ¬ 0 < v) := by
  have hk := Q_kc I
  unfold KC at hk
  obtain ⟨C1, R0, p1, p2, p3, p4, p5, p6, p7⟩ := t_puts I hx hb 0
  have I0 : Inq C R0 := Inq_SR I p4
  have e46 : zI R0 40 0 46 = zI R 40 0 46 := p4.1 40 0 46 (by decide) (by decide)
  obtain ⟨w, w1, w2, w3⟩ := t_pick I0 0 (zI R0 40 0 46)
  rw [e46] at w2
  unfold f_X9_mayLeave
  simp only [hk, Option.bind_some, hday, w2]
  cases w with
  | none =>
    refine ⟨1, C, R0, R0, 1, rfl, p2, ?_, SC.rf, p4, by decide⟩
    rw [w3]
    rfl
  | some r =>
    have hr := w1 r rfl
    have I1 : Inq C1 R0 := Inq_SC I0 p3
    have hN : zN C1 6 = zN C 6 := p3.2.2.2.1 6
    have hk1 := Q_kc I1
    unfold KC at hk1
    obtain ⟨v, C2, R2, v1, v2, v3, v4⟩ := t_val I1 (r := r) (by rw [hN]; exact hr) (fun i hi => by
      by_cases e : i = 9
      · subst e
        unfold Lr
        show hld (zJ C1 26 0 9) = (zI R0 158 0 100).toInt64
        rw [p6, p7]
        decide
      · exact p5 i (by omega))
    simp only [zop, p1, Option.bind_some, hk1, v1]
    by_cases h : lg_cmp v.toInt64 0 ≤ 0
    · refine ⟨0, C2, R0, R2, v, by rw [if_pos h], p2, by rw [w3]; exact v2, p3.tr v3, p4.tr v4, ?_⟩
      exact ⟨fun _ => (pos64 v).mp h, fun _ => rfl⟩
    · refine ⟨1, C2, R0, R2, v, by rw [if_neg h], p2, by rw [w3]; exact v2, p3.tr v3, p4.tr v4, ?_⟩
      exact ⟨fun z => absurd z (by decide), fun z => absurd ((pos64 v).mpr z) h⟩
theorem t_ask (I : Inv C R) (x1 x2 : Int32) {x3 : Int32} (h3 : x3 = 0 ∨ x3 = 1) : TT (f_X9_ask 0 x1 x2 x3 C) (f_X10_ask 0 x1 x2 x3 R) := by
  have hr := J_kr I
  unfold KR at hr
  unfold f_X9_ask f_X10_ask f_X9_ask_24 f_X9_ask_68 f_X9_ask_99 f_X10_ask_15 f_X10_ask_48 f_X10_ask_99
  rw [e_accAt I, e_bnkAt I, e_isAcc I, e_isBank, Option.bind_some, Option.bind_some, Option.bind_some]
  by_cases h : zib x1 (zN C 3) = true
  · have h40 := zib_mono h (J_mx I).1
    have hi := (zib_ex h).1
    simp only [h, h40, hr, if_true, zop, Option.bind_some, zgd, show ¬ (1 : Int32) = 0 by decide, if_false, J_ast I _ hi]
    by_cases hb : zib x2 8 = true
    · simp only [hb, if_true, show ¬ (1 : Int32) = 0 by decide, if_false]
      have hb8 := (zib_ex hb).1
      have hbn := nI_rd (zib_ex hb).2
      by_cases hs : zI R 114 0 x1.toNatClampNeg = 0
      · simp only [hs, if_true]
        have hm := (J_mx I).2.2.1
        obtain ⟨b, q1, q2⟩ := l_isMv I h (zN C 5) 0 fu fu (by omega) (by unfold fu; omega) (by unfold fu; omega)
        rw [show f_X9_isInMove 0 (some x1.toNatClampNeg) C = some b from q1, show f_X10_isMoving 0 x1 R = some b from q2]
        simp only [Option.bind_some]
        by_cases h5 : b = 0
        · simp only [h5, if_true, rv_bk I hb hi]
          have hno := e_noMv I h (by rw [h5] at q2; exact q2)
          by_cases h6 : zI R 110 0 x1.toNatClampNeg = x2
          · simp only [h6, if_true]
            exact t_refB I (by decide)
          simp only [h6, if_false]
          obtain ⟨a, C1, R0, R1, v, g1, g2, g3, g4, g5, g6⟩ := t_may I.q h hb8 (J_day I).1
          rw [hbn] at g2
          have I1 : Inv C1 R1 := Inv_SR (Inv_SC I g4) g5
          simp only [g1, g2, g3, Option.bind_some]
          by_cases h7 : 0 < v
          · have ha : ¬ a = 0 := fun z => g6.mp z h7
            have hk1 := J_kc I1
            have hr1 := J_kr I1
            unfold KC at hk1
            unfold KR at hr1
            have N3 : zN C1 3 = zN C 3 := g4.2.2.2.1 3
            have N5 : zN C1 5 = zN C 5 := g4.2.2.2.1 5
            have c1 := (J_cnt I1).1
            have c3 := (J_cnt I1).2.2.1
            have hx1 := J_mx I1
            simp only [ha, h7, if_true, if_false, hk1, Option.bind_some, (J_lm I1).size, (J_la I1).size, c1, c3]
            by_cases h8 : zN C1 5 = 30
            · simp only [h8, show (30 : Int32) ≤ nI 30 by decide, show nI 30 = 30 from rfl, if_true]
              exact t_refB I1 (by decide)
            have hml : zN C1 5 < 30 := by omega
            have e1 : ¬ (30 : Int32) ≤ nI (zN C1 5) := fun z => by have := (nJ_le (a := 30) (by decide) (by omega)).mp z; omega
            have e2 : ¬ nI (zN C1 5) = 30 := fun z => h8 ((nI_inj (b := 30) (by omega) (by decide)).mp z)
            simp only [e1, e2, if_false]
            by_cases h9 : zN C1 3 = 40
            · simp only [h9, show ¬ nI 40 < 40 by decide, show nI 40 = 40 from rfl, if_true, if_false]
              exact t_refB I1 (by decide)
            have hal : zN C1 3 < 40 := by omega
            have e3 : nI (zN C1 3) < 40 := (nJ_lt (b := 40) (by omega) (by decide)).mpr hal
            have e4 : ¬ nI (zN C1 3) = 40 := fun z => h9 ((nI_inj (b := 40) (by omega) (by decide)).mp z)
            simp only [e3, e4, if_true, if_false]
            obtain ⟨nm1, nm2⟩ := J_anm I1 x1.toNatClampNeg (by rw [N3]; exact hi)
            obtain ⟨C2, o1, o2, o3, o4, o5, o6⟩ := t_opens I1 hal hb8 (zI R1 111 0 x1.toNatClampNeg) (zI R1 112 0 x1.toNatClampNeg)
            have z30 : zib (nI (zN C1 5)) 30 = true := zib_nI hml (by decide)
            have hkr3 : KR (zsI (zsI R1 40 0 51 (nI (zN C1 5 + 1))) 130 0 (zN C1 5) x1) := by
              have := J_kr I1
              simpa [KR, wN_sI, wN_sJ, wN_sR, wL_sI, wL_sJ, wL_sR, wI_sI, wI_sJ, wI_sR, wJ_sI, wJ_sJ, wJ_sR, wR_sI, wR_sJ, wR_sR] using this
            have hc3 : zI (zsI (zsI R1 40 0 51 (nI (zN C1 5 + 1))) 130 0 (zN C1 5) x1) 40 0 49 = nI (zN C1 3) := by
              simpa [wN_sI, wN_sJ, wN_sR, wL_sI, wL_sJ, wL_sR, wI_sI, wI_sJ, wI_sR, wJ_sI, wJ_sJ, wJ_sR, wR_sI, wR_sJ, wR_sR] using c1
            have hops := e_ops hkr3 hal hc3 x2 (zI R1 111 0 x1.toNatClampNeg) (zI R1 112 0 x1.toNatClampNeg)
            rw [opW_comm] at hops
            rw [hbn] at o3
            have hkc2 := J_kc o3
            unfold KC at hkc2
            have hN3 : zN C2 3 = zN C1 3 + 1 := o4
            generalize hRo : opW R1 (zN C1 3) x2 (zI R1 111 0 x1.toNatClampNeg) (zI R1 112 0 x1.toNatClampNeg) (nI (zN C1 3 + 1)) = Ro at *
            have d46 : zI Ro 40 0 46 = zI R1 40 0 46 := by
              rw [← hRo]
              simp [wN_sI, wN_sJ, wN_sR, wL_sI, wL_sJ, wL_sR, wI_sI, wI_sJ, wI_sR, wJ_sI, wJ_sJ, wJ_sR, wR_sI, wR_sJ, wR_sR]
            have dd : zI C2 1 0 4 = zI Ro 40 0 46 := (J_day o3).1
            have rd : ∀ q k, ¬ (q = 110 ∨ q = 111 ∨ q = 112 ∨ q = 115 ∨ q = 116 ∨ q = 40) → zI Ro q 0 k = zI R1 q 0 k := by
              intro q k hq
              rw [← hRo]
              simp only [wI_sI]
              rw [if_neg (fun z => hq (by omega)), if_neg (fun z => hq (by omega)), if_neg (fun z => hq (by omega)), if_neg (fun z => hq (by omega)), if_neg (fun z => hq (by omega)), if_neg (fun z => hq (by omega))]
            have sr : ∀ q k, 100 ≤ q → ¬ q = 158 → zI R1 q 0 k = zI R q 0 k := fun q k a b => g5.1 q 0 k b (by omega)
            have H := n_mov o3 (n := zN C1 3) (x := x1) (x3 := x3) (by rw [o5]; exact hml) hN3 (by rw [N3]; exact h) (by rw [rd 114 _ (by decide), sr 114 _ (by decide) (by decide)]; exact hs) (by rw [rd 114 _ (by decide)]; exact (J_afr I1 (zN C1 3) (Nat.le_refl _) hal).2.1) (fun k hk => by
                rw [rd 138 _ (by decide), rd 130 _ (by decide), rd 131 _ (by decide), sr 138 _ (by decide) (by decide), sr 130 _ (by decide) (by decide), sr 131 _ (by decide) (by decide)]
                exact hno k (by rw [o5, N5] at hk; exact hk)) (fun k hk => by
                rw [rd 130 _ (by decide), rd 131 _ (by decide)]
                obtain ⟨m1, m2, m3, m4, m5⟩ := J_mac I1 k (by rw [o5] at hk; exact hk)
                exact ⟨m2, m4⟩)
            rw [o5] at H
            obtain ⟨a0, l1, l2, l3, l4, l5, l6, l7⟩ := J_lm o3
            rw [o5] at l2 l3 l6
            have hl0 : LO (mvW C2 (zN C1 5) x1.toNatClampNeg (zN C1 3) x3 (zI Ro 40 0 46)) 12 (zN C1 5) := ⟨a0, l1, l2, l3, l4, l5, l6, l7⟩
            obtain ⟨C3, y1, y2, y3⟩ := hl0.add (by omega)
            have hin : f_X4_init (zN C1 5) (some x1.toNatClampNeg) (some (zN C1 3)) x3 (zI Ro 40 0 46) (znw C2 5 0) = some (mvW C2 (zN C1 5) x1.toNatClampNeg (zN C1 3) x3 (zI Ro 40 0 46)) := by
              unfold f_X4_init
              rw [decide_eq_true h3]
              rfl
            have k0 : ∀ q, zR (znw C2 5 0) 0 0 q = zR C2 0 0 q := fun q => by simp [wN_sI, wN_sJ, wN_sR, wL_sI, wL_sJ, wL_sR, wI_sI, wI_sJ, wI_sR, wJ_sI, wJ_sJ, wJ_sR, wR_sI, wR_sJ, wR_sR, wN_nw, wL_nw, wI_nw, wJ_nw, wR_nw]
            have k1 : zI (znw C2 5 0) 1 0 4 = zI Ro 40 0 46 := by
              rw [← dd]
              simp [wN_sI, wN_sJ, wN_sR, wL_sI, wL_sJ, wL_sR, wI_sI, wI_sJ, wI_sR, wJ_sI, wJ_sJ, wJ_sR, wR_sI, wR_sJ, wR_sR, wN_nw, wL_nw, wI_nw, wJ_nw, wR_nw]
            have k4 : zR C3 0 0 4 = some 0 := by
              rw [y3.2.2.1 0 0 4 (by decide) (by decide)]
              simpa [wN_sI, wN_sJ, wN_sR, wL_sI, wL_sJ, wL_sR, wI_sI, wI_sJ, wI_sR, wJ_sI, wJ_sJ, wJ_sR, wR_sI, wR_sJ, wR_sR, wN_nw, wL_nw, wI_nw, wJ_nw, wR_nw] using (show zR C2 0 0 4 = some 0 by simp only [hkc2])
            have hand : x3 &&& 1 = x3 := by
              rcases h3 with z | z <;> rw [z] <;> decide
            have hR : ∀ q, zR Ro 40 0 q = zR R1 40 0 q := fun q => by
              rw [← hRo]
              simp [wN_sI, wN_sJ, wN_sR, wL_sI, wL_sJ, wL_sR, wI_sI, wI_sJ, wI_sR, wJ_sI, wJ_sJ, wJ_sR, wR_sI, wR_sJ, wR_sR]
            have hL : ∀ q, zL Ro q 0 = zL R1 q 0 := fun q => by
              rw [← hRo]
              simp [wN_sI, wN_sJ, wN_sR, wL_sI, wL_sJ, wL_sR, wI_sI, wI_sJ, wI_sR, wJ_sI, wJ_sJ, wJ_sR, wR_sI, wR_sJ, wR_sR]
            have f40 : ¬ (40 : Nat) = 130 := by decide
            simp only [nm1, nm2, o1, Option.bind_some, zlt, k0, hkc2, k1, hin, o5, y1, k4, y2.size, ← nI_succ, wN_sI, wN_sJ, wN_sR, wL_sI, wL_sJ, wL_sR, wI_sI, wI_sJ, wI_sR, wJ_sI, wJ_sJ, wJ_sR, wR_sI, wR_sJ, wR_sR, hr1, z30, zgd, if_true, zib_mono (N3 ▸ h) hx1.1, nI_clamp (show zN C1 5 < 2 ^ 31 by omega), hand, show (1 : Int32) &&& 1 = 1 by decide, show ¬ (111 : Nat) = 130 by decide, show ¬ (112 : Nat) = 130 by decide, show ¬ (111 : Nat) = 40 by decide, show ¬ (112 : Nat) = 40 by decide, false_and, and_false, if_false, hops, hR, hL, show ¬ (40 : Nat) = 135 by decide, show ¬ (40 : Nat) = 138 by decide, show ¬ (40 : Nat) = 140 by decide, show ¬ (40 : Nat) = 131 by decide, f40, show ¬ (46 : Nat) = 51 by decide]
            refine TT.mk ?_ ?_
            · show nI (zN C1 5 + 1) - nI 1 = nI (zN C1 5)
              rw [nJ_sub (by omega), Nat.add_sub_cancel]
            · refine Inv_ls12 (C := mvW C2 (zN C1 5) x1.toNatClampNeg (zN C1 3) x3 (zI Ro 40 0 46)) H ?_ y3
              have : zN (mvW C2 (zN C1 5) x1.toNatClampNeg (zN C1 3) x3 (zI Ro 40 0 46)) 5 = zN C1 5 + 1 := by
                show zN C2 5 + 1 = _
                rw [o5]
              rw [this]
              exact y2
          · have ha : a = 0 := g6.mpr h7
            simp only [ha, h7, if_true, if_false]
            exact t_refB I1 (by decide)
        · simp only [h5, if_false]
          exact t_refB I (by decide)
      · simp only [hs, if_false]
        exact t_refB I (by decide)
    · simp only [hb, if_true, if_false]
      exact t_refB I (by decide)
  · simp only [h, if_false, zop, if_true]
    exact t_refB I (by decide)
end ZAT
