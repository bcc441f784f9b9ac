/-! ===== routes, found from the last account down, and chains ===== -/
def bJ : Option Nat → Int32
  | none => -9
  | some y => nI y
section ZRO
variable {C R : zH}
theorem rt_f {N : Nat} {b : Option Nat} {d : Int32} (hy : ∀ x, x < N → zI R 114 0 x = 2 → x < (zI R 115 0 x).toNatClampNeg ∧ (zI R 115 0 x).toNatClampNeg < N) : ∀ n m x, N ≤ x + n → N ≤ x + m → x < N → rt R b d n x = rt R b d m x := by
  intro n
  induction n with
  | zero => intro m x h1 h2 h3; omega
  | succ n ih =>
    intro m x h1 h2 h3
    obtain ⟨m, rfl⟩ : ∃ m', m = m' + 1 := ⟨m - 1, by omega⟩
    rw [rt, rt]
    by_cases e : zI R 114 0 x = 2
    · rw [if_pos e, if_pos e]
      obtain ⟨y1, y2⟩ := hy x h3 e
      rw [ih m _ (by omega) (by omega) y2]
    · rw [if_neg e, if_neg e]
theorem q_hy (I : Inq C R) : ∀ x, x < zN C 3 → zI R 114 0 x = 2 → x < (zI R 115 0 x).toNatClampNeg ∧ (zI R 115 0 x).toNatClampNeg < zN C 3 := fun x hx h => by
  obtain ⟨a1, a2, a3, a4, a5⟩ := Q_amv I x hx h
  exact ⟨a3, (zib_ex a2).1⟩
theorem rt_lt (I : Inq C R) {b : Option Nat} {d : Int32} : ∀ n x y, x < zN C 3 → rt R b d n x = some y → y < zN C 3 ∧ ¬ zI R 114 0 y = 2 := by
  intro n
  induction n with
  | zero => intro x y hx h; cases h
  | succ n ih =>
    intro x y hx h
    rw [rt] at h
    by_cases e : zI R 114 0 x = 2
    · rw [if_pos e] at h
      split at h
      · exact ih _ y (q_hy I x hx e).2 h
      · cases h
    · rw [if_neg e] at h
      cases h
      exact ⟨hx, e⟩
theorem l_rou (I : Inq C R) {b : Option Nat} {d : Int32} (hb : ∀ r, b = some r → r < zN C 6) (hd : zib d 1501 = true) : ∀ (i f : Nat) (C1 : zH), i ≤ zN C 3 → i < f → SC C C1 → (∀ j, i ≤ j → j < zN C 3 → zR C1 3 j 12 = rt R b d 40 j) → ∃ C2, f_X9_findRoutes_20 f 0 d b (nI i - 1) C1 = some C2 ∧ SC C C2 ∧ ∀ j, j < zN C 3 → zR C2 3 j 12 = rt R b d 40 j := by
  have hmx := (Q_mx I).1
  intro i
  induction i with
  | zero =>
    intro f C1 hi hf F hz
    obtain ⟨f, rfl⟩ : ∃ f', f = f' + 1 := ⟨f - 1, by omega⟩
    rw [f_X9_findRoutes_20, if_pos (by decide)]
    exact ⟨C1, rfl, F, fun j hj => hz j (Nat.zero_le _) hj⟩
  | succ i ih =>
    intro f C1 hi hf F hz
    obtain ⟨f, rfl⟩ : ∃ f', f = f' + 1 := ⟨f - 1, by omega⟩
    have I1 := Inq_SC I F
    have hk1 := Q_kc I1
    unfold KC at hk1
    have N1 : zN C1 3 = zN C 3 := F.2.2.2.1 3
    have hil : i < zN C1 3 := by omega
    have e1 : nI i + -1 = nI i - 1 := (Int32.sub_eq_add_neg _ _).symm
    rw [f_X9_findRoutes_20, nI_pred, if_neg (nI_pos (by omega))]
    simp only [hk1, Option.bind_some, (Q_la I1).get hil, e1, zlt]
    have go : ∀ C2 : zH, SC C C2 → (∀ j, i ≤ j → j < zN C 3 → zR C2 3 j 12 = rt R b d 40 j) → ∃ C3, f_X9_findRoutes_20 f 0 d b (nI i - 1) C2 = some C3 ∧ SC C C3 ∧ ∀ j, j < zN C 3 → zR C3 3 j 12 = rt R b d 40 j := fun C2 F2 h2 => ih f C2 (by omega) (by omega) F2 h2
    by_cases e : zI R 114 0 i = 2
    · obtain ⟨a1, a2, a3, a4, a5⟩ := Q_amv I1 i hil e
      obtain ⟨C2, s1, s2⟩ := e_sentC I1 (b := b) (d := d) (fun r hr => by rw [F.2.2.2.1]; exact hb r hr) hd hil e
      have hy := (zib_ex a2).1
      rw [N1] at hy
      have hrt : rt R b d 40 i = if sO R b d i = true then rt R b d 40 (zI R 115 0 i).toNatClampNeg else none := by
        rw [rt, if_pos e]
        rw [rt_f (q_hy I) 39 40 (zI R 115 0 i).toNatClampNeg (by omega) (by omega) hy]
      rw [a1] at s1
      simp only [a1, zop, s1, Option.bind_some]
      have w9 : zR C2 3 i 9 = some (zI R 115 0 i).toNatClampNeg := (s2.2.2.1 3 i 9).trans a1
      have others : ∀ v, v = rt R b d 40 i → ∀ j, i ≤ j → j < zN C 3 → zR (zsR C2 3 i 12 v) 3 j 12 = rt R b d 40 j := by
        intro v hv j hj hj2
        rw [wR_sR]
        by_cases ej : j = i
        · rw [if_pos ⟨rfl, ej, rfl⟩, hv, ej]
        · rw [if_neg (fun z => ej z.2.1), s2.2.2.1]
          exact hz j (by omega) hj2
      by_cases es : sO R b d i = true
      · rw [if_pos es] at hrt ⊢
        rw [if_neg (by decide), w9, Option.bind_some]
        refine go _ ((F.tr s2.sc).setR i _) (others _ ?_)
        rw [hrt, s2.2.2.1]
        exact hz _ (by omega) hy
      · rw [if_neg es] at hrt ⊢
        rw [if_pos rfl]
        exact go _ ((F.tr s2.sc).setR i _) (others _ hrt.symm)
    · have a1 := (Q_ano2 I1 i hil e).1
      simp only [a1, zop]
      refine go _ (F.setR i _) (fun j hj hj2 => ?_)
      rw [wR_sR]
      by_cases ej : j = i
      · rw [if_pos ⟨rfl, ej, rfl⟩, ej, rt, if_neg e]
      · rw [if_neg (fun z => ej z.2.1)]
        exact hz j (by omega) hj2
theorem e_rou (I : Inq C R) {d : Int32} (hd : zib d 1501 = true) : ∃ b C2, (∀ r, b = some r → r < zN C 6) ∧ f_X6_inForce 0 1 d C = some b ∧ f_X9_findRoutes 0 d C = some C2 ∧ SC C C2 ∧ ∀ j, j < zN C 3 → zR C2 3 j 12 = rt R b d 40 j := by
  have hk := Q_kc I
  unfold KC at hk
  obtain ⟨b, w1, w2, w3⟩ := t_pick I 1 d
  have hmx := (Q_mx I).1
  obtain ⟨C2, s1, s2, s3⟩ := l_rou I w1 hd (zN C 3) fu C (Nat.le_refl _) (by unfold fu; omega) SC.rf (fun j h1 h2 => by omega)
  refine ⟨b, C2, w1, w2, ?_, s2, s3⟩
  unfold f_X9_findRoutes
  simp only [hk, Option.bind_some, w2, (Q_la I).size]
  exact s1
theorem l_snt (I : Inq C R) {b : Option Nat} {d : Int32} (hb : ∀ r, b = some r → r < zN C 6) (hp : f_X6_inForce 0 1 d C = some b) (hd : zib d 1501 = true) : ∀ (n f x : Nat) (R1 : zH), zN C 3 ≤ x + n → n < f → x < zN C 3 → SR R R1 → ∃ R2, f_X10_sentOn_2 f 0 d (nI x) R1 = some (bJ (rt R b d n x), R2) ∧ SR R R2 := by
  have hmx := (Q_mx I).1
  intro n
  induction n with
  | zero => intro f x R1 h1 h2 h3; omega
  | succ n ih =>
    intro f x R1 h1 hf hx F
    obtain ⟨f, rfl⟩ : ∃ f', f = f' + 1 := ⟨f - 1, by omega⟩
    have I1 := Inq_SR I F
    have hr1 := Q_kr I1
    unfold KR at hr1
    have z40 : zib (nI x) 40 = true := zib_nI (by omega) (by decide)
    have e114 : zI R1 114 0 x = zI R 114 0 x := F.1 114 0 x (by decide) (by simp)
    rw [f_X10_sentOn_2, rt]
    simp only [hr1, Option.bind_some, zgd, z40, if_true, nI_clamp (show x < 2 ^ 31 by omega), e114]
    by_cases e : zI R 114 0 x = 2
    · rw [if_pos e, if_pos e]
      obtain ⟨a1, a2, a3, a4, a5⟩ := Q_amv I x hx e
      have hy := zib_ex a2
      obtain ⟨R2, g1, g2, g3⟩ := e_bare (Q_kr I1)
      have G2 := F.tr g2
      have I2 := Inq_SR I G2
      have hr2 := Q_kr I2
      unfold KR at hr2
      have e110 : ∀ k, zI R2 110 0 k = zI R 110 0 k := fun k => G2.1 110 0 k (by decide) (by simp)
      have e115 : ∀ k, zI R2 115 0 k = zI R 115 0 k := fun k => G2.1 115 0 k (by decide) (by simp)
      have e116 : ∀ k, zI R2 116 0 k = zI R 116 0 k := fun k => G2.1 116 0 k (by decide) (by simp)
      have zy40 : zib (zI R 115 0 x) 40 = true := zib_mono a2 hmx
      generalize hR3 : zsI (zsI (zsI R2 158 0 98 (zI R 110 0 x)) 158 0 116 (zI R 110 0 (zI R 115 0 x).toNatClampNeg)) 158 0 100 (d - zI R 116 0 x) = R3
      have G3 : SR R R3 := by
        subst hR3
        exact ((G2.set 158 0 98 (Or.inl rfl) _).set 158 0 116 (Or.inl rfl) _).set 158 0 100 (Or.inl rfl) _
      have I3 := Inq_SR I G3
      obtain ⟨b', w1, w2, w3⟩ := t_pick I3 1 d
      have hbb : b' = b := by
        rw [hp] at w2
        exact (Option.some.inj w2).symm
      subst hbb
      have fin : ∃ v R4, f_X10_worth 0 1 d R3 = some (v, R4) ∧ SR R R4 ∧ (d - zI R 116 0 x ≤ v ↔ sO R b' d x = true) := by
        rw [w3]
        cases b' with
        | none =>
          refine ⟨1095, R3, rfl, G3, ?_⟩
          simp only [sO, Bool.not_eq_true', decide_eq_false_iff_not]
          exact Int32.not_lt.symm
        | some r =>
          obtain ⟨v, R4, v1, v2, v3⟩ := rval I3 (r := r) (hb r rfl) (L := Lx R x d) (fun i hi => by
            subst hR3
            unfold Lr Lx
            match i, hi with
            | 0, _ => simp [zch, wI_sI]
            | 1, _ => simp [zch, wI_sI]
            | 2, _ => simp [zch, wI_sI, g3]
            | 3, _ => simp [zch, wI_sI, g3]
            | 4, _ => simp [zch, wI_sI, g3]
            | 5, _ => simp [zch, wI_sI, g3]
            | 6, _ => simp [zch, wI_sI, g3]
            | 7, _ => simp [zch, wI_sI, g3]
            | 8, _ => simp [zch, wI_sI, g3]
            | 9, _ => simp [zch, wI_sI]) 1
          refine ⟨v, R4, v1, G3.tr v3, ?_⟩
          simp only [sO, Bool.not_eq_true', decide_eq_false_iff_not]
          rw [← cdO_sr G3, ← v2, i64_lt]
          exact Int32.not_lt.symm
      obtain ⟨v, R4, v1, v2, v3⟩ := fin
      have hr4 := Q_kr (Inq_SR I v2)
      unfold KR at hr4
      have f115 : zI R4 115 0 x = zI R 115 0 x := v2.1 115 0 x (by decide) (by simp)
      simp only [g1, hr2, Option.bind_some, zgd, zlt, z40, wN_sI, wN_sJ, wN_sR, wL_sI, wL_sJ, wL_sR, wI_sI, wI_sJ, wI_sR, wJ_sI, wJ_sJ, wJ_sR, wR_sI, wR_sJ, wR_sR, if_true, nI_clamp (show x < 2 ^ 31 by omega), e110, e115, e116, zy40, show zib 98 128 = true by decide, show zib 116 128 = true by decide, show zib 100 128 = true by decide, show Int32.toNatClampNeg 98 = 98 by decide, show Int32.toNatClampNeg 116 = 116 by decide, show Int32.toNatClampNeg 100 = 100 by decide, show ¬ (110 : Nat) = 158 by decide, show ¬ (115 : Nat) = 158 by decide, show ¬ (116 : Nat) = 158 by decide, false_and, if_false, hR3, v1, hr4, f115]
      by_cases es : sO R b' d x = true
      · rw [if_pos (v3.mpr es), if_pos es]
        have := ih f (zI R 115 0 x).toNatClampNeg R4 (by omega) (by omega) hy.1 v2
        rw [nI_rd hy.2] at this
        exact this
      · rw [if_neg (fun z => es (v3.mp z)), if_neg es]
        exact ⟨R4, rfl, v2⟩
    · rw [if_neg e, if_neg e]
      exact ⟨R1, rfl, F⟩
theorem e_snt (I : Inq C R) {b : Option Nat} {d x : Int32} (hb : ∀ r, b = some r → r < zN C 6) (hp : f_X6_inForce 0 1 d C = some b) (hd : zib d 1501 = true) (hx : zib x (zN C 3) = true) : ∃ R2, f_X10_sentOn 0 x d R = some (bJ (rt R b d 40 x.toNatClampNeg), R2) ∧ SR R R2 := by
  have hmx := (Q_mx I).1
  have := l_snt I hb hp hd 40 fu x.toNatClampNeg R (by omega) (by unfold fu; omega) (zib_ex hx).1 SR.rf
  rw [nI_rd (zib_ex hx).2] at this
  exact this
theorem t_sends (I : Inv C R) (x1 x2 : Int32) : TT (f_X9_sends 0 x1 x2 C) (f_X10_sends 0 x1 x2 R) := by
  unfold f_X9_sends f_X10_sends f_X10_sends_20
  rw [e_accAt I, e_isAcc I, Option.bind_some, Option.bind_some, e_out, e_wit]
  by_cases h : zib x1 (zN C 3) = true
  · have hi := (zib_ex h).1
    simp only [h, if_true, zop, Option.bind_some, show ¬ (1 : Int32) = 0 by decide, if_false]
    by_cases h2 : ow x2 0 1500 = 0
    · simp only [h2, if_true]
      obtain ⟨o1, o2⟩ := ow_in h2
      have h0 : ¬ x2 < 0 := Int32.not_lt.mpr o1
      have hd : zib x2 1501 = true := by
        refine zib_of h0 ?_
        have := rd_le h0 o2
        have e : (1500 : Int32).toNatClampNeg = 1500 := by decide
        omega
      obtain ⟨b, C2, r1, r2, r3, r4, r5⟩ := e_rou I.q hd
      obtain ⟨R2, s1, s2⟩ := e_snt I.q r1 r2 hd h
      have I2 : Inv C2 R2 := Inv_SR (Inv_SC I r4) s2
      simp only [r3, s1, Option.bind_some, r5 _ hi]
      cases hrt : rt R b x2 40 x1.toNatClampNeg with
      | none =>
        simp only [bJ]
        exact TT.mk rfl I2
      | some y =>
        have hy := (rt_lt I.q 40 _ y hi hrt).1
        simp only [bJ, Option.bind_some]
        refine TT.mk ?_ I2
        exact J_ano I2 y (by rw [r4.2.2.2.1]; exact hy)
    · simp only [h2, if_false]
      exact t_refB I (ow_ref h2)
  · simp only [h, if_false, zop, if_true, show ¬ (-1 : Int32) = 0 by decide]
    exact t_refB I (by decide)
end ZRO
