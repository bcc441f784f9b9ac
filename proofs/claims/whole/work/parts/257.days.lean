/-! ===== sums are kept; days ===== -/
section ZDS
variable {C R : zH}
theorem FK.kc {C C' : zH} (h : FK C C') (k : KC C) : KC C' := by
  obtain ⟨f1, f2, f3, f4, f5⟩ := h
  unfold KC at *
  simp only [f3, f5]
  exact k
theorem FH.kr {R R' : zH} (h : FH R R') (k : KR R) : KR R' := by
  obtain ⟨f1, f2, f3, f4, f5⟩ := h
  unfold KR at *
  simp only [f3, f5]
  exact k
theorem FK.lo {C C' : zH} (h : FK C C') {p n : Nat} (l : LO C p n) : LO C' p n := by
  obtain ⟨f1, f2, f3, f4, f5⟩ := h
  obtain ⟨a, l1, l2, l3, l4, l5, l6, l7⟩ := l
  exact ⟨a, by rw [f3]; exact l1, by rw [f1]; exact l2, by rw [f5]; exact l3, by rw [f5]; exact l4, by rw [f5]; exact l5, fun i hi => by rw [f3]; exact l6 i hi, by rw [f4]; exact l7⟩
theorem FK.set {C C' : zH} (h : FK C C') (i k : Nat) (x : Int64) : FK C (zsJ C' 23 i k x) := ⟨fun q i l => by rw [wI_sJ]; exact h.1 q i l, fun q i l a => by rw [wJ_sJ, if_neg (fun z => a z.1)]; exact h.2.1 q i l a, fun q i l => by rw [wR_sJ]; exact h.2.2.1 q i l, fun q => by rw [wN_sJ]; exact h.2.2.2.1 q, fun q i => by rw [wL_sJ]; exact h.2.2.2.2 q i⟩
theorem FH.set {R R' : zH} (h : FH R R') (k : Nat) (x : Int64) : FH R (zsJ R' 119 0 k x) := ⟨fun q i l => by rw [wI_sJ]; exact h.1 q i l, fun q i l a => by rw [wJ_sJ, if_neg (fun z => a z.1)]; exact h.2.1 q i l a, fun q i l => by rw [wR_sJ]; exact h.2.2.1 q i l, fun q => by rw [wN_sJ]; exact h.2.2.2.1 q, fun q i => by rw [wL_sJ]; exact h.2.2.2.2 q i⟩
theorem FK.rf {C : zH} : FK C C := ⟨fun _ _ _ => rfl, fun _ _ _ _ => rfl, fun _ _ _ => rfl, fun _ => rfl, fun _ _ => rfl⟩
theorem FH.rf {C : zH} : FH C C := ⟨fun _ _ _ => rfl, fun _ _ _ _ => rfl, fun _ _ _ => rfl, fun _ => rfl, fun _ _ => rfl⟩
theorem l_kp (I : ID C R) {T : Nat} (hT : T < 1500) (h46 : zI R 40 0 46 = nI T) : ∀ (n i f : Nat) (C1 : zH), i + n = zN C 3 → n < f → FK C C1 → (∀ j d, j < zN C 3 → zJ C1 23 j d = if j < i ∧ d = T - (zI C 3 j 4).toNatClampNeg then zJ C 3 j 6 else zJ C 23 j d) → ∃ C2, f_X9_keepSums_2 f 0 (nI i) C1 = some C2 ∧ FK C C2 ∧ ∀ j d, j < zN C 3 → zJ C2 23 j d = if d = T - (zI C 3 j 4).toNatClampNeg then zJ C 3 j 6 else zJ C 23 j d := by
  have hmx := (D_mx I).1
  intro n
  induction n with
  | zero =>
    intro i f C1 hi hf F hz
    obtain ⟨f, rfl⟩ : ∃ f', f = f' + 1 := ⟨f - 1, by omega⟩
    have hk := F.kc (D_kc I)
    unfold KC at hk
    have hle : nI (zN C 3) ≤ nI i := (nJ_le (by omega) (by omega)).mpr (by omega)
    rw [f_X9_keepSums_2]
    simp only [hk, Option.bind_some, (F.lo (D_la I)).size, hle, if_true]
    refine ⟨C1, rfl, F, fun j d hj => ?_⟩
    rw [hz j d hj]
    by_cases e : d = T - (zI C 3 j 4).toNatClampNeg
    · rw [if_pos ⟨by omega, e⟩, if_pos e]
    · rw [if_neg (fun z => e z.2), if_neg e]
  | succ n ih =>
    intro i f C1 hi hf F hz
    obtain ⟨f, rfl⟩ : ∃ f', f = f' + 1 := ⟨f - 1, by omega⟩
    have hk := F.kc (D_kc I)
    unfold KC at hk
    have hil : i < zN C 3 := by omega
    have hle : ¬ nI (zN C 3) ≤ nI i := fun z => by have := (nJ_le (by omega) (by omega)).mp z; omega
    obtain ⟨k1, k2, k3, k4⟩ := D_akp I i hil
    have z := zib_ex k2
    have nz := nI_rd z.2
    rw [h46, ← nz] at k3
    have k3 := (nJ_le rd_lt (by omega)).mp k3
    have sb : nI T - zI C 3 i 4 = nI (T - (zI C 3 i 4).toNatClampNeg) := by
      rw [← nz, nI_clamp rd_lt]
      exact nJ_sub k3
    have hp : f_X0_keepSum i (nI T) C1 = some (zsJ C1 23 i (T - (zI C 3 i 4).toNatClampNeg) (zJ C 3 i 6)) := by
      unfold f_X0_keepSum
      have hl : ¬ Int32.ofNat (1500 - (zI C 3 i 4).toNatClampNeg) ≤ nI (T - (zI C 3 i 4).toNatClampNeg) := fun z => by have := (nJ_le (a := 1500 - (zI C 3 i 4).toNatClampNeg) (by omega) (by omega)).mp z; omega
      simp only [F.1, F.2.2.1, F.2.2.2.2, sb, nI_pos (show T - (zI C 3 i 4).toNatClampNeg < 2 ^ 31 by omega), if_false, k1, Option.bind_some, k4, hl, zgd, zib_nI (show T - (zI C 3 i 4).toNatClampNeg < 1500 - (zI C 3 i 4).toNatClampNeg by omega) (by omega), if_true, zlt, nI_clamp (show T - (zI C 3 i 4).toNatClampNeg < 2 ^ 31 by omega), F.2.1 3 i 6 (by decide)]
    have d1 : zI C1 1 0 4 = nI T := by rw [F.1, (D_day I).1, h46]
    rw [f_X9_keepSums_2]
    simp only [hk, Option.bind_some, (F.lo (D_la I)).size, (F.lo (D_la I)).get hil, hle, if_false, d1, hp, ← nI_succ]
    refine ih (i + 1) f _ (by omega) (by omega) (F.set i _ _) (fun j d hj => ?_)
    rw [wJ_sJ, hz j d hj]
    by_cases e : j = i
    · subst e
      by_cases e2 : d = T - (zI C 3 j 4).toNatClampNeg
      · rw [if_pos ⟨rfl, rfl, e2⟩, if_pos ⟨Nat.lt_succ_self _, e2⟩]
      · rw [if_neg (fun z => e2 z.2.2), if_neg (fun z => e2 z.2), if_neg (fun z => e2 z.2)]
    · rw [if_neg (fun z => e z.2.1)]
      by_cases e2 : j < i ∧ d = T - (zI C 3 j 4).toNatClampNeg
      · rw [if_pos e2, if_pos ⟨by omega, e2.2⟩]
      · rw [if_neg e2, if_neg (fun z => e2 ⟨by omega, z.2⟩)]
theorem l_hs (I : ID C R) {T : Nat} (hT : T < 1500) (h46 : zI R 40 0 46 = nI T) (k33 : Nat → Int32 → Int32 → zH → Option (Int32 × zH)) (x1 x2 : Int32) : ∀ (n i f : Nat) (R1 : zH), i + n = zN C 3 → n < f → FH R R1 → (∀ j d, d < 1501 → zJ R1 119 0 (1501 * j + d) = if j < i ∧ d = T then zJ R 118 0 j else zJ R 119 0 (1501 * j + d)) → ∃ R2, f_X10_days_55 k33 f 0 x1 x2 (nI i) R1 = k33 0 x1 (x2 + 1) (zsI R2 40 0 46 (nI (T + 1))) ∧ FH R R2 ∧ ∀ j d, d < 1501 → zJ R2 119 0 (1501 * j + d) = if j < zN C 3 ∧ d = T then zJ R 118 0 j else zJ R 119 0 (1501 * j + d) := by
  have hmx := (D_mx I).1
  intro n
  induction n with
  | zero =>
    intro i f R1 hi hf F hz
    obtain ⟨f, rfl⟩ : ∃ f', f = f' + 1 := ⟨f - 1, by omega⟩
    have hle : nI (zN C 3) ≤ nI i := (nJ_le (by omega) (by omega)).mpr (by omega)
    have e49 : zI R1 40 0 49 = nI (zN C 3) := (F.1 40 0 49).trans (D_cnt I).1
    have e46 : zI R1 40 0 46 = nI T := (F.1 40 0 46).trans h46
    have hii : i = zN C 3 := by omega
    rw [hii] at hz
    rw [f_X10_days_55]
    simp only [e49, hle, if_true, e46, zlt, ← nI_succ]
    exact ⟨R1, rfl, F, hz⟩
  | succ n ih =>
    intro i f R1 hi hf F hz
    obtain ⟨f, rfl⟩ : ∃ f', f = f' + 1 := ⟨f - 1, by omega⟩
    have hr := F.kr (D_kr I)
    unfold KR at hr
    have hil : i < zN C 3 := by omega
    have hle : ¬ nI (zN C 3) ≤ nI i := fun z => by have := (nJ_le (by omega) (by omega)).mp z; omega
    have e49 : zI R1 40 0 49 = nI (zN C 3) := (F.1 40 0 49).trans (D_cnt I).1
    have e46 : zI R1 40 0 46 = nI T := (F.1 40 0 46).trans h46
    have ix : (1501 : Int32) * nI i + nI T = nI (1501 * i + T) := by
      rw [show (1501 : Int32) * nI i = nI (1501 * i) from nJ_mul 1501 i, nJ_add]
    rw [f_X10_days_55]
    simp only [e49, hle, if_false, e46, ix, hr, Option.bind_some, zgd, zib_nI (show i < 40 by omega) (show 40 < 2 ^ 31 by decide), zib_nI (show 1501 * i + T < 60040 by omega) (show 60040 < 2 ^ 31 by decide), if_true, zlt, nI_clamp (show i < 2 ^ 31 by omega), nI_clamp (show 1501 * i + T < 2 ^ 31 by omega), ← nI_succ, F.2.1 118 0 i (by decide)]
    refine ih (i + 1) f _ (by omega) (by omega) (F.set _ _) (fun j d hd => ?_)
    rw [wJ_sJ, hz j d hd]
    by_cases e : j = i ∧ d = T
    · rw [if_pos ⟨rfl, rfl, by rw [e.1, e.2]⟩, if_pos ⟨by omega, e.2⟩, e.1]
    · rw [if_neg (fun z => e (by have := z.2.2; omega))]
      by_cases e2 : j < i ∧ d = T
      · rw [if_pos e2, if_pos ⟨by omega, e2.2⟩]
      · rw [if_neg e2, if_neg (fun z => e2 ⟨by omega, z.2⟩)]
/-- a day's end, on both sides -/
theorem t_dayE (I : ID C R) {T : Nat} (hT : T < 1500) (h46 : zI R 40 0 46 = nI T) (k29 : Nat → Int32 → Int32 → zH → Option (Int32 × zH)) (k33 : Nat → Int32 → Int32 → zH → Option (Int32 × zH)) (x1 x2 : Int32) : ∃ C' R', f_X9_days_74 k29 0 x1 x2 C = k29 0 x1 (x2 + 1) C' ∧ f_X10_days_55 k33 fu 0 x1 x2 0 R = k33 0 x1 (x2 + 1) R' ∧ Inv C' R' ∧ zI R' 40 0 46 = nI (T + 1) := by
  have hmx := (D_mx I).1
  obtain ⟨C1, a1, a2, a3⟩ := l_kp I hT h46 (zN C 3) 0 fu C (by omega) (by unfold fu; omega) FK.rf (fun j d hj => by rw [if_neg (fun z => absurd z.1 (Nat.not_lt_zero _))])
  obtain ⟨R1, b1, b2, b3⟩ := l_hs I hT h46 k33 x1 x2 (zN C 3) 0 fu R (by omega) (by unfold fu; omega) FH.rf (fun j d hd => by rw [if_neg (fun z => absurd z.1 (Nat.not_lt_zero _))])
  have hk := a2.kc (D_kc I)
  unfold KC at hk
  have d1 : zI C1 1 0 4 = nI T := by rw [a2.1, (D_day I).1, h46]
  refine ⟨_, _, ?_, b1, d_end I hT h46 a2 b2 (fun i d hi => a3 i d hi) b3, by simp [wN_sI, wN_sJ, wN_sR, wL_sI, wL_sJ, wL_sR, wI_sI, wI_sJ, wI_sR, wJ_sI, wJ_sJ, wJ_sR, wR_sI, wR_sJ, wR_sR]⟩
  unfold f_X9_days_74
  rw [show f_X9_keepSums 0 C = some C1 from a1]
  simp only [Option.bind_some, hk, d1, zlt, ← nI_succ]
/-- a working day's night -/
theorem t_ngt (I : Inv C R) {T : Nat} (hT : T < 1500) (h46 : zI R 40 0 46 = nI T) : ∃ C1 C2 C3 C4 R4, f_X9_beginNight 0 C = some C1 ∧ f_X9_doMoves 0 C1 = some C2 ∧ zR C2 0 0 0 = some 0 ∧ f_X9_findRoutes 0 (zI C2 1 0 4) C2 = some C3 ∧ f_X9_doLines 0 C3 = some C4 ∧ f_X10_night 0 R = some R4 ∧ ID C4 R4 ∧ zI R4 40 0 46 = nI T := by
  obtain ⟨C1, C2, R2, a1, a2, a3, a4, a5⟩ := t_nm I
  have e46 : zI R2 40 0 46 = nI T := (a5.2 46 (by decide)).trans h46
  have e54 : zI R2 40 0 54 = zI R 40 0 54 := a5.2 54 (by decide)
  have dy := N_day a4
  obtain ⟨b, C3, r1, r2, r3, r4, r5⟩ := e_rou a4.q (d := zI R2 40 0 46) dy.2
  have I3 : IN (fun _ => (zI R2 40 0 54 + 1).toNatClampNeg) (zN C2 5) C3 R2 := IN_SC a4 r4
  have RT3 : RT C3 R2 b := by
    refine ⟨fun r hr => by rw [r4.2.2.2.1]; exact r1 r hr, ?_, fun j hj => ?_⟩
    · rw [pk_sc r4 a4.q]
      exact r2
    · rw [r4.2.2.2.1] at hj
      exact r5 j hj
  have hk2 := N_kc a4
  have hk3 := N_kc I3
  unfold KC at hk2 hk3
  obtain ⟨u1, u2, u3⟩ := N_due I3
  have nq := nI_rd u2
  have hq : (zI R2 40 0 54 + 1).toNatClampNeg ≤ T := by
    rw [e46, ← nq] at u3
    exact (nJ_le rd_lt (by omega)).mp u3
  obtain ⟨C4, R4, w1, w2, w3, w4, w5⟩ := l_out (mi := zN C2 5) (b := b) (T := T) (by omega) (T + 1 - (zI R2 40 0 54 + 1).toNatClampNeg) (zI R2 40 0 54 + 1).toNatClampNeg fu fu C3 R2 I3 e46 RT3 (by omega) (by unfold fu; omega) (by unfold fu; omega)
  have f46 : zI R4 40 0 46 = nI T := (w5 40 0 46 (by decide) (by decide) (by decide) (by decide) (by decide) (by decide) (by decide)).trans e46
  rw [nq] at w1 w2
  refine ⟨C1, C2, C3, _, _, a1, a2, by simp only [hk2], by rw [dy.1]; exact r3, ?_, a3.trans w2, d_ngt w3 (by omega) f46, ?_⟩
  · unfold f_X9_doLines
    simp only [hk3, Option.bind_some, u1]
    exact w1
  · simpa [wN_sI, wN_sJ, wN_sR, wL_sI, wL_sJ, wL_sR, wI_sI, wI_sJ, wI_sR, wJ_sI, wJ_sJ, wJ_sR, wR_sI, wR_sJ, wR_sR] using f46
theorem l_days {N : Nat} (hN : N ≤ 1500) : ∀ (n i f g T : Nat) (C R : zH), Inv C R → i + n = N → zI R 40 0 46 = nI T → T + n ≤ 1500 → n < f → n < g → TT (f_X9_days_29 f 0 (nI N) (nI i) C) (f_X10_days_33 g 0 (nI N) (nI i) R) := by
  intro n
  induction n with
  | zero =>
    intro i f g T C R I hi h46 hT hf hg
    obtain ⟨f, rfl⟩ : ∃ f', f = f' + 1 := ⟨f - 1, by omega⟩
    obtain ⟨g, rfl⟩ : ∃ g', g = g' + 1 := ⟨g - 1, by omega⟩
    have hk := J_kc I
    unfold KC at hk
    have hii : i = N := by omega
    subst hii
    rw [f_X9_days_29, f_X10_days_33]
    simp only [Int32.le_refl, if_true, hk, Option.bind_some, (J_day I).1]
    exact TT.mk rfl I
  | succ n ih =>
    intro i f g T C R I hi h46 hT hf hg
    obtain ⟨f, rfl⟩ : ∃ f', f = f' + 1 := ⟨f - 1, by omega⟩
    obtain ⟨g, rfl⟩ : ∃ g', g = g' + 1 := ⟨g - 1, by omega⟩
    have hk := J_kc I
    unfold KC at hk
    have hle : ¬ nI N ≤ nI i := fun z => by have := (nJ_le (by omega) (by omega)).mp z; omega
    obtain ⟨a, _, a2, a3⟩ := e_works I (d := T) (by omega)
    rw [f_X9_days_29, f_X10_days_33]
    simp only [hle, if_false, hk, Option.bind_some, (J_day I).1, h46, a2, a3]
    by_cases h0 : a = 0
    · rw [if_pos h0, if_pos h0]
      obtain ⟨C1, R1, y1, y2, y3, y4⟩ := t_dayE (d_inv I) (T := T) (by omega) h46 (f_X9_days_29 f) (f_X10_days_33 g) (nI N) (nI i)
      rw [y1, y2, ← nI_succ]
      exact ih (i + 1) f g (T + 1) C1 R1 y3 (by omega) y4 (by omega) (by omega) (by omega)
    · rw [if_neg h0, if_neg h0]
      obtain ⟨D1, D2, D3, D4, S4, w1, w2, w3, w4, w5, w6, w7, w8⟩ := t_ngt I (T := T) (by omega) h46
      rw [w1, Option.bind_some, w2, Option.bind_some, w3, Option.bind_some, w4, Option.bind_some, w5, Option.bind_some, w6, Option.bind_some]
      obtain ⟨C1, R1, y1, y2, y3, y4⟩ := t_dayE w7 (T := T) (by omega) w8 (f_X9_days_29 f) (f_X10_days_33 g) (nI N) (nI i)
      rw [y1, y2, ← nI_succ]
      exact ih (i + 1) f g (T + 1) C1 R1 y3 (by omega) y4 (by omega) (by omega) (by omega)
theorem t_days (I : Inv C R) (x1 : Int32) : TT (f_X9_days 0 x1 C) (f_X10_days 0 x1 R) := by
  have hk := J_kc I
  unfold KC at hk
  obtain ⟨d1, d2⟩ := J_day I
  have zd := zib_ex d2
  have nd := nI_rd zd.2
  have e15 : (1500 : Int32) - zI R 40 0 46 = nI (1500 - (zI R 40 0 46).toNatClampNeg) := by
    rw [← nd, nI_clamp rd_lt]
    exact nJ_sub (a := 1500) (by omega)
  unfold f_X9_days f_X10_days
  simp only [hk, Option.bind_some, d1, e_out, e15]
  unfold ow
  by_cases h1 : 1 ≤ x1
  · rw [if_pos h1, if_pos h1]
    by_cases h2 : x1 ≤ nI (1500 - (zI R 40 0 46).toNatClampNeg)
    · rw [if_pos h2, if_pos h2, if_pos rfl]
      have h0 : ¬ x1 < 0 := fun z => absurd (Int32.lt_of_le_of_lt h1 z) (by decide)
      have nx := nI_rd h0
      rw [← nx] at h2
      have h2 := (nJ_le rd_lt (by omega)).mp h2
      have := l_days (N := x1.toNatClampNeg) (by omega) x1.toNatClampNeg 0 fu fu (zI R 40 0 46).toNatClampNeg C R I (by omega) nd.symm (by omega) (by unfold fu; omega) (by unfold fu; omega)
      rw [nx] at this
      exact this
    · rw [if_neg h2, if_neg h2, if_neg (by decide)]
      exact t_refB I (by decide)
  · rw [if_neg h1, if_neg h1, if_neg (by decide)]
    exact t_refB I (by decide)
end ZDS
