/-! ===== a line that is due ===== -/
/-- the class's routes are the reference's chains -/
def RT (C R : zH) (b : Option Nat) : Prop := (∀ r, b = some r → r < zN C 6) ∧ f_X6_inForce 0 1 (zI R 40 0 46) C = some b ∧ ∀ j, j < zN C 3 → zR C 3 j 12 = rt R b (zI R 40 0 46) 40 j
section ZRC
variable {R R' : zH}
theorem sO_c (h : ∀ q k, (q = 110 ∨ q = 114 ∨ q = 115 ∨ q = 116 ∨ q = 141 ∨ q = 144) → zI R' q 0 k = zI R q 0 k) (b : Option Nat) (d : Int32) (x : Nat) : sO R' b d x = sO R b d x := by
  cases b with
  | none =>
    unfold sO
    rw [h 116 x (by decide)]
  | some r =>
    have e1 : Lx R' x d = Lx R x d := by
      funext i
      unfold Lx
      rw [h 115 x (by decide), h 110 x (by decide), h 110 _ (by decide), h 116 x (by decide)]
    have e2 : cdO R' r = cdO R r := by
      unfold cdO
      rw [h 141 r (by decide)]
      congr 3
      funext k
      exact h 144 _ (by decide)
    show (!decide (tp (rn (Lx R' x d) (cdO R' r) []) < (d - zI R' 116 0 x).toInt64)) = (!decide (tp (rn (Lx R x d) (cdO R r) []) < (d - zI R 116 0 x).toInt64))
    rw [e1, e2, h 116 x (by decide)]
theorem rt_c (h : ∀ q k, (q = 110 ∨ q = 114 ∨ q = 115 ∨ q = 116 ∨ q = 141 ∨ q = 144) → zI R' q 0 k = zI R q 0 k) (b : Option Nat) (d : Int32) : ∀ n x, rt R' b d n x = rt R b d n x := by
  intro n
  induction n with
  | zero => intro x; rfl
  | succ n ih =>
    intro x
    rw [rt, rt, h 114 x (by decide), sO_c h, h 115 x (by decide), ih]
theorem GL.rt (g : GL R R') : ∀ q k, (q = 110 ∨ q = 114 ∨ q = 115 ∨ q = 116 ∨ q = 141 ∨ q = 144) → zI R' q 0 k = zI R q 0 k := fun q k h => g q 0 k (by omega) (by omega) (by omega) (by omega) (by omega) (by omega) (by omega)
end ZRC
theorem pk_g {C C' R R' : zH} {p d : Int32} (I : Inq C R) (I' : Inq C' R') (hN : zN C' 6 = zN C 6) (e6 : ∀ j k, zI C' 6 j k = zI C 6 j k) : f_X6_inForce 0 p d C' = f_X6_inForce 0 p d C := by
  have hk := Q_kc I
  have hk' := Q_kc I'
  unfold KC at hk hk'
  have hmx := (Q_mx I).2.2.2
  have hsz := (Q_lr I).size
  have hsz' := (Q_lr I').size
  rw [hN] at hsz'
  have key : ∀ (n i f : Nat) (b : Option Nat), i + n = zN C 6 → n < f → f_X6_inForce_5 f 0 p d b (nI i) C' = f_X6_inForce_5 f 0 p d b (nI i) C := by
    intro n
    induction n with
    | zero =>
      intro i f b hi hf
      obtain ⟨f, rfl⟩ : ∃ f', f = f' + 1 := ⟨f - 1, by omega⟩
      have hle : nI (zN C 6) ≤ nI i := (nJ_le (by omega) (by omega)).mpr (by omega)
      rw [f_X6_inForce_5, f_X6_inForce_5]
      simp only [hk, hk', Option.bind_some, hsz, hsz', hle, if_true]
    | succ n ih =>
      intro i f b hi hf
      obtain ⟨f, rfl⟩ : ∃ f', f = f' + 1 := ⟨f - 1, by omega⟩
      have hle : ¬ nI (zN C 6) ≤ nI i := fun z => by have := (nJ_le (by omega) (by omega)).mp z; omega
      have hget := (Q_lr I).get (k := i) (by omega)
      have hget' := (Q_lr I').get (k := i) (by omega)
      rw [f_X6_inForce_5, f_X6_inForce_5]
      simp only [hk, hk', Option.bind_some, hsz, hsz', hle, if_false, hget, hget', e6, ← nI_succ]
      have ih' := fun b => ih (i + 1) f b (by omega) (by omega)
      simp only [ih']
  exact key (zN C 6) 0 fu none (by omega) (by unfold fu; omega)
/-- routes stay as they are while lines go out -/
theorem RT.go {C C' R R' : zH} {b : Option Nat} (T : RT C R b) (I : Inq C R) (I' : Inq C' R') (F : FL C C') (G : GL R R') : RT C' R' b := by
  have e46 : zI R' 40 0 46 = zI R 40 0 46 := G 40 0 46 (by decide) (by decide) (by decide) (by decide) (by decide) (by decide) (by decide)
  refine ⟨fun r hr => by rw [F.1]; exact T.1 r hr, ?_, fun j hj => ?_⟩
  · rw [e46, pk_g I I' (F.1 6) F.2.1]
    exact T.2.1
  · rw [F.1] at hj
    rw [F.2.2, T.2.2 j hj, e46, rt_c G.rt]
section ZLJ
variable {q : Nat → Nat} {mi : Nat} {C R : zH}
theorem t_25 (I : IN q mi C R) {l : Nat} {fo b : Option Nat} (hl : l < zN C 4) (hfo : ∀ a, fo = some a → a < zN C 3) (T : RT C R b) : TL q mi C R (f_X9_doLine_25 0 (some l) fo C) (f_X10_goesOut_37 0 (nI l) (bJ fo) R) := by
  have hk := N_kc I
  have hr := N_kr I
  unfold KC at hk
  unfold KR at hr
  have hmx := N_mx I
  have cl : (nI l).toNatClampNeg = l := nI_clamp (by omega)
  have z60 : zib (nI l) 60 = true := zib_nI (by omega) (by decide)
  obtain ⟨l1, l2, l3, l4⟩ := N_lft I l hl
  have ht := (zib_ex l4).1
  obtain ⟨R2, s1, s2⟩ := e_snt I.q T.1 T.2.1 (N_day I).2 l4
  have I2 : IN q mi C R2 := IN_SR I s2
  have r2 := N_kr I2
  unfold KR at r2
  unfold f_X9_doLine_25 f_X10_goesOut_37
  simp only [Option.bind_some, l3, hr, zgd, z60, if_true, cl, s1, T.2.2 _ ht]
  cases fo with
  | none =>
    simp only [zop, bJ, show (-9 : Int32) < 0 by decide, if_true]
    exact (t_94 I2 (l := l) (v := 2) (fo := none) hl (by decide) (fun a h => by cases h)).pre FL.rf s2.gl
  | some a =>
    have ha := hfo a rfl
    have h0 : ¬ nI a < 0 := nI_pos (by omega)
    have za : zib (nI a) 40 = true := zib_nI (by omega) (by decide)
    have ca : (nI a).toNatClampNeg = a := nI_clamp (by omega)
    have back : ∀ v xb, v < 4 → TL q mi C R (f_X9_doLine_94 0 (some l) (some a) (nI (v + 1)) C) (f_X10_goesOut_129 0 (nI l) (nI a) xb (nI (v + 1)) R2) := fun v xb hv => (t_94 I2 (l := l) (v := v) (fo := some a) (xb := xb) hl hv (fun a' h => by cases h; exact ha)).pre FL.rf s2.gl
    simp only [zop, bJ, h0, if_false]
    cases hrt : rt R b (zI R 40 0 46) 40 (zI R 122 0 l).toNatClampNeg with
    | none =>
      simp only [bJ, show ¬ (0 : Int32) ≤ -9 by decide, if_false]
      exact back 2 _ (by decide)
    | some t =>
      have htt := (rt_lt I.q 40 _ t ht hrt).1
      have h00 : (0 : Int32) ≤ nI t := Int32.not_lt.mp (nI_pos (by omega))
      have zt : zib (nI t) 40 = true := zib_nI (by omega) (by decide)
      have ct : (nI t).toNatClampNeg = t := nI_clamp (by omega)
      obtain ⟨am1, am2⟩ := N_lam I2 l hl
      have eat : (nI a = nI t) ↔ a = t := nI_inj (by omega) (by omega)
      simp only [bJ, h00, if_true, f_X9_whyBack, Option.bind_some, N_ast I2 a ha, N_ast I2 t htt, r2, za, zt, ca, ct, am1, N_asum I2 a ha, (N_aov I2 a ha).1, Option.some.injEq, eat, z60, cl]
      by_cases c1 : zI R2 114 0 a = 1
      · simp only [c1, if_true, Option.bind_some, show ¬ (2 : Int32) = 0 by decide, if_false]
        exact back 1 _ (by decide)
      simp only [c1, if_false]
      by_cases c2 : zI R2 114 0 t = 1
      · simp only [c2, if_true, Option.bind_some, show ¬ (2 : Int32) = 0 by decide, if_false]
        exact back 1 _ (by decide)
      simp only [c2, if_false]
      by_cases c3 : a = t
      · simp only [c3, if_true, Option.bind_some, show ¬ (4 : Int32) = 0 by decide, if_false]
        rw [← c3]
        exact back 3 _ (by decide)
      simp only [c3, if_false]
      by_cases c4 : 0 ≤ lg_cmp (zJ R2 118 0 a - Int32.toInt64 (zI R2 123 0 l)) (Int32.toInt64 (-(zI R2 113 0 a)))
      · simp only [c4, if_true, Option.bind_some]
        obtain ⟨C3, y1, y2, y3⟩ := n_carry I2 ha htt (Int32.toInt64 (zI R2 123 0 l))
        obtain ⟨b1, b2⟩ := N_abk I2 a ha
        obtain ⟨b3, b4⟩ := N_abk I2 t htt
        have N4 : zN C3 4 = zN C 4 := y3.2.2.1 4
        generalize hA : rW R2 a t (zI R2 110 0 a).toNatClampNeg (zI R2 110 0 t).toNatClampNeg (Int32.toInt64 (zI R2 123 0 l)) = A at y2
        have aI : ∀ q i k, zI A q i k = zI R2 q i k := fun q i k => by
          rw [← hA]
          simp [wN_sI, wN_sJ, wN_sR, wL_sI, wL_sJ, wL_sR, wI_sI, wI_sJ, wI_sR, wJ_sI, wJ_sJ, wJ_sR, wR_sI, wR_sJ, wR_sR]
        have I4 := n_done y2 (l := l) (by rw [N4]; exact hl) (zI A 127 0 l + 1)
        have I5 := n_dOn I4 (l := l) (zI A 40 0 46)
        have dn := (N_ldn y2 l (by rw [N4]; exact hl)).1
        have dd := (N_day y2).1
        have kk : zR C3 0 0 0 = some 0 := (y3.2.1 0 0 0).trans (by simp only [hk])
        have d1 : zI (zsI C3 4 l 8 (zI A 127 0 l + 1)) 1 0 4 = zI A 40 0 46 := by
          rw [wI_sI, if_neg (by omega)]
          exact dd
        simp only [y1, Option.bind_some, zlt, dn, wR_sI, kk, d1]
        refine ⟨_, _, rfl, ?_, I5, ⟨fun q => ?_, fun i k => ?_, fun q i k => ?_⟩, s2.gl.tr (fun q i k x1 x2 x3 x4 x5 x6 x7 => ?_)⟩
        · unfold f_X10_goesOut_129
          rw [if_pos rfl]
          rw [← hA]
          have c3' : ¬ t = a := fun z => c3 z.symm
          unfold rW
          simp only [wN_sI, wN_sJ, wN_sR, wL_sI, wL_sJ, wL_sR, wI_sI, wI_sJ, wI_sR, wJ_sI, wJ_sJ, wJ_sR, wR_sI, wR_sJ, wR_sR, r2, Option.bind_some, zgd, zlt, za, zt, ca, ct, b2, b4, z60, cl, if_true, show ¬ (118 : Nat) = 108 by decide, show ¬ (108 : Nat) = 118 by decide, show ¬ (40 : Nat) = 127 by decide, false_and, and_false, if_false, c3, c3']
        · simp only [wN_sI, wN_sJ, wN_sR, wL_sI, wL_sJ, wL_sR, wI_sI, wI_sJ, wI_sR, wJ_sI, wJ_sJ, wJ_sR, wR_sI, wR_sJ, wR_sR]
          exact y3.2.2.1 q
        · simp only [wN_sI, wN_sJ, wN_sR, wL_sI, wL_sJ, wL_sR, wI_sI, wI_sJ, wI_sR, wJ_sI, wJ_sJ, wJ_sR, wR_sI, wR_sJ, wR_sR]
          rw [if_neg (by omega), if_neg (by omega)]
          exact y3.1 6 i k
        · simp only [wN_sI, wN_sJ, wN_sR, wL_sI, wL_sJ, wL_sR, wI_sI, wI_sJ, wI_sR, wJ_sI, wJ_sJ, wJ_sR, wR_sI, wR_sJ, wR_sR]
          exact y3.2.1 q i k
        · rw [wI_sI, if_neg (fun z => x2 z.1), wI_sI, if_neg (fun z => x1 z.1)]
          exact aI q i k
      · simp only [c4, if_false, Option.bind_some, show ¬ (1 : Int32) = 0 by decide]
        exact back 0 _ (by decide)
theorem t_linA (I : IN q mi C R) {l : Nat} {b : Option Nat} (hl : l < zN C 4) (T : RT C R b) : TL q mi C R (f_X9_doLine_25 0 (some l) (zR C 3 (zI R 121 0 l).toNatClampNeg 12) C) (Option.bind (f_X10_sentOn 0 (zI R 121 0 l) (zI R 40 0 46) R) (fun o66 => f_X10_goesOut_37 0 (nI l) o66.1 o66.2)) := by
  obtain ⟨l1, l2, l3, l4⟩ := N_lft I l hl
  have hf := (zib_ex l2).1
  obtain ⟨R2, s1, s2⟩ := e_snt I.q T.1 T.2.1 (N_day I).2 l2
  have I2 : IN q mi C R2 := IN_SR I s2
  have T2 : RT C R2 b := T.go I.q I2.q FL.rf s2.gl
  have hfo : ∀ a, rt R b (zI R 40 0 46) 40 (zI R 121 0 l).toNatClampNeg = some a → a < zN C 3 := fun a h => (rt_lt I.q 40 _ a hf h).1
  rw [s1, Option.bind_some, T.2.2 _ hf]
  generalize rt R b (zI R 40 0 46) 40 (zI R 121 0 l).toNatClampNeg = fo at *
  exact (t_25 I2 hl hfo T2).pre FL.rf s2.gl
theorem t_linB (I : IN q mi C R) {l : Nat} {b : Option Nat} (hl : l < zN C 4) (T : RT C R b) : TL q mi C R (Option.bind (f_X9_lastOf (some (zI R 121 0 l).toNatClampNeg) C) (fun o35 => f_X9_doLine_25 0 (some l) o35 C)) (Option.bind (f_X10_lastOf 0 (zI R 121 0 l) R) (fun o58 => f_X10_goesOut_37 0 (nI l) o58 R)) := by
  obtain ⟨l1, l2, l3, l4⟩ := N_lft I l hl
  obtain ⟨y, y1, y2, y3, y4⟩ := e_lastQ I.q l2
  rw [y2, y3, Option.bind_some, Option.bind_some]
  have := t_25 I hl (fo := some y.toNatClampNeg) (fun a h => by cases h; exact (zib_ex y1).1) T
  rw [show bJ (some y.toNatClampNeg) = y from nI_rd (zib_ex y1).2] at this
  exact this
theorem zgd_t {α : Type} (k : Option α) : zgd true k = k := if_pos rfl
theorem t_lin (I : IN q mi C R) {l : Nat} {b : Option Nat} (hl : l < zN C 4) (T : RT C R b) : TL q mi C R (f_X9_doLine 0 (some l) C) (f_X10_goesOut 0 (nI l) R) := by
  have hr := N_kr I
  unfold KR at hr
  have hmx := N_mx I
  have cl : (nI l).toNatClampNeg = l := nI_clamp (by omega)
  have z60 : zib (nI l) 60 = true := zib_nI (by omega) (by decide)
  obtain ⟨l1, l2, l3, l4⟩ := N_lft I l hl
  have k20 : zR R 40 0 20 = some 0 := by simp only [hr]
  have k21 : zR R 40 0 21 = some 0 := by simp only [hr]
  have v20 : zL R 120 0 = 60 := by simp only [hr]
  have v21 : zL R 121 0 = 60 := by simp only [hr]
  have hA := t_linA I hl T
  have hB := t_linB I hl T
  clear hr
  unfold f_X9_doLine f_X10_goesOut
  rw [Option.bind_some, (N_lk I l hl).1, l1, k20, Option.bind_some, Option.bind_some, v20, z60, zgd_t, cl, k21]
  by_cases h2 : zI R 120 0 l = 2
  · rw [if_pos h2, if_pos h2, Option.bind_some, v21, z60, zgd_t]
    exact hA
  · rw [if_neg h2, if_neg h2, Option.bind_some, v21, z60, zgd_t]
    exact hB
end ZLJ
