/-! ===== what comes back: charges made good ===== -/
theorem zsJ_self (S : zH) (p i k : Nat) : zsJ S p i k (zJ S p i k) = S := by
  unfold zsJ
  refine Prod.ext rfl (Prod.ext rfl (Prod.ext rfl (Prod.ext ?_ rfl)))
  funext a b c
  show (if a = p ∧ b = i ∧ c = k then zJ S p i k else zJ S a b c) = zJ S a b c
  split
  · next h => rw [h.1, h.2.1, h.2.2]
  · rfl
theorem zsI_self (S : zH) (p i k : Nat) : zsI S p i k (zI S p i k) = S := by
  unfold zsI
  refine Prod.ext rfl (Prod.ext rfl (Prod.ext ?_ rfl))
  funext a b c
  show (if a = p ∧ b = i ∧ c = k then zI S p i k else zI S a b c) = zI S a b c
  split
  · next h => rw [h.1, h.2.1, h.2.2]
  · rfl
/-- what a line leaves as it was -/
def FL (C C' : zH) : Prop := (∀ q, zN C' q = zN C q) ∧ (∀ i k, zI C' 6 i k = zI C 6 i k) ∧ (∀ q i k, zR C' q i k = zR C q i k)
def GL (R R' : zH) : Prop := ∀ q i k, ¬ q = 127 → ¬ q = 129 → ¬ q = 128 → ¬ q = 117 → ¬ q = 106 → ¬ q = 158 → ¬ (q = 40 ∧ 60 ≤ k) → zI R' q i k = zI R q i k
theorem FL.rf {C : zH} : FL C C := ⟨fun _ => rfl, fun _ _ => rfl, fun _ _ _ => rfl⟩
theorem GL.rf {R : zH} : GL R R := fun _ _ _ _ _ _ _ _ _ _ => rfl
theorem FL.tr {C C1 C2 : zH} (h : FL C C1) (g : FL C1 C2) : FL C C2 := ⟨fun q => (g.1 q).trans (h.1 q), fun i k => (g.2.1 i k).trans (h.2.1 i k), fun q i k => (g.2.2 q i k).trans (h.2.2 q i k)⟩
theorem GL.tr {R R1 R2 : zH} (h : GL R R1) (g : GL R1 R2) : GL R R2 := fun q i k a b c d e f w => (g q i k a b c d e f w).trans (h q i k a b c d e f w)
theorem SJ.fl {C C' : zH} (h : SJ C C') : FL C C' := ⟨h.2.2.2.1, fun i k => h.1 6 i k, h.2.2.1⟩
theorem SR.gl {R R' : zH} (h : SR R R') : GL R R' := fun q i k _ _ _ _ _ f w => h.1 q i k f (fun z => w ⟨z.1, z.2.1⟩)
def TL (q : Nat → Nat) (mi : Nat) (C R : zH) (c r : Option zH) : Prop := ∃ C' R', c = some C' ∧ r = some R' ∧ IN q mi C' R' ∧ FL C C' ∧ GL R R'
theorem TL.pre {q : Nat → Nat} {mi : Nat} {C R C1 R1 : zH} {c r : Option zH} (h : TL q mi C1 R1 c r) (F : FL C C1) (G : GL R R1) : TL q mi C R c r := by
  obtain ⟨C', R', a1, a2, a3, a4, a5⟩ := h
  exact ⟨C', R', a1, a2, a3, F.tr a4, G.tr a5⟩
theorem mn_hld {x : Int64} (h : 0 ≤ x.toInt) : (if x < 1000000000 then x else 1000000000) = hld x := by
  have e1 : (1000000000 : Int64).toInt = 1000000000 := by decide
  have e2 : (-1000000000 : Int64).toInt = -1000000000 := by decide
  unfold hld
  by_cases a : x < 1000000000
  · have a' := a
    rw [Int64.lt_iff_toInt_lt, e1] at a'
    rw [if_pos a, if_neg (fun z => by rw [Int64.lt_iff_toInt_lt, e1] at z; omega), if_neg (fun z => by rw [Int64.lt_iff_toInt_lt, e2] at z; omega)]
  · have a' := a
    rw [Int64.lt_iff_toInt_lt, e1] at a'
    rw [if_neg a]
    by_cases b : 1000000000 < x
    · rw [if_pos b]
    · have b' := b
      rw [Int64.lt_iff_toInt_lt, e1] at b'
      rw [if_neg b, if_neg (fun z => by rw [Int64.lt_iff_toInt_lt, e2] at z; omega)]
      apply Int64.toInt_inj.mp
      omega
theorem hld_zb {x : Int64} (h : 0 ≤ x.toInt) : zib (Int64.toInt32 (hld x)) 1000000001 = true := by
  have hr := hld_rg x
  have h0 : 0 ≤ (hld x).toInt := by
    rw [← mn_hld h]
    split
    · exact h
    · decide
  have e : (Int64.toInt32 (hld x)).toInt = (hld x).toInt := by
    rw [← Int32.toInt_toInt64, hld_32]
  have n0 : ¬ Int64.toInt32 (hld x) < 0 := fun z => by
    rw [Int32.lt_iff_toInt_lt, e] at z
    have : (0 : Int32).toInt = 0 := by decide
    omega
  have := znn _ n0
  exact zib_of n0 (by omega)
theorem ad_pos {g v : Int32} (hg : zib g 1000000001 = true) (hv : ¬ v < 0) : 0 ≤ (g.toInt64 + v.toInt64).toInt := by
  have a := zib_ex hg
  have e1 := znn g a.2
  have e2 := znn v hv
  have l2 := Int32.toInt_lt v
  rw [Int64.toInt_add, Int32.toInt_toInt64, Int32.toInt_toInt64, Int.bmod_eq_of_le (by omega) (by omega)]
  omega
section ZCB
variable {q : Nat → Nat} {mi : Nat} {C R : zH}
def Lg (b n f w : Int32) (i : Nat) : Int64 := if i = 0 then b.toInt64 else if i = 6 then n.toInt64 else if i = 7 then f.toInt64 else if i = 8 then w.toInt64 else 0
/-- the worth of what is made good -/
theorem t_wog (I : Inq C R) {x : Nat} {n w : Int32} (hx : x < zN C 3) (hn : zib n 100000 = true) (hw : zib w 5 = true) (hday : zI C 1 0 4 = zI R 40 0 46) : ∃ v C1 R2 R4, f_X9_worthOfGood 0 (zR C 3 x 1) (Int32.toInt64 n) w C = some (Int32.toInt64 v, C1) ∧ SJ C C1 ∧ f_X10_bare 0 R = some R2 ∧ SR R R2 ∧ f_X10_worth 0 3 (zI R 40 0 46) (zsI (zsI (zsI (zsI R2 158 0 98 (zI R 110 0 x)) 158 0 110 n) 158 0 102 (zI R 104 0 (zI R 110 0 x).toNatClampNeg)) 158 0 119 w) = some (v, R4) ∧ SR R R4 := by
  have hk := Q_kc I
  unfold KC at hk
  obtain ⟨b1, b2⟩ := Q_abk I x hx
  obtain ⟨f1, f2⟩ := Q_bfee I _ (zib_ex b2).1
  have bn := (Q_bno I _ (zib_ex b2).1).2
  rw [nI_rd (zib_ex b2).2] at bn
  obtain ⟨R2, g1, g2, g3⟩ := e_bare (Q_kr I)
  generalize hR3 : zsI (zsI (zsI (zsI R2 158 0 98 (zI R 110 0 x)) 158 0 110 n) 158 0 102 (zI R 104 0 (zI R 110 0 x).toNatClampNeg)) 158 0 119 w = R3
  have G3 : SR R R3 := by
    subst hR3
    exact (((g2.set 158 0 98 (Or.inl rfl) _).set 158 0 110 (Or.inl rfl) _).set 158 0 102 (Or.inl rfl) _).set 158 0 119 (Or.inl rfl) _
  have I3 := Inq_SR I G3
  obtain ⟨b, w1, w2, w3⟩ := t_pick I3 3 (zI R 40 0 46)
  unfold f_X9_worthOfGood
  simp only [hk, Option.bind_some, hday, w2, b1]
  cases b with
  | none =>
    refine ⟨zI R 104 0 (zI R 110 0 x).toNatClampNeg, C, R2, R3, ?_, SJ.rf, g1, g2, ?_, G3⟩
    · simp only [zop, f1]
    · rw [hR3, w3]
      show some (zI R3 158 0 102, R3) = _
      rw [← hR3]
      simp [wN_sI, wN_sJ, wN_sR, wL_sI, wL_sJ, wL_sR, wI_sI, wI_sJ, wI_sR, wJ_sI, wJ_sJ, wJ_sR, wR_sI, wR_sJ, wR_sR]
  | some r =>
    have hr := w1 r rfl
    obtain ⟨C0, u1, u2, u3⟩ := e_freshJ (Q_kc I)
    have hk0 := u2.sc.kc (Q_kc I)
    unfold KC at hk0
    have bn0 : zI C0 2 (zI R 110 0 x).toNatClampNeg 0 = zI R 110 0 x := (u2.1 2 _ 0).trans bn
    have f10 : zI C0 2 (zI R 110 0 x).toNatClampNeg 1 = zI R 104 0 (zI R 110 0 x).toNatClampNeg := (u2.1 2 _ 1).trans f1
    generalize hC4 : zsJ (zsJ (zsJ (zsJ C0 26 0 0 (Int32.toInt64 (zI R 110 0 x))) 26 0 6 (Int32.toInt64 n)) 26 0 7 (Int32.toInt64 (zI R 104 0 (zI R 110 0 x).toNatClampNeg))) 26 0 8 (Int32.toInt64 w) = C4
    have F4 : SJ C C4 := by
      subst hC4
      exact (((u2.set26 0 _).set26 6 _).set26 7 _).set26 8 _
    have I4 := Inq_SC I F4.sc
    have hk4 := Q_kc I4
    unfold KC at hk4
    have h0 : hld 0 = 0 := by decide
    obtain ⟨C5, v1, v2⟩ := cval I4 (r := r) (by rw [F4.2.2.2.1]; exact hr) (L := Lg (zI R 110 0 x) n (zI R 104 0 (zI R 110 0 x).toNatClampNeg) w) (fun i hi => by
      subst hC4
      unfold Lg
      simp only [wJ_sJ]
      by_cases e0 : i = 0
      · subst e0
        simp [hld_zib b2]
      · by_cases e6 : i = 6
        · subst e6
          simp [hld_zib hn]
        · by_cases e7 : i = 7
          · subst e7
            simp [hld_zib f2]
          · by_cases e8 : i = 8
            · subst e8
              simp [hld_zib hw]
            · simp [e0, e6, e7, e8, u3 i hi, h0])
    obtain ⟨v, R4, x1, x2, x3⟩ := rval I3 (r := r) hr (L := Lg (zI R 110 0 x) n (zI R 104 0 (zI R 110 0 x).toNatClampNeg) w) (fun i hi => by
      subst hR3
      unfold Lr Lg
      match i, hi with
      | 0, _ => simp [zch, wI_sI]
      | 1, _ => simp [zch, wI_sI, g3]
      | 2, _ => simp [zch, wI_sI, g3]
      | 3, _ => simp [zch, wI_sI, g3]
      | 4, _ => simp [zch, wI_sI, g3]
      | 5, _ => simp [zch, wI_sI, g3]
      | 6, _ => simp [zch, wI_sI]
      | 7, _ => simp [zch, wI_sI]
      | 8, _ => simp [zch, wI_sI]
      | 9, _ => simp [zch, wI_sI, g3]) 3
    refine ⟨v, C5, R2, R4, ?_, F4.fw v2, g1, g2, ?_, G3.tr x3⟩
    · simp only [zop, u1, Option.bind_some, hk0, zgd, zlt, wN_sI, wN_sJ, wN_sR, wL_sI, wL_sJ, wL_sR, wI_sI, wI_sJ, wI_sR, wJ_sI, wJ_sJ, wJ_sR, wR_sI, wR_sJ, wR_sR, show zib 0 10 = true by decide, show zib 6 10 = true by decide, show zib 7 10 = true by decide, show zib 8 10 = true by decide, if_true, bn0, f10, show Int32.toNatClampNeg 0 = 0 by decide, show Int32.toNatClampNeg 6 = 6 by decide, show Int32.toNatClampNeg 7 = 7 by decide, show Int32.toNatClampNeg 8 = 8 by decide, hC4, hk4, v1]
      rw [x2, cdO_sr G3]
    · rw [hR3, w3]
      exact x1
theorem l_baf {x : Int32} {y w : Int32} (I : IN q mi C R) (hx : zib x (zN C 3) = true) : ∀ (n i f g : Nat), i + n = zN C 5 → n < f → n < g → ∃ b, f_X9_bankAtFault_2 f 0 (some x.toNatClampNeg) (nI i) C = some b ∧ ((b = none ∧ f_X10_goesOut_296 g 0 y w x (nI i) R = some R) ∨ ∃ m, m < zN C 5 ∧ ¬ zI R 134 0 m = 0 ∧ b = some (zI R 135 0 m).toNatClampNeg ∧ zib (zI R 135 0 m) 8 = true ∧ f_X10_goesOut_296 g 0 y w x (nI i) R = f_X10_goesOut_342 0 y w x (nI m) R) := by
  have hk := N_kc I
  have hr := N_kr I
  unfold KC at hk
  unfold KR at hr
  have hmx := (N_mx I).2.2.1
  intro n
  induction n with
  | zero =>
    intro i f g hi hf hg
    obtain ⟨f, rfl⟩ : ∃ f', f = f' + 1 := ⟨f - 1, by omega⟩
    obtain ⟨g, rfl⟩ : ∃ g', g = g' + 1 := ⟨g - 1, by omega⟩
    have hle : nI (zN C 5) ≤ nI i := (nJ_le (by omega) (by omega)).mpr (by omega)
    rw [f_X9_bankAtFault_2, f_X10_goesOut_296]
    simp only [hk, Option.bind_some, (N_lm I).size, (N_cnt I).2.2.1, hle, if_true]
    exact ⟨none, rfl, Or.inl ⟨rfl, trivial⟩⟩
  | succ n ih =>
    intro i f g hi hf hg
    obtain ⟨f, rfl⟩ : ∃ f', f = f' + 1 := ⟨f - 1, by omega⟩
    obtain ⟨g, rfl⟩ : ∃ g', g = g' + 1 := ⟨g - 1, by omega⟩
    have hil : i < zN C 5 := by omega
    have hle : ¬ nI (zN C 5) ≤ nI i := fun z => by have := (nJ_le (by omega) (by omega)).mp z; omega
    have z30 : zib (nI i) 30 = true := zib_nI (by omega) (by decide)
    obtain ⟨m1, m2, m3, m4, m5⟩ := N_mac I i hil
    obtain ⟨fa1, fa2, fa3⟩ := N_mfa I i hil
    have hle0 : (zI R 134 0 i ≤ 0) ↔ zI R 134 0 i = 0 := by
      constructor
      · intro z
        exact Int32.le_antisymm z (Int32.not_lt.mp fa2)
      · intro z
        rw [z]
        decide
    have skip := ih (i + 1) f g (by omega) (by omega) (by omega)
    rw [f_X9_bankAtFault_2, f_X10_goesOut_296]
    simp only [f_X4_has, hk, hr, Option.bind_some, (N_lm I).size, (N_lm I).get hil, (N_cnt I).2.2.1, hle, if_false, zgd, z30, if_true, nI_clamp (show i < 2 ^ 31 by omega), fa1, hle0, ← nI_succ, m1, m3, Option.some.injEq, rd_inj (zib_ex m2).2 (zib_ex hx).2, rd_inj (zib_ex m4).2 (zib_ex hx).2]
    by_cases h1 : zI R 134 0 i = 0
    · simp only [h1, if_true]
      exact skip
    · obtain ⟨fb1, fb2⟩ := (N_mfb I i hil).2 h1
      simp only [h1, if_false]
      by_cases h2 : zI R 130 0 i = x
      · simp only [h2, if_true, Option.bind_some, show ¬ (1 : Int32) = 0 by decide, if_false, fb1]
        exact ⟨_, rfl, Or.inr ⟨i, hil, h1, rfl, fb2, rfl⟩⟩
      · simp only [h2, if_false]
        by_cases h3 : zI R 131 0 i = x
        · simp only [h3, if_true, Option.bind_some, show ¬ (1 : Int32) = 0 by decide, if_false, fb1]
          exact ⟨_, rfl, Or.inr ⟨i, hil, h1, rfl, fb2, rfl⟩⟩
        · simp only [h3, if_false, Option.bind_some, if_true]
          exact skip
end ZCB
