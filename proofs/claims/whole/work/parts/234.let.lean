/-! ===== letters on both sides ===== -/
section ZLT
variable {C R : zH}
theorem l_fill (h26 : zL C 26 0 = 10) : ∀ (n i f : Nat) (C1 : zH), i + n = 10 → n < f → SC C C1 → (∀ j, j < i → zJ C1 26 0 j = 0) → ∃ C2, f_J7_fill_d0a16_6 f (some 0) 0 (nI i) 10 C1 = some C2 ∧ SC C C2 ∧ ∀ j, j < 10 → zJ C2 26 0 j = 0 := by
  intro n
  induction n with
  | zero =>
    intro i f C1 hi hf F hz
    obtain ⟨f, rfl⟩ : ∃ f', f = f' + 1 := ⟨f - 1, by omega⟩
    have : i = 10 := by omega
    subst this
    rw [f_J7_fill_d0a16_6, if_pos (by decide)]
    exact ⟨C1, rfl, F, hz⟩
  | succ n ih =>
    intro i f C1 hi hf F hz
    obtain ⟨f, rfl⟩ : ∃ f', f = f' + 1 := ⟨f - 1, by omega⟩
    have hle : ¬ (10 : Int32) ≤ nI i := fun z => by have := (nJ_le (a := 10) (by decide) (by omega)).mp z; omega
    have hl : zL C1 26 0 = 10 := (F.2.2.2.2 26 0).trans h26
    rw [f_J7_fill_d0a16_6, if_neg hle]
    simp only [Option.bind_some, hl, zgd, zib_nI (show i < 10 by omega) (by decide), if_true, zlt, nI_clamp (show i < 2 ^ 31 by omega), ← nI_succ]
    refine ih (i + 1) f _ (by omega) (by omega) (F.set26 0 i 0) (fun j hj => ?_)
    rw [wJ_sJ]
    by_cases e : j = i
    · rw [if_pos ⟨rfl, rfl, e⟩]
    · rw [if_neg (fun z => e z.2.2)]
      exact hz j (by omega)
theorem e_fresh (hk : KC C) : ∃ C1, f_X6_freshLetters 0 C = some (some 0, C1) ∧ SC C C1 ∧ ∀ j, j < 10 → zJ C1 26 0 j = 0 := by
  have hk' := id hk
  unfold KC at hk'
  obtain ⟨C1, e1, e2, e3⟩ := l_fill (C := C) (by simp only [hk']) 10 0 fu C (by omega) (by unfold fu; omega) SC.rf (fun j hj => absurd hj (Nat.not_lt_zero _))
  have hk1 := e2.kc hk
  unfold KC at hk1
  refine ⟨C1, ?_, e2, e3⟩
  unfold f_X6_freshLetters f_J7_fill_d0a16
  simp only [hk', Option.bind_some]
  rw [show f_J7_fill_d0a16_6 fu (some 0) 0 0 (Int32.ofNat 10) C = some C1 from e1]
  simp only [Option.bind_some, hk1]
theorem l_bare (hr : KR R) : ∀ (n i f : Nat) (R1 : zH), i + n = 128 → n < f → SR R R1 → (∀ j, j < i → zI R1 158 0 j = 0) → ∃ R2, f_X10_bare_2 f 0 (nI i) R1 = some R2 ∧ SR R R2 ∧ ∀ j, j < 128 → zI R2 158 0 j = 0 := by
  intro n
  induction n with
  | zero =>
    intro i f R1 hi hf F hz
    obtain ⟨f, rfl⟩ : ∃ f', f = f' + 1 := ⟨f - 1, by omega⟩
    have : i = 128 := by omega
    subst this
    rw [f_X10_bare_2, if_pos (by decide)]
    exact ⟨R1, rfl, F, hz⟩
  | succ n ih =>
    intro i f R1 hi hf F hz
    obtain ⟨f, rfl⟩ : ∃ f', f = f' + 1 := ⟨f - 1, by omega⟩
    have hle : ¬ (128 : Int32) ≤ nI i := fun z => by have := (nJ_le (a := 128) (by decide) (by omega)).mp z; omega
    have h1 := F.kr hr
    unfold KR at h1
    rw [f_X10_bare_2, if_neg hle]
    simp only [Option.bind_some, h1, zgd, zib_nI (show i < 128 by omega) (by decide), if_true, zlt, nI_clamp (show i < 2 ^ 31 by omega), ← nI_succ]
    refine ih (i + 1) f _ (by omega) (by omega) (F.set 158 0 i (Or.inl rfl) 0) (fun j hj => ?_)
    rw [wI_sI]
    by_cases e : j = i
    · rw [if_pos ⟨rfl, rfl, e⟩]
    · rw [if_neg (fun z => e z.2.2)]
      exact hz j (by omega)
theorem e_bare (hr : KR R) : ∃ R1, f_X10_bare 0 R = some R1 ∧ SR R R1 ∧ ∀ j, j < 128 → zI R1 158 0 j = 0 :=
  l_bare hr 128 0 fu R (by omega) (by unfold fu; omega) SR.rf (fun j hj => absurd hj (Nat.not_lt_zero _))
theorem hld_zib {x : Int32} {n : Nat} (h : zib x n = true) (hn : n ≤ 1000000000) : hld x.toInt64 = x.toInt64 := by
  have z := zib_ex h
  have e := znn x z.2
  exact hld_nn (by omega)
/-- an account's lines that have not ended, counted on both sides -/
theorem l_lin {x d : Int32} (hx : zib x (zN C 3) = true) : ∀ (n k f g c : Nat) (R1 : zH), Inq C R1 → k + n = zN C 4 → n < f → n < g → c ≤ k → zI R1 158 0 108 = nI c → ∃ c' R2, c' ≤ 60 ∧ f_X9_linesNotEnded_4 f 0 (some x.toNatClampNeg) (nI c) (nI k) C = some (nI c') ∧ f_X10_puts_78 g 0 x d (nI k) R1 = some R2 ∧ SR R1 R2 ∧ ∀ j, j < 128 → zI R2 158 0 j = if j = 100 then d else if j = 108 then nI c' else zI R1 158 0 j := by
  intro n
  induction n with
  | zero =>
    intro k f g c R1 I hk hf hg hc hl
    obtain ⟨f, rfl⟩ : ∃ f', f = f' + 1 := ⟨f - 1, by omega⟩
    obtain ⟨g, rfl⟩ : ∃ g', g = g' + 1 := ⟨g - 1, by omega⟩
    have kc := Q_kc I
    have kr := Q_kr I
    unfold KC at kc
    unfold KR at kr
    have hmx := (Q_mx I).2.1
    have hle : nI (zN C 4) ≤ nI k := (nJ_le (by omega) (by omega)).mpr (by omega)
    refine ⟨c, zsI R1 158 0 100 d, by omega, ?_, ?_, SR.rf.set 158 0 100 (Or.inl rfl) d, fun j hj => ?_⟩
    · rw [f_X9_linesNotEnded_4]
      simp only [kc, Option.bind_some, (Q_ll I).size, hle, if_true]
    · rw [f_X10_puts_78]
      simp only [(Q_cnt I).2.1, hle, if_true, kr, Option.bind_some, zgd, show zib 100 128 = true by decide, zlt, show Int32.toNatClampNeg 100 = 100 by decide]
    · rw [wI_sI]
      by_cases e : j = 100
      · rw [if_pos ⟨rfl, rfl, e⟩, if_pos e]
      · rw [if_neg (fun z => e z.2.2), if_neg e]
        by_cases e2 : j = 108
        · rw [if_pos e2, e2, hl]
        · rw [if_neg e2]
  | succ n ih =>
    intro k f g c R1 I hk hf hg hc hl
    obtain ⟨f, rfl⟩ : ∃ f', f = f' + 1 := ⟨f - 1, by omega⟩
    obtain ⟨g, rfl⟩ : ∃ g', g = g' + 1 := ⟨g - 1, by omega⟩
    have kc := Q_kc I
    have kr := Q_kr I
    unfold KC at kc
    unfold KR at kr
    have hmx := (Q_mx I).2.1
    have hkl : k < zN C 4 := by omega
    have hle : ¬ nI (zN C 4) ≤ nI k := fun z => by have := (nJ_le (by omega) (by omega)).mp z; omega
    obtain ⟨l1, l2, l3, l4⟩ := Q_lft I k hkl
    obtain ⟨d1, d2⟩ := Q_led I k hkl
    have go : ∀ y c', y = nI c' → c' ≤ k + 1 → ∃ c2 R2, c2 ≤ 60 ∧ f_X9_linesNotEnded_4 f 0 (some x.toNatClampNeg) (nI c') (nI (k + 1)) C = some (nI c2) ∧ f_X10_puts_78 g 0 x d (nI (k + 1)) (zsI R1 158 0 108 y) = some R2 ∧ SR R1 R2 ∧ ∀ j, j < 128 → zI R2 158 0 j = if j = 100 then d else if j = 108 then nI c2 else zI R1 158 0 j := by
      intro y c' hy hc'
      have F : SR R1 (zsI R1 158 0 108 y) := SR.rf.set 158 0 108 (Or.inl rfl) y
      obtain ⟨c2, R2, a1, a2, a3, a4, a5⟩ := ih (k + 1) f g c' _ (Inq_SR I F) (by omega) (by omega) (by omega) hc' (by rw [wI_sI, if_pos ⟨rfl, rfl, rfl⟩]; exact hy)
      refine ⟨c2, R2, a1, a2, a3, F.tr a4, fun j hj => ?_⟩
      rw [a5 j hj]
      by_cases e : j = 100
      · rw [if_pos e, if_pos e]
      · rw [if_neg e, if_neg e]
        by_cases e2 : j = 108
        · rw [if_pos e2, if_pos e2]
        · rw [if_neg e2, if_neg e2, wI_sI, if_neg (fun z => e2 z.2.2)]
    have zk : zib (nI k) 60 = true := zib_nI (by omega) (by decide)
    have hfx : (zR C 4 k 1 = some x.toNatClampNeg) ↔ zI R1 121 0 k = x := by
      rw [l1]
      constructor
      · intro z
        exact (rd_inj (zib_ex l2).2 (zib_ex hx).2).mp (Option.some.inj z)
      · intro z
        rw [z]
    rw [f_X9_linesNotEnded_4, f_X10_puts_78]
    simp only [kc, kr, (Q_cnt I).2.1, Option.bind_some, (Q_ll I).size, hle, if_false, (Q_ll I).get hkl, zgd, zlt, zk, if_true, nI_clamp (show k < 2 ^ 31 by omega), show zib 108 128 = true by decide, show Int32.toNatClampNeg 108 = 108 by decide, ← nI_succ, zop, hl]
    by_cases h1 : zI R1 126 0 k < 0
    · rw [if_pos (d1 h1)]
      by_cases h2 : zI R1 121 0 k = x
      · rw [if_pos (hfx.mpr h2), if_pos h2, if_neg (Int32.not_le.mpr h1)]
        exact go _ (c + 1) rfl (by omega)
      · rw [if_neg (fun z => h2 (hfx.mp z)), if_neg h2]
        exact go _ c (Int32.add_zero _) (by omega)
    · rw [if_neg (by rw [(d2 h1).1]; decide)]
      by_cases h2 : zI R1 121 0 k = x
      · rw [if_pos h2, if_pos (Int32.not_lt.mp h1)]
        exact go _ c (Int32.add_zero _) (by omega)
      · rw [if_neg h2]
        exact go _ c (Int32.add_zero _) (by omega)
end ZLT
