/-! ===== rivals ===== -/
def rvP (R : zH) (x : Int32) (k : Nat) : Prop := zI R 110 0 k = x ∧ zI R 114 0 k = 0
def rvV (R : zH) (y : Int32) (k : Nat) : Int32 := lkn (zI R 111 0 k) (zI R 112 0 k) y
section ZL
variable {C R : zH}
theorem rv_bk (I : Inv C R) {x : Int32} (hx : zib x 8 = true) {k : Nat} (hk : k < zN C 3) : (zR C 3 k 1 = some x.toNatClampNeg) = (zI R 110 0 k = x) := by
  obtain ⟨b1, b2⟩ := J_abk I k hk
  rw [b1, Option.some.injEq, rd_inj (zib_ex b2).2 (zib_ex hx).2]
theorem l_great (I : Inv C R) {x : Int32} (hx : zib x 8 = true) (y : Int32) : ∀ (n k : Nat) (acc : Int32) (f : Nat), k + n = zN C 3 → n < f → ∃ m, f_X9_greatestLikeness_5 f 0 (some x.toNatClampNeg) y acc (nI k) C = some m ∧ (m = acc ∨ ∃ j, j < zN C 3 ∧ rvP R x j ∧ rvV R y j = m) ∧ acc ≤ m ∧ ∀ j, k ≤ j → j < zN C 3 → rvP R x j → rvV R y j ≤ m := by
  have hk := J_kc I
  have hm := (J_mx I).1
  unfold KC at hk
  intro n
  induction n with
  | zero =>
    intro k acc f h hf
    obtain ⟨f, rfl⟩ : ∃ f', f = f' + 1 := ⟨f - 1, by omega⟩
    have hle : nI (zN C 3) ≤ nI k := (nJ_le (by omega) (by omega)).mpr (by omega)
    rw [f_X9_greatestLikeness_5]
    simp only [hk, Option.bind_some, (J_la I).size, hle, if_true]
    exact ⟨acc, rfl, Or.inl rfl, Int32.le_refl _, fun j j1 j2 => by omega⟩
  | succ n ih =>
    intro k acc f h hf
    obtain ⟨f, rfl⟩ : ∃ f', f = f' + 1 := ⟨f - 1, by omega⟩
    have hlt : k < zN C 3 := by omega
    have hle : ¬ nI (zN C 3) ≤ nI k := fun z => by have := (nJ_le (by omega) (by omega)).mp z; omega
    rw [f_X9_greatestLikeness_5]
    simp only [hk, Option.bind_some, (J_la I).size, (J_la I).get hlt, hle, if_false, J_ast I k hlt, rv_bk I hx hlt, e_lkn, (J_anm I k hlt).1, (J_anm I k hlt).2, ← nI_succ]
    have skip : ¬ rvP R x k → ∃ m, f_X9_greatestLikeness_5 f 0 (some x.toNatClampNeg) y acc (nI (k + 1)) C = some m ∧ (m = acc ∨ ∃ j, j < zN C 3 ∧ rvP R x j ∧ rvV R y j = m) ∧ acc ≤ m ∧ ∀ j, k ≤ j → j < zN C 3 → rvP R x j → rvV R y j ≤ m := by
      intro hp
      obtain ⟨m, m1, m2, m3, m4⟩ := ih (k + 1) acc f (by omega) (by omega)
      refine ⟨m, m1, m2, m3, fun j j1 j2 j3 => m4 j ?_ j2 j3⟩
      have : ¬ j = k := fun e => hp (e ▸ j3)
      omega
    by_cases h1 : zI R 114 0 k = 0
    · by_cases h2 : zI R 110 0 k = x
      · simp only [h1, h2, if_true]
        obtain ⟨m, m1, m2, m3, m4⟩ := ih (k + 1) (if acc < lkn (zI R 111 0 k) (zI R 112 0 k) y then lkn (zI R 111 0 k) (zI R 112 0 k) y else acc) f (by omega) (by omega)
        refine ⟨m, m1, ?_, ?_, fun j j1 j2 j3 => ?_⟩
        · rcases m2 with q | q
          · rw [q]
            split
            · exact Or.inr ⟨k, hlt, ⟨h2, h1⟩, rfl⟩
            · exact Or.inl rfl
          · exact Or.inr q
        · refine Int32.le_trans ?_ m3
          split
          · exact Int32.le_of_lt (by assumption)
          · exact Int32.le_refl _
        · by_cases e : j = k
          · subst e
            refine Int32.le_trans ?_ m3
            show lkn _ _ _ ≤ _
            split
            · exact Int32.le_refl _
            · exact Int32.not_lt.mp (by assumption)
          · exact m4 j (by omega) j2 j3
      · simp only [h1, h2, if_true, if_false]
        exact skip fun z => h2 z.1
    · simp only [h1, if_false]
      exact skip fun z => h1 z.2
theorem l_most (I : Inv C R) {x : Int32} (y w : Int32) : ∀ (n k : Nat) (acc : Int32) (f : Nat), k + n = zN C 3 → n < f → ((∃ j, k ≤ j ∧ j < zN C 3 ∧ rvP R x j ∧ rvV R y j = 2) → f_X10_rivalOf_6 f 0 x y w acc (nI k) R = f_X10_rivalOf_62 fu 0 x y w 2 0 0 R) ∧ ((¬ ∃ j, k ≤ j ∧ j < zN C 3 ∧ rvP R x j ∧ rvV R y j = 2) → f_X10_rivalOf_6 f 0 x y w acc (nI k) R = f_X10_rivalOf_62 fu 0 x y w acc 0 0 R) := by
  have hr := J_kr I
  have hm := (J_mx I).1
  have hkr := J_kr I
  unfold KR at hr
  intro n
  induction n with
  | zero =>
    intro k acc f h hf
    obtain ⟨f, rfl⟩ : ∃ f', f = f' + 1 := ⟨f - 1, by omega⟩
    have hle : nI (zN C 3) ≤ nI k := (nJ_le (by omega) (by omega)).mpr (by omega)
    rw [f_X10_rivalOf_6]
    simp only [(J_cnt I).1, hle, if_true]
    exact ⟨fun ⟨j, j1, j2, j3⟩ => by omega, fun _ => trivial⟩
  | succ n ih =>
    intro k acc f h hf
    obtain ⟨f, rfl⟩ : ∃ f', f = f' + 1 := ⟨f - 1, by omega⟩
    have hlt : k < zN C 3 := by omega
    have hle : ¬ nI (zN C 3) ≤ nI k := fun z => by have := (nJ_le (by omega) (by omega)).mp z; omega
    have z40 : zib (nI k) 40 = true := zib_nI (by omega) (by decide)
    rw [f_X10_rivalOf_6]
    simp only [hr, (J_cnt I).1, hle, if_false, Option.bind_some, zgd, z40, if_true, e_lks hkr z40, nI_clamp (show k < 2 ^ 31 by omega), ← nI_succ]
    have skip : ∀ acc2, ¬ (rvP R x k ∧ rvV R y k = 2) → ((∃ j, k ≤ j ∧ j < zN C 3 ∧ rvP R x j ∧ rvV R y j = 2) → f_X10_rivalOf_6 f 0 x y w acc2 (nI (k + 1)) R = f_X10_rivalOf_62 fu 0 x y w 2 0 0 R) ∧ ((¬ ∃ j, k ≤ j ∧ j < zN C 3 ∧ rvP R x j ∧ rvV R y j = 2) → f_X10_rivalOf_6 f 0 x y w acc2 (nI (k + 1)) R = f_X10_rivalOf_62 fu 0 x y w acc2 0 0 R) := by
      intro acc2 hp
      obtain ⟨i1, i2⟩ := ih (k + 1) acc2 f (by omega) (by omega)
      refine ⟨fun ⟨j, j1, j2, j3⟩ => i1 ⟨j, ?_, j2, j3⟩, fun z => i2 fun ⟨j, j1, j2, j3⟩ => z ⟨j, by omega, j2, j3⟩⟩
      have : ¬ j = k := fun e => hp (e ▸ j3)
      omega
    by_cases h2 : zI R 110 0 k = x
    · by_cases h1 : zI R 114 0 k = 0
      · by_cases h3 : lkn (zI R 111 0 k) (zI R 112 0 k) y = 2
        · simp only [h1, h2, h3, if_true]
          obtain ⟨i1, i2⟩ := ih (k + 1) 2 f (by omega) (by omega)
          refine ⟨fun _ => ?_, fun z => absurd ⟨k, Nat.le_refl _, hlt, ⟨h2, h1⟩, h3⟩ z⟩
          by_cases q : ∃ j, k + 1 ≤ j ∧ j < zN C 3 ∧ rvP R x j ∧ rvV R y j = 2
          · exact i1 q
          · exact i2 q
        · simp only [h1, h2, h3, if_true, if_false]
          exact skip acc fun z => h3 z.2
      · simp only [h1, h2, if_true, if_false]
        exact skip acc fun z => h1 z.1.2
    · simp only [h2, if_false]
      exact skip acc fun z => h2 z.1.1
theorem e_isRv (I : Inv C R) {x : Int32} (hx : zib x 8 = true) (y m : Int32) {k : Nat} (hk : k < zN C 3) : (1 ≤ m ∧ rvP R x k ∧ rvV R y k = m → f_X0_isRival k (some x.toNatClampNeg) y m C = some 1) ∧ (¬ (1 ≤ m ∧ rvP R x k ∧ rvV R y k = m) → f_X0_isRival k (some x.toNatClampNeg) y m C = some 0) := by
  unfold f_X0_isRival
  simp only [J_ast I k hk, rv_bk I hx hk, e_lkn, (J_anm I k hk).1, (J_anm I k hk).2, Option.bind_some]
  constructor
  · rintro ⟨h1, ⟨h2, h3⟩, h4⟩
    rw [if_neg (Int32.not_lt.mpr h1), if_pos h3, if_pos h2, if_pos (show lkn (zI R 111 0 k) (zI R 112 0 k) y = m from h4)]
  · intro h
    by_cases h1 : m < 1
    · rw [if_pos h1]
    · rw [if_neg h1]
      by_cases h3 : zI R 114 0 k = 0
      · rw [if_pos h3]
        by_cases h2 : zI R 110 0 k = x
        · rw [if_pos h2]
          rw [if_neg (show ¬ lkn (zI R 111 0 k) (zI R 112 0 k) y = m from fun z => h ⟨Int32.not_lt.mp h1, ⟨h2, h3⟩, z⟩)]
        · rw [if_neg h2]
      · rw [if_neg h3]
theorem l_cnt (I : Inv C R) {x : Int32} (hx : zib x 8 = true) (y m o : Int32) (H : ∀ k, k < zN C 3 → ((1 ≤ m ∧ rvP R x k ∧ rvV R y k = m) ↔ (rvP R x k ∧ rvV R y k = o))) : ∀ (n k c f g : Nat), k + n = zN C 3 → c ≤ k → n < f → n < g → TR (f_X9_countRivals_13 f 0 (some x.toNatClampNeg) y m (nI c) (nI k) C) (f_X10_rivalOf_62 g 0 x y (-1) o (nI c) (nI k) R) := by
  have hk := J_kc I
  have hr := J_kr I
  have hm := (J_mx I).1
  have hkr := J_kr I
  unfold KC at hk
  unfold KR at hr
  intro n
  induction n with
  | zero =>
    intro k c f g h hc hf hg
    obtain ⟨f, rfl⟩ : ∃ f', f = f' + 1 := ⟨f - 1, by omega⟩
    obtain ⟨g, rfl⟩ : ∃ g', g = g' + 1 := ⟨g - 1, by omega⟩
    have hle : nI (zN C 3) ≤ nI k := (nJ_le (by omega) (by omega)).mpr (by omega)
    rw [f_X9_countRivals_13, f_X10_rivalOf_62]
    simp only [hk, Option.bind_some, (J_la I).size, (J_cnt I).1, hle, if_true, show ¬ (0 : Int32) ≤ -1 by decide, if_false]
    exact ⟨_, rfl, rfl⟩
  | succ n ih =>
    intro k c f g h hc hf hg
    obtain ⟨f, rfl⟩ : ∃ f', f = f' + 1 := ⟨f - 1, by omega⟩
    obtain ⟨g, rfl⟩ : ∃ g', g = g' + 1 := ⟨g - 1, by omega⟩
    have hlt : k < zN C 3 := by omega
    have hle : ¬ nI (zN C 3) ≤ nI k := fun z => by have := (nJ_le (by omega) (by omega)).mp z; omega
    have z40 : zib (nI k) 40 = true := zib_nI (by omega) (by decide)
    have hc1 : ¬ nI c = -1 := fun z => nI_pos (show c < 2 ^ 31 by omega) (by rw [z]; decide)
    obtain ⟨r1, r2⟩ := e_isRv I hx y m hlt
    rw [f_X9_countRivals_13, f_X10_rivalOf_62]
    simp only [hk, hr, Option.bind_some, (J_la I).size, (J_la I).get hlt, (J_cnt I).1, hle, if_false, zgd, z40, if_true, e_lks hkr z40, nI_clamp (show k < 2 ^ 31 by omega), ← nI_succ, hc1]
    by_cases q : rvP R x k ∧ rvV R y k = o
    · rw [r1 ((H k hlt).mpr q), Option.bind_some, if_neg (show ¬ (1 : Int32) = 0 by decide), if_pos q.1.1, if_pos q.1.2, if_pos (show lkn (zI R 111 0 k) (zI R 112 0 k) y = o from q.2)]
      exact ih (k + 1) (c + 1) f g (by omega) (by omega) (by omega) (by omega)
    · rw [r2 (fun z => q ((H k hlt).mp z)), Option.bind_some, if_pos rfl]
      have e : (if zI R 110 0 k = x then (if zI R 114 0 k = 0 then (if lkn (zI R 111 0 k) (zI R 112 0 k) y = o then f_X10_rivalOf_62 g 0 x y (-1) o (nI (c + 1)) (nI (k + 1)) R else f_X10_rivalOf_62 g 0 x y (-1) o (nI c) (nI (k + 1)) R) else f_X10_rivalOf_62 g 0 x y (-1) o (nI c) (nI (k + 1)) R) else f_X10_rivalOf_62 g 0 x y (-1) o (nI c) (nI (k + 1)) R) = f_X10_rivalOf_62 g 0 x y (-1) o (nI c) (nI (k + 1)) R := by
        split
        · split
          · rw [if_neg (show ¬ lkn (zI R 111 0 k) (zI R 112 0 k) y = o from fun z => q ⟨⟨by assumption, by assumption⟩, z⟩)]
          · rfl
        · rfl
      rw [e]
      exact ih (k + 1) c f g (by omega) (by omega) (by omega) (by omega)
theorem l_fnd (I : Inv C R) {x : Int32} (hx : zib x 8 = true) (y m o w : Int32) (hw : 0 ≤ w) (H : ∀ k, k < zN C 3 → ((1 ≤ m ∧ rvP R x k ∧ rvV R y k = m) ↔ (rvP R x k ∧ rvV R y k = o))) : ∀ (n k c f g : Nat), k + n = zN C 3 → n < f → n < g → TR (f_X9_findRival_14 f 0 (some x.toNatClampNeg) y w m (nI c) (nI k) C) (f_X10_rivalOf_62 g 0 x y w o (nI c) (nI k) R) := by
  have hk := J_kc I
  have hr := J_kr I
  have hm := (J_mx I).1
  have hkr := J_kr I
  unfold KC at hk
  unfold KR at hr
  intro n
  induction n with
  | zero =>
    intro k c f g h hf hg
    obtain ⟨f, rfl⟩ : ∃ f', f = f' + 1 := ⟨f - 1, by omega⟩
    obtain ⟨g, rfl⟩ : ∃ g', g = g' + 1 := ⟨g - 1, by omega⟩
    have hle : nI (zN C 3) ≤ nI k := (nJ_le (by omega) (by omega)).mpr (by omega)
    rw [f_X9_findRival_14, f_X10_rivalOf_62]
    simp only [hk, Option.bind_some, (J_la I).size, (J_cnt I).1, hle, if_true, hw]
    exact ⟨_, rfl, rfl⟩
  | succ n ih =>
    intro k c f g h hf hg
    obtain ⟨f, rfl⟩ : ∃ f', f = f' + 1 := ⟨f - 1, by omega⟩
    obtain ⟨g, rfl⟩ : ∃ g', g = g' + 1 := ⟨g - 1, by omega⟩
    have hlt : k < zN C 3 := by omega
    have hle : ¬ nI (zN C 3) ≤ nI k := fun z => by have := (nJ_le (by omega) (by omega)).mp z; omega
    have z40 : zib (nI k) 40 = true := zib_nI (by omega) (by decide)
    obtain ⟨r1, r2⟩ := e_isRv I hx y m hlt
    rw [f_X9_findRival_14, f_X10_rivalOf_62]
    simp only [hk, hr, Option.bind_some, (J_la I).size, (J_la I).get hlt, (J_cnt I).1, hle, if_false, zgd, z40, if_true, e_lks hkr z40, nI_clamp (show k < 2 ^ 31 by omega), ← nI_succ, f_X9_findRival_61, Int32.add_zero]
    by_cases q : rvP R x k ∧ rvV R y k = o
    · rw [r1 ((H k hlt).mpr q), Option.bind_some]
      simp only [show ¬ (1 : Int32) = 0 by decide, if_false]
      rw [if_pos q.1.1, if_pos q.1.2, if_pos (show lkn (zI R 111 0 k) (zI R 112 0 k) y = o from q.2)]
      split
      · exact ⟨_, rfl, rfl⟩
      · exact ih (k + 1) (c + 1) f g (by omega) (by omega) (by omega)
    · rw [r2 (fun z => q ((H k hlt).mp z)), Option.bind_some]
      simp only [if_true]
      have e : (if zI R 110 0 k = x then (if zI R 114 0 k = 0 then (if lkn (zI R 111 0 k) (zI R 112 0 k) y = o then (if nI c = w then some (nI k) else f_X10_rivalOf_62 g 0 x y w o (nI (c + 1)) (nI (k + 1)) R) else f_X10_rivalOf_62 g 0 x y w o (nI c) (nI (k + 1)) R) else f_X10_rivalOf_62 g 0 x y w o (nI c) (nI (k + 1)) R) else f_X10_rivalOf_62 g 0 x y w o (nI c) (nI (k + 1)) R) = f_X10_rivalOf_62 g 0 x y w o (nI c) (nI (k + 1)) R := by
        split
        · split
          · rw [if_neg (show ¬ lkn (zI R 111 0 k) (zI R 112 0 k) y = o from fun z => q ⟨⟨by assumption, by assumption⟩, z⟩)]
          · rfl
        · rfl
      rw [e]
      exact ih (k + 1) c f g (by omega) (by omega) (by omega)
theorem l_fndN (I : Inv C R) {x : Int32} (hx : zib x 8 = true) (y m w : Int32) (hw : w < 0) : ∀ (n k c f : Nat), k + n = zN C 3 → c ≤ k → n < f → f_X9_findRival_14 f 0 (some x.toNatClampNeg) y w m (nI c) (nI k) C = some (-9) := by
  have hk := J_kc I
  have hm := (J_mx I).1
  unfold KC at hk
  intro n
  induction n with
  | zero =>
    intro k c f h hc hf
    obtain ⟨f, rfl⟩ : ∃ f', f = f' + 1 := ⟨f - 1, by omega⟩
    have hle : nI (zN C 3) ≤ nI k := (nJ_le (by omega) (by omega)).mpr (by omega)
    rw [f_X9_findRival_14]
    simp only [hk, Option.bind_some, (J_la I).size, hle, if_true]
  | succ n ih =>
    intro k c f h hc hf
    obtain ⟨f, rfl⟩ : ∃ f', f = f' + 1 := ⟨f - 1, by omega⟩
    have hlt : k < zN C 3 := by omega
    have hle : ¬ nI (zN C 3) ≤ nI k := fun z => by have := (nJ_le (by omega) (by omega)).mp z; omega
    have hcw : ¬ nI c = w := fun z => nI_pos (show c < 2 ^ 31 by omega) (by rw [z]; exact hw)
    obtain ⟨r1, r2⟩ := e_isRv I hx y m hlt
    rw [f_X9_findRival_14]
    simp only [hk, Option.bind_some, (J_la I).size, (J_la I).get hlt, hle, if_false, ← nI_succ, f_X9_findRival_61, Int32.add_zero, hcw]
    by_cases q : 1 ≤ m ∧ rvP R x k ∧ rvV R y k = m
    · rw [r1 q, Option.bind_some]
      simp only [show ¬ (1 : Int32) = 0 by decide, if_false]
      exact ih (k + 1) (c + 1) f (by omega) (by omega) (by omega)
    · rw [r2 q, Option.bind_some]
      simp only [if_true]
      exact ih (k + 1) c f (by omega) (by omega) (by omega)
/-- the class's greatest likeness and the reference's -/
theorem rv_two (I : Inv C R) {x : Int32} (hx : zib x 8 = true) (y : Int32) : ∃ m o : Int32, f_X9_greatestLikeness 0 (some x.toNatClampNeg) y C = some m ∧ (∀ w, f_X10_rivalOf 0 x y w R = f_X10_rivalOf_62 fu 0 x y w o 0 0 R) ∧ ∀ k, k < zN C 3 → ((1 ≤ m ∧ rvP R x k ∧ rvV R y k = m) ↔ (rvP R x k ∧ rvV R y k = o)) := by
  have hm := (J_mx I).1
  obtain ⟨m, m1, m2, m3, m4⟩ := l_great I hx y (zN C 3) 0 0 fu (by omega) (by unfold fu; omega)
  have hc : ∀ k, rvV R y k = 0 ∨ rvV R y k = 1 ∨ rvV R y k = 2 := fun k => lkn_c _ _ _
  have hmc : m = 0 ∨ m = 1 ∨ m = 2 := by
    rcases m2 with q | ⟨j, -, -, q⟩
    · exact Or.inl q
    · rw [← q]
      exact hc j
  by_cases h2 : ∃ j, 0 ≤ j ∧ j < zN C 3 ∧ rvP R x j ∧ rvV R y j = 2
  · refine ⟨m, 2, m1, fun w => (l_most I (x := x) y w (zN C 3) 0 1 fu (by omega) (by unfold fu; omega)).1 h2, fun k hk => ?_⟩
    obtain ⟨j, j0, j1, j2, j3⟩ := h2
    have hm2 : m = 2 := by
      have q := m4 j j0 j1 j2
      rw [j3] at q
      rcases hmc with e | e | e
      · rw [e] at q
        exact absurd q (by decide)
      · rw [e] at q
        exact absurd q (by decide)
      · exact e
    rw [hm2]
    exact ⟨fun z => z.2, fun z => ⟨by decide, z⟩⟩
  · refine ⟨m, 1, m1, fun w => (l_most I (x := x) y w (zN C 3) 0 1 fu (by omega) (by unfold fu; omega)).2 h2, fun k hk => ?_⟩
    rcases hmc with e | e | e
    · rw [e]
      refine ⟨fun z => absurd z.1 (by decide), fun z => ?_⟩
      have q := m4 k (Nat.zero_le _) hk z.1
      rw [z.2, e] at q
      exact absurd q (by decide)
    · rw [e]
      exact ⟨fun z => z.2, fun z => ⟨by decide, z⟩⟩
    · exfalso
      rcases m2 with q | ⟨j, j1, j2, j3⟩
      · rw [e] at q
        exact absurd q (by decide)
      · exact h2 ⟨j, Nat.zero_le _, j1, j2, by rw [j3, e]⟩
theorem t_rivals (I : Inv C R) (x1 x2 : Int32) : TT (f_X9_rivals 0 x1 x2 C) (f_X10_rivals 0 x1 x2 R) := by
  unfold f_X9_rivals f_X10_rivals f_X10_rivals_19 f_X9_countRivals
  rw [e_bnkAt I, e_isBank, Option.bind_some, Option.bind_some, e_out, e_wit]
  have hm := (J_mx I).1
  by_cases h : zib x1 8 = true
  · obtain ⟨m, o, q1, q2, q3⟩ := rv_two I h x2
    obtain ⟨a, a1, a2⟩ := l_cnt I h x2 m o q3 (zN C 3) 0 0 fu fu (by omega) (Nat.le_refl _) (by unfold fu; omega) (by unfold fu; omega)
    simp only [h, if_true, zop, Option.bind_some, show ¬ (1 : Int32) = 0 by decide, if_false, q1, q2]
    by_cases h2 : ow x2 0 9999 = 0
    · simp only [h2, if_true]
      rw [show f_X9_countRivals_13 fu 0 (some x1.toNatClampNeg) x2 m 0 0 C = some a from a1, show f_X10_rivalOf_62 fu 0 x1 x2 (-1) o 0 0 R = some a from a2]
      exact TT.refl I
    · simp only [h2, if_false]
      exact t_refB I (ow_ref h2)
  · simp only [h, if_false, zop, if_true, show ¬ (-1 : Int32) = 0 by decide]
    exact t_refB I (by decide)
theorem t_rival (I : Inv C R) (x1 x2 x3 : Int32) : TT (f_X9_rival 0 x1 x2 x3 C) (f_X10_rival 0 x1 x2 x3 R) := by
  unfold f_X9_rival f_X10_rival f_X10_rival_19 f_X9_findRival
  rw [e_bnkAt I, e_isBank, Option.bind_some, Option.bind_some, e_out, e_wit]
  have hm := (J_mx I).1
  by_cases h : zib x1 8 = true
  · obtain ⟨m, o, q1, q2, q3⟩ := rv_two I h x2
    simp only [h, if_true, zop, Option.bind_some, show ¬ (1 : Int32) = 0 by decide, if_false, q1, q2]
    by_cases h2 : ow x2 0 9999 = 0
    · simp only [h2, if_true]
      by_cases h3 : 0 ≤ x3
      · obtain ⟨a, a1, a2⟩ := l_fnd I h x2 m o x3 h3 q3 (zN C 3) 0 0 fu fu (by omega) (by unfold fu; omega) (by unfold fu; omega)
        simp only [h3, if_true]
        rw [show f_X9_findRival_14 fu 0 (some x1.toNatClampNeg) x2 x3 m 0 0 C = some a from a1, show f_X10_rivalOf_62 fu 0 x1 x2 x3 o 0 0 R = some a from a2]
        exact TT.refl I
      · have a1 := l_fndN I h x2 m x3 (Int32.not_le.mp h3) (zN C 3) 0 0 fu (by omega) (Nat.le_refl _) (by unfold fu; omega)
        simp only [h3, if_false]
        rw [show f_X9_findRival_14 fu 0 (some x1.toNatClampNeg) x2 x3 m 0 0 C = some (-9) from a1]
        exact TT.refl I
    · simp only [h2, if_false]
      exact t_refB I (ow_ref h2)
  · simp only [h, if_false, zop, if_true, show ¬ (-1 : Int32) = 0 by decide]
    exact t_refB I (by decide)
end ZL
