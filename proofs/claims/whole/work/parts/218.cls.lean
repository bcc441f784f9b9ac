/-! ===== the class reads its tape as the hub does ===== -/
/-- only the reading's own places change: place, fault, code size, code -/
def FT (C C' : zH) : Prop := (∀ q i k, q ≠ 29 → ¬ (q = 8 ∧ (k = 2 ∨ k = 3 ∨ k = 5)) → zI C' q i k = zI C q i k) ∧ (∀ q i k, zJ C' q i k = zJ C q i k) ∧ (∀ q i k, zR C' q i k = zR C q i k) ∧ (∀ q, zN C' q = zN C q) ∧ ∀ q i, zL C' q i = zL C q i
theorem FT.rf {C : zH} : FT C C := ⟨fun _ _ _ _ _ => rfl, fun _ _ _ => rfl, fun _ _ _ => rfl, fun _ => rfl, fun _ _ => rfl⟩
theorem FT.set8 {C C' : zH} (h : FT C C') {k : Nat} (hk : k = 2 ∨ k = 3 ∨ k = 5) (x : Int32) : FT C (zsI C' 8 0 k x) := ⟨fun q i l h1 h2 => by rw [wI_sI, if_neg (fun z => h2 ⟨z.1, by rw [z.2.2]; exact hk⟩)]; exact h.1 q i l h1 h2, fun q i l => by rw [wJ_sI]; exact h.2.1 q i l, fun q i l => by rw [wR_sI]; exact h.2.2.1 q i l, fun q => by rw [wN_sI]; exact h.2.2.2.1 q, fun q i => by rw [wL_sI]; exact h.2.2.2.2 q i⟩
theorem FT.set29 {C C' : zH} (h : FT C C') (k : Nat) (x : Int32) : FT C (zsI C' 29 0 k x) := ⟨fun q i l h1 h2 => by rw [wI_sI, if_neg (fun z => h1 z.1)]; exact h.1 q i l h1 h2, fun q i l => by rw [wJ_sI]; exact h.2.1 q i l, fun q i l => by rw [wR_sI]; exact h.2.2.1 q i l, fun q => by rw [wN_sI]; exact h.2.2.2.1 q, fun q i => by rw [wL_sI]; exact h.2.2.2.2 q i⟩
/-- what the reading starts from -/
def TC (C : zH) (tx : Nat → Int32) (sz : Nat) : Prop := zR C 8 0 0 = some 0 ∧ zR C 8 0 4 = some 0 ∧ zL C 28 0 = 60 ∧ zL C 29 0 = 60 ∧ zI C 8 0 1 = nI sz ∧ sz ≤ 60 ∧ ∀ k, k < sz → zI C 28 0 k = tx k
theorem FT.tc {C C' : zH} {tx : Nat → Int32} {sz : Nat} (h : FT C C') (t : TC C tx sz) : TC C' tx sz := by
  obtain ⟨t1, t2, t3, t4, t5, t6, t7⟩ := t
  obtain ⟨f1, f2, f3, f4, f5⟩ := h
  exact ⟨by rw [f3]; exact t1, by rw [f3]; exact t2, by rw [f5]; exact t3, by rw [f5]; exact t4, by rw [f1 8 0 1 (by decide) (by decide)]; exact t5, t6, fun k hk => by rw [f1 28 0 k (by decide) (by simp)]; exact t7 k hk⟩
theorem e_next {C : zH} {tx : Nat → Int32} {sz k : Nat} (t : TC C tx sz) (hp : zI C 8 0 2 = nI k) (hk : k ≤ sz) (hf : zI C 8 0 3 = -9) : f_X8_next 0 C = some (ch tx sz k) := by
  obtain ⟨t1, t2, t3, t4, t5, t6, t7⟩ := t
  unfold f_X8_next ch
  rw [if_pos hf, hp, if_neg (nI_pos (by omega)), t5]
  by_cases h : k < sz
  · rw [if_neg (fun z => by have := (nJ_le (by omega) (by omega)).mp z; omega), if_pos h]
    have h60 : ¬ Int32.ofNat 60 ≤ nI k := fun z => by have := (nJ_le (a := 60) (by decide) (by omega)).mp z; omega
    simp only [t1, t3, Option.bind_some, h60, if_false, zgd, zib_nI (show k < 60 by omega) (by decide), if_true, nI_clamp (show k < 2 ^ 31 by omega), t7 k h]
  · rw [if_pos ((nJ_le (by omega) (by omega)).mpr (by omega)), if_neg h]
theorem e_nextF {C : zH} (hf : ¬ zI C 8 0 3 = -9) : f_X8_next 0 C = some (-1) := by
  unfold f_X8_next
  rw [if_neg hf]
