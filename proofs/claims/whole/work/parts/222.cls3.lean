/-! ===== the class reads products ===== -/
section ZCGT
variable {C0 : zH} {tx : Nat → Int32} {sz : Nat}
theorem c_termL (t : TC C0 tx sz) {kp : Nat → Nat → Int32 → zH → Option zH} {x : Int32} {P : Nat → Bool × Nat × List Int32} (hP : hGood sz P) (hk : CFo C0 sz (kp 2 0 x) P) : ∀ n f k C cs acc i, i + n = 60 → n < f → CSt C0 C k (cs ++ acc) → k ≤ sz → (cs ++ acc).length ≤ k → ∃ C', g_X8_readTerm_7 kp f 0 x (nI i) C = some C' ∧ CR C0 (hLoop tx sz P 42 47 n k acc) cs C' := by
  have h60 := t.2.2.2.2.2.1
  intro n
  induction n with
  | zero =>
    intro f k C cs acc i hi hf s hks hl
    obtain ⟨f, rfl⟩ : ∃ f', f = f' + 1 := ⟨f - 1, by omega⟩
    have : i = 60 := by omega
    subst this
    rw [g_X8_readTerm_7, if_pos (by decide)]
    exact ⟨C, rfl, fun _ => s, fun z => absurd rfl z⟩
  | succ n ih =>
    intro f k C cs acc i hi hf s hks hl
    obtain ⟨f, rfl⟩ : ∃ f', f = f' + 1 := ⟨f - 1, by omega⟩
    have hle : ¬ (60 : Int32) ≤ nI i := fun z => by have := (nJ_le (a := 60) (by decide) (by omega)).mp z; omega
    have go : ch tx sz k = 42 ∨ ch tx sz k = 47 → ∃ C', g_X8_readTerm_31 kp (g_X8_readTerm_7 kp f) 0 x (nI i) C = some C' ∧ CR C0 (hLoop tx sz P 42 47 (n + 1) k acc) cs C' := by
      intro h
      have hlt : k < sz := ch_lt (by
        rcases h with h | h <;> rw [h] <;> decide)
      obtain ⟨g1, g2, g3⟩ := hP (k + 1) hlt
      unfold g_X8_readTerm_31
      simp only [s_next t s hks, Option.bind_some, zlt]
      obtain ⟨C1, q1, q2⟩ := hk _ (k + 1) _ s.step hlt (by omega)
      rw [q1, Option.bind_some, hLoop, if_pos h, ← nI_succ]
      by_cases e : (P (k + 1)).1 = true
      · rw [if_pos e]
        obtain ⟨g4, g5, g6⟩ := g3 e
        have s1 := q2.1 e
        obtain ⟨C2, p1, p2⟩ := e_emit t s1 (by simp only [List.length_append] at hl ⊢; omega) (-(ch tx sz k))
        rw [p1, Option.bind_some]
        rw [List.append_assoc, List.append_assoc] at p2
        rw [List.append_assoc]
        exact ih f _ C2 cs _ (i + 1) (by omega) (by omega) p2 g2 (by simp only [List.length_append, List.length_singleton] at hl ⊢; omega)
      · rw [if_neg e]
        have s1 := q2.2 e
        obtain ⟨C2, p1, p2⟩ := e_emitF t s1 (-(ch tx sz k))
        rw [p1, Option.bind_some]
        obtain ⟨f, rfl⟩ : ∃ f', f = f' + 1 := ⟨f - 1, by omega⟩
        have hkk : (P (k + 1)).2.1 < 2 ^ 31 := by omega
        rw [g_X8_readTerm_7]
        simp only [s_nextF hkk p2, Option.bind_some, show ¬ (-1 : Int32) = 42 by decide, show ¬ (-1 : Int32) = 47 by decide, if_false, ite_self]
        exact ⟨C2, rfl, fun z => absurd z (by simp), fun _ => p2⟩
    rw [g_X8_readTerm_7, if_neg hle]
    simp only [s_next t s hks, Option.bind_some]
    by_cases h1 : ch tx sz k = 42
    · rw [if_pos h1]
      exact go (Or.inl h1)
    · rw [if_neg h1]
      by_cases h2 : ch tx sz k = 47
      · rw [if_pos h2]
        exact go (Or.inr h2)
      · rw [if_neg h2, hLoop, if_neg (fun z => z.elim h1 h2)]
        exact ⟨C, rfl, fun _ => s, fun z => absurd rfl z⟩
end ZCGT
