/-! ===== the class reads brackets ===== -/
section ZCI
variable {C0 : zH} {tx : Nat → Int32} {sz : Nat}
theorem c_cl (t : TC C0 tx sz) {kp : Nat → Nat → Int32 → zH → Option zH} {C : zH} {k : Nat} {cs code : List Int32} (s : CSt C0 C k (cs ++ code)) (hk : k ≤ sz) : ∃ C', g_X8_readBracket_49 kp 0 C = some C' ∧ CR C0 (hCl tx sz k code) cs C' := by
  unfold g_X8_readBracket_49 hCl
  simp only [s_next t s hk, Option.bind_some, zlt]
  by_cases e : ch tx sz k = 41
  · rw [if_pos e, if_pos e]
    exact ⟨_, rfl, fun _ => s.step, fun z => absurd rfl z⟩
  · rw [if_neg e, if_neg e]
    obtain ⟨C', q1, q2⟩ := e_fail s
    rw [q1]
    exact ⟨C', rfl, fun z => absurd z (by simp), fun _ => q2⟩
theorem c_clF {kp : Nat → Nat → Int32 → zH → Option zH} {C : zH} {k : Nat} (hk : k < 2 ^ 31) (s : CFt C0 C k) : g_X8_readBracket_49 kp 0 C = some C := by
  unfold g_X8_readBracket_49
  simp only [s_nextF hk s, Option.bind_some, show ¬ (-1 : Int32) = 41 by decide, if_false, e_failF hk s]
theorem c_br (t : TC C0 tx sz) {kp : Nat → Nat → Int32 → zH → Option zH} {x : Int32} {S : Nat → Bool × Nat × List Int32} (hS : hGood sz S) (hk : CFo C0 sz (kp 0 0 x) S) : CFo C0 sz (g_X8_readBracket kp 0 x) (hBr tx sz S) := by
  have h60 := t.2.2.2.2.2.1
  intro C k cs s hks hl
  obtain ⟨g1, g2, g3⟩ := hS k hks
  obtain ⟨C1, q1, q2⟩ := hk C k cs s hks hl
  unfold g_X8_readBracket hBr
  rw [q1, Option.bind_some]
  by_cases e : (S k).1 = true
  · rw [if_pos e]
    obtain ⟨g4, g5, g6⟩ := g3 e
    have s1 := q2.1 e
    simp only [s_next t s1 g2, Option.bind_some]
    have go : ch tx sz (S k).2.1 = 60 ∨ ch tx sz (S k).2.1 = 61 ∨ ch tx sz (S k).2.1 = 62 → ∃ C', g_X8_readBracket_28 kp 0 x (ch tx sz (S k).2.1) C1 = some C' ∧ CR C0 (if (S ((S k).2.1 + 1)).1 = true then hCl tx sz (S ((S k).2.1 + 1)).2.1 ((S k).2.2 ++ (S ((S k).2.1 + 1)).2.2 ++ [-(ch tx sz (S k).2.1)]) else (false, (S ((S k).2.1 + 1)).2.1, [])) cs C' := by
      intro h
      have hlt : (S k).2.1 < sz := ch_lt (by
        rcases h with h | h | h <;> rw [h] <;> decide)
      obtain ⟨y1, y2, y3⟩ := hS ((S k).2.1 + 1) hlt
      unfold g_X8_readBracket_28
      simp only [zlt]
      obtain ⟨C2, p1, p2⟩ := hk _ ((S k).2.1 + 1) _ s1.step hlt (by simp only [List.length_append]; omega)
      rw [p1, Option.bind_some]
      by_cases e2 : (S ((S k).2.1 + 1)).1 = true
      · rw [if_pos e2]
        obtain ⟨y4, y5, y6⟩ := y3 e2
        obtain ⟨C3, m1, m2⟩ := e_emit t (p2.1 e2) (by simp only [List.length_append]; omega) (-(ch tx sz (S k).2.1))
        rw [m1, Option.bind_some]
        rw [List.append_assoc, List.append_assoc] at m2
        rw [List.append_assoc]
        exact c_cl t m2 y2
      · rw [if_neg e2]
        obtain ⟨C3, m1, m2⟩ := e_emitF t (p2.2 e2) (-(ch tx sz (S k).2.1))
        rw [m1, Option.bind_some, c_clF (by omega) m2]
        exact ⟨C3, rfl, fun z => absurd z (by simp), fun _ => m2⟩
    by_cases h1 : ch tx sz (S k).2.1 = 60
    · rw [if_pos h1, if_pos (Or.inl h1)]
      exact go (Or.inl h1)
    · rw [if_neg h1]
      by_cases h2 : ch tx sz (S k).2.1 = 61
      · rw [if_pos h2, if_pos (Or.inr (Or.inl h2))]
        exact go (Or.inr (Or.inl h2))
      · rw [if_neg h2]
        by_cases h3 : ch tx sz (S k).2.1 = 62
        · rw [if_pos h3, if_pos (Or.inr (Or.inr h3))]
          exact go (Or.inr (Or.inr h3))
        · rw [if_neg h3, if_neg (fun z => z.elim h1 (fun z => z.elim h2 h3))]
          exact c_cl t s1 g2
  · rw [if_neg e]
    have s1 := q2.2 e
    have hkk : (S k).2.1 < 2 ^ 31 := by omega
    simp only [s_nextF hkk s1, Option.bind_some, show ¬ (-1 : Int32) = 60 by decide, show ¬ (-1 : Int32) = 61 by decide, show ¬ (-1 : Int32) = 62 by decide, if_false, c_clF hkk s1]
    exact ⟨C1, rfl, fun z => absurd z (by simp), fun _ => s1⟩
end ZCI
