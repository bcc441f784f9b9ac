/-! ===== the class reads sums, products, units, brackets ===== -/
section ZCH
variable {C0 : zH} {tx : Nat → Int32} {sz : Nat}
theorem c_sum (t : TC C0 tx sz) {kp : Nat → Nat → Int32 → zH → Option zH} {x : Int32} {P : Nat → Bool × Nat × List Int32} (hP : hGood sz P) (hk : CFo C0 sz (kp 1 0 x) P) : CFo C0 sz (g_X8_readSum kp 0 x) (hBin tx sz P 43 45) := by
  have h60 := t.2.2.2.2.2.1
  intro C k cs s hks hl
  obtain ⟨g1, g2, g3⟩ := hP k hks
  obtain ⟨C1, q1, q2⟩ := hk C k cs s hks hl
  unfold g_X8_readSum hBin
  rw [q1, Option.bind_some]
  by_cases e : (P k).1 = true
  · rw [if_pos e]
    obtain ⟨g4, g5, g6⟩ := g3 e
    exact c_sumL t hP hk 60 fu _ C1 cs _ 0 (by omega) (by unfold fu; omega) (q2.1 e) g2 (by simp only [List.length_append]; omega)
  · rw [if_neg e]
    have s1 := q2.2 e
    have hkk : (P k).2.1 < 2 ^ 31 := by omega
    show ∃ C', g_X8_readSum_7 kp (3999 + 1) 0 x 0 C1 = some C' ∧ _
    rw [g_X8_readSum_7]
    simp only [s_nextF hkk s1, Option.bind_some, show ¬ (-1 : Int32) = 43 by decide, show ¬ (-1 : Int32) = 45 by decide, if_false, ite_self]
    exact ⟨C1, rfl, fun z => absurd z (by simp), fun _ => s1⟩
theorem c_term (t : TC C0 tx sz) {kp : Nat → Nat → Int32 → zH → Option zH} {x : Int32} {P : Nat → Bool × Nat × List Int32} (hP : hGood sz P) (hk : CFo C0 sz (kp 2 0 x) P) : CFo C0 sz (g_X8_readTerm kp 0 x) (hBin tx sz P 42 47) := by
  have h60 := t.2.2.2.2.2.1
  intro C k cs s hks hl
  obtain ⟨g1, g2, g3⟩ := hP k hks
  obtain ⟨C1, q1, q2⟩ := hk C k cs s hks hl
  unfold g_X8_readTerm hBin
  rw [q1, Option.bind_some]
  by_cases e : (P k).1 = true
  · rw [if_pos e]
    obtain ⟨g4, g5, g6⟩ := g3 e
    exact c_termL t hP hk 60 fu _ C1 cs _ 0 (by omega) (by unfold fu; omega) (q2.1 e) g2 (by simp only [List.length_append]; omega)
  · rw [if_neg e]
    have s1 := q2.2 e
    have hkk : (P k).2.1 < 2 ^ 31 := by omega
    show ∃ C', g_X8_readTerm_7 kp (3999 + 1) 0 x 0 C1 = some C' ∧ _
    rw [g_X8_readTerm_7]
    simp only [s_nextF hkk s1, Option.bind_some, show ¬ (-1 : Int32) = 42 by decide, show ¬ (-1 : Int32) = 47 by decide, if_false, ite_self]
    exact ⟨C1, rfl, fun z => absurd z (by simp), fun _ => s1⟩
end ZCH
