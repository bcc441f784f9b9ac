/-! ===== the class reads its tape ===== -/
theorem e_read {C : zH} {tx : Nat → Int32} {sz : Nat} (t : TC C tx sz) (hb : ∀ k, k < sz → zib (tx k) 256 = true) : ((hAll tx sz).1 = true ∧ (hAll tx sz).2.1 = sz → ∃ C', f_X8_read 0 C = some (-9, C') ∧ CSt C C' sz (hAll tx sz).2.2) ∧ (¬ ((hAll tx sz).1 = true ∧ (hAll tx sz).2.1 = sz) → ∃ C', f_X8_read 0 C = some (nI (hAll tx sz).2.1, C') ∧ CFt C C' (hAll tx sz).2.1) := by
  have h60 := t.2.2.2.2.2.1
  have hg := hSum_good (tx := tx) (hUnit_good (tx := tx) (sz := sz) 5) 0 (Nat.zero_le _)
  have s0 : CSt C (zsI (zsI (zsI C 8 0 2 0) 8 0 3 (-9)) 8 0 5 0) 0 [] := by
    refine ⟨((FT.rf.set8 (Or.inl rfl) _).set8 (Or.inr (Or.inl rfl)) _).set8 (Or.inr (Or.inr rfl)) _, ?_, ?_, ?_, Nat.zero_le _, fun j hj => absurd hj (Nat.not_lt_zero _)⟩
    · simp [wI_sI]
      rfl
    · simp [wI_sI]
    · simp [wI_sI]
      rfl
  obtain ⟨C1, q1, q2⟩ := c_all t hb 5 0 30 (by decide) (by decide) _ 0 [] s0 (Nat.zero_le _) (Nat.zero_le _)
  unfold f_X8_read f_X8_readSum
  simp only [zlt]
  rw [show f_X8_par 30 0 0 0 (zsI (zsI (zsI C 8 0 2 0) 8 0 3 (-9)) 8 0 5 0) = some C1 from q1, Option.bind_some]
  change CR C (hAll tx sz) [] C1 at q2
  change 0 ≤ (hAll tx sz).2.1 ∧ (hAll tx sz).2.1 ≤ sz ∧ _ at hg
  by_cases e : (hAll tx sz).1 = true
  · have s1 := q2.1 e
    rw [List.nil_append] at s1
    have t1 := (s1.1.tc t).2.2.2.2.1
    rw [t1, s1.2.1]
    by_cases e2 : (hAll tx sz).2.1 = sz
    · rw [if_pos (by rw [e2]; exact Int32.le_refl _), s1.2.2.1]
      refine ⟨fun _ => ⟨C1, rfl, ?_⟩, fun z => absurd ⟨e, e2⟩ z⟩
      rw [e2] at s1
      exact s1
    · rw [if_neg (fun z => by have := (nJ_le (by omega) (by omega)).mp z; omega)]
      obtain ⟨C2, p1, p2⟩ := e_fail s1
      rw [p1, Option.bind_some]
      exact ⟨fun z => absurd z.2 e2, fun _ => ⟨C2, by rw [p2.2.2.1], p2⟩⟩
  · have s1 := q2.2 e
    have t1 := (s1.1.tc t).2.2.2.2.1
    refine ⟨fun z => absurd z.1 e, fun _ => ?_⟩
    rw [t1, s1.2.1, s1.2.2.1]
    split
    · exact ⟨C1, rfl, s1⟩
    · rw [e_failF (by omega) s1, Option.bind_some, s1.2.2.1]
      exact ⟨C1, rfl, s1⟩
