/-! ===== the class's reading: its states ===== -/
/-- well so far: place k, code cs -/
def CSt (C0 C : zH) (k : Nat) (cs : List Int32) : Prop := FT C0 C ∧ zI C 8 0 2 = nI k ∧ zI C 8 0 3 = -9 ∧ zI C 8 0 5 = nI cs.length ∧ cs.length ≤ 60 ∧ ∀ j, j < cs.length → cs[j]? = some (zI C 29 0 j)
/-- a fault at k -/
def CFt (C0 C : zH) (k : Nat) : Prop := FT C0 C ∧ zI C 8 0 2 = nI k ∧ zI C 8 0 3 = nI k ∧ ∃ n, n ≤ 60 ∧ zI C 8 0 5 = nI n
theorem nI_n9 {k : Nat} (h : k < 2 ^ 31) : ¬ nI k = -9 := fun z => nI_pos h (by rw [z]; decide)
theorem e_emit {C0 C : zH} {tx : Nat → Int32} {sz k : Nat} {cs : List Int32} (t : TC C0 tx sz) (s : CSt C0 C k cs) (h : cs.length < 60) (x : Int32) : ∃ C', f_X8_emit 0 x C = some C' ∧ CSt C0 C' k (cs ++ [x]) := by
  obtain ⟨s1, s2, s3, s4, s5, s6⟩ := s
  obtain ⟨t1, t2, t3, t4, t5, t6, t7⟩ := s1.tc t
  have h60 : ¬ Int32.ofNat 60 ≤ nI cs.length := fun z => by have := (nJ_le (a := 60) (by decide) (by omega)).mp z; omega
  unfold f_X8_emit
  simp only [s4, nI_pos (show cs.length < 2 ^ 31 by omega), if_false, t2, t4, Option.bind_some, h60, zgd, zib_nI h (by decide), if_true, zlt, nI_clamp (show cs.length < 2 ^ 31 by omega)]
  refine ⟨_, rfl, (s1.set29 _ _).set8 (Or.inr (Or.inr rfl)) _, ?_, ?_, ?_, ?_, ?_⟩
  · simp [wI_sI, s2]
  · simp [wI_sI, s3]
  · simp [wI_sI, s4, ← nI_succ]
  · simp only [List.length_append, List.length_singleton]
    omega
  · intro j hj
    simp only [List.length_append, List.length_singleton] at hj
    by_cases e : j = cs.length
    · subst e
      simp [wI_sI]
    · rw [List.getElem?_append_left (by omega), s6 j (by omega)]
      simp [wI_sI, e]
theorem e_emitF {C0 C : zH} {tx : Nat → Int32} {sz k : Nat} (t : TC C0 tx sz) (s : CFt C0 C k) (x : Int32) : ∃ C', f_X8_emit 0 x C = some C' ∧ CFt C0 C' k := by
  obtain ⟨s1, s2, s3, n, s4, s5⟩ := s
  obtain ⟨t1, t2, t3, t4, t5, t6, t7⟩ := s1.tc t
  unfold f_X8_emit
  by_cases h : n = 60
  · have h60 : Int32.ofNat 60 ≤ nI n := by rw [h]; decide
    simp only [s5, nI_pos (show n < 2 ^ 31 by omega), if_false, t2, t4, Option.bind_some, h60, if_true]
    exact ⟨C, rfl, s1, s2, s3, n, s4, s5⟩
  · have h60 : ¬ Int32.ofNat 60 ≤ nI n := fun z => by have := (nJ_le (a := 60) (by decide) (by omega)).mp z; omega
    simp only [s5, nI_pos (show n < 2 ^ 31 by omega), if_false, t2, t4, Option.bind_some, h60, zgd, zib_nI (show n < 60 by omega) (by decide), if_true, zlt, nI_clamp (show n < 2 ^ 31 by omega)]
    refine ⟨_, rfl, (s1.set29 _ _).set8 (Or.inr (Or.inr rfl)) _, ?_, ?_, n + 1, by omega, ?_⟩
    · simp [wI_sI, s2]
    · simp [wI_sI, s3]
    · simp [wI_sI, s5, ← nI_succ]
theorem e_fail {C0 C : zH} {k : Nat} {cs : List Int32} (s : CSt C0 C k cs) : ∃ C', f_X8_fail 0 C = some C' ∧ CFt C0 C' k := by
  obtain ⟨s1, s2, s3, s4, s5, s6⟩ := s
  unfold f_X8_fail
  rw [if_pos s3]
  refine ⟨_, rfl, s1.set8 (Or.inr (Or.inl rfl)) _, ?_, ?_, cs.length, s5, ?_⟩
  · simp [wI_sI, s2]
  · simp [wI_sI, s2]
  · simp [wI_sI, s4]
theorem e_failF {C0 C : zH} {k : Nat} (hk : k < 2 ^ 31) (s : CFt C0 C k) : f_X8_fail 0 C = some C := by
  unfold f_X8_fail
  rw [if_neg (by rw [s.2.2.1]; exact nI_n9 hk)]
theorem CSt.step {C0 C : zH} {k : Nat} {cs : List Int32} (s : CSt C0 C k cs) : CSt C0 (zsI C 8 0 2 (zI C 8 0 2 + 1)) (k + 1) cs := by
  obtain ⟨s1, s2, s3, s4, s5, s6⟩ := s
  refine ⟨s1.set8 (Or.inl rfl) _, ?_, ?_, ?_, s5, fun j hj => ?_⟩
  · simp [wI_sI, s2, ← nI_succ]
  · simp [wI_sI, s3]
  · simp [wI_sI, s4]
  · rw [s6 j hj]
    simp [wI_sI]
