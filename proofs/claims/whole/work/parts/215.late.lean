/-! ===== the first day too late ===== -/
/-- what is left of day a's when D of all are done -/
def rem' (c : Nat → Nat) (D a : Nat) : Nat := min (c a) (sm c 0 (a + 1) - D)
theorem sm0 (c : Nat → Nat) (b : Nat) : sm c 0 (b + 1) = sm c 0 b + c b := by rw [sm, if_pos (Nat.zero_le _)]
theorem sm0_mono (c : Nat → Nat) {a b : Nat} (h : a ≤ b) : sm c 0 a ≤ sm c 0 b := by
  induction b with
  | zero =>
    have : a = 0 := by omega
    rw [this]
    exact Nat.le_refl _
  | succ b ih =>
    by_cases e : a = b + 1
    · rw [e]
      exact Nat.le_refl _
    · have := ih (by omega)
      rw [sm0]
      omega
/-- how many are done by the end of day d - 1 -/
def dn (c : Nat → Nat) (cap : Nat) : Nat → Nat
  | 0 => 0
  | d + 1 => min (dn c cap d + cap) (sm c 0 (d + 1))
theorem dn_le (c : Nat → Nat) (cap : Nat) : ∀ d, dn c cap d ≤ sm c 0 d
  | 0 => Nat.zero_le _
  | d + 1 => by rw [dn]; exact Nat.min_le_right _ _
theorem wq_dn (c : Nat → Nat) (cap : Nat) : ∀ d, wq c cap d = sm c 0 d - dn c cap d
  | 0 => rfl
  | d + 1 => by
    have h1 := wq_dn c cap d
    have h2 := dn_le c cap d
    rw [wq, h1, dn, sm0]
    omega
theorem rem_hi (c : Nat → Nat) {D a : Nat} (h : D ≤ sm c 0 a) : rem' c D a = c a := by
  unfold rem'
  rw [sm0]
  omega
theorem rem_lo (c : Nat → Nat) {D a : Nat} (h : sm c 0 (a + 1) ≤ D) : rem' c D a = 0 := by
  unfold rem'
  omega
/-- someone of day d - 2 or before is left: just when too many wait -/
theorem rem_late (c : Nat → Nat) (cap d : Nat) : (c d + cp c d < wq c cap (d + 1)) ↔ ∃ a, a + 2 ≤ d ∧ 0 < rem' c (dn c cap (d + 1)) a := by
  have hD := dn_le c cap (d + 1)
  rw [wq_dn]
  generalize dn c cap (d + 1) = D at *
  cases d with
  | zero =>
    have := sm0 c 0
    unfold cp
    constructor
    · intro h
      simp only [if_true] at h
      have : sm c 0 0 = 0 := rfl
      omega
    · rintro ⟨a, h, -⟩
      omega
  | succ d =>
    have e1 := sm0 c (d + 1)
    have e2 := sm0 c d
    unfold cp
    rw [if_neg (by omega), Nat.add_sub_cancel]
    constructor
    · intro h
      have hlt : D < sm c 0 d := by omega
      have key : ∀ k, D < sm c 0 k → ∃ a, a < k ∧ 0 < rem' c D a := by
        intro k
        induction k with
        | zero =>
          intro z
          have : sm c 0 0 = 0 := rfl
          omega
        | succ k ih =>
          intro z
          by_cases y : D < sm c 0 k
          · obtain ⟨a, a1, a2⟩ := ih y
            exact ⟨a, by omega, a2⟩
          · refine ⟨k, by omega, ?_⟩
            unfold rem'
            rw [sm0] at z ⊢
            omega
      obtain ⟨a, a1, a2⟩ := key d hlt
      exact ⟨a, by omega, a2⟩
    · rintro ⟨a, a1, a2⟩
      have : sm c 0 (a + 1) ≤ sm c 0 d := sm0_mono c (by omega)
      unfold rem' at a2
      omega
