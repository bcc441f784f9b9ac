/-! ===== surges: how many wait, and the first day that is too late ===== -/
/-- waiting before day d, of c a day, cap a day done -/
def wq (c : Nat → Nat) (cap : Nat) : Nat → Nat
  | 0 => 0
  | d + 1 => wq c cap d + c d - cap
def cp (c : Nat → Nat) (d : Nat) : Nat := if d = 0 then 0 else c (d - 1)
def lateD (c : Nat → Nat) (cap d : Nat) : Prop := c d + cp c d < wq c cap (d + 1)
def fdl (c : Nat → Nat) (cap : Nat) : Nat → Nat → Int32
  | _, 0 => -9
  | d, n + 1 => if c d + cp c d < wq c cap (d + 1) then nI d else fdl c cap (d + 1) n
/-- what came from day a on, up to day b -/
def sm (c : Nat → Nat) (a : Nat) : Nat → Nat
  | 0 => 0
  | b + 1 => if a ≤ b then sm c a b + c b else 0
theorem wq_le (c : Nat → Nat) (cap M : Nat) (h : ∀ k, c k ≤ M) : ∀ d, wq c cap d ≤ M * d
  | 0 => by simp [wq]
  | d + 1 => by
    have := wq_le c cap M h d
    have := h d
    rw [wq, Nat.mul_add, Nat.mul_one]
    omega
theorem lind (c : Nat → Nat) (cap : Nat) : ∀ d X, X < wq c cap (d + 1) ↔ ∃ a, a ≤ d ∧ X + cap * (d + 1 - a) < sm c a (d + 1)
  | 0, X => by
    rw [wq, wq]
    constructor
    · intro h
      refine ⟨0, Nat.le_refl _, ?_⟩
      simp only [sm, Nat.le_refl, if_true]
      omega
    · rintro ⟨a, ha, h⟩
      have : a = 0 := by omega
      subst this
      simp only [sm, Nat.le_refl, if_true] at h
      omega
  | d + 1, X => by
    rw [wq]
    by_cases hc : X + cap < c (d + 1)
    · constructor
      · intro _
        refine ⟨d + 1, Nat.le_refl _, ?_⟩
        rw [sm, if_pos (Nat.le_refl _), show d + 1 + 1 - (d + 1) = 1 by omega, Nat.mul_one]
        omega
      · intro _
        omega
    · have ih := lind c cap d (X + cap - c (d + 1))
      constructor
      · intro h
        have : X + cap - c (d + 1) < wq c cap (d + 1) := by omega
        obtain ⟨a, ha, h2⟩ := ih.mp this
        refine ⟨a, by omega, ?_⟩
        rw [sm, if_pos (by omega), show d + 1 + 1 - a = (d + 1 - a) + 1 by omega, Nat.mul_add, Nat.mul_one]
        omega
      · rintro ⟨a, ha, h⟩
        rw [sm, if_pos ha] at h
        by_cases e : a = d + 1
        · subst e
          have : sm c (d + 1) (d + 1) = 0 := by
            rw [sm, if_neg (by omega)]
          rw [this, show d + 1 + 1 - (d + 1) = 1 by omega, Nat.mul_one] at h
          omega
        · rw [show d + 1 + 1 - a = (d + 1 - a) + 1 by omega, Nat.mul_add, Nat.mul_one] at h
          have : X + cap - c (d + 1) < wq c cap (d + 1) := ih.mpr ⟨a, by omega, by omega⟩
          omega
/-- too late on day d: some stretch up to day d - 2 was too much -/
theorem late_iff (c : Nat → Nat) (cap d : Nat) : c d + cp c d < wq c cap (d + 1) ↔ ∃ a b, a ≤ b ∧ b + 2 = d ∧ cap * (b + 3 - a) < sm c a (b + 1) := by
  rw [lind]
  constructor
  · rintro ⟨a, ha, h⟩
    rw [sm, if_pos ha] at h
    unfold cp at h
    by_cases e : a = d
    · subst e
      have : sm c a a = 0 := by
        cases a with
        | zero => rfl
        | succ k => rw [sm, if_neg (by omega)]
      rw [this] at h
      omega
    · obtain ⟨d1, rfl⟩ : ∃ k, d = k + 1 := ⟨d - 1, by omega⟩
      rw [sm, if_pos (show a ≤ d1 by omega), if_neg (show ¬ d1 + 1 = 0 by omega), Nat.add_sub_cancel] at h
      by_cases e2 : a = d1
      · subst e2
        have : sm c a a = 0 := by
          cases a with
          | zero => rfl
          | succ k => rw [sm, if_neg (by omega)]
        rw [this] at h
        omega
      · obtain ⟨d2, rfl⟩ : ∃ k, d1 = k + 1 := ⟨d1 - 1, by omega⟩
        refine ⟨a, d2, by omega, rfl, ?_⟩
        rw [show d2 + 1 + 1 + 1 - a = d2 + 3 - a by omega] at h
        omega
  · rintro ⟨a, b, hab, rfl, h⟩
    refine ⟨a, by omega, ?_⟩
    rw [sm, if_pos (by omega), sm, if_pos (by omega)]
    unfold cp
    rw [if_neg (by omega), show b + 2 - 1 = b + 1 by omega, show b + 2 + 1 - a = b + 3 - a by omega]
    omega
theorem fdl_no (c : Nat → Nat) (cap : Nat) : ∀ n d, d + n < 2 ^ 31 → (fdl c cap d n = -9 ↔ ∀ k, d ≤ k → k < d + n → ¬ (c k + cp c k < wq c cap (k + 1)))
  | 0, d, _ => by
    simp only [fdl, true_iff]
    intro k h1 h2
    omega
  | n + 1, d, hd => by
    rw [fdl]
    have ih := fdl_no c cap n (d + 1) (by omega)
    by_cases h : c d + cp c d < wq c cap (d + 1)
    · rw [if_pos h]
      constructor
      · intro z
        exact absurd (show nI d < 0 by rw [z]; decide) (nI_pos (by omega))
      · intro z
        exact absurd h (z d (Nat.le_refl _) (by omega))
    · rw [if_neg h, ih]
      constructor
      · intro z k h1 h2
        by_cases e : k = d
        · rw [e]
          exact h
        · exact z k (by omega) (by omega)
      · intro z k h1 h2
        exact z k (by omega) (by omega)
/-- a number of days is enough: no stretch is too much -/
theorem fdl_ok (c : Nat → Nat) (cap s : Nat) (hs : s < 1000) : fdl c cap 0 (s + 2) = -9 ↔ ∀ a b, a ≤ b → b < s → sm c a (b + 1) ≤ cap * (b + 3 - a) := by
  rw [fdl_no c cap (s + 2) 0 (by omega)]
  constructor
  · intro h a b hab hb
    refine Nat.not_lt.mp fun z => h (b + 2) (Nat.zero_le _) (by omega) ?_
    exact (late_iff c cap (b + 2)).mpr ⟨a, b, hab, rfl, z⟩
  · intro h k _ hk z
    obtain ⟨a, b, hab, hb, z⟩ := (late_iff c cap k).mp z
    have := h a b hab (by omega)
    omega
section ZS
variable {C R : zH}
/-- what came, as plain numbers -/
def cmN (R : zH) (k : Nat) : Nat := if k < (zI R 40 0 56).toNatClampNeg then (zI R 145 0 k).toNatClampNeg else 0
theorem cmN_le (I : Inv C R) (k : Nat) : cmN R k ≤ 127 := by
  obtain ⟨r1, r2, r3⟩ := J_sur I
  unfold cmN
  split
  · have := (zib_ex (r3 k (by assumption)).2).1
    omega
  · omega
theorem e_came (I : Inv C R) {d : Nat} (hd : d < 1000) : f_X7_cameOn 0 (nI d) C = some (nI (cmN R d)) := by
  have hk := J_kc I
  unfold KC at hk
  obtain ⟨r1, r2, r3⟩ := J_sur I
  have q := zib_ex r2
  have e := nI_rd q.2
  unfold f_X7_cameOn cmN
  by_cases h : d < (zI R 40 0 56).toNatClampNeg
  · have h1 : ¬ zI R 40 0 56 ≤ nI d := by
      rw [← e]
      exact fun z => by have := (nJ_le rd_lt (by omega)).mp z; omega
    have h2 : ¬ Int32.ofNat 9 ≤ nI d := fun z => by have := (nJ_le (a := 9) (by decide) (by omega)).mp z; omega
    obtain ⟨t1, t2⟩ := r3 d h
    simp only [nI_pos (show d < 2 ^ 31 by omega), if_false, r1, h1, hk, Option.bind_some, h2, zgd, zib_nI (show d < 9 by omega) (by decide), if_true, nI_clamp (show d < 2 ^ 31 by omega), t1, h, nI_rd (zib_ex t2).2]
  · have h1 : zI R 40 0 56 ≤ nI d := by
      rw [← e]
      exact (nJ_le rd_lt (by omega)).mpr (by omega)
    simp only [nI_pos (show d < 2 ^ 31 by omega), if_false, r1, h1, if_true, h]
    rfl
theorem e_camp (I : Inv C R) {d : Nat} (hd : d < 1000) : f_X7_cameOn 0 (nI d - 1) C = some (nI (cp (cmN R) d)) := by
  unfold cp
  by_cases h : d = 0
  · subst h
    rw [if_pos rfl]
    unfold f_X7_cameOn
    rw [if_pos (by decide)]
    rfl
  · rw [if_neg h, show nI d - 1 = nI (d - 1) from nJ_sub (a := d) (b := 1) (by omega)]
    exact e_came I (by omega)
theorem l_fdt (I : Inv C R) {cap : Nat} (hcap : cap < 1000) : ∀ n d f, d + n = (zI R 40 0 56).toNatClampNeg + 2 → n < f → f_X7_firstDayTooLate_4 f 0 (nI cap) (nI (wq (cmN R) cap d)) (nI d) C = some (fdl (cmN R) cap d n) := by
  obtain ⟨r1, r2, r3⟩ := J_sur I
  have q := zib_ex r2
  have e : zI R 40 0 56 + 2 = nI ((zI R 40 0 56).toNatClampNeg + 2) := by
    rw [← nJ_add, nI_rd q.2]
    rfl
  intro n
  induction n with
  | zero =>
    intro d f h hf
    obtain ⟨f, rfl⟩ : ∃ f', f = f' + 1 := ⟨f - 1, by omega⟩
    rw [f_X7_firstDayTooLate_4, r1, e, if_pos ((nJ_le (by omega) (by omega)).mpr (by omega))]
    rfl
  | succ n ih =>
    intro d f h hf
    obtain ⟨f, rfl⟩ : ∃ f', f = f' + 1 := ⟨f - 1, by omega⟩
    have hw := wq_le (cmN R) cap 127 (cmN_le I) d
    have hc := cmN_le I d
    have hp : cp (cmN R) d ≤ 127 := by
      unfold cp
      split
      · omega
      · exact cmN_le I _
    have hw2 : wq (cmN R) cap (d + 1) = wq (cmN R) cap d + cmN R d - cap := rfl
    have hmin : nI (wq (cmN R) cap d + cmN R d) - (if nI (wq (cmN R) cap d + cmN R d) < nI cap then nI (wq (cmN R) cap d + cmN R d) else nI cap) = nI (wq (cmN R) cap (d + 1)) := by
      rw [hw2]
      by_cases z : wq (cmN R) cap d + cmN R d < cap
      · rw [if_pos ((nJ_lt (by omega) (by omega)).mpr z), nJ_sub (Nat.le_refl _)]
        congr 1
        omega
      · rw [if_neg (fun y => z ((nJ_lt (by omega) (by omega)).mp y)), nJ_sub (by omega)]
    have hle : ¬ nI ((zI R 40 0 56).toNatClampNeg + 2) ≤ nI d := fun z => by have := (nJ_le (by omega) (by omega)).mp z; omega
    rw [f_X7_firstDayTooLate_4, r1, e, if_neg hle]
    simp only [e_came I (show d < 1000 by omega), e_camp I (show d < 1000 by omega), Option.bind_some, nJ_add, hmin]
    rw [fdl]
    by_cases hl : cmN R d + cp (cmN R) d < wq (cmN R) cap (d + 1)
    · rw [if_pos hl, if_neg (fun y => by have := (nJ_le (by omega) (by omega)).mp y; omega)]
    · rw [if_neg hl, if_pos ((nJ_le (by omega) (by omega)).mpr (by omega)), ← nI_succ]
      exact ih (d + 1) f (by omega) (by omega)
end ZS
