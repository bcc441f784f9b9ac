/-! ===== the reference reads sums and products ===== -/
section ZRL
variable {R0 : zH} {tx : Nat → Int32} {sz dp : Nat}
theorem r_sign (t : TD R0 tx sz) {R : zH} {k : Nat} (s : RSt R0 R k dp) (hk : k ≤ sz) : f_X10_sign 0 R = some (ch tx sz k) := e_sign (s.1.td t) s.2.1 hk
theorem r_well {R : zH} {k : Nat} (s : RSt R0 R k dp) : ¬ zI R 40 0 64 = 0 := by
  rw [s.2.2.2]
  decide
theorem r_sumL (t : TD R0 tx sz) {kp : Nat → Nat → zH → Option (Int32 × zH)} {P : Nat → Bool × Nat × List Int32} (hP : hGood sz P) (hk : RFo R0 sz dp (kp 1 0) P) : ∀ n f k R acc v, sz < k + n → n < f → RSt R0 R k dp → k ≤ sz → (∀ st, rn (Lr R0) acc st = v.toInt64 :: st) → ∃ v' R', g_X10_sumOf_5 kp f 0 v R = some (v', R') ∧ RR R0 (hLoop tx sz P 43 45 n k acc) dp v' R' := by
  intro n
  induction n with
  | zero =>
    intro f k R acc v h1 hf s hks hv
    omega
  | succ n ih =>
    intro f k R acc v h1 hf s hks hv
    obtain ⟨f, rfl⟩ : ∃ f', f = f' + 1 := ⟨f - 1, by omega⟩
    have go : ch tx sz k = 43 ∨ ch tx sz k = 45 → ∃ v' R', g_X10_sumOf_30 kp (g_X10_sumOf_5 kp f) 0 v R = some (v', R') ∧ RR R0 (hLoop tx sz P 43 45 (n + 1) k acc) dp v' R' := by
      intro h
      have hlt : k < sz := ch_lt (by
        rcases h with h | h <;> rw [h] <;> decide)
      have hneg : ¬ 0 ≤ -(ch tx sz k) := by
        rcases h with h | h <;> rw [h] <;> decide
      obtain ⟨g1, g2, g3⟩ := hP (k + 1) hlt
      unfold g_X10_sumOf_30 g_X10_sumOf_69
      simp only [r_sign t s hks, Option.bind_some, zlt]
      obtain ⟨w, R1, q1, q2⟩ := hk _ (k + 1) s.step hlt
      rw [q1, Option.bind_some]
      simp only [e_held, Option.bind_some]
      rw [hLoop, if_pos h]
      by_cases e : (P (k + 1)).1 = true
      · rw [if_pos e]
        obtain ⟨g4, g5, g6⟩ := g3 e
        obtain ⟨s1, w1⟩ := q2.1 e
        have hv2 := rn_bin (Lr R0) (t := ch tx sz k) hv w1 hneg
        by_cases h43 : ch tx sz k = 43
        · rw [if_pos h43]
          refine ih f _ R1 _ _ (by omega) (by omega) s1 g2 (fun st => ?_)
          rw [hv2 st, h43, hld_32]
          rfl
        · rw [if_neg h43]
          have h45 := h.resolve_left h43
          refine ih f _ R1 _ _ (by omega) (by omega) s1 g2 (fun st => ?_)
          rw [hv2 st, h45, hld_32]
          rfl
      · rw [if_neg e]
        have s1 := q2.2 e
        obtain ⟨f, rfl⟩ : ∃ f', f = f' + 1 := ⟨f - 1, by omega⟩
        have fin : ∀ y, ∃ v' R', g_X10_sumOf_5 kp (f + 1) 0 y R1 = some (v', R') ∧ RR R0 (false, (P (k + 1)).2.1, acc) dp v' R' := by
          intro y
          rw [g_X10_sumOf_5, if_pos s1.2.2]
          exact ⟨_, R1, rfl, fun z => absurd z (by simp), fun _ => s1⟩
        split
        · exact fin _
        · exact fin _
    rw [g_X10_sumOf_5, if_neg (r_well s)]
    simp only [r_sign t s hks, Option.bind_some]
    by_cases h1 : ch tx sz k = 43
    · rw [if_pos h1]
      exact go (Or.inl h1)
    · rw [if_neg h1]
      by_cases h2 : ch tx sz k = 45
      · rw [if_pos h2]
        exact go (Or.inr h2)
      · rw [if_neg h2, hLoop, if_neg (fun z => z.elim h1 h2)]
        exact ⟨v, R, rfl, fun _ => ⟨s, hv⟩, fun z => absurd rfl z⟩
theorem r_sum (t : TD R0 tx sz) {kp : Nat → Nat → zH → Option (Int32 × zH)} {P : Nat → Bool × Nat × List Int32} (hP : hGood sz P) (hk : RFo R0 sz dp (kp 1 0) P) : RFo R0 sz dp (g_X10_sumOf kp 0) (hBin tx sz P 43 45) := by
  have h60 := t.1
  intro R k s hks
  obtain ⟨g1, g2, g3⟩ := hP k hks
  obtain ⟨v, R1, q1, q2⟩ := hk R k s hks
  unfold g_X10_sumOf hBin
  rw [q1, Option.bind_some]
  by_cases e : (P k).1 = true
  · rw [if_pos e]
    obtain ⟨g4, g5, g6⟩ := g3 e
    obtain ⟨s1, w1⟩ := q2.1 e
    exact r_sumL t hP hk 60 fu _ R1 _ v (by omega) (by unfold fu; omega) s1 g2 w1
  · rw [if_neg e]
    have s1 := q2.2 e
    show ∃ v' R', g_X10_sumOf_5 kp (3999 + 1) 0 v R1 = some (v', R') ∧ _
    rw [g_X10_sumOf_5, if_pos s1.2.2]
    exact ⟨_, R1, rfl, fun z => absurd z (by simp), fun _ => s1⟩
theorem r_termL (t : TD R0 tx sz) {kp : Nat → Nat → zH → Option (Int32 × zH)} {P : Nat → Bool × Nat × List Int32} (hP : hGood sz P) (hk : RFo R0 sz dp (kp 2 0) P) : ∀ n f k R acc v, sz < k + n → n < f → RSt R0 R k dp → k ≤ sz → (∀ st, rn (Lr R0) acc st = v.toInt64 :: st) → ∃ v' R', g_X10_term_5 kp f 0 v R = some (v', R') ∧ RR R0 (hLoop tx sz P 42 47 n k acc) dp v' R' := by
  intro n
  induction n with
  | zero =>
    intro f k R acc v h1 hf s hks hv
    omega
  | succ n ih =>
    intro f k R acc v h1 hf s hks hv
    obtain ⟨f, rfl⟩ : ∃ f', f = f' + 1 := ⟨f - 1, by omega⟩
    have go : ch tx sz k = 42 ∨ ch tx sz k = 47 → ∃ v' R', g_X10_term_30 kp (g_X10_term_5 kp f) 0 v R = some (v', R') ∧ RR R0 (hLoop tx sz P 42 47 (n + 1) k acc) dp v' R' := by
      intro h
      have hlt : k < sz := ch_lt (by
        rcases h with h | h <;> rw [h] <;> decide)
      have hneg : ¬ 0 ≤ -(ch tx sz k) := by
        rcases h with h | h <;> rw [h] <;> decide
      obtain ⟨g1, g2, g3⟩ := hP (k + 1) hlt
      unfold g_X10_term_30
      simp only [r_sign t s hks, Option.bind_some, zlt]
      obtain ⟨w, R1, q1, q2⟩ := hk _ (k + 1) s.step hlt
      rw [q1, Option.bind_some]
      simp only [e_held, Option.bind_some]
      rw [hLoop, if_pos h]
      have hz : ¬ w = 0 → (!decide (Int32.toInt64 w = 0)) = true := fun z => by
        rw [decide_eq_false (fun y => z ((i64_0 w).mp y))]
        rfl
      by_cases e : (P (k + 1)).1 = true
      · rw [if_pos e]
        obtain ⟨g4, g5, g6⟩ := g3 e
        obtain ⟨s1, w1⟩ := q2.1 e
        have hv2 := rn_bin (Lr R0) (t := ch tx sz k) hv w1 hneg
        by_cases h43 : ch tx sz k = 42
        · rw [if_pos h43]
          refine ih f _ R1 _ _ (by omega) (by omega) s1 g2 (fun st => ?_)
          rw [hv2 st, h43, hld_32]
          rfl
        · rw [if_neg h43]
          have h45 := h.resolve_left h43
          by_cases hw : w = 0
          · rw [if_pos hw]
            refine ih f _ R1 _ _ (by omega) (by omega) s1 g2 (fun st => ?_)
            rw [hv2 st, h45, hw]
            show hld (if ((0 : Int32).toInt64 = 0) then 0 else v.toInt64 / (0 : Int32).toInt64) :: st = _
            rw [if_pos (by decide)]
            rfl
          · rw [if_neg hw]
            simp only [zgd, hz hw, if_true]
            refine ih f _ R1 _ _ (by omega) (by omega) s1 g2 (fun st => ?_)
            rw [hv2 st, h45, hld_32]
            show hld (if w.toInt64 = 0 then 0 else v.toInt64 / w.toInt64) :: st = _
            rw [if_neg (fun y => hw ((i64_0 w).mp y))]
      · rw [if_neg e]
        have s1 := q2.2 e
        obtain ⟨f, rfl⟩ : ∃ f', f = f' + 1 := ⟨f - 1, by omega⟩
        have fin : ∀ y, ∃ v' R', g_X10_term_5 kp (f + 1) 0 y R1 = some (v', R') ∧ RR R0 (false, (P (k + 1)).2.1, acc) dp v' R' := by
          intro y
          rw [g_X10_term_5, if_pos s1.2.2]
          exact ⟨_, R1, rfl, fun z => absurd z (by simp), fun _ => s1⟩
        by_cases h43 : ch tx sz k = 42
        · rw [if_pos h43]
          exact fin _
        · rw [if_neg h43]
          by_cases hw : w = 0
          · rw [if_pos hw]
            exact fin _
          · rw [if_neg hw]
            simp only [zgd, hz hw, if_true]
            exact fin _
    rw [g_X10_term_5, if_neg (r_well s)]
    simp only [r_sign t s hks, Option.bind_some]
    by_cases h1 : ch tx sz k = 42
    · rw [if_pos h1]
      exact go (Or.inl h1)
    · rw [if_neg h1]
      by_cases h2 : ch tx sz k = 47
      · rw [if_pos h2]
        exact go (Or.inr h2)
      · rw [if_neg h2, hLoop, if_neg (fun z => z.elim h1 h2)]
        exact ⟨v, R, rfl, fun _ => ⟨s, hv⟩, fun z => absurd rfl z⟩
theorem r_term (t : TD R0 tx sz) {kp : Nat → Nat → zH → Option (Int32 × zH)} {P : Nat → Bool × Nat × List Int32} (hP : hGood sz P) (hk : RFo R0 sz dp (kp 2 0) P) : RFo R0 sz dp (g_X10_term kp 0) (hBin tx sz P 42 47) := by
  have h60 := t.1
  intro R k s hks
  obtain ⟨g1, g2, g3⟩ := hP k hks
  obtain ⟨v, R1, q1, q2⟩ := hk R k s hks
  unfold g_X10_term hBin
  rw [q1, Option.bind_some]
  by_cases e : (P k).1 = true
  · rw [if_pos e]
    obtain ⟨g4, g5, g6⟩ := g3 e
    obtain ⟨s1, w1⟩ := q2.1 e
    exact r_termL t hP hk 60 fu _ R1 _ v (by omega) (by unfold fu; omega) s1 g2 w1
  · rw [if_neg e]
    have s1 := q2.2 e
    show ∃ v' R', g_X10_term_5 kp (3999 + 1) 0 v R1 = some (v', R') ∧ _
    rw [g_X10_term_5, if_pos s1.2.2]
    exact ⟨_, R1, rfl, fun z => absurd z (by simp), fun _ => s1⟩
end ZRL
