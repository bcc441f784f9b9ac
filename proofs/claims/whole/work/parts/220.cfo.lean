/-! ===== the class's reading follows the hub ===== -/
def CR (C0 : zH) (r : Bool × Nat × List Int32) (cs : List Int32) (C' : zH) : Prop := (r.1 = true → CSt C0 C' r.2.1 (cs ++ r.2.2)) ∧ (¬ r.1 = true → CFt C0 C' r.2.1)
def CFo (C0 : zH) (sz : Nat) (kp : zH → Option zH) (P : Nat → Bool × Nat × List Int32) : Prop := ∀ C k cs, CSt C0 C k cs → k ≤ sz → cs.length ≤ k → ∃ C', kp C = some C' ∧ CR C0 (P k) cs C'
section ZCF
variable {C0 : zH} {tx : Nat → Int32} {sz : Nat}
theorem s_next (t : TC C0 tx sz) {C : zH} {k : Nat} {cs : List Int32} (s : CSt C0 C k cs) (hk : k ≤ sz) : f_X8_next 0 C = some (ch tx sz k) := e_next (s.1.tc t) s.2.1 hk s.2.2.1
theorem s_nextF {C : zH} {k : Nat} (hk : k < 2 ^ 31) (s : CFt C0 C k) : f_X8_next 0 C = some (-1) := e_nextF (by rw [s.2.2.1]; exact nI_n9 hk)
theorem c_num (t : TC C0 tx sz) : ∀ n f k v C cs, n ≤ 5 → n < f → CSt C0 C k cs → k ≤ sz → cs.length < 60 → ∃ C', f_X8_readNumber_4 f 0 v (nI (5 - n)) C = some C' ∧ CSt C0 C' (hNum tx sz n k v).2 (cs ++ [(hNum tx sz n k v).1]) := by
  intro n
  induction n with
  | zero =>
    intro f k v C cs hn hf s hk hc
    obtain ⟨f, rfl⟩ : ∃ f', f = f' + 1 := ⟨f - 1, by omega⟩
    rw [f_X8_readNumber_4, if_pos (by decide), f_X8_readNumber_56]
    obtain ⟨C', e1, e2⟩ := e_emit t s hc v
    rw [e1]
    exact ⟨C', rfl, e2⟩
  | succ n ih =>
    intro f k v C cs hn hf s hk hc
    obtain ⟨f, rfl⟩ : ∃ f', f = f' + 1 := ⟨f - 1, by omega⟩
    have hle : ¬ (5 : Int32) ≤ nI (5 - (n + 1)) := fun z => by have := (nJ_le (a := 5) (by decide) (by omega)).mp z; omega
    obtain ⟨C', e1, e2⟩ := e_emit t s hc v
    rw [f_X8_readNumber_4, if_neg hle]
    simp only [s_next t s hk, Option.bind_some, f_X8_readNumber_56, zlt]
    rw [hNum]
    by_cases h1 : ch tx sz k < 48
    · rw [if_pos h1, if_pos h1, e1]
      exact ⟨C', rfl, e2⟩
    · rw [if_neg h1, if_neg h1]
      by_cases h2 : 57 < ch tx sz k
      · rw [if_pos h2, if_pos h2, e1]
        exact ⟨C', rfl, e2⟩
      · rw [if_neg h2, if_neg h2]
        have hlt : k < sz := ch_lt (fun z => h1 (by rw [z]; decide))
        have hs : nI (5 - (n + 1)) + 1 = nI (5 - n) := by
          rw [← nI_succ]
          congr 1
          omega
        rw [hs]
        exact ih f (k + 1) _ _ cs (by omega) (by omega) s.step hlt hc
end ZCF
