/-! ===== how a text is read, once for both sides: whether well, up to where, its code ===== -/
section HUB
variable (tx : Nat → Int32) (sz : Nat)
def ch (k : Nat) : Int32 := if k < sz then tx k else -1
/-- up to n digits from k on -/
def hNum : Nat → Nat → Int32 → Int32 × Nat
  | 0, k, v => (v, k)
  | n + 1, k, v => if ch tx sz k < 48 then (v, k) else if 57 < ch tx sz k then (v, k) else hNum n (k + 1) (v * 10 + (ch tx sz k - 48))
/-- further operands behind the signs s1 and s2 -/
def hLoop (P : Nat → Bool × Nat × List Int32) (s1 s2 : Int32) : Nat → Nat → List Int32 → Bool × Nat × List Int32
  | 0, k, acc => (true, k, acc)
  | n + 1, k, acc => if ch tx sz k = s1 ∨ ch tx sz k = s2 then (if (P (k + 1)).1 = true then hLoop P s1 s2 n (P (k + 1)).2.1 (acc ++ (P (k + 1)).2.2 ++ [-(ch tx sz k)]) else (false, (P (k + 1)).2.1, acc)) else (true, k, acc)
def hBin (P : Nat → Bool × Nat × List Int32) (s1 s2 : Int32) (k : Nat) : Bool × Nat × List Int32 :=
  if (P k).1 = true then hLoop tx sz P s1 s2 60 (P k).2.1 (P k).2.2 else (false, (P k).2.1, [])
def hTerm (U : Nat → Bool × Nat × List Int32) : Nat → Bool × Nat × List Int32 := hBin tx sz U 42 47
def hSum (U : Nat → Bool × Nat × List Int32) : Nat → Bool × Nat × List Int32 := hBin tx sz (hTerm tx sz U) 43 45
def hCl (k : Nat) (code : List Int32) : Bool × Nat × List Int32 := if ch tx sz k = 41 then (true, k + 1, code) else (false, k, [])
/-- behind a bracket that stands before k -/
def hBr (S : Nat → Bool × Nat × List Int32) (k : Nat) : Bool × Nat × List Int32 :=
  if (S k).1 = true then
    (if ch tx sz (S k).2.1 = 60 ∨ ch tx sz (S k).2.1 = 61 ∨ ch tx sz (S k).2.1 = 62 then
      (if (S ((S k).2.1 + 1)).1 = true then hCl tx sz (S ((S k).2.1 + 1)).2.1 ((S k).2.2 ++ (S ((S k).2.1 + 1)).2.2 ++ [-(ch tx sz (S k).2.1)]) else (false, (S ((S k).2.1 + 1)).2.1, []))
    else hCl tx sz (S k).2.1 (S k).2.2)
  else (false, (S k).2.1, [])
/-- a unit, lv brackets may still be begun -/
def hUnit : Nat → Nat → Bool × Nat × List Int32
  | 0, k => if ¬ ch tx sz k < 48 ∧ ¬ 57 < ch tx sz k then (true, (hNum tx sz 5 k 0).2, [(hNum tx sz 5 k 0).1]) else if ¬ zix (ch tx sz k) < 0 then (true, k + 1, [100000 + zix (ch tx sz k)]) else (false, k, [])
  | lv + 1, k => if ¬ ch tx sz k < 48 ∧ ¬ 57 < ch tx sz k then (true, (hNum tx sz 5 k 0).2, [(hNum tx sz 5 k 0).1]) else if ¬ zix (ch tx sz k) < 0 then (true, k + 1, [100000 + zix (ch tx sz k)]) else if ch tx sz k = 40 then hBr tx sz (hSum tx sz (hUnit lv)) (k + 1) else (false, k, [])
def hAll : Bool × Nat × List Int32 := hSum tx sz (hUnit tx sz 5) 0
end HUB
/-- places grow, and stay within the text -/
def hGood (sz : Nat) (P : Nat → Bool × Nat × List Int32) : Prop := ∀ k, k ≤ sz → k ≤ (P k).2.1 ∧ (P k).2.1 ≤ sz ∧ ((P k).1 = true → k < (P k).2.1 ∧ (P k).2.2.length % 2 = 1 ∧ (P k).2.2.length ≤ (P k).2.1 - k)
section HUB2
variable {tx : Nat → Int32} {sz : Nat}
theorem ch_lt {k : Nat} (h : ¬ ch tx sz k = -1) : k < sz := by
  unfold ch at h
  split at h
  · assumption
  · exact absurd rfl h
theorem hNum_le : ∀ n k v, k ≤ sz → k ≤ (hNum tx sz n k v).2 ∧ (hNum tx sz n k v).2 ≤ sz
  | 0, k, v, h => ⟨Nat.le_refl _, h⟩
  | n + 1, k, v, h => by
    rw [hNum]
    by_cases h1 : ch tx sz k < 48
    · rw [if_pos h1]
      exact ⟨Nat.le_refl _, h⟩
    · rw [if_neg h1]
      split
      · exact ⟨Nat.le_refl _, h⟩
      · have hk : k < sz := ch_lt (fun z => h1 (by rw [z]; decide))
        have := hNum_le n (k + 1) (v * 10 + (ch tx sz k - 48)) hk
        omega
theorem hLoop_good {P : Nat → Bool × Nat × List Int32} {s1 s2 : Int32} (hP : hGood sz P) (h1 : ¬ s1 = -1) (h2 : ¬ s2 = -1) : ∀ n k acc k0, k0 < k → k ≤ sz → acc.length % 2 = 1 → acc.length ≤ k - k0 → k ≤ (hLoop tx sz P s1 s2 n k acc).2.1 ∧ (hLoop tx sz P s1 s2 n k acc).2.1 ≤ sz ∧ ((hLoop tx sz P s1 s2 n k acc).1 = true → (hLoop tx sz P s1 s2 n k acc).2.2.length % 2 = 1 ∧ (hLoop tx sz P s1 s2 n k acc).2.2.length ≤ (hLoop tx sz P s1 s2 n k acc).2.1 - k0)
  | 0, k, acc, k0, hk, hs, ho, hl => ⟨Nat.le_refl _, hs, fun _ => ⟨ho, hl⟩⟩
  | n + 1, k, acc, k0, hk, hs, ho, hl => by
    rw [hLoop]
    by_cases h : ch tx sz k = s1 ∨ ch tx sz k = s2
    · rw [if_pos h]
      have hlt : k < sz := ch_lt (by
        rcases h with h | h <;> rw [h]
        · exact h1
        · exact h2)
      obtain ⟨g1, g2, g3⟩ := hP (k + 1) hlt
      by_cases e : (P (k + 1)).1 = true
      · rw [if_pos e]
        obtain ⟨g4, g5, g6⟩ := g3 e
        have := hLoop_good hP h1 h2 n (P (k + 1)).2.1 (acc ++ (P (k + 1)).2.2 ++ [-(ch tx sz k)]) k0 (by omega) g2 (by simp only [List.length_append, List.length_singleton]; omega) (by simp only [List.length_append, List.length_singleton]; omega)
        exact ⟨by omega, this.2.1, this.2.2⟩
      · rw [if_neg e]
        exact ⟨by show k ≤ (P (k + 1)).2.1; omega, g2, fun z => absurd z (by simp)⟩
    · rw [if_neg h]
      exact ⟨Nat.le_refl _, hs, fun _ => ⟨ho, hl⟩⟩
theorem hBin_good {P : Nat → Bool × Nat × List Int32} {s1 s2 : Int32} (hP : hGood sz P) (h1 : ¬ s1 = -1) (h2 : ¬ s2 = -1) : hGood sz (hBin tx sz P s1 s2) := by
  intro k hk
  obtain ⟨g1, g2, g3⟩ := hP k hk
  unfold hBin
  by_cases e : (P k).1 = true
  · rw [if_pos e]
    obtain ⟨g4, g5, g6⟩ := g3 e
    have := hLoop_good (tx := tx) hP h1 h2 60 (P k).2.1 (P k).2.2 k g4 g2 g5 g6
    exact ⟨by omega, this.2.1, fun z => ⟨by omega, this.2.2 z⟩⟩
  · rw [if_neg e]
    exact ⟨g1, g2, fun z => absurd z (by simp)⟩
theorem hSum_good {U : Nat → Bool × Nat × List Int32} (hU : hGood sz U) : hGood sz (hSum tx sz U) := hBin_good (hBin_good hU (by decide) (by decide)) (by decide) (by decide)
theorem hUnit_good : ∀ lv, hGood sz (hUnit tx sz lv)
  | 0 => by
    intro k hk
    rw [hUnit]
    by_cases h1 : ¬ ch tx sz k < 48 ∧ ¬ 57 < ch tx sz k
    · rw [if_pos h1]
      have hlt : k < sz := ch_lt (fun z => h1.1 (by rw [z]; decide))
      have := hNum_le (tx := tx) (sz := sz) 4 (k + 1) (0 * 10 + (ch tx sz k - 48)) hlt
      have e : hNum tx sz 5 k 0 = hNum tx sz 4 (k + 1) (0 * 10 + (ch tx sz k - 48)) := by rw [hNum, if_neg h1.1, if_neg h1.2]
      rw [e]
      refine ⟨by show k ≤ (hNum tx sz 4 (k + 1) _).2; omega, this.2, fun _ => ⟨by show k < (hNum tx sz 4 (k + 1) _).2; omega, rfl, ?_⟩⟩
      show 1 ≤ (hNum tx sz 4 (k + 1) _).2 - k
      omega
    · rw [if_neg h1]
      by_cases h2 : ¬ zix (ch tx sz k) < 0
      · rw [if_pos h2]
        have hlt : k < sz := ch_lt (fun z => h2 (by rw [z]; decide))
        refine ⟨Nat.le_succ _, hlt, fun _ => ⟨Nat.lt_succ_self _, rfl, ?_⟩⟩
        show 1 ≤ k + 1 - k
        omega
      · rw [if_neg h2]
        exact ⟨Nat.le_refl _, hk, fun z => absurd z (by simp)⟩
  | lv + 1 => by
    have ih := hSum_good (tx := tx) (hUnit_good lv)
    intro k hk
    rw [hUnit]
    by_cases h1 : ¬ ch tx sz k < 48 ∧ ¬ 57 < ch tx sz k
    · rw [if_pos h1]
      have hlt : k < sz := ch_lt (fun z => h1.1 (by rw [z]; decide))
      have := hNum_le (tx := tx) (sz := sz) 4 (k + 1) (0 * 10 + (ch tx sz k - 48)) hlt
      have e : hNum tx sz 5 k 0 = hNum tx sz 4 (k + 1) (0 * 10 + (ch tx sz k - 48)) := by rw [hNum, if_neg h1.1, if_neg h1.2]
      rw [e]
      refine ⟨by show k ≤ (hNum tx sz 4 (k + 1) _).2; omega, this.2, fun _ => ⟨by show k < (hNum tx sz 4 (k + 1) _).2; omega, rfl, ?_⟩⟩
      show 1 ≤ (hNum tx sz 4 (k + 1) _).2 - k
      omega
    · rw [if_neg h1]
      by_cases h2 : ¬ zix (ch tx sz k) < 0
      · rw [if_pos h2]
        have hlt : k < sz := ch_lt (fun z => h2 (by rw [z]; decide))
        refine ⟨Nat.le_succ _, hlt, fun _ => ⟨Nat.lt_succ_self _, rfl, ?_⟩⟩
        show 1 ≤ k + 1 - k
        omega
      · rw [if_neg h2]
        by_cases h3 : ch tx sz k = 40
        · rw [if_pos h3]
          have hlt : k < sz := ch_lt (fun z => absurd (h3.symm.trans z) (by decide))
          have cl : ∀ q code, k < q → q ≤ sz → code.length % 2 = 1 → code.length ≤ q - k → k ≤ (hCl tx sz q code).2.1 ∧ (hCl tx sz q code).2.1 ≤ sz ∧ ((hCl tx sz q code).1 = true → k < (hCl tx sz q code).2.1 ∧ (hCl tx sz q code).2.2.length % 2 = 1 ∧ (hCl tx sz q code).2.2.length ≤ (hCl tx sz q code).2.1 - k) := by
            intro q code q1 q2 q3 q4
            unfold hCl
            by_cases e : ch tx sz q = 41
            · rw [if_pos e]
              have : q < sz := ch_lt (fun z => absurd (e.symm.trans z) (by decide))
              exact ⟨by show k ≤ q + 1; omega, this, fun _ => ⟨by show k < q + 1; omega, q3, by show code.length ≤ q + 1 - k; omega⟩⟩
            · rw [if_neg e]
              exact ⟨by show k ≤ q; omega, q2, fun z => absurd z (by simp)⟩
          obtain ⟨g1, g2, g3⟩ := ih (k + 1) hlt
          unfold hBr
          generalize hSum tx sz (hUnit tx sz lv) = SS at *
          by_cases e1 : (SS (k + 1)).1 = true
          · rw [if_pos e1]
            obtain ⟨g4, g5, g6⟩ := g3 e1
            by_cases e2 : ch tx sz (SS (k + 1)).2.1 = 60 ∨ ch tx sz (SS (k + 1)).2.1 = 61 ∨ ch tx sz (SS (k + 1)).2.1 = 62
            · rw [if_pos e2]
              have hlt2 : (SS (k + 1)).2.1 < sz := ch_lt (by
                rcases e2 with e | e | e <;> rw [e] <;> decide)
              obtain ⟨y1, y2, y3⟩ := ih ((SS (k + 1)).2.1 + 1) hlt2
              by_cases e3 : (SS ((SS (k + 1)).2.1 + 1)).1 = true
              · rw [if_pos e3]
                obtain ⟨y4, y5, y6⟩ := y3 e3
                exact cl _ _ (by omega) y2 (by simp only [List.length_append, List.length_singleton]; omega) (by simp only [List.length_append, List.length_singleton]; omega)
              · rw [if_neg e3]
                exact ⟨by show k ≤ (SS ((SS (k + 1)).2.1 + 1)).2.1; omega, y2, fun z => absurd z (by simp)⟩
            · rw [if_neg e2]
              exact cl _ _ (by omega) g2 g5 (by omega)
          · rw [if_neg e1]
            exact ⟨by show k ≤ (SS (k + 1)).2.1; omega, g2, fun z => absurd z (by simp)⟩
        · rw [if_neg h3]
          exact ⟨Nat.le_refl _, hk, fun z => absurd z (by simp)⟩
end HUB2
