/-! ===== the reference's reading: letters, states ===== -/
def zch : Nat → Nat
  | 0 => 98
  | 1 => 116
  | 2 => 115
  | 3 => 111
  | 4 => 106
  | 5 => 108
  | 6 => 110
  | 7 => 102
  | 8 => 119
  | 9 => 100
  | _ => 0
theorem e_let (c : Int32) (S : zH) : f_X10_isLetter c S = some (if zix c < 0 then 0 else 1) := by
  unfold f_X10_isLetter zix
  by_cases h0 : c = 98
  · subst h0
    decide
  rw [if_neg h0, if_neg h0]
  by_cases h1 : c = 116
  · subst h1
    decide
  rw [if_neg h1, if_neg h1]
  by_cases h2 : c = 115
  · subst h2
    decide
  rw [if_neg h2, if_neg h2]
  by_cases h3 : c = 111
  · subst h3
    decide
  rw [if_neg h3, if_neg h3]
  by_cases h4 : c = 106
  · subst h4
    decide
  rw [if_neg h4, if_neg h4]
  by_cases h5 : c = 108
  · subst h5
    decide
  rw [if_neg h5, if_neg h5]
  by_cases h6 : c = 110
  · subst h6
    decide
  rw [if_neg h6, if_neg h6]
  by_cases h7 : c = 102
  · subst h7
    decide
  rw [if_neg h7, if_neg h7]
  by_cases h8 : c = 119
  · subst h8
    decide
  rw [if_neg h8, if_neg h8]
  by_cases h9 : c = 100
  · subst h9
    decide
  rw [if_neg h9, if_neg h9]
  decide
theorem zix_ch {c : Int32} (h : ¬ zix c < 0) : zch (zix c).toNatClampNeg = c.toNatClampNeg ∧ zib c 128 = true ∧ zib (zix c) 10 = true ∧ ¬ c = 40 ∧ ¬ (¬ c < 48 ∧ ¬ 57 < c) := by
  by_cases h0 : c = 98
  · subst h0
    decide
  by_cases h1 : c = 116
  · subst h1
    decide
  by_cases h2 : c = 115
  · subst h2
    decide
  by_cases h3 : c = 111
  · subst h3
    decide
  by_cases h4 : c = 106
  · subst h4
    decide
  by_cases h5 : c = 108
  · subst h5
    decide
  by_cases h6 : c = 110
  · subst h6
    decide
  by_cases h7 : c = 102
  · subst h7
    decide
  by_cases h8 : c = 119
  · subst h8
    decide
  by_cases h9 : c = 100
  · subst h9
    decide
  exact absurd (by unfold zix; rw [if_neg h0, if_neg h1, if_neg h2, if_neg h3, if_neg h4, if_neg h5, if_neg h6, if_neg h7, if_neg h8, if_neg h9]; decide) h
/-- only the reading's own places change -/
def FR (R R' : zH) : Prop := (∀ q i k, ¬ (q = 40 ∧ (k = 60 ∨ k = 61 ∨ k = 64)) → zI R' q i k = zI R q i k) ∧ (∀ q i k, zJ R' q i k = zJ R q i k) ∧ (∀ q i k, zR R' q i k = zR R q i k) ∧ (∀ q, zN R' q = zN R q) ∧ ∀ q i, zL R' q i = zL R q i
theorem FR.rf {R : zH} : FR R R := ⟨fun _ _ _ _ => rfl, fun _ _ _ => rfl, fun _ _ _ => rfl, fun _ => rfl, fun _ _ => rfl⟩
theorem FR.set {R R' : zH} (h : FR R R') {k : Nat} (hk : k = 60 ∨ k = 61 ∨ k = 64) (x : Int32) : FR R (zsI R' 40 0 k x) := ⟨fun q i l h1 => by rw [wI_sI, if_neg (fun z => h1 ⟨z.1, by rw [z.2.2]; exact hk⟩)]; exact h.1 q i l h1, fun q i l => by rw [wJ_sI]; exact h.2.1 q i l, fun q i l => by rw [wR_sI]; exact h.2.2.1 q i l, fun q => by rw [wN_sI]; exact h.2.2.2.1 q, fun q i => by rw [wL_sI]; exact h.2.2.2.2 q i⟩
/-- the letters' worths -/
def Lr (R : zH) (i : Nat) : Int64 := (zI R 158 0 (zch i)).toInt64
/-- what is read -/
def TD (R : zH) (tx : Nat → Int32) (sz : Nat) : Prop := sz ≤ 60 ∧ zI R 40 0 63 = nI sz ∧ zR R 40 0 58 = some 0 ∧ zL R 158 0 = 128 ∧ ((zI R 40 0 62 = -1 ∧ zR R 40 0 57 = some 0 ∧ zL R 157 0 = 60 ∧ ∀ k, k < sz → zI R 157 0 k = tx k) ∨ ∃ b, b < 30 ∧ zI R 40 0 62 = nI (60 * b) ∧ zR R 40 0 44 = some 0 ∧ zL R 144 0 = 1800 ∧ ∀ k, k < sz → zI R 144 0 (60 * b + k) = tx k)
theorem FR.td {R R' : zH} {tx : Nat → Int32} {sz : Nat} (h : FR R R') (t : TD R tx sz) : TD R' tx sz := by
  obtain ⟨t1, t2, t3, t4, t5⟩ := t
  obtain ⟨f1, f2, f3, f4, f5⟩ := h
  refine ⟨t1, by rw [f1 40 0 63 (by decide)]; exact t2, by rw [f3]; exact t3, by rw [f5]; exact t4, ?_⟩
  rw [f1 40 0 62 (by decide), f3, f3, f5, f5]
  rcases t5 with ⟨a1, a2, a3, a4⟩ | ⟨b, hb, a1, a2, a3, a4⟩
  · exact Or.inl ⟨a1, a2, a3, fun k hk => by rw [f1 157 0 k (by simp)]; exact a4 k hk⟩
  · exact Or.inr ⟨b, hb, a1, a2, a3, fun k hk => by rw [f1 144 0 _ (by simp)]; exact a4 k hk⟩
theorem FR.lr {R R' : zH} (h : FR R R') : Lr R' = Lr R := by
  funext i
  unfold Lr
  rw [h.1 158 0 _ (by simp)]
theorem e_sign {R : zH} {tx : Nat → Int32} {sz k : Nat} (t : TD R tx sz) (hp : zI R 40 0 60 = nI k) (hk : k ≤ sz) : f_X10_sign 0 R = some (ch tx sz k) := by
  obtain ⟨t1, t2, t3, t4, t5⟩ := t
  unfold f_X10_sign ch
  rw [hp, t2]
  by_cases h : k < sz
  · rw [if_pos ((nJ_lt (by omega) (by omega)).mpr h), if_pos h]
    rcases t5 with ⟨a1, a2, a3, a4⟩ | ⟨b, hb, a1, a2, a3, a4⟩
    · rw [a1, if_neg (by decide), a2]
      simp only [Option.bind_some, a3, zgd, zib_nI (show k < 60 by omega) (by decide), if_true, nI_clamp (show k < 2 ^ 31 by omega), a4 k h]
    · rw [a1, if_pos (Int32.not_lt.mp (nI_pos (by omega))), a2, nI_add]
      simp only [Option.bind_some, a3, zgd, zib_nI (show 60 * b + k < 1800 by omega) (by decide), if_true, nI_clamp (show 60 * b + k < 2 ^ 31 by omega), a4 k h]
  · rw [if_neg (fun z => h ((nJ_lt (by omega) (by omega)).mp z)), if_neg h]
/-- well so far: place k, dp brackets -/
def RSt (R0 R : zH) (k dp : Nat) : Prop := FR R0 R ∧ zI R 40 0 60 = nI k ∧ zI R 40 0 61 = nI dp ∧ zI R 40 0 64 = 1
/-- a fault at k -/
def RFt (R0 R : zH) (k : Nat) : Prop := FR R0 R ∧ zI R 40 0 60 = nI k ∧ zI R 40 0 64 = 0
def RR (R0 : zH) (r : Bool × Nat × List Int32) (dp : Nat) (v : Int32) (R' : zH) : Prop := (r.1 = true → RSt R0 R' r.2.1 dp ∧ ∀ st, rn (Lr R0) r.2.2 st = v.toInt64 :: st) ∧ (¬ r.1 = true → RFt R0 R' r.2.1)
def RFo (R0 : zH) (sz dp : Nat) (kp : zH → Option (Int32 × zH)) (P : Nat → Bool × Nat × List Int32) : Prop := ∀ R k, RSt R0 R k dp → k ≤ sz → ∃ v R', kp R = some (v, R') ∧ RR R0 (P k) dp v R'
theorem RSt.step {R0 R : zH} {k dp : Nat} (s : RSt R0 R k dp) : RSt R0 (zsI R 40 0 60 (zI R 40 0 60 + 1)) (k + 1) dp := by
  obtain ⟨s1, s2, s3, s4⟩ := s
  refine ⟨s1.set (Or.inl rfl) _, ?_, ?_, ?_⟩
  · simp [wI_sI, s2, ← nI_succ]
  · simp [wI_sI, s3]
  · simp [wI_sI, s4]
theorem RSt.down {R0 R : zH} {k dp : Nat} (s : RSt R0 R k dp) : RSt R0 (zsI R 40 0 61 (zI R 40 0 61 + 1)) k (dp + 1) := by
  obtain ⟨s1, s2, s3, s4⟩ := s
  refine ⟨s1.set (Or.inr (Or.inl rfl)) _, ?_, ?_, ?_⟩
  · simp [wI_sI, s2]
  · simp [wI_sI, s3, ← nI_succ]
  · simp [wI_sI, s4]
theorem RSt.up {R0 R : zH} {k dp : Nat} (s : RSt R0 R k (dp + 1)) : RSt R0 (zsI R 40 0 61 (zI R 40 0 61 - 1)) k dp := by
  obtain ⟨s1, s2, s3, s4⟩ := s
  refine ⟨s1.set (Or.inr (Or.inl rfl)) _, ?_, ?_, ?_⟩
  · simp [wI_sI, s2]
  · simp only [wI_sI, and_self, if_true, s3]
    exact nI_pred dp
  · simp [wI_sI, s4]
theorem RSt.brk {R0 R : zH} {k : Nat} (f : FR R0 R) (h : zI R 40 0 60 = nI k) : ∃ R', f_X10_breaks 0 R = some (0, R') ∧ RFt R0 R' k := by
  refine ⟨zsI R 40 0 64 0, rfl, f.set (Or.inr (Or.inr rfl)) _, ?_, ?_⟩
  · simp [wI_sI, h]
  · simp [wI_sI]
theorem i64_0 (w : Int32) : w.toInt64 = 0 ↔ w = 0 := by
  rw [← Int64.toInt_inj, ← Int32.toInt_inj, Int32.toInt_toInt64]
  exact Iff.rfl
theorem i64_lt (a b : Int32) : a.toInt64 < b.toInt64 ↔ a < b := by
  rw [Int64.lt_iff_toInt_lt, Int32.lt_iff_toInt_lt, Int32.toInt_toInt64, Int32.toInt_toInt64]
theorem i64_inj (a b : Int32) : a.toInt64 = b.toInt64 ↔ a = b := by
  rw [← Int64.toInt_inj, ← Int32.toInt_inj, Int32.toInt_toInt64, Int32.toInt_toInt64]
