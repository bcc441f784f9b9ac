/-! ===== the class reads units, and all ===== -/
theorem zlet_ix : ∀ n, n < 256 → zlet (nI n) = zix (nI n) := by decide +kernel
section ZCJ
variable {C0 : zH} {tx : Nat → Int32} {sz : Nat}
theorem c_unit (t : TC C0 tx sz) (hb : ∀ k, k < sz → zib (tx k) 256 = true) {kp : Nat → Nat → Int32 → zH → Option zH} {dp lv : Nat} (hd : dp + lv = 5) (hk : ∀ lv', lv = lv' + 1 → CFo C0 sz (kp 3 0 (nI (dp + 1))) (hBr tx sz (hSum tx sz (hUnit tx sz lv')))) : CFo C0 sz (g_X8_readUnit kp 0 (nI dp)) (hUnit tx sz lv) := by
  have h60 := t.2.2.2.2.2.1
  intro C k cs s hks hl
  have hlet : (if ch tx sz k = -1 then (-1 : Int32) else zlet (ch tx sz k)) = zix (ch tx sz k) := by
    by_cases e : ch tx sz k = -1
    · rw [if_pos e, e]
      decide
    · rw [if_neg e]
      have hlt := ch_lt e
      have hc : ch tx sz k = tx k := if_pos hlt
      have z := zib_ex (hb k hlt)
      rw [hc, ← nI_rd z.2]
      exact zlet_ix _ z.1
  have e0 : g_X8_readUnit kp 0 (nI dp) C = g_X8_readUnit_21 kp 0 (nI dp) (ch tx sz k) (zix (ch tx sz k)) C := by
    unfold g_X8_readUnit
    rw [s_next t s hks, Option.bind_some, ← hlet]
    split <;> rfl
  rw [e0]
  unfold g_X8_readUnit_21 g_X8_readUnit_41 g_X8_readUnit_97 f_X8_readNumber
  have hclen : k < sz → cs.length < 60 := fun h => by omega
  have digit : ¬ ch tx sz k < 48 ∧ ¬ 57 < ch tx sz k → ∃ C', Option.bind (f_X8_readNumber_4 fu 0 0 0 C) (fun o5 => some o5) = some C' ∧ CR C0 (true, (hNum tx sz 5 k 0).2, [(hNum tx sz 5 k 0).1]) cs C' := by
    intro h
    have hlt : k < sz := ch_lt (fun z => h.1 (by rw [z]; decide))
    obtain ⟨C', q1, q2⟩ := c_num t 5 fu k 0 C cs (Nat.le_refl _) (by unfold fu; omega) s hks (hclen hlt)
    rw [show f_X8_readNumber_4 fu 0 0 0 C = some C' from q1]
    exact ⟨C', rfl, fun _ => q2, fun z => absurd rfl z⟩
  have letter : ¬ zix (ch tx sz k) < 0 → ∃ C', (Option.bind (f_X8_emit 0 (100000 + zix (ch tx sz k)) C) (fun o13 => zlt (zsI o13 8 0 2 ((zI o13 8 0 2) + 1)) (fun S16 => some S16))) = some C' ∧ CR C0 (true, k + 1, [100000 + zix (ch tx sz k)]) cs C' := by
    intro h
    have hlt : k < sz := ch_lt (fun z => h (by rw [z]; decide))
    obtain ⟨C', q1, q2⟩ := e_emit t s (hclen hlt) (100000 + zix (ch tx sz k))
    rw [q1]
    exact ⟨_, rfl, fun _ => q2.step, fun z => absurd rfl z⟩
  have bad : ∃ C', Option.bind (f_X8_fail 0 C) (fun o1 => some o1) = some C' ∧ CR C0 (false, k, []) cs C' := by
    obtain ⟨C', q1, q2⟩ := e_fail s
    rw [q1]
    exact ⟨C', rfl, fun z => absurd z (by simp), fun _ => q2⟩
  have h5 : (5 ≤ nI dp) ↔ lv = 0 := by
    rw [show (5 : Int32) = nI 5 from rfl, nJ_le (by decide) (by omega)]
    omega
  have rest : ¬ (¬ ch tx sz k < 48 ∧ ¬ 57 < ch tx sz k) → ∃ C', (if zix (ch tx sz k) < 0 then (if ch tx sz k = 40 then (if 5 ≤ nI dp then (Option.bind (f_X8_fail 0 C) (fun o1 => some o1)) else (zlt (zsI C 8 0 2 ((zI C 8 0 2) + 1)) (fun S7 => Option.bind (kp 3 0 (nI dp + 1) S7) (fun o10 => some o10)))) else (Option.bind (f_X8_fail 0 C) (fun o1 => some o1))) else (Option.bind (f_X8_emit 0 (100000 + zix (ch tx sz k)) C) (fun o13 => zlt (zsI o13 8 0 2 ((zI o13 8 0 2) + 1)) (fun S16 => some S16)))) = some C' ∧ CR C0 (hUnit tx sz lv k) cs C' := by
    intro h
    cases lv with
    | zero =>
      rw [hUnit, if_neg h]
      by_cases h2 : zix (ch tx sz k) < 0
      · rw [if_pos h2, if_neg (show ¬ ¬ zix (ch tx sz k) < 0 from fun z => z h2)]
        by_cases h3 : ch tx sz k = 40
        · rw [if_pos h3, if_pos (h5.mpr rfl)]
          exact bad
        · rw [if_neg h3]
          exact bad
      · rw [if_neg h2, if_pos h2]
        exact letter h2
    | succ lv =>
      rw [hUnit, if_neg h]
      by_cases h2 : zix (ch tx sz k) < 0
      · rw [if_pos h2, if_neg (show ¬ ¬ zix (ch tx sz k) < 0 from fun z => z h2)]
        by_cases h3 : ch tx sz k = 40
        · simp only [if_pos h3]
          rw [if_neg (show ¬ 5 ≤ nI dp from fun z => by have := h5.mp z; omega), ← nI_succ]
          have hlt : k < sz := ch_lt (fun z => absurd (h3.symm.trans z) (by decide))
          obtain ⟨C', q1, q2⟩ := hk lv rfl _ (k + 1) cs s.step hlt (by omega)
          simp only [zlt, q1]
          exact ⟨C', rfl, q2⟩
        · simp only [if_neg h3]
          exact bad
      · rw [if_neg h2, if_pos h2]
        exact letter h2
  by_cases h1 : ch tx sz k < 48
  · rw [if_pos h1]
    exact rest (fun z => z.1 h1)
  · rw [if_neg h1]
    by_cases h2 : 57 < ch tx sz k
    · rw [if_pos h2]
      exact rest (fun z => z.2 h2)
    · rw [if_neg h2]
      have := digit ⟨h1, h2⟩
      cases lv <;> rw [hUnit, if_pos ⟨h1, h2⟩] <;> exact this
/-- all of it, by brackets left -/
theorem c_all (t : TC C0 tx sz) (hb : ∀ k, k < sz → zib (tx k) 256 = true) : ∀ lv dp n, dp + lv = 5 → 4 * lv + 3 ≤ n → CFo C0 sz (f_X8_par n 0 0 (nI dp)) (hSum tx sz (hUnit tx sz lv)) := by
  intro lv
  induction lv with
  | zero =>
    intro dp n hd hn
    obtain ⟨n, rfl⟩ : ∃ m, n = m + 1 + 1 + 1 := ⟨n - 3, by omega⟩
    have u : CFo C0 sz (f_X8_par (n + 1) 2 0 (nI dp)) (hUnit tx sz 0) := c_unit (kp := f_X8_par n) t hb hd (fun lv' z => by omega)
    have m : CFo C0 sz (f_X8_par (n + 1 + 1) 1 0 (nI dp)) (hTerm tx sz (hUnit tx sz 0)) := c_term (kp := f_X8_par (n + 1)) t (hUnit_good 0) u
    exact c_sum (kp := f_X8_par (n + 1 + 1)) t (hBin_good (hUnit_good 0) (by decide) (by decide)) m
  | succ lv ih =>
    intro dp n hd hn
    obtain ⟨n, rfl⟩ : ∃ m, n = m + 1 + 1 + 1 + 1 := ⟨n - 4, by omega⟩
    have b : CFo C0 sz (f_X8_par (n + 1) 3 0 (nI (dp + 1))) (hBr tx sz (hSum tx sz (hUnit tx sz lv))) := c_br (kp := f_X8_par n) t (hSum_good (hUnit_good lv)) (ih (dp + 1) n (by omega) (by omega))
    have u : CFo C0 sz (f_X8_par (n + 1 + 1) 2 0 (nI dp)) (hUnit tx sz (lv + 1)) := c_unit (kp := f_X8_par (n + 1)) t hb hd (fun lv' z => by
      have : lv' = lv := by omega
      subst this
      exact b)
    have m : CFo C0 sz (f_X8_par (n + 1 + 1 + 1) 1 0 (nI dp)) (hTerm tx sz (hUnit tx sz (lv + 1))) := c_term (kp := f_X8_par (n + 1 + 1)) t (hUnit_good (lv + 1)) u
    exact c_sum (kp := f_X8_par (n + 1 + 1 + 1)) t (hBin_good (hUnit_good (lv + 1)) (by decide) (by decide)) m
end ZCJ
