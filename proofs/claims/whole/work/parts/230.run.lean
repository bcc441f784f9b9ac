/-! ===== the reference reads numbers, brackets, units, all ===== -/
section ZRU
variable {R0 : zH} {tx : Nat → Int32} {sz dp : Nat}
theorem dig_1 {c : Int32} (h1 : ¬ c < 48) (h2 : ¬ 57 < c) : ∃ d, d < 10 ∧ c = nI (d + 48) := by
  have h0 : ¬ c < 0 := fun z => h1 (Int32.lt_trans z (by decide))
  have e := nI_rd h0
  refine ⟨c.toNatClampNeg - 48, ?_, ?_⟩
  · have : ¬ 57 < c.toNatClampNeg := fun z => h2 (by rw [← e]; exact (nJ_lt (a := 57) (by decide) rd_lt).mpr z)
    omega
  · have : ¬ c.toNatClampNeg < 48 := fun z => h1 (by rw [← e]; exact (nJ_lt (b := 48) rd_lt (by decide)).mpr z)
    rw [show c.toNatClampNeg - 48 + 48 = c.toNatClampNeg by omega, e]
theorem dig_2 (m d : Nat) : nI m * 10 + (nI (d + 48) - 48) = nI (m * 10 + d) := by
  have e1 : nI (d + 48) - 48 = nI d := by
    rw [← nI_add]
    exact Int32.add_sub_cancel _ _
  have e2 : nI m * 10 = nI (m * 10) := (Int32.ofNat_mul m 10).symm
  rw [e1, e2, nI_add]
theorem dig_3 (v c : Int32) : 10 * v + c - 48 = v * 10 + (c - 48) := by
  rw [Int32.mul_comm, Int32.sub_eq_add_neg, Int32.sub_eq_add_neg, Int32.add_assoc]
theorem hNum_b : ∀ n k m, (m + 1) * 10 ^ n ≤ 100000 → ∃ q, q < 100000 ∧ (hNum tx sz n k (nI m)).1 = nI q
  | 0, k, m, h => ⟨m, by omega, rfl⟩
  | n + 1, k, m, h => by
    have hm : m < 100000 := by
      have : 1 ≤ 10 ^ (n + 1) := Nat.pow_pos (by decide)
      have := Nat.mul_le_mul_left (m + 1) this
      omega
    rw [hNum]
    by_cases h1 : ch tx sz k < 48
    · rw [if_pos h1]
      exact ⟨m, hm, rfl⟩
    · rw [if_neg h1]
      by_cases h2 : 57 < ch tx sz k
      · rw [if_pos h2]
        exact ⟨m, hm, rfl⟩
      · rw [if_neg h2]
        obtain ⟨d, hd, e⟩ := dig_1 h1 h2
        rw [e, dig_2]
        refine hNum_b n (k + 1) (m * 10 + d) (Nat.le_trans (Nat.mul_le_mul_right _ (show m * 10 + d + 1 ≤ (m + 1) * 10 by omega)) ?_)
        rw [Nat.mul_assoc, ← Nat.pow_succ']
        exact h
theorem r_num (t : TD R0 tx sz) {kp : Nat → Nat → zH → Option (Int32 × zH)} : ∀ n f k v R, n ≤ 4 → n < f → RSt R0 R k dp → k ≤ sz → ∃ R', g_X10_unit_210 kp f 0 v (nI (5 - n)) R = some ((hNum tx sz n k v).1, R') ∧ RSt R0 R' (hNum tx sz n k v).2 dp := by
  intro n
  induction n with
  | zero =>
    intro f k v R hn hf s hk
    obtain ⟨f, rfl⟩ : ∃ f', f = f' + 1 := ⟨f - 1, by omega⟩
    rw [g_X10_unit_210, if_pos (by decide), g_X10_unit_262, if_neg (by decide)]
    exact ⟨R, rfl, s⟩
  | succ n ih =>
    intro f k v R hn hf s hk
    obtain ⟨f, rfl⟩ : ∃ f', f = f' + 1 := ⟨f - 1, by omega⟩
    have hle : ¬ (5 : Int32) ≤ nI (5 - (n + 1)) := fun z => by have := (nJ_le (a := 5) (by decide) (by omega)).mp z; omega
    have h0 : ¬ nI (5 - (n + 1)) = 0 := nI_ne0 (by omega) (by omega)
    rw [g_X10_unit_210, if_neg hle]
    simp only [r_sign t s hk, Option.bind_some, g_X10_unit_262, zlt, if_neg h0]
    rw [hNum]
    by_cases h1 : ch tx sz k < 48
    · rw [if_pos h1, if_pos h1]
      exact ⟨R, rfl, s⟩
    · rw [if_neg h1, if_neg h1]
      by_cases h2 : 57 < ch tx sz k
      · rw [if_pos h2, if_pos h2]
        exact ⟨R, rfl, s⟩
      · rw [if_neg h2, if_neg h2]
        have hlt : k < sz := ch_lt (fun z => h1 (by rw [z]; decide))
        have hs : nI (5 - (n + 1)) + 1 = nI (5 - n) := by
          rw [← nI_succ]
          congr 1
          omega
        rw [hs, dig_3]
        exact ih f (k + 1) _ _ (by omega) (by omega) s.step hlt
theorem rn_num {q : Nat} (h : q < 100000) (L : Nat → Int64) (st : List Int64) : rn L [nI q] st = (nI q).toInt64 :: st := by
  show ev1 L (nI q) st = _
  unfold ev1
  have e : nI q - 100000 < 0 := by
    rw [Int32.lt_iff_toInt_lt]
    have e1 : nI q - 100000 = Int32.ofInt ((q : Int) - 100000) := by
      rw [Int32.ofInt_sub]
      rfl
    rw [e1, Int32.toInt_ofInt_of_le (by omega) (by omega)]
    show (q : Int) - 100000 < 0
    omega
  rw [if_pos (Int32.not_lt.mp (nI_pos (by omega))), if_pos e]
theorem zix_10 : ∀ i, i < 10 → ∀ L : Nat → Int64, ∀ st, rn L [100000 + nI i] st = L i :: st := by
  intro i hi L st
  show ev1 L (100000 + nI i) st = _
  unfold ev1
  have e : (100000 : Int32) + nI i = nI (100000 + i) := nI_add 100000 i
  have e2 : nI (100000 + i) - 100000 = nI i := by
    rw [Nat.add_comm, ← nI_add]
    exact Int32.add_sub_cancel _ _
  rw [e, e2, if_pos (Int32.not_lt.mp (nI_pos (by omega))), if_neg (nI_pos (by omega)), if_neg (fun z => by have := (nJ_le (a := 10) (by decide) (by omega)).mp z; omega), nI_clamp (by omega)]
theorem r_clF {kp : Nat → Nat → zH → Option (Int32 × zH)} {R : zH} {k : Nat} (x : Int32) (s : RFt R0 R k) : ∃ v' R', g_X10_unit_180 kp 0 x R = some (v', R') ∧ RFt R0 R' k := by
  unfold g_X10_unit_180 f_X10_takes
  rw [if_pos s.2.2, Option.bind_some, if_pos rfl]
  obtain ⟨R', q1, q2⟩ := RSt.brk s.1 s.2.1
  rw [q1]
  exact ⟨_, R', rfl, q2⟩
theorem r_cl (t : TD R0 tx sz) {kp : Nat → Nat → zH → Option (Int32 × zH)} {R : zH} {k : Nat} {x : Int32} {code : List Int32} (s : RSt R0 R k (dp + 1)) (hk : k ≤ sz) (hv : ∀ st, rn (Lr R0) code st = x.toInt64 :: st) : ∃ v' R', g_X10_unit_180 kp 0 x R = some (v', R') ∧ RR R0 (hCl tx sz k code) dp v' R' := by
  unfold g_X10_unit_180 f_X10_takes hCl
  rw [if_neg (r_well s), r_sign t s hk, Option.bind_some]
  by_cases e : ch tx sz k = 41
  · rw [if_pos e, if_pos e]
    simp only [zlt, Option.bind_some, show ¬ (1 : Int32) = 0 by decide, if_false]
    exact ⟨_, _, rfl, fun _ => ⟨s.step.up, hv⟩, fun z => absurd rfl z⟩
  · rw [if_neg e, if_neg e, Option.bind_some, if_pos rfl]
    obtain ⟨R', q1, q2⟩ := RSt.brk s.1 s.2.1
    rw [q1]
    exact ⟨_, R', rfl, fun z => absurd z (by simp), fun _ => q2⟩
/-- what a bracket's sign makes -/
def cmv (x3 a b : Int32) : Int32 := if x3 = 60 then (if b ≤ a then 0 else 1) else if x3 = 61 then (if a = b then 1 else 0) else (if a ≤ b then 0 else 1)
theorem cmv_jn {c a b : Int32} (h : c = 60 ∨ c = 61 ∨ c = 62) : (cmv c a b).toInt64 = hld (jn c a.toInt64 b.toInt64) := by
  unfold cmv
  rcases h with h | h | h
  · subst h
    show _ = hld (if a.toInt64 < b.toInt64 then 1 else 0)
    rw [if_pos rfl]
    by_cases e : a < b
    · rw [if_neg (Int32.not_le.mpr e), if_pos ((i64_lt _ _).mpr e)]
      decide
    · rw [if_pos (Int32.not_lt.mp e), if_neg (fun z => e ((i64_lt _ _).mp z))]
      decide
  · subst h
    show _ = hld (if a.toInt64 = b.toInt64 then 1 else 0)
    rw [if_neg (by decide), if_pos rfl]
    by_cases e : a = b
    · rw [if_pos e, if_pos ((i64_inj _ _).mpr e)]
      decide
    · rw [if_neg e, if_neg (fun z => e ((i64_inj _ _).mp z))]
      decide
  · subst h
    show _ = hld (if b.toInt64 < a.toInt64 then 1 else 0)
    rw [if_neg (by decide), if_neg (by decide)]
    by_cases e : b < a
    · rw [if_neg (Int32.not_le.mpr e), if_pos ((i64_lt _ _).mpr e)]
      decide
    · rw [if_pos (Int32.not_lt.mp e), if_neg (fun z => e ((i64_lt _ _).mp z))]
      decide
theorem e_112 (kp : Nat → Nat → zH → Option (Int32 × zH)) (x2 x3 : Int32) (S : zH) : g_X10_unit_112 kp 0 x2 x3 S = Option.bind (kp 0 0 (zsI S 40 0 60 ((zI S 40 0 60) + 1))) (fun o4 => g_X10_unit_180 kp 0 (cmv x3 x2 o4.1) o4.2) := by
  unfold g_X10_unit_112 cmv
  simp only [zlt]
  congr 1
  funext o4
  by_cases h1 : x3 = 60
  · simp only [h1, if_true]
    split <;> rfl
  · by_cases h2 : x3 = 61
    · rw [if_neg h1, if_pos h2, if_neg h1, if_pos h2]
      split <;> rfl
    · simp only [h1, h2, if_false]
      split <;> rfl
theorem r_br (t : TD R0 tx sz) {kp : Nat → Nat → zH → Option (Int32 × zH)} {S : Nat → Bool × Nat × List Int32} (hS : hGood sz S) (hk : RFo R0 sz (dp + 1) (kp 0 0) S) {R : zH} {k : Nat} (s : RSt R0 R k (dp + 1)) (hks : k ≤ sz) : ∃ v' R', Option.bind (kp 0 0 R) (fun o39 => Option.bind (f_X10_sign 0 o39.2) (fun o42 => if (zI o39.2 40 0 64) = 0 then (g_X10_unit_180 kp 0 o39.1 o39.2) else (if o42 = 60 then (g_X10_unit_112 kp 0 o39.1 o42 o39.2) else (if o42 = 61 then (g_X10_unit_112 kp 0 o39.1 o42 o39.2) else (if o42 = 62 then (g_X10_unit_112 kp 0 o39.1 o42 o39.2) else (g_X10_unit_180 kp 0 o39.1 o39.2)))))) = some (v', R') ∧ RR R0 (hBr tx sz S k) dp v' R' := by
  obtain ⟨g1, g2, g3⟩ := hS k hks
  obtain ⟨v, R1, q1, q2⟩ := hk R k s hks
  unfold hBr
  rw [q1, Option.bind_some]
  by_cases e : (S k).1 = true
  · rw [if_pos e]
    obtain ⟨g4, g5, g6⟩ := g3 e
    obtain ⟨s1, w1⟩ := q2.1 e
    simp only [r_sign t s1 g2, Option.bind_some]
    rw [if_neg (r_well s1)]
    have go : ch tx sz (S k).2.1 = 60 ∨ ch tx sz (S k).2.1 = 61 ∨ ch tx sz (S k).2.1 = 62 → ∃ v' R', g_X10_unit_112 kp 0 v (ch tx sz (S k).2.1) R1 = some (v', R') ∧ RR R0 (if (S ((S k).2.1 + 1)).1 = true then hCl tx sz (S ((S k).2.1 + 1)).2.1 ((S k).2.2 ++ (S ((S k).2.1 + 1)).2.2 ++ [-(ch tx sz (S k).2.1)]) else (false, (S ((S k).2.1 + 1)).2.1, [])) dp v' R' := by
      intro h
      have hlt : (S k).2.1 < sz := ch_lt (by
        rcases h with h | h | h <;> rw [h] <;> decide)
      have hneg : ¬ 0 ≤ -(ch tx sz (S k).2.1) := by
        rcases h with h | h | h <;> rw [h] <;> decide
      obtain ⟨y1, y2, y3⟩ := hS ((S k).2.1 + 1) hlt
      rw [e_112]
      obtain ⟨w, R2, p1, p2⟩ := hk _ ((S k).2.1 + 1) s1.step hlt
      rw [p1, Option.bind_some]
      by_cases e2 : (S ((S k).2.1 + 1)).1 = true
      · rw [if_pos e2]
        obtain ⟨s2, w2⟩ := p2.1 e2
        refine r_cl t s2 y2 (fun st => ?_)
        rw [rn_bin (Lr R0) (t := ch tx sz (S k).2.1) w1 w2 hneg st, cmv_jn h]
      · rw [if_neg e2]
        obtain ⟨v', R', m1, m2⟩ := r_clF (kp := kp) (cmv (ch tx sz (S k).2.1) v w) (p2.2 e2)
        exact ⟨v', R', m1, fun z => absurd z (by simp), fun _ => m2⟩
    by_cases h1 : ch tx sz (S k).2.1 = 60
    · rw [if_pos h1, if_pos (Or.inl h1)]
      exact go (Or.inl h1)
    · rw [if_neg h1]
      by_cases h2 : ch tx sz (S k).2.1 = 61
      · rw [if_pos h2, if_pos (Or.inr (Or.inl h2))]
        exact go (Or.inr (Or.inl h2))
      · rw [if_neg h2]
        by_cases h3 : ch tx sz (S k).2.1 = 62
        · rw [if_pos h3, if_pos (Or.inr (Or.inr h3))]
          exact go (Or.inr (Or.inr h3))
        · rw [if_neg h3, if_neg (fun z => z.elim h1 (fun z => z.elim h2 h3))]
          exact r_cl t s1 g2 w1
  · rw [if_neg e]
    have s1 := q2.2 e
    simp only [e_sign (s1.1.td t) s1.2.1 g2, Option.bind_some]
    rw [if_pos s1.2.2]
    obtain ⟨v', R', m1, m2⟩ := r_clF (kp := kp) v s1
    exact ⟨v', R', m1, fun z => absurd z (by simp), fun _ => m2⟩
theorem r_unit (t : TD R0 tx sz) {kp : Nat → Nat → zH → Option (Int32 × zH)} {lv : Nat} (hd : dp + lv = 5) (hk : ∀ lv', lv = lv' + 1 → RFo R0 sz (dp + 1) (kp 0 0) (hSum tx sz (hUnit tx sz lv'))) : RFo R0 sz dp (g_X10_unit kp 0) (hUnit tx sz lv) := by
  intro R k s hks
  unfold g_X10_unit
  rw [if_neg (r_well s), r_sign t s hks, Option.bind_some, e_let, Option.bind_some]
  have h5 : zI R 40 0 61 = 5 ↔ lv = 0 := by
    rw [s.2.2.1, show (5 : Int32) = nI 5 from rfl, nI_inj (by omega) (by decide)]
    omega
  have bad : ∃ v' R', Option.bind (f_X10_breaks 0 R) (fun o53 => some (o53.1, o53.2)) = some (v', R') ∧ RR R0 (false, k, []) dp v' R' := by
    obtain ⟨R', q1, q2⟩ := RSt.brk s.1 s.2.1
    rw [q1]
    exact ⟨_, R', rfl, fun z => absurd z (by simp), fun _ => q2⟩
  by_cases hl : zix (ch tx sz k) < 0
  · rw [if_pos hl, if_pos rfl]
    by_cases h3 : ch tx sz k = 40
    · rw [if_pos h3]
      have hnd : ¬ (¬ ch tx sz k < 48 ∧ ¬ 57 < ch tx sz k) := by
        rw [h3]
        decide
      have hlt : k < sz := ch_lt (fun z => absurd (h3.symm.trans z) (by decide))
      cases lv with
      | zero =>
        rw [if_pos (h5.mpr rfl), hUnit, if_neg hnd, if_neg (fun z => z hl)]
        exact bad
      | succ lv =>
        rw [if_neg (fun z => by have := h5.mp z; omega), hUnit, if_neg hnd, if_neg (fun z => z hl), if_pos h3]
        simp only [zlt]
        exact r_br t (hSum_good (hUnit_good lv)) (hk lv rfl) s.step.down hlt
    · rw [if_neg h3]
      show ∃ v' R', g_X10_unit_210 kp (3999 + 1) 0 0 0 R = some (v', R') ∧ _
      rw [g_X10_unit_210, if_neg (by decide)]
      simp only [r_sign t s hks, Option.bind_some, g_X10_unit_262, if_true, zlt]
      by_cases h1 : ch tx sz k < 48
      · rw [if_pos h1]
        have hnd : ¬ (¬ ch tx sz k < 48 ∧ ¬ 57 < ch tx sz k) := fun z => z.1 h1
        have e : hUnit tx sz lv k = (false, k, []) := by
          cases lv
          · rw [hUnit, if_neg hnd, if_neg (fun z => z hl)]
          · rw [hUnit, if_neg hnd, if_neg (fun z => z hl), if_neg h3]
        rw [e]
        exact bad
      · rw [if_neg h1]
        by_cases h2 : 57 < ch tx sz k
        · rw [if_pos h2]
          have hnd : ¬ (¬ ch tx sz k < 48 ∧ ¬ 57 < ch tx sz k) := fun z => z.2 h2
          have e : hUnit tx sz lv k = (false, k, []) := by
            cases lv
            · rw [hUnit, if_neg hnd, if_neg (fun z => z hl)]
            · rw [hUnit, if_neg hnd, if_neg (fun z => z hl), if_neg h3]
          rw [e]
          exact bad
        · rw [if_neg h2, dig_3]
          have hlt : k < sz := ch_lt (fun z => h1 (by rw [z]; decide))
          obtain ⟨R', q1, q2⟩ := r_num (kp := kp) t 4 3999 (k + 1) (0 * 10 + (ch tx sz k - 48)) _ (by decide) (by decide) s.step hlt
          have e0 : hNum tx sz 5 k 0 = hNum tx sz 4 (k + 1) (0 * 10 + (ch tx sz k - 48)) := by rw [hNum, if_neg h1, if_neg h2]
          have e : hUnit tx sz lv k = (true, (hNum tx sz 5 k 0).2, [(hNum tx sz 5 k 0).1]) := by
            cases lv <;> rw [hUnit, if_pos ⟨h1, h2⟩]
          obtain ⟨q, hq, eq⟩ := hNum_b (tx := tx) (sz := sz) 5 k 0 (by decide)
          rw [e]
          refine ⟨_, R', q1, fun _ => ⟨by rw [e0]; exact q2, fun st => ?_⟩, fun z => absurd rfl z⟩
          rw [← e0]
          show rn _ [(hNum tx sz 5 k (nI 0)).1] st = (hNum tx sz 5 k (nI 0)).1.toInt64 :: st
          rw [eq]
          exact rn_num hq _ st
  · obtain ⟨z1, z2, z3, z4, z5⟩ := zix_ch hl
    rw [if_neg hl, if_neg (by decide)]
    have e : hUnit tx sz lv k = (true, k + 1, [100000 + zix (ch tx sz k)]) := by
      cases lv <;> rw [hUnit, if_neg z5, if_pos hl]
    have t1 := s.step.1.td t
    simp only [zlt, t1.2.2.1, t1.2.2.2.1, Option.bind_some, zgd, z2, if_true]
    rw [e]
    refine ⟨_, _, rfl, fun _ => ⟨s.step, fun st => ?_⟩, fun z => absurd rfl z⟩
    show rn _ [100000 + zix (ch tx sz k)] st = _
    have z6 := zib_ex z3
    rw [← nI_rd z6.2, zix_10 _ z6.1]
    unfold Lr
    rw [z1, s.step.1.1 158 0 _ (by simp)]
/-- all of it, by brackets left -/
theorem r_all (t : TD R0 tx sz) : ∀ lv dp n, dp + lv = 5 → 3 * lv + 3 ≤ n → RFo R0 sz dp (f_X10_par n 0 0) (hSum tx sz (hUnit tx sz lv)) := by
  intro lv
  induction lv with
  | zero =>
    intro dp n hd hn
    obtain ⟨n, rfl⟩ : ∃ m, n = m + 1 + 1 + 1 := ⟨n - 3, by omega⟩
    have u : RFo R0 sz dp (f_X10_par (n + 1) 2 0) (hUnit tx sz 0) := r_unit (kp := f_X10_par n) t hd (fun lv' z => by omega)
    have m : RFo R0 sz dp (f_X10_par (n + 1 + 1) 1 0) (hTerm tx sz (hUnit tx sz 0)) := r_term (kp := f_X10_par (n + 1)) t (hUnit_good 0) u
    exact r_sum (kp := f_X10_par (n + 1 + 1)) t (hBin_good (hUnit_good 0) (by decide) (by decide)) m
  | succ lv ih =>
    intro dp n hd hn
    obtain ⟨n, rfl⟩ : ∃ m, n = m + 1 + 1 + 1 := ⟨n - 3, by omega⟩
    have u : RFo R0 sz dp (f_X10_par (n + 1) 2 0) (hUnit tx sz (lv + 1)) := r_unit (kp := f_X10_par n) t hd (fun lv' z => by
      have : lv' = lv := by omega
      subst this
      exact ih (dp + 1) n (by omega) (by omega))
    have m : RFo R0 sz dp (f_X10_par (n + 1 + 1) 1 0) (hTerm tx sz (hUnit tx sz (lv + 1))) := r_term (kp := f_X10_par (n + 1)) t (hUnit_good (lv + 1)) u
    exact r_sum (kp := f_X10_par (n + 1 + 1)) t (hBin_good (hUnit_good (lv + 1)) (by decide) (by decide)) m
end ZRU
