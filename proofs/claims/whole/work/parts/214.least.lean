/-! ===== the least number a day ===== -/
theorem nJ_div {a b : Nat} (ha : a < 2 ^ 31) (hb : b < 2 ^ 31) (h0 : 0 < b) : nI a / nI b = nI (a / b) := by
  apply Int32.toInt_inj.mp
  have h1 : a / b ≤ a := Nat.div_le_self _ _
  rw [Int32.toInt_div_of_ne_right _ _ (fun z => nI_pos hb (by rw [z]; decide)), nI_toInt ha, nI_toInt hb, nI_toInt (by omega), Int.ofNat_tdiv]
theorem ceil_le {s m cap : Nat} (hm : 0 < m) : (s + m - 1) / m ≤ cap ↔ s ≤ cap * m := by
  rw [← Nat.lt_succ_iff, Nat.div_lt_iff_lt_mul hm, Nat.succ_eq_add_one, Nat.add_mul, Nat.one_mul]
  omega
theorem sm_le (c : Nat → Nat) (M a : Nat) (h : ∀ k, c k ≤ M) : ∀ b, sm c a b ≤ M * (b - a)
  | 0 => by simp [sm]
  | b + 1 => by
    rw [sm]
    split
    · have h1 := sm_le c M a h b
      have h2 := h b
      rw [show b + 1 - a = (b - a) + 1 by omega, Nat.mul_add, Nat.mul_one]
      omega
    · omega
section ZU
variable {C R : zH}
theorem l_lst (I : Inv C R) (k4 : Nat → Int32 → Int32 → zH → Option Int32) (a : Nat) : ∀ n b l f, a ≤ b → b + n = (zI R 40 0 56).toNatClampNeg → l ≤ 2000 → n < f → ∃ l', l' ≤ 2000 ∧ f_X10_least_17 k4 f 0 (nI l) (nI a) (nI (sm (cmN R) a b)) (nI b) R = k4 0 (nI l') (nI (a + 1)) R ∧ ∀ cap, l' ≤ cap ↔ (l ≤ cap ∧ ∀ b', b ≤ b' → b' < (zI R 40 0 56).toNatClampNeg → sm (cmN R) a (b' + 1) ≤ cap * (b' + 3 - a)) := by
  have hr := J_kr I
  unfold KR at hr
  obtain ⟨r1, r2, r3⟩ := J_sur I
  have q := zib_ex r2
  have e := nI_rd q.2
  intro n
  induction n with
  | zero =>
    intro b l f hab h hl hf
    obtain ⟨f, rfl⟩ : ∃ f', f = f' + 1 := ⟨f - 1, by omega⟩
    have hle : zI R 40 0 56 ≤ nI b := by
      rw [← e]
      exact (nJ_le rd_lt (by omega)).mpr (by omega)
    rw [f_X10_least_17, if_pos hle, ← nI_succ]
    exact ⟨l, hl, rfl, fun cap => ⟨fun z => ⟨z, fun b' h1 h2 => by omega⟩, fun z => z.1⟩⟩
  | succ n ih =>
    intro b l f hab h hl hf
    obtain ⟨f, rfl⟩ : ∃ f', f = f' + 1 := ⟨f - 1, by omega⟩
    have hle : ¬ zI R 40 0 56 ≤ nI b := by
      rw [← e]
      exact fun z => by have := (nJ_le rd_lt (by omega)).mp z; omega
    have hb : b < (zI R 40 0 56).toNatClampNeg := by omega
    have hv : zI R 145 0 b = nI (cmN R b) := by
      unfold cmN
      rw [if_pos hb, nI_rd (zib_ex (r3 b hb).2).2]
    have hs := sm_le (cmN R) 127 a (cmN_le I) b
    have hc := cmN_le I b
    have hs1 : sm (cmN R) a (b + 1) = sm (cmN R) a b + cmN R b := by rw [sm, if_pos hab]
    have hsl : sm (cmN R) a (b + 1) ≤ 127 * 10 := by
      have := sm_le (cmN R) 127 a (cmN_le I) (b + 1)
      have : 127 * (b + 1 - a) ≤ 127 * 10 := Nat.mul_le_mul_left _ (by omega)
      omega
    have hd : nI b - nI a + 3 = nI (b + 3 - a) := by
      rw [nJ_sub hab, show (3 : Int32) = nI 3 from rfl, nJ_add]
      congr 1
      omega
    have hd0 : ¬ nI (b + 3 - a) = 0 := nI_ne0 (by omega) (by omega)
    have hq : (nI (sm (cmN R) a (b + 1) + (b + 3 - a)) - 1) / nI (b + 3 - a) = nI ((sm (cmN R) a (b + 1) + (b + 3 - a) - 1) / (b + 3 - a)) := by
      rw [show (1 : Int32) = nI 1 from rfl, nJ_sub (by omega), nJ_div (by omega) (by omega) (by omega)]
    have hql : (sm (cmN R) a (b + 1) + (b + 3 - a) - 1) / (b + 3 - a) ≤ 2000 := by
      have := Nat.div_le_self (sm (cmN R) a (b + 1) + (b + 3 - a) - 1) (b + 3 - a)
      omega
    have hce := fun cap => ceil_le (s := sm (cmN R) a (b + 1)) (m := b + 3 - a) (cap := cap) (by omega)
    rw [f_X10_least_17]
    simp only [hle, if_false, hr, Option.bind_some, zgd, zib_nI (show b < 9 by omega) (by decide), if_true, nI_clamp (show b < 2 ^ 31 by omega), hv, hd, hd0, decide_false, Bool.not_false, hq, ← nI_succ, nJ_add, ← hs1]
    generalize (sm (cmN R) a (b + 1) + (b + 3 - a) - 1) / (b + 3 - a) = Q at *
    by_cases hQ : Q ≤ l
    · rw [if_pos ((nJ_le (by omega) (by omega)).mpr hQ)]
      obtain ⟨l', h1, h2, h3⟩ := ih (b + 1) l f (by omega) (by omega) hl (by omega)
      refine ⟨l', h1, h2, fun cap => ?_⟩
      rw [h3 cap]
      constructor
      · rintro ⟨z1, z2⟩
        refine ⟨z1, fun b' g1 g2 => ?_⟩
        by_cases eb : b' = b
        · rw [eb]
          exact (hce cap).mp (by omega)
        · exact z2 b' (by omega) g2
      · rintro ⟨z1, z2⟩
        exact ⟨z1, fun b' g1 g2 => z2 b' (by omega) g2⟩
    · rw [if_neg (fun z => hQ ((nJ_le (by omega) (by omega)).mp z))]
      obtain ⟨l', h1, h2, h3⟩ := ih (b + 1) Q f (by omega) (by omega) hql (by omega)
      refine ⟨l', h1, h2, fun cap => ?_⟩
      rw [h3 cap]
      constructor
      · rintro ⟨z1, z2⟩
        refine ⟨by omega, fun b' g1 g2 => ?_⟩
        by_cases eb : b' = b
        · rw [eb]
          exact (hce cap).mp z1
        · exact z2 b' (by omega) g2
      · rintro ⟨z1, z2⟩
        exact ⟨(hce cap).mpr (z2 b (Nat.le_refl _) hb), fun b' g1 g2 => z2 b' (by omega) g2⟩
theorem l_lst4 (I : Inv C R) : ∀ n a l f, a + n = (zI R 40 0 56).toNatClampNeg → l ≤ 2000 → n < f → ∃ L, L ≤ 2000 ∧ f_X10_least_4 f 0 (nI l) (nI a) R = some (nI L) ∧ ∀ cap, L ≤ cap ↔ (l ≤ cap ∧ ∀ a' b', a ≤ a' → a' ≤ b' → b' < (zI R 40 0 56).toNatClampNeg → sm (cmN R) a' (b' + 1) ≤ cap * (b' + 3 - a')) := by
  obtain ⟨r1, r2, r3⟩ := J_sur I
  have q := zib_ex r2
  have e := nI_rd q.2
  intro n
  induction n with
  | zero =>
    intro a l f h hl hf
    obtain ⟨f, rfl⟩ : ∃ f', f = f' + 1 := ⟨f - 1, by omega⟩
    have hle : zI R 40 0 56 ≤ nI a := by
      rw [← e]
      exact (nJ_le rd_lt (by omega)).mpr (by omega)
    rw [f_X10_least_4, if_pos hle]
    exact ⟨l, hl, rfl, fun cap => ⟨fun z => ⟨z, fun a' b' h1 h2 h3 => by omega⟩, fun z => z.1⟩⟩
  | succ n ih =>
    intro a l f h hl hf
    obtain ⟨f, rfl⟩ : ∃ f', f = f' + 1 := ⟨f - 1, by omega⟩
    have hle : ¬ zI R 40 0 56 ≤ nI a := by
      rw [← e]
      exact fun z => by have := (nJ_le rd_lt (by omega)).mp z; omega
    rw [f_X10_least_4, if_neg hle]
    have hsm : sm (cmN R) a a = 0 := by
      cases a with
      | zero => rfl
      | succ k => rw [sm, if_neg (by omega)]
    obtain ⟨l', h1, h2, h3⟩ := l_lst I (f_X10_least_4 f) a (n + 1) a l fu (Nat.le_refl _) h hl (by unfold fu; omega)
    rw [hsm] at h2
    rw [show f_X10_least_17 (f_X10_least_4 f) fu 0 (nI l) (nI a) 0 (nI a) R = _ from h2]
    obtain ⟨L, g1, g2, g3⟩ := ih (a + 1) l' f (by omega) h1 (by omega)
    refine ⟨L, g1, g2, fun cap => ?_⟩
    rw [g3 cap, h3 cap]
    constructor
    · rintro ⟨⟨z1, z2⟩, z3⟩
      refine ⟨z1, fun a' b' y1 y2 y3 => ?_⟩
      by_cases ea : a' = a
      · subst ea
        exact z2 b' y2 y3
      · exact z3 a' b' (by omega) y2 y3
    · rintro ⟨z1, z2⟩
      exact ⟨⟨z1, fun b' y1 y2 => z2 a b' (Nat.le_refl _) y1 y2⟩, fun a' b' y1 y2 y3 => z2 a' b' (by omega) y2 y3⟩
theorem l_lcap (I : Inv C R) {L : Nat} (hL : L ≤ 127) (H : ∀ cap, L ≤ cap ↔ fdl (cmN R) cap 0 ((zI R 40 0 56).toNatClampNeg + 2) = -9) : ∀ n cap f, cap + n = 127 → cap ≤ L → n < f → f_X7_leastCap_2 f 0 (nI cap) C = some (nI L) := by
  obtain ⟨r1, r2, r3⟩ := J_sur I
  have q := zib_ex r2
  intro n
  induction n with
  | zero =>
    intro cap f h hc hf
    obtain ⟨f, rfl⟩ : ∃ f', f = f' + 1 := ⟨f - 1, by omega⟩
    have : cap = 127 := by omega
    subst this
    have : L = 127 := by omega
    subst this
    rw [f_X7_leastCap_2, if_pos (by decide)]
    rfl
  | succ n ih =>
    intro cap f h hc hf
    obtain ⟨f, rfl⟩ : ∃ f', f = f' + 1 := ⟨f - 1, by omega⟩
    have hle : ¬ (127 : Int32) ≤ nI cap := fun z => by have := (nJ_le (a := 127) (by decide) (by omega)).mp z; omega
    rw [f_X7_leastCap_2, if_neg hle]
    have h1 : f_X7_firstDayTooLate 0 (nI cap) C = some (fdl (cmN R) cap 0 ((zI R 40 0 56).toNatClampNeg + 2)) := l_fdt I (show cap < 1000 by omega) _ 0 fu (by omega) (by unfold fu; omega)
    rw [h1, Option.bind_some]
    by_cases e : fdl (cmN R) cap 0 ((zI R 40 0 56).toNatClampNeg + 2) = -9
    · rw [if_pos e]
      have := (H cap).mpr e
      have : cap = L := by omega
      rw [this]
    · rw [if_neg e, ← nI_succ]
      refine ih (cap + 1) f (by omega) ?_ (by omega)
      refine Nat.not_lt.mp fun z => e ((H cap).mp (by omega))
theorem t_least (I : Inv C R) : TR (f_X9_least 0 C) (f_X10_least 0 R) := by
  have hk := J_kc I
  unfold KC at hk
  obtain ⟨r1, r2, r3⟩ := J_sur I
  have q := zib_ex r2
  obtain ⟨L, h1, h2, h3⟩ := l_lst4 I (zI R 40 0 56).toNatClampNeg 0 0 fu (by omega) (by omega) (by unfold fu; omega)
  have H : ∀ cap, L ≤ cap ↔ fdl (cmN R) cap 0 ((zI R 40 0 56).toNatClampNeg + 2) = -9 := by
    intro cap
    rw [h3 cap, fdl_ok (cmN R) cap _ (by omega)]
    constructor
    · rintro ⟨-, z⟩ a b y1 y2
      exact z a b (Nat.zero_le _) y1 y2
    · intro z
      exact ⟨Nat.zero_le _, fun a b _ y2 y3 => z a b y2 y3⟩
  have hL : L ≤ 127 := by
    rw [h3 127]
    refine ⟨Nat.zero_le _, fun a b _ y2 y3 => ?_⟩
    have := sm_le (cmN R) 127 a (cmN_le I) (b + 1)
    have : 127 * (b + 1 - a) ≤ 127 * (b + 3 - a) := Nat.mul_le_mul_left _ (by omega)
    omega
  have h4 := l_lcap I hL H 127 0 fu (by omega) (Nat.zero_le _) (by unfold fu; omega)
  unfold f_X9_least f_X7_leastCap
  simp only [hk, Option.bind_some]
  rw [show f_X7_leastCap_2 fu 0 0 C = some (nI L) from h4]
  exact ⟨nI L, rfl, h2⟩
end ZU
