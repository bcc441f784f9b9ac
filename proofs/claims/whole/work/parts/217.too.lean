/-! ===== tooLate ===== -/
section ZV
variable {c : Nat → Nat} {cap s d : Nat} {R0 : zH} (k32 : Nat → Int32 → Int32 → Int32 → zH → Option (Int32 × zH))
/-- a day's work: the oldest first -/
theorem l_tl46 (hr : KR R0) (hs : s ≤ 9) (hd : d < s + 2) (hcap : cap < 1000) (hc : ∀ k, c k ≤ 127) (hc0 : ∀ k, s ≤ k → c k = 0) : ∀ n a x f R', a + n = min (d + 1) s → x ≤ cap → FS R0 R' → (∀ j, j < s → j < a → zI R' 145 0 j = nI (rem' c (dn c cap d + cap - x) j)) → (∀ j, j < s → a ≤ j → zI R' 145 0 j = nI (rem' c (dn c cap d) j)) →
    ((x = 0 ∧ dn c cap d + cap ≤ sm c 0 a) ∨ dn c cap d + cap - x = max (dn c cap d) (sm c 0 a)) → n < f → ∃ R2, f_X10_tooLate_46 k32 f 0 (nI cap) (nI s) (nI d) (nI x) (nI a) R' = f_X10_tooLate_113 k32 fu 0 (nI cap) (nI s) (nI d) 0 R2 ∧ FS R0 R2 ∧ ∀ j, j < s → zI R2 145 0 j = nI (rem' c (dn c cap (d + 1)) j) := by
  have hD := dn_le c cap d
  intro n
  induction n with
  | zero =>
    intro a x f R' ha hx hF h1 h2 hm hf
    obtain ⟨f, rfl⟩ : ∃ f', f = f' + 1 := ⟨f - 1, by omega⟩
    have hgo : f_X10_tooLate_46 k32 (f + 1) 0 (nI cap) (nI s) (nI d) (nI x) (nI a) R' = f_X10_tooLate_113 k32 fu 0 (nI cap) (nI s) (nI d) 0 R' := by
      rw [f_X10_tooLate_46]
      by_cases e : d < a
      · rw [if_pos ((nJ_lt (by omega) (by omega)).mpr e)]
      · rw [if_neg (fun z => e ((nJ_lt (by omega) (by omega)).mp z)), if_pos ((nJ_le (by omega) (by omega)).mpr (by omega))]
    have hT : sm c 0 a = sm c 0 (d + 1) := by
      by_cases e : d + 1 ≤ s
      · have : a = d + 1 := by omega
        rw [this]
      · have ea : a = s := by omega
        have key : ∀ k, s ≤ k → sm c 0 k = sm c 0 s := by
          intro k
          induction k with
          | zero =>
            intro z
            have : s = 0 := by omega
            rw [this]
          | succ k ih =>
            intro z
            by_cases y : s = k + 1
            · rw [y]
            · rw [sm0, hc0 k (by omega), Nat.add_zero]
              exact ih (by omega)
        rw [ea, key (d + 1) (by omega)]
    have hm1 : sm c 0 d ≤ sm c 0 (d + 1) := sm0_mono c (by omega)
    have hDn : dn c cap d + cap - x = dn c cap (d + 1) := by
      rw [dn]
      rw [hT] at hm
      omega
    refine ⟨R', hgo, hF, fun j hj => ?_⟩
    by_cases e : j < a
    · rw [h1 j hj e, hDn]
    · have hj2 : sm c 0 (d + 1) ≤ sm c 0 j := by
        rw [← hT]
        exact sm0_mono c (by omega)
      rw [h2 j hj (by omega), rem_hi c (by omega), rem_hi c (Nat.le_trans (dn_le c cap (d + 1)) hj2)]
  | succ n ih =>
    intro a x f R' ha hx hF h1 h2 hm hf
    obtain ⟨f, rfl⟩ : ∃ f', f = f' + 1 := ⟨f - 1, by omega⟩
    have has : a < s := by omega
    have e1 : ¬ nI d < nI a := fun z => by have := (nJ_lt (by omega) (by omega)).mp z; omega
    have e2 : ¬ nI s ≤ nI a := fun z => by have := (nJ_le (by omega) (by omega)).mp z; omega
    have hkr := hF.kr hr
    unfold KR at hkr
    have hv := h2 a has (Nat.le_refl _)
    have hca := hc a
    have hrl : rem' c (dn c cap d) a ≤ 127 := by unfold rem'; omega
    have hTa := sm0 c a
    have step : ∀ t, t ≤ x → t = min (rem' c (dn c cap d) a) x → ∃ R2, f_X10_tooLate_83 k32 (f_X10_tooLate_46 k32 f) 0 (nI cap) (nI s) (nI d) (nI x) (nI a) (nI t) R' = f_X10_tooLate_113 k32 fu 0 (nI cap) (nI s) (nI d) 0 R2 ∧ FS R0 R2 ∧ ∀ j, j < s → zI R2 145 0 j = nI (rem' c (dn c cap (d + 1)) j) := by
      intro t ht hte
      unfold f_X10_tooLate_83
      simp only [hkr, Option.bind_some, zgd, zib_nI (show a < 9 by omega) (by decide), if_true, zlt, nI_clamp (show a < 2 ^ 31 by omega), hv, ← nI_succ, nJ_sub ht, nJ_sub (show t ≤ rem' c (dn c cap d) a by omega)]
      have hrr : rem' c (dn c cap d) a = min (c a) (sm c 0 (a + 1) - dn c cap d) := rfl
      refine ih (a + 1) (x - t) f _ (by omega) (by omega) (hF.set _ _) ?_ ?_ ?_ (by omega)
      · intro j hj hja
        rw [wI_sI]
        by_cases e : j = a
        · rw [if_pos ⟨rfl, rfl, e⟩, e]
          congr 1
          unfold rem'
          omega
        · rw [if_neg (fun z => e z.2.2), h1 j hj (by omega)]
          congr 1
          have hj1 : sm c 0 (j + 1) ≤ sm c 0 a := sm0_mono c (by omega)
          unfold rem'
          omega
      · intro j hj hja
        rw [wI_sI, if_neg (fun z => by have := z.2.2; omega)]
        exact h2 j hj (by omega)
      · omega
    rw [f_X10_tooLate_46, if_neg e1, if_neg e2]
    simp only [hkr, Option.bind_some, zgd, zib_nI (show a < 9 by omega) (by decide), if_true, nI_clamp (show a < 2 ^ 31 by omega), hv]
    by_cases e : x ≤ rem' c (dn c cap d) a
    · rw [if_pos ((nJ_le (by omega) (by omega)).mpr e)]
      exact step x (Nat.le_refl _) (by omega)
    · rw [if_neg (fun z => e ((nJ_le (by omega) (by omega)).mp z))]
      exact step _ (by omega) (by omega)
/-- is anyone left of those who came two days before, or earlier? -/
theorem l_tl113 (hr : KR R0) (hs : s ≤ 9) (hd : d < s + 2) (hcap : cap < 1000) (hc : ∀ k, c k ≤ 127) (hc0 : ∀ k, s ≤ k → c k = 0) {D : Nat} {R2 : zH} (hF : FS R0 R2) (h2 : ∀ j, j < s → zI R2 145 0 j = nI (rem' c D j)) : ∀ n a f, a + n = s → n < f → ((∃ j, a ≤ j ∧ j + 2 ≤ d ∧ 0 < rem' c D j) → f_X10_tooLate_113 k32 f 0 (nI cap) (nI s) (nI d) (nI a) R2 = some (nI d, R2)) ∧ ((¬ ∃ j, a ≤ j ∧ j + 2 ≤ d ∧ 0 < rem' c D j) → f_X10_tooLate_113 k32 f 0 (nI cap) (nI s) (nI d) (nI a) R2 = k32 0 (nI cap) (nI s) (nI (d + 1)) R2) := by
  have hkr := hF.kr hr
  unfold KR at hkr
  have hlt : ∀ a, a < 100 → ((nI d - 2 < nI a) ↔ d < a + 2) := by
    intro a ha
    rw [Int32.lt_iff_toInt_lt, show (2 : Int32) = nI 2 from rfl, tI_sub (by omega) (by omega), nI_toInt (by omega)]
    omega
  intro n
  induction n with
  | zero =>
    intro a f h hf
    obtain ⟨f, rfl⟩ : ∃ f', f = f' + 1 := ⟨f - 1, by omega⟩
    refine ⟨fun ⟨j, j1, j2, j3⟩ => ?_, fun _ => ?_⟩
    · exfalso
      unfold rem' at j3
      rw [hc0 j (by omega)] at j3
      omega
    · rw [f_X10_tooLate_113, ← nI_succ]
      split
      · rfl
      · rw [if_pos ((nJ_le (by omega) (by omega)).mpr (by omega))]
  | succ n ih =>
    intro a f h hf
    obtain ⟨f, rfl⟩ : ∃ f', f = f' + 1 := ⟨f - 1, by omega⟩
    have hrl : rem' c D a ≤ 127 := by have := hc a; unfold rem'; omega
    by_cases e : d < a + 2
    · refine ⟨fun ⟨j, j1, j2, j3⟩ => by omega, fun _ => ?_⟩
      rw [f_X10_tooLate_113, if_pos ((hlt a (by omega)).mpr e), ← nI_succ]
    · have e2 : ¬ nI s ≤ nI a := fun z => by have := (nJ_le (by omega) (by omega)).mp z; omega
      rw [f_X10_tooLate_113, if_neg (fun z => e ((hlt a (by omega)).mp z)), if_neg e2]
      simp only [hkr, Option.bind_some, zgd, zib_nI (show a < 9 by omega) (by decide), if_true, nI_clamp (show a < 2 ^ 31 by omega), h2 a (by omega), ← nI_succ]
      obtain ⟨i1, i2⟩ := ih (a + 1) f (by omega) (by omega)
      by_cases e3 : 0 < rem' c D a
      · rw [if_neg (fun z => by have := (nJ_le (b := 0) (by omega) (by omega)).mp z; omega)]
        exact ⟨fun _ => rfl, fun z => absurd ⟨a, Nat.le_refl _, by omega, e3⟩ z⟩
      · rw [if_pos (show nI (rem' c D a) ≤ 0 from (nJ_le (b := 0) (by omega) (by omega)).mpr (by omega))]
        refine ⟨fun ⟨j, j1, j2, j3⟩ => i1 ⟨j, ?_, j2, j3⟩, fun z => i2 fun ⟨j, j1, j2, j3⟩ => z ⟨j, by omega, j2, j3⟩⟩
        have : ¬ j = a := fun q => e3 (q ▸ j3)
        omega
end ZV
theorem l_tl32 {c : Nat → Nat} {cap s : Nat} {R0 : zH} (hr : KR R0) (hs : s ≤ 9) (hcap : cap < 1000) (hc : ∀ k, c k ≤ 127) (hc0 : ∀ k, s ≤ k → c k = 0) : ∀ n d f R', d + n = s + 2 → FS R0 R' → (∀ j, j < s → zI R' 145 0 j = nI (rem' c (dn c cap d) j)) → n < f → ∃ R2, f_X10_tooLate_32 f 0 (nI cap) (nI s) (nI d) R' = some (fdl c cap d n, R2) ∧ FS R0 R2 := by
  intro n
  induction n with
  | zero =>
    intro d f R' h hF h1 hf
    obtain ⟨f, rfl⟩ : ∃ f', f = f' + 1 := ⟨f - 1, by omega⟩
    rw [f_X10_tooLate_32, show nI s + 2 = nI (s + 2) from nJ_add s 2, if_pos ((nJ_le (by omega) (by omega)).mpr (by omega))]
    exact ⟨R', rfl, hF⟩
  | succ n ih =>
    intro d f R' h hF h1 hf
    obtain ⟨f, rfl⟩ : ∃ f', f = f' + 1 := ⟨f - 1, by omega⟩
    rw [f_X10_tooLate_32, show nI s + 2 = nI (s + 2) from nJ_add s 2, if_neg (fun z => by have := (nJ_le (by omega) (by omega)).mp z; omega)]
    obtain ⟨R2, g1, g2, g3⟩ := l_tl46 (f_X10_tooLate_32 f) hr hs (show d < s + 2 by omega) hcap hc hc0 (min (d + 1) s) 0 cap fu R' (by omega) (Nat.le_refl _) hF (fun j _ hj => by omega) (fun j hj _ => h1 j hj) (Or.inr (by show dn c cap d + cap - cap = max (dn c cap d) 0; omega)) (by unfold fu; omega)
    rw [show f_X10_tooLate_46 (f_X10_tooLate_32 f) fu 0 (nI cap) (nI s) (nI d) (nI cap) 0 R' = _ from g1]
    obtain ⟨t1, t2⟩ := l_tl113 (f_X10_tooLate_32 f) hr hs (show d < s + 2 by omega) hcap hc hc0 g2 g3 s 0 fu (by omega) (by unfold fu; omega)
    have hz : (∃ j, 0 ≤ j ∧ j + 2 ≤ d ∧ 0 < rem' c (dn c cap (d + 1)) j) ↔ c d + cp c d < wq c cap (d + 1) := by
      rw [rem_late]
      exact ⟨fun ⟨j, _, q⟩ => ⟨j, q⟩, fun ⟨j, q⟩ => ⟨j, Nat.zero_le _, q⟩⟩
    rw [hz] at t1 t2
    rw [fdl]
    by_cases e : c d + cp c d < wq c cap (d + 1)
    · rw [if_pos e]
      exact ⟨R2, t1 e, g2⟩
    · rw [if_neg e, show f_X10_tooLate_113 (f_X10_tooLate_32 f) fu 0 (nI cap) (nI s) (nI d) 0 R2 = _ from t2 e]
      exact ih (d + 1) f R2 (by omega) g2 g3 (by omega)
section ZVT
variable {C R : zH}
theorem t_tooLate (I : Inv C R) (x1 : Int32) : TT (f_X9_tooLate 0 x1 C) (f_X10_tooLate 0 x1 R) := by
  have hk := J_kc I
  unfold KC at hk
  obtain ⟨r1, r2, r3⟩ := J_sur I
  have q := zib_ex r2
  have e := nI_rd q.2
  unfold f_X9_tooLate f_X10_tooLate
  rw [e_out, e_wit, Option.bind_some, Option.bind_some]
  by_cases h : ow x1 0 999 = 0
  · have hin := ow_in h
    have h0 := Int32.not_lt.mpr hin.1
    have hx := nI_rd h0
    have hl : x1.toNatClampNeg < 1000 := by
      have := rd_le h0 hin.2
      have : (999 : Int32).toNatClampNeg = 999 := by decide
      omega
    generalize x1.toNatClampNeg = cap at hx hl
    subst hx
    have hc0 : ∀ k, (zI R 40 0 56).toNatClampNeg ≤ k → cmN R k = 0 := fun k hk => by
      unfold cmN
      rw [if_neg (by omega)]
    have I0 : Inv (zsI C 9 0 1 0) (zsI R 40 0 56 0) := Inv_mk (by first | exact (J_kc I :) | simpa [KC, KR, LO, zN_sI, zN_sJ, zN_sR, zL_sI, zL_sJ, zL_sR, zI_sI, zI_sJ, zI_sR, zJ_sI, zJ_sJ, zJ_sR, zR_sI, zR_sJ, zR_sR] using (J_kc I :)) (by first | exact (J_kr I :) | simpa [KC, KR, LO, zN_sI, zN_sJ, zN_sR, zL_sI, zL_sJ, zL_sR, zI_sI, zI_sJ, zI_sR, zJ_sI, zJ_sJ, zJ_sR, zR_sI, zR_sJ, zR_sR] using (J_kr I :)) (by first | exact (J_cnt I :) | simpa [KC, KR, LO, zN_sI, zN_sJ, zN_sR, zL_sI, zL_sJ, zL_sR, zI_sI, zI_sJ, zI_sR, zJ_sI, zJ_sJ, zJ_sR, zR_sI, zR_sJ, zR_sR] using (J_cnt I :)) (by first | exact (J_mx I :) | simpa [KC, KR, LO, zN_sI, zN_sJ, zN_sR, zL_sI, zL_sJ, zL_sR, zI_sI, zI_sJ, zI_sR, zJ_sI, zJ_sJ, zJ_sR, zR_sI, zR_sJ, zR_sR] using (J_mx I :)) (by first | exact (J_la I :) | simpa [KC, KR, LO, zN_sI, zN_sJ, zN_sR, zL_sI, zL_sJ, zL_sR, zI_sI, zI_sJ, zI_sR, zJ_sI, zJ_sJ, zJ_sR, zR_sI, zR_sJ, zR_sR] using (J_la I :)) (by first | exact (J_ll I :) | simpa [KC, KR, LO, zN_sI, zN_sJ, zN_sR, zL_sI, zL_sJ, zL_sR, zI_sI, zI_sJ, zI_sR, zJ_sI, zJ_sJ, zJ_sR, zR_sI, zR_sJ, zR_sR] using (J_ll I :)) (by first | exact (J_lm I :) | simpa [KC, KR, LO, zN_sI, zN_sJ, zN_sR, zL_sI, zL_sJ, zL_sR, zI_sI, zI_sJ, zI_sR, zJ_sI, zJ_sJ, zJ_sR, zR_sI, zR_sJ, zR_sR] using (J_lm I :)) (by first | exact (J_lr I :) | simpa [KC, KR, LO, zN_sI, zN_sJ, zN_sR, zL_sI, zL_sJ, zL_sR, zI_sI, zI_sJ, zI_sR, zJ_sI, zJ_sJ, zJ_sR, zR_sI, zR_sJ, zR_sR] using (J_lr I :)) (by first | exact (J_al I :) | simpa [KC, KR, LO, zN_sI, zN_sJ, zN_sR, zL_sI, zL_sJ, zL_sR, zI_sI, zI_sJ, zI_sR, zJ_sI, zJ_sJ, zJ_sR, zR_sI, zR_sJ, zR_sR] using (J_al I :)) (by first | exact (J_bno I :) | simpa [KC, KR, LO, zN_sI, zN_sJ, zN_sR, zL_sI, zL_sJ, zL_sR, zI_sI, zI_sJ, zI_sR, zJ_sI, zJ_sJ, zJ_sR, zR_sI, zR_sJ, zR_sR] using (J_bno I :)) (by first | exact (J_bfee I :) | simpa [KC, KR, LO, zN_sI, zN_sJ, zN_sR, zL_sI, zL_sJ, zL_sR, zI_sI, zI_sJ, zI_sR, zJ_sI, zJ_sJ, zJ_sR, zR_sI, zR_sJ, zR_sR] using (J_bfee I :)) (by first | exact (J_bcap I :) | simpa [KC, KR, LO, zN_sI, zN_sJ, zN_sR, zL_sI, zL_sJ, zL_sR, zI_sI, zI_sJ, zI_sR, zJ_sI, zJ_sJ, zJ_sR, zR_sI, zR_sJ, zR_sR] using (J_bcap I :)) (by first | exact (J_bow I :) | simpa [KC, KR, LO, zN_sI, zN_sJ, zN_sR, zL_sI, zL_sJ, zL_sR, zI_sI, zI_sJ, zI_sR, zJ_sI, zJ_sJ, zJ_sR, zR_sI, zR_sJ, zR_sR] using (J_bow I :)) (by first | exact (J_bdid I :) | simpa [KC, KR, LO, zN_sI, zN_sJ, zN_sR, zL_sI, zL_sJ, zL_sR, zI_sI, zI_sJ, zI_sR, zJ_sI, zJ_sJ, zJ_sR, zR_sI, zR_sJ, zR_sR] using (J_bdid I :)) (by first | exact (J_bnet I :) | simpa [KC, KR, LO, zN_sI, zN_sJ, zN_sR, zL_sI, zL_sJ, zL_sR, zI_sI, zI_sJ, zI_sR, zJ_sI, zJ_sJ, zJ_sR, zR_sI, zR_sJ, zR_sR] using (J_bnet I :)) (by first | exact (J_day I :) | simpa [KC, KR, LO, zN_sI, zN_sJ, zN_sR, zL_sI, zL_sJ, zL_sR, zI_sI, zI_sJ, zI_sR, zJ_sI, zJ_sJ, zJ_sR, zR_sI, zR_sJ, zR_sR] using (J_day I :)) (by first | exact (J_ngt I :) | simpa [KC, KR, LO, zN_sI, zN_sJ, zN_sR, zL_sI, zL_sJ, zL_sR, zI_sI, zI_sJ, zI_sR, zJ_sI, zJ_sJ, zJ_sR, zR_sI, zR_sJ, zR_sR] using (J_ngt I :)) (by first | exact (J_due I :) | simpa [KC, KR, LO, zN_sI, zN_sJ, zN_sR, zL_sI, zL_sJ, zL_sR, zI_sI, zI_sJ, zI_sR, zJ_sI, zJ_sJ, zJ_sR, zR_sI, zR_sJ, zR_sR] using (J_due I :)) (by first | exact (J_hol I :) | simpa [KC, KR, LO, zN_sI, zN_sJ, zN_sR, zL_sI, zL_sJ, zL_sR, zI_sI, zI_sJ, zI_sR, zJ_sI, zJ_sJ, zJ_sR, zR_sI, zR_sJ, zR_sR] using (J_hol I :)) (by first | exact (J_lat I :) | simpa [KC, KR, LO, zN_sI, zN_sJ, zN_sR, zL_sI, zL_sJ, zL_sR, zI_sI, zI_sJ, zI_sR, zJ_sI, zJ_sJ, zJ_sR, zR_sI, zR_sJ, zR_sR] using (J_lat I :)) (by first | exact (J_ano I :) | simpa [KC, KR, LO, zN_sI, zN_sJ, zN_sR, zL_sI, zL_sJ, zL_sR, zI_sI, zI_sJ, zI_sR, zJ_sI, zJ_sJ, zJ_sR, zR_sI, zR_sJ, zR_sR] using (J_ano I :)) (by first | exact (J_abk I :) | simpa [KC, KR, LO, zN_sI, zN_sJ, zN_sR, zL_sI, zL_sJ, zL_sR, zI_sI, zI_sJ, zI_sR, zJ_sI, zJ_sJ, zJ_sR, zR_sI, zR_sJ, zR_sR] using (J_abk I :)) (by first | exact (J_anm I :) | simpa [KC, KR, LO, zN_sI, zN_sJ, zN_sR, zL_sI, zL_sJ, zL_sR, zI_sI, zI_sJ, zI_sR, zJ_sI, zJ_sJ, zJ_sR, zR_sI, zR_sJ, zR_sR] using (J_anm I :)) (by first | exact (J_asum I :) | simpa [KC, KR, LO, zN_sI, zN_sJ, zN_sR, zL_sI, zL_sJ, zL_sR, zI_sI, zI_sJ, zI_sR, zJ_sI, zJ_sJ, zJ_sR, zR_sI, zR_sJ, zR_sR] using (J_asum I :)) (by first | exact (J_aov I :) | simpa [KC, KR, LO, zN_sI, zN_sJ, zN_sR, zL_sI, zL_sJ, zL_sR, zI_sI, zI_sJ, zI_sR, zJ_sI, zJ_sJ, zJ_sR, zR_sI, zR_sJ, zR_sR] using (J_aov I :)) (by first | exact (J_ast I :) | simpa [KC, KR, LO, zN_sI, zN_sJ, zN_sR, zL_sI, zL_sJ, zL_sR, zI_sI, zI_sJ, zI_sR, zJ_sI, zJ_sJ, zJ_sR, zR_sI, zR_sJ, zR_sR] using (J_ast I :)) (by first | exact (J_amv I :) | simpa [KC, KR, LO, zN_sI, zN_sJ, zN_sR, zL_sI, zL_sJ, zL_sR, zI_sI, zI_sJ, zI_sR, zJ_sI, zJ_sJ, zJ_sR, zR_sI, zR_sJ, zR_sR] using (J_amv I :)) (by first | exact (J_ano2 I :) | simpa [KC, KR, LO, zN_sI, zN_sJ, zN_sR, zL_sI, zL_sJ, zL_sR, zI_sI, zI_sJ, zI_sR, zJ_sI, zJ_sJ, zJ_sR, zR_sI, zR_sJ, zR_sR] using (J_ano2 I :)) (by first | exact (J_agd I :) | simpa [KC, KR, LO, zN_sI, zN_sJ, zN_sR, zL_sI, zL_sJ, zL_sR, zI_sI, zI_sJ, zI_sR, zJ_sI, zJ_sJ, zJ_sR, zR_sI, zR_sJ, zR_sR] using (J_agd I :)) (by first | exact (J_akp I :) | simpa [KC, KR, LO, zN_sI, zN_sJ, zN_sR, zL_sI, zL_sJ, zL_sR, zI_sI, zI_sJ, zI_sR, zJ_sI, zJ_sJ, zJ_sR, zR_sI, zR_sJ, zR_sR] using (J_akp I :)) (by first | exact (J_ahs I :) | simpa [KC, KR, LO, zN_sI, zN_sJ, zN_sR, zL_sI, zL_sJ, zL_sR, zI_sI, zI_sJ, zI_sR, zJ_sI, zJ_sJ, zJ_sR, zR_sI, zR_sJ, zR_sR] using (J_ahs I :)) (by first | exact (J_afr I :) | simpa [KC, KR, LO, zN_sI, zN_sJ, zN_sR, zL_sI, zL_sJ, zL_sR, zI_sI, zI_sJ, zI_sR, zJ_sI, zJ_sJ, zJ_sR, zR_sI, zR_sJ, zR_sR] using (J_afr I :)) (by first | exact (J_lk I :) | simpa [KC, KR, LO, zN_sI, zN_sJ, zN_sR, zL_sI, zL_sJ, zL_sR, zI_sI, zI_sJ, zI_sR, zJ_sI, zJ_sJ, zJ_sR, zR_sI, zR_sJ, zR_sR] using (J_lk I :)) (by first | exact (J_lft I :) | simpa [KC, KR, LO, zN_sI, zN_sJ, zN_sR, zL_sI, zL_sJ, zL_sR, zI_sI, zI_sJ, zI_sR, zJ_sI, zJ_sJ, zJ_sR, zR_sI, zR_sJ, zR_sR] using (J_lft I :)) (by first | exact (J_lam I :) | simpa [KC, KR, LO, zN_sI, zN_sJ, zN_sR, zL_sI, zL_sJ, zL_sR, zI_sI, zI_sJ, zI_sR, zJ_sI, zJ_sJ, zJ_sR, zR_sI, zR_sJ, zR_sR] using (J_lam I :)) (by first | exact (J_led I :) | simpa [KC, KR, LO, zN_sI, zN_sJ, zN_sR, zL_sI, zL_sJ, zL_sR, zI_sI, zI_sJ, zI_sR, zJ_sI, zJ_sJ, zJ_sR, zR_sI, zR_sJ, zR_sR] using (J_led I :)) (by first | exact (J_ldn I :) | simpa [KC, KR, LO, zN_sI, zN_sJ, zN_sR, zL_sI, zL_sJ, zL_sR, zI_sI, zI_sJ, zI_sR, zJ_sI, zJ_sJ, zJ_sR, zR_sI, zR_sJ, zR_sR] using (J_ldn I :)) (by first | exact (J_lbk I :) | simpa [KC, KR, LO, zN_sI, zN_sJ, zN_sR, zL_sI, zL_sJ, zL_sR, zI_sI, zI_sJ, zI_sR, zJ_sI, zJ_sJ, zJ_sR, zR_sI, zR_sJ, zR_sR] using (J_lbk I :)) (by first | exact (J_ldu I :) | simpa [KC, KR, LO, zN_sI, zN_sJ, zN_sR, zL_sI, zL_sJ, zL_sR, zI_sI, zI_sJ, zI_sR, zJ_sI, zJ_sJ, zJ_sR, zR_sI, zR_sJ, zR_sR] using (J_ldu I :)) (by first | exact (J_lfr I :) | simpa [KC, KR, LO, zN_sI, zN_sJ, zN_sR, zL_sI, zL_sJ, zL_sR, zI_sI, zI_sJ, zI_sR, zJ_sI, zJ_sJ, zJ_sR, zR_sI, zR_sJ, zR_sR] using (J_lfr I :)) (by first | exact (J_mac I :) | simpa [KC, KR, LO, zN_sI, zN_sJ, zN_sR, zL_sI, zL_sJ, zL_sR, zI_sI, zI_sJ, zI_sR, zJ_sI, zJ_sJ, zJ_sR, zR_sI, zR_sJ, zR_sR] using (J_mac I :)) (by first | exact (J_mpt I :) | simpa [KC, KR, LO, zN_sI, zN_sJ, zN_sR, zL_sI, zL_sJ, zL_sR, zI_sI, zI_sJ, zI_sR, zJ_sI, zJ_sJ, zJ_sR, zR_sI, zR_sJ, zR_sR] using (J_mpt I :)) (by first | exact (J_mas I :) | simpa [KC, KR, LO, zN_sI, zN_sJ, zN_sR, zL_sI, zL_sJ, zL_sR, zI_sI, zI_sJ, zI_sR, zJ_sI, zJ_sJ, zJ_sR, zR_sI, zR_sJ, zR_sR] using (J_mas I :)) (by first | exact (J_mst I :) | simpa [KC, KR, LO, zN_sI, zN_sJ, zN_sR, zL_sI, zL_sJ, zL_sR, zI_sI, zI_sJ, zI_sR, zJ_sI, zJ_sJ, zJ_sR, zR_sI, zR_sJ, zR_sR] using (J_mst I :)) (by first | exact (J_mgo I :) | simpa [KC, KR, LO, zN_sI, zN_sJ, zN_sR, zL_sI, zL_sJ, zL_sR, zI_sI, zI_sJ, zI_sR, zJ_sI, zJ_sJ, zJ_sR, zR_sI, zR_sJ, zR_sR] using (J_mgo I :)) (by first | exact (J_mag I :) | simpa [KC, KR, LO, zN_sI, zN_sJ, zN_sR, zL_sI, zL_sJ, zL_sR, zI_sI, zI_sJ, zI_sR, zJ_sI, zJ_sJ, zJ_sR, zR_sI, zR_sJ, zR_sR] using (J_mag I :)) (by first | exact (J_mwy I :) | simpa [KC, KR, LO, zN_sI, zN_sJ, zN_sR, zL_sI, zL_sJ, zL_sR, zI_sI, zI_sJ, zI_sR, zJ_sI, zJ_sJ, zJ_sR, zR_sI, zR_sJ, zR_sR] using (J_mwy I :)) (by first | exact (J_mfa I :) | simpa [KC, KR, LO, zN_sI, zN_sJ, zN_sR, zL_sI, zL_sJ, zL_sR, zI_sI, zI_sJ, zI_sR, zJ_sI, zJ_sJ, zJ_sR, zR_sI, zR_sJ, zR_sR] using (J_mfa I :)) (by first | exact (J_mfb I :) | simpa [KC, KR, LO, zN_sI, zN_sJ, zN_sR, zL_sI, zL_sJ, zL_sR, zI_sI, zI_sJ, zI_sR, zJ_sI, zJ_sJ, zJ_sR, zR_sI, zR_sJ, zR_sR] using (J_mfb I :)) (by first | exact (J_mop I :) | simpa [KC, KR, LO, zN_sI, zN_sJ, zN_sR, zL_sI, zL_sJ, zL_sR, zI_sI, zI_sJ, zI_sR, zJ_sI, zJ_sJ, zJ_sR, zR_sI, zR_sJ, zR_sR] using (J_mop I :)) (by first | exact fun m m2 a b c d e => (J_mdj I m m2 a b c d e :) | simpa [KC, KR, LO, zN_sI, zN_sJ, zN_sR, zL_sI, zL_sJ, zL_sR, zI_sI, zI_sJ, zI_sR, zJ_sI, zJ_sJ, zJ_sR, zR_sI, zR_sJ, zR_sR] using (J_mdj I :)) (by first | exact (J_mfr I :) | simpa [KC, KR, LO, zN_sI, zN_sJ, zN_sR, zL_sI, zL_sJ, zL_sR, zI_sI, zI_sJ, zI_sR, zJ_sI, zJ_sJ, zJ_sR, zR_sI, zR_sJ, zR_sR] using (J_mfr I :)) (by first | exact (J_rpf I :) | simpa [KC, KR, LO, zN_sI, zN_sJ, zN_sR, zL_sI, zL_sJ, zL_sR, zI_sI, zI_sJ, zI_sR, zJ_sI, zJ_sJ, zJ_sR, zR_sI, zR_sJ, zR_sR] using (J_rpf I :)) (by first | exact (J_rtx I :) | simpa [KC, KR, LO, zN_sI, zN_sJ, zN_sR, zL_sI, zL_sJ, zL_sR, zI_sI, zI_sJ, zI_sR, zJ_sI, zJ_sJ, zJ_sR, zR_sI, zR_sJ, zR_sR] using (J_rtx I :)) (by first | exact (J_tap I :) | simpa [KC, KR, LO, zN_sI, zN_sJ, zN_sR, zL_sI, zL_sJ, zL_sR, zI_sI, zI_sJ, zI_sR, zJ_sI, zJ_sJ, zJ_sR, zR_sI, zR_sJ, zR_sR] using (J_tap I :)) (by first | exact (J_row I :) | simpa [KC, KR, LO, zN_sI, zN_sJ, zN_sR, zL_sI, zL_sJ, zL_sR, zI_sI, zI_sJ, zI_sR, zJ_sI, zJ_sJ, zJ_sR, zR_sI, zR_sJ, zR_sR] using (J_row I :)) (by
      refine ⟨by simp [zN_sI, zN_sJ, zN_sR, zL_sI, zL_sJ, zL_sR, zI_sI, zI_sJ, zI_sR, zJ_sI, zJ_sJ, zJ_sR, zR_sI, zR_sJ, zR_sR], by simp [zN_sI, zN_sJ, zN_sR, zL_sI, zL_sJ, zL_sR, zI_sI, zI_sJ, zI_sR, zJ_sI, zJ_sJ, zJ_sR, zR_sI, zR_sJ, zR_sR, zib], ?_⟩
      intro k hk2
      have : k < 0 := by simpa [zN_sI, zN_sJ, zN_sR, zL_sI, zL_sJ, zL_sR, zI_sI, zI_sJ, zI_sR, zJ_sI, zJ_sJ, zJ_sR, zR_sI, zR_sJ, zR_sR] using hk2
      omega) (by first | exact (J_ref I :) | simpa [KC, KR, LO, zN_sI, zN_sJ, zN_sR, zL_sI, zL_sJ, zL_sR, zI_sI, zI_sJ, zI_sR, zJ_sI, zJ_sJ, zJ_sR, zR_sI, zR_sJ, zR_sR] using (J_ref I :))
    have h1 : f_X7_firstDayTooLate 0 (nI cap) C = some (fdl (cmN R) cap 0 ((zI R 40 0 56).toNatClampNeg + 2)) := l_fdt I hl _ 0 fu (by omega) (by unfold fu; omega)
    obtain ⟨R2, g1, g2⟩ := l_tl32 (c := cmN R) (cap := cap) (s := (zI R 40 0 56).toNatClampNeg) (R0 := zsI R 40 0 56 0) (J_kr I0) (by omega) hl (cmN_le I) hc0 ((zI R 40 0 56).toNatClampNeg + 2) 0 fu (zsI R 40 0 56 0) (by omega) FS.rf (fun j hj => by
      show zI R 145 0 j = nI (rem' (cmN R) 0 j)
      rw [rem_hi _ (Nat.zero_le _)]
      unfold cmN
      rw [if_pos hj, nI_rd (zib_ex (r3 j hj).2).2]) (by unfold fu; omega)
    rw [e] at g1
    simp only [h, if_true, hk, Option.bind_some, h1, zlt]
    rw [show f_X10_tooLate_32 fu 0 (nI cap) (zI R 40 0 56) 0 (zsI R 40 0 56 0) = _ from g1]
    exact TT.mk rfl (Inv_FS I0 g2 (by simp [zN_sI, zN_sJ, zN_sR, zL_sI, zL_sJ, zL_sR, zI_sI, zI_sJ, zI_sR, zJ_sI, zJ_sJ, zJ_sR, zR_sI, zR_sJ, zR_sR]))
  · simp only [h, if_false]
    exact t_refB I (ow_ref h)
end ZVT
