/-! ===== the class finds a rule's worth by its code ===== -/
/-- only letters and stack change -/
def FW (C C' : zH) : Prop := (∀ q i k, zI C' q i k = zI C q i k) ∧ (∀ q i k, ¬ q = 27 → zJ C' q i k = zJ C q i k) ∧ (∀ q i k, zR C' q i k = zR C q i k) ∧ (∀ q, zN C' q = zN C q) ∧ ∀ q i, zL C' q i = zL C q i
theorem FW.rf {C : zH} : FW C C := ⟨fun _ _ _ => rfl, fun _ _ _ _ => rfl, fun _ _ _ => rfl, fun _ => rfl, fun _ _ => rfl⟩
theorem FW.set {C C' : zH} (h : FW C C') (k : Nat) (x : Int64) : FW C (zsJ C' 27 0 k x) := ⟨fun q i l => by rw [wI_sJ]; exact h.1 q i l, fun q i l h1 => by rw [wJ_sJ, if_neg (fun z => h1 z.1)]; exact h.2.1 q i l h1, fun q i l => by rw [wR_sJ]; exact h.2.2.1 q i l, fun q => by rw [wN_sJ]; exact h.2.2.2.1 q, fun q i => by rw [wL_sJ]; exact h.2.2.2.2 q i⟩
/-- the stack holds st, its top first -/
def SK (C : zH) (st : List Int64) : Prop := ∀ j, j < st.length → st[st.length - 1 - j]? = some (zJ C 27 0 j)
theorem SK.push {C : zH} {st : List Int64} (h : SK C st) (x : Int64) : SK (zsJ C 27 0 st.length x) (x :: st) := by
  intro j hj
  simp only [List.length_cons] at hj ⊢
  rw [wJ_sJ]
  by_cases e : j = st.length
  · rw [if_pos ⟨rfl, rfl, e⟩, show st.length + 1 - 1 - j = 0 by omega]
    rfl
  · rw [if_neg (fun z => e z.2.2), show st.length + 1 - 1 - j = (st.length - 1 - j) + 1 by omega, List.getElem?_cons_succ]
    exact h j (by omega)
theorem SK.join {C : zH} {r : List Int64} {a b : Int64} (h : SK C (b :: a :: r)) (x : Int64) : zJ C 27 0 r.length = a ∧ zJ C 27 0 (r.length + 1) = b ∧ SK (zsJ C 27 0 r.length x) (x :: r) := by
  refine ⟨?_, ?_, ?_⟩
  · have := h r.length (by simp only [List.length_cons]; omega)
    simp only [List.length_cons] at this
    rw [show r.length + 1 + 1 - 1 - r.length = 1 by omega] at this
    exact (Option.some.inj this).symm
  · have := h (r.length + 1) (by simp only [List.length_cons]; omega)
    simp only [List.length_cons] at this
    rw [show r.length + 1 + 1 - 1 - (r.length + 1) = 0 by omega] at this
    exact (Option.some.inj this).symm
  · refine SK.push (fun j hj => ?_) x
    have := h j (by simp only [List.length_cons]; omega)
    simp only [List.length_cons] at this
    rw [show r.length + 1 + 1 - 1 - j = (r.length - 1 - j) + 1 + 1 by omega, List.getElem?_cons_succ, List.getElem?_cons_succ] at this
    exact this
/-- what the worth is found by -/
def WC (C : zH) (r : Nat) (L : Nat → Int64) (cs : List Int32) : Prop := zR C 6 r 2 = some r ∧ zL C 25 r = cs.length ∧ (∀ j, j < cs.length → cs[j]? = some (zI C 25 r j)) ∧ cs.length ≤ 60 ∧ zL C 27 0 = 60 ∧ zL C 26 0 = 10 ∧ ∀ i, i < 10 → hld (zJ C 26 0 i) = L i
theorem FW.wc {C C' : zH} {r : Nat} {L : Nat → Int64} {cs : List Int32} (h : FW C C') (w : WC C r L cs) : WC C' r L cs := by
  obtain ⟨w1, w2, w3, w4, w5, w6, w7⟩ := w
  obtain ⟨f1, f2, f3, f4, f5⟩ := h
  exact ⟨by rw [f3]; exact w1, by rw [f5]; exact w2, fun j hj => by rw [f1]; exact w3 j hj, w4, by rw [f5]; exact w5, by rw [f5]; exact w6, fun i hi => by rw [f2 26 0 i (by decide)]; exact w7 i hi⟩
def tp (st : List Int64) : Int64 := match st with
  | v :: _ => v
  | [] => 0
theorem c_wor {C0 : zH} {r : Nat} {L : Nat → Int64} {cs : List Int32} (w0 : WC C0 r L cs) : ∀ n f i C st, i + n = cs.length → n < f → FW C0 C → st.length ≤ i → SK C st → ∃ C', f_X5_worth_5 f r (some 0) (some 0) (nI st.length) (nI i) C = some (tp (rn L (cs.drop i) st), C') ∧ FW C0 C' := by
  intro n
  induction n with
  | zero =>
    intro f i C st hi hf F hs K
    obtain ⟨f, rfl⟩ : ∃ f', f = f' + 1 := ⟨f - 1, by omega⟩
    obtain ⟨w1, w2, w3, w4, w5, w6, w7⟩ := F.wc w0
    have hle : Int32.ofNat cs.length ≤ nI i := (nJ_le (a := cs.length) (by omega) (by omega)).mpr (by omega)
    rw [f_X5_worth_5, w1, Option.bind_some, w2, if_pos hle, List.drop_eq_nil_of_le (by omega)]
    show ∃ C', _ = some (tp st, C') ∧ _
    cases st with
    | nil =>
      rw [if_pos (by decide)]
      exact ⟨C, rfl, F⟩
    | cons v st =>
      simp only [List.length_cons] at hs ⊢
      have h0 : ¬ nI (st.length + 1) ≤ 0 := nI_nle (by omega) (by omega)
      have h6 : ¬ Int32.ofNat 60 < nI (st.length + 1) := fun z => by have := (nJ_lt (a := 60) (by decide) (by omega)).mp z; omega
      rw [if_neg h0, Option.bind_some, w5, if_neg h6, nI_pred]
      simp only [zgd, zib_nI (show st.length < 60 by omega) (by decide), if_true, nI_clamp (show st.length < 2 ^ 31 by omega)]
      have := K st.length (by simp only [List.length_cons]; omega)
      simp only [List.length_cons] at this
      rw [show st.length + 1 - 1 - st.length = 0 by omega] at this
      rw [← Option.some.inj this]
      exact ⟨C, rfl, F⟩
  | succ n ih =>
    intro f i C st hi hf F hs K
    obtain ⟨f, rfl⟩ : ∃ f', f = f' + 1 := ⟨f - 1, by omega⟩
    obtain ⟨w1, w2, w3, w4, w5, w6, w7⟩ := F.wc w0
    have hlt : i < cs.length := by omega
    have hle : ¬ Int32.ofNat cs.length ≤ nI i := fun z => by have := (nJ_le (a := cs.length) (by omega) (by omega)).mp z; omega
    have hci := w3 i hlt
    rw [List.getElem?_eq_getElem hlt] at hci
    have hci := Option.some.inj hci
    rw [List.drop_eq_getElem_cons hlt, hci]
    show ∃ C', _ = some (tp (rn L (cs.drop (i + 1)) (ev1 L (zI C 25 r i) st)), C') ∧ _
    generalize hT : zI C 25 r i = T
    have len := ev1_len L T st
    have next : ∀ C1, FW C0 C1 → SK C1 (ev1 L T st) → ∃ C', f_X5_worth_5 f r (some 0) (some 0) (nI (ev1 L T st).length) (nI i + 1) C1 = some (tp (rn L (cs.drop (i + 1)) (ev1 L T st)), C') ∧ FW C0 C' := by
      intro C1 F1 K1
      rw [← nI_succ]
      exact ih f (i + 1) C1 _ (by omega) (by omega) F1 (by omega) K1
    rw [f_X5_worth_5, w1, Option.bind_some, w2, if_neg hle, Option.bind_some]
    simp only [w2, zgd, zib_nI hlt (show cs.length < 2 ^ 31 by omega), if_true, nI_clamp (show i < 2 ^ 31 by omega), hT]
    have hsl : st.length < 60 := by omega
    by_cases ht : 0 ≤ T
    · have h6 : ¬ Int32.ofNat 60 ≤ nI st.length := fun z => by have := (nJ_le (a := 60) (by decide) (by omega)).mp z; omega
      have e1 : ev1 L T st = (if T - 100000 < 0 then T.toInt64 else if 10 ≤ T - 100000 then T.toInt64 else L (T - 100000).toNatClampNeg) :: st := by
        unfold ev1
        rw [if_pos ht]
      rw [if_pos ht, Option.bind_some, w5, if_neg h6]
      simp only [zib_nI hsl (show 60 < 2 ^ 31 by decide), if_true, nI_clamp (show st.length < 2 ^ 31 by omega), Option.bind_some, w6, e_hold, zlt]
      rw [e1] at next
      simp only [List.length_cons, nI_succ] at next
      rw [e1]
      by_cases h1 : T - 100000 < 0
      · rw [if_pos h1] at next ⊢
        rw [if_pos h1]
        exact next _ (F.set _ _) (K.push _)
      · rw [if_neg h1] at next ⊢
        rw [if_neg h1]
        by_cases h2 : 10 ≤ T - 100000
        · rw [if_pos h2] at next ⊢
          rw [if_pos (show Int32.ofNat 10 ≤ T - 100000 from h2)]
          exact next _ (F.set _ _) (K.push _)
        · rw [if_neg h2] at next ⊢
          have hz : zib (T - 100000) 10 = true := by
            refine Decidable.byContradiction fun z => h2 ?_
            have := zib_lt (x := T - 100000) (n := 10) (by decide) h1
            exact this.mpr z
          rw [if_neg (show ¬ Int32.ofNat 10 ≤ T - 100000 from h2), if_pos hz, w7 _ (zib_ex hz).1]
          exact next _ (F.set _ _) (K.push _)
    · rw [if_neg ht]
      match st, hs, K, len, next, hsl with
      | [], hs, K, len, next, hsl =>
        have e1 : ev1 L T [] = [] := by
          unfold ev1
          rw [if_neg ht]
        rw [e1] at next ⊢
        rw [if_pos (by decide)]
        exact next C F K
      | [a], hs, K, len, next, hsl =>
        have e1 : ev1 L T [a] = [a] := by
          unfold ev1
          rw [if_neg ht]
        rw [e1] at next ⊢
        rw [if_pos (show nI [a].length < 2 from (by decide : nI 1 < 2))]
        exact next C F K
      | b :: a :: r', hs, K, len, next, hsl =>
        have e1 : ev1 L T (b :: a :: r') = hld (jn (-T) a b) :: r' := by
          unfold ev1
          rw [if_neg ht]
        rw [e1] at next ⊢
        obtain ⟨k1, k2, k3⟩ := K.join (hld (jn (-T) a b))
        simp only [List.length_cons] at hs hsl next ⊢
        have h2 : ¬ nI (r'.length + 1 + 1) < 2 := fun z => by have := (nJ_lt (b := 2) (by omega) (by decide)).mp z; omega
        have h6 : ¬ Int32.ofNat 60 < nI (r'.length + 1 + 1) := fun z => by have := (nJ_lt (a := 60) (by decide) (by omega)).mp z; omega
        have m1 : nI (r'.length + 1 + 1) + -1 = nI (r'.length + 1) := by
          rw [← Int32.sub_eq_add_neg]
          exact nI_pred _
        rw [if_neg h2, Option.bind_some, w5, if_neg h6, m1, nI_pred]
        simp only [zib_nI (show r'.length + 1 < 60 by omega) (show 60 < 2 ^ 31 by decide), zib_nI (show r'.length < 60 by omega) (show 60 < 2 ^ 31 by decide), if_true, nI_clamp (show r'.length < 2 ^ 31 by omega), nI_clamp (show r'.length + 1 < 2 ^ 31 by omega), k1, k2, e_join, e_hold, Option.bind_some, zlt]
        exact next _ (F.set _ _) k3
theorem c_worth {C : zH} {r : Nat} {L : Nat → Int64} {cs : List Int32} (w : WC C r L cs) : ∃ C', f_X5_worth r (some 0) (some 0) C = some (tp (rn L cs []), C') ∧ FW C C' := by
  have := c_wor w cs.length fu 0 C [] (by omega) (by have := w.2.2.2.1; unfold fu; omega) FW.rf (Nat.le_refl _) (fun j hj => absurd hj (Nat.not_lt_zero _))
  exact this
