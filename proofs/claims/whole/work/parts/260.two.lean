/-! ===== two worlds in one heap: the class's and the reference's ===== -/
/-- a pool whose cells have places, or are rows -/
def okp (p : Nat) : Bool := match zk p with
  | .inl x => decide (0 < x.2.length)
  | .inr _ => true
def cel (ph : Nat → Nat → Nat) (S : zH) (a : Nat) : Prop := ∃ p i, i < zN S p ∧ ph p i = a
/-- what a call of one world may write: all new cells but the other's -/
def AX (n0 : Nat) (ph : Nat → Nat → Nat) (S : zH) (a : Nat) : Prop := n0 ≤ a ∧ ¬ cel ph S a
def WW (G : zG) (n0 : Nat) (ph1 : Nat → Nat → Nat) (S1 : zH) (ph2 : Nat → Nat → Nat) (S2 : zH) (H : Heap) : Prop :=
  zW G ph1 S1 H ∧ zW G ph2 S2 H ∧ (∀ p i, i < zN S1 p → ¬ zz S1 p i → n0 ≤ ph1 p i) ∧ (∀ p i, i < zN S2 p → ¬ zz S2 p i → n0 ≤ ph2 p i) ∧ (∀ p i q j, i < zN S1 p → j < zN S2 q → ¬ zz S1 p i → ¬ zz S2 q j → ¬ ph1 p i = ph2 q j) ∧ (∀ p, 0 < zN S1 p → okp p = true) ∧ ∀ p, 0 < zN S2 p → okp p = true
theorem WW.symm {G : zG} {n0 : Nat} {ph1 ph2 : Nat → Nat → Nat} {S1 S2 : zH} {H : Heap} (h : WW G n0 ph1 S1 ph2 S2 H) : WW G n0 ph2 S2 ph1 S1 H :=
  ⟨h.2.1, h.1, h.2.2.2.1, h.2.2.1, fun p i q j a b c d e => h.2.2.2.2.1 q j p i b a d c e.symm, h.2.2.2.2.2.2, h.2.2.2.2.2.1⟩
/-- a row of no places is no other cell -/
theorem zz_ne {G : zG} {ph ph' : Nat → Nat → Nat} {S S' : zH} {H : Heap} {p i q j : Nat} (h1 : zat G ph S p i H) (h2 : zat G ph' S' q j H) (z1 : zz S p i) (z2 : ¬ zz S' q j) (hq : okp q = true) : ¬ ph p i = ph' q j := by
  intro e
  unfold zat at h1 h2
  obtain ⟨a1, a2⟩ := z1
  unfold zar at a1
  cases hk : zk p with
  | inl x =>
    rw [hk] at a1
    cases a1
  | inr x =>
    rw [hk] at h1
    obtain ⟨cell, d1, d2⟩ : ∃ cell : Cell, H[ph p i]? = some cell ∧ cell.slots.size = 0 := by
      rcases h1 with ⟨_, cell, c1, c2, c3, c4⟩ | h1
      · exact ⟨cell, c1, c3⟩
      · refine ⟨_, h1, ?_⟩
        rw [arrV_size, a2]
    rw [e] at d1
    cases hk2 : zk q with
    | inl y =>
      rw [hk2] at h2
      obtain ⟨cell2, c1, c2, c3, c4⟩ := h2
      rw [d1] at c1
      have c1 := Option.some.inj c1
      have hl : 0 < y.2.length := by
        unfold okp at hq
        rw [hk2] at hq
        exact of_decide_eq_true hq
      have h3 := c4 0 hl
      rw [← c1] at h3
      have := (Array.getElem?_eq_some_iff.mp h3).1
      omega
    | inr y =>
      rw [hk2] at h2
      have hnz : ¬ zL S' q j = 0 := fun z => z2 ⟨by unfold zar; rw [hk2]; rfl, z⟩
      have h2 := h2.resolve_left (fun z => hnz z.1)
      rw [d1] at h2
      have h2 := Option.some.inj h2
      rw [h2, arrV_size] at d2
      exact hnz d2
theorem zW.keep {G : zG} {ph : Nat → Nat → Nat} {S : zH} {H H1 : Heap} (h : zW G ph S H) (hq : ∀ p i, i < zN S p → H1[ph p i]? = H[ph p i]?) : zW G ph S H1 :=
  ⟨fun p i hi => (h.1 p i hi).kept rfl (fun _ => rfl) (hq p i hi), h.2⟩
/-- the first world's own cells may be written -/
theorem WW.cv {G : zG} {n0 : Nat} {ph1 ph2 : Nat → Nat → Nat} {S1 S2 : zH} {H : Heap} (h : WW G n0 ph1 S1 ph2 S2 H) : zcv (AX n0 ph2 S2) ph1 S1 := by
  intro p i hi hz
  refine ⟨h.2.2.1 p i hi hz, fun ⟨q, j, hj, e⟩ => ?_⟩
  by_cases z : zz S2 q j
  · exact zz_ne (h.2.1.1 q j hj) (h.1.1 p i hi) z hz (h.2.2.2.2.2.1 p (by omega)) e
  · exact h.2.2.2.2.1 p i q j hi hj hz z e.symm
theorem zst.sub {G : zG} {A B : Nat → Prop} {U : State} {H : Heap} (h : zst G A U H) (hAB : ∀ q, B q → A q) : zst G B U H := by
  obtain ⟨h1, h2, h3, h4, h5, h6, h7, h8, h9, h10⟩ := h
  exact ⟨h1.narrow hAB, h2.narrow hAB, h3, fun z => h4 (hAB _ z), h5, h6, h7, h8, h9.narrow hAB, h10.narrow hAB⟩
theorem zKs.sub {G : zG} {A B : Nat → Prop} {U : State} (h : zKs G A U) (hAB : ∀ q, B q → A q) : zKs G B U :=
  ⟨h.1, h.2.1, h.2.2.1, h.2.2.2.1, h.2.2.2.2.sub hAB⟩
/-- pools are cut down to those that are known -/
def zct1 (S : zH) (f : Nat → Bool) : zH := (fun p => if f p = true then S.1 p else 0, S.2)
def fC (p : Nat) : Bool := decide (p < 31)
def fR (p : Nat) : Bool := decide (p = 40 ∨ (100 ≤ p ∧ p ≤ 145) ∨ p = 157 ∨ p = 158)
def fok (f : Nat → Bool) : Prop := (∀ p, f p = true → okp p = true) ∧ (∀ p k q, f p = true → zkd p k = q + 2 → f q = true)
theorem zct1_N (S : zH) (f : Nat → Bool) (p : Nat) : zN (zct1 S f) p = if f p = true then zN S p else 0 := rfl
theorem zct1_le (S : zH) (f : Nat → Bool) (p : Nat) : zN (zct1 S f) p ≤ zN S p := by
  rw [zct1_N]
  split
  · exact Nat.le_refl _
  · exact Nat.zero_le _
theorem zct1_f {S : zH} {f : Nat → Bool} {p i : Nat} (h : i < zN (zct1 S f) p) : f p = true := by
  rw [zct1_N] at h
  by_cases e : f p = true
  · exact e
  · rw [if_neg e] at h
    exact absurd h (Nat.not_lt_zero _)
theorem zW.cut {G : zG} {ph : Nat → Nat → Nat} {S : zH} {H : Heap} {f : Nat → Bool} (hf : fok f) (h : zW G ph S H) : zW G ph (zct1 S f) H := by
  refine ⟨fun p i hi => h.1 p i (Nat.lt_of_lt_of_le hi (zct1_le S f p)), fun p i q j hi hj e => h.2.1 p i q j (Nat.lt_of_lt_of_le hi (zct1_le S f p)) (Nat.lt_of_lt_of_le hj (zct1_le S f q)) e, fun p i k hi => ?_, fun p h1 h2 h3 => ?_⟩
  · have hp := zct1_f hi
    have h1 := h.2.2.1 p i k (Nat.lt_of_lt_of_le hi (zct1_le S f p))
    have e : zfv (zct1 S f) p i k = zfv S p i k := rfl
    rw [e]
    cases hk : zkd p k with
    | zero =>
      have : zfv S p i k = vI (zI S p i k) := by
        unfold zfv
        rw [hk]
      rw [this]
      trivial
    | succ n =>
      cases n with
      | zero =>
        have : zfv S p i k = vJ (zJ S p i k) := by
          unfold zfv
          rw [hk]
        rw [this]
        trivial
      | succ q =>
        have e2 : zfv S p i k = vR q (zR S p i k) := by
          unfold zfv
          rw [hk]
        rw [e2] at h1 ⊢
        intro j hj
        rw [zct1_N, if_pos (hf.2 p k q hp hk)]
        exact h1 j hj
  · exact h.2.2.2 p h1 h2 (Nat.lt_of_lt_of_le h3 (zct1_le S f p))
