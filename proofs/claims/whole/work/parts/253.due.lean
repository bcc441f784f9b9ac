/-! ===== when a line is due, on both sides ===== -/
theorem md_n {a b : Nat} (ha : a < 2 ^ 31) (h0 : 0 < b) (hb : b < 2 ^ 31) : nI a - nI a / nI b * nI b = nI (a % b) := by
  rw [pk_div ha h0 hb, nJ_mul, nJ_sub (Nat.div_mul_le_self a b)]
  congr 1
  have := Nat.div_add_mod a b
  rw [Nat.mul_comm] at this
  omega
/-- the reference's part behind the end's day -/
def d31 (kd fi ev2 : Int32) (d : Nat) : Int32 := if kd = 0 then (if nI d = fi then 1 else 0) else (if (nI d - fi) - (nI d - fi) / ev2 * ev2 = 0 then 1 else 0)
def dueR (kd fi ev2 eo : Int32) (d : Nat) : Int32 := if nI d < fi then 0 else if eo < 0 then d31 kd fi ev2 d else if nI d < eo then d31 kd fi ev2 d else 0
def dueC (nx en ed : Int32) (d : Nat) : Int32 := if nx = nI d then (if en = 0 then 1 else if ed ≤ nI d then 0 else 1) else 0
def nxt (ev nx : Int32) : Int32 := if ev = 0 then -9 else nx + ev
/-- the pure heart: both say alike, and the next day is seen right -/
theorem due_h {d : Nat} {ev nx en ed kd fi ev2 eo : Int32} (hd : d ≤ 1500) (L : LDu d ev nx en ed kd fi ev2) (e1 : eo < 0 → en = 0) (e2 : ¬ eo < 0 → en = 1 ∧ ed = eo ∧ zib eo 1501 = true) :
    dueC nx en ed d = dueR kd fi ev2 eo d ∧ (dueC nx en ed d = 0 → LDu (d + 1) ev nx en ed kd fi ev2) ∧ (¬ dueC nx en ed d = 0 → LDu (d + 1) ev (nxt ev nx) en ed kd fi ev2) := by
  obtain ⟨z1, z2, z3, L⟩ := L
  have zf := zib_ex z1
  have nf := nI_rd zf.2
  -- when it is the day: the same on both sides, by the end's day
  have today : nx = nI d → ¬ nI d < fi → d31 kd fi ev2 d = 1 → (dueC nx en ed d = dueR kd fi ev2 eo d) ∧ (dueC nx en ed d = 0 → en = 1 ∧ ed.toNatClampNeg < d + 1) := by
    intro h1 h2 h3
    unfold dueC dueR
    rw [if_pos h1, if_neg h2, h3]
    by_cases h4 : eo < 0
    · rw [if_pos (e1 h4), if_pos h4]
      exact ⟨rfl, fun z => absurd z (by decide)⟩
    · obtain ⟨f1, f2, f3⟩ := e2 h4
      rw [if_neg (by rw [f1]; decide), if_neg h4, f2]
      by_cases h5 : nI d < eo
      · rw [if_neg (Int32.not_le.mpr h5), if_pos h5]
        exact ⟨rfl, fun z => absurd z (by decide)⟩
      · rw [if_pos (Int32.not_lt.mp h5), if_neg h5]
        refine ⟨rfl, fun _ => ⟨f1, ?_⟩⟩
        have h5 := Int32.not_lt.mp h5
        rw [← nI_rd h4] at h5
        have := (nJ_le rd_lt (by omega)).mp h5
        omega
  have notC : ¬ nx = nI d → dueC nx en ed d = 0 := fun h => by
    unfold dueC
    rw [if_neg h]
  have notR : (nI d < fi ∨ d31 kd fi ev2 d = 0) → dueR kd fi ev2 eo d = 0 := fun h => by
    unfold dueR
    by_cases h1 : nI d < fi
    · rw [if_pos h1]
    · rw [if_neg h1, h.resolve_left h1]
      split
      · rfl
      · split <;> rfl
  have lt_f : nI d < fi ↔ d < fi.toNatClampNeg := by
    rw [← nf, nI_clamp rd_lt]
    exact nJ_lt (by omega) rd_lt
  rcases L with ⟨a1, a2, a3⟩ | ⟨a1, a2⟩ | ⟨a1, k, a2, a3, a4, a5⟩
  · have hne : ¬ nx = nI d := fun z => by
      rw [z] at a3
      exact absurd a3 Int32.lt_irrefl
    have hz := notC hne
    have h4 : ¬ eo < 0 := fun z => by
      rw [e1 z] at a1
      exact absurd a1 (by decide)
    obtain ⟨f1, f2, f3⟩ := e2 h4
    refine ⟨?_, fun _ => ⟨z1, z2, z3, Or.inl ⟨a1, by omega, ?_⟩⟩, fun z => absurd hz z⟩
    · rw [hz]
      unfold dueR
      by_cases h1 : nI d < fi
      · rw [if_pos h1]
      · rw [if_neg h1, if_neg h4, if_neg]
        rw [← nI_rd h4]
        intro z
        have := (nJ_lt (by omega) rd_lt).mp z
        rw [f2] at a2
        omega
    · refine Int32.lt_trans a3 ?_
      exact (nJ_lt (by omega) (by omega)).mpr (Nat.lt_succ_self d)
  · rcases a2 with ⟨b1, b2⟩ | ⟨b1, b2⟩
    · by_cases hF : fi.toNatClampNeg = d
      · have nfd : fi = nI d := by rw [← nf, hF]
        have hx : nx = nI d := b1.trans nfd
        have h31 : d31 kd fi ev2 d = 1 := by
          unfold d31
          rw [if_pos a1, if_pos nfd.symm]
        obtain ⟨t1, t2⟩ := today hx (by rw [lt_f]; omega) h31
        refine ⟨t1, fun z => ?_, fun _ => ?_⟩
        · obtain ⟨u1, u2⟩ := t2 z
          refine ⟨z1, z2, z3, Or.inl ⟨u1, u2, ?_⟩⟩
          rw [hx]
          exact (nJ_lt (by omega) (by omega)).mpr (Nat.lt_succ_self d)
        · refine ⟨z1, z2, z3, Or.inr (Or.inl ⟨a1, Or.inr ⟨?_, by omega⟩⟩)⟩
          unfold nxt
          rw [if_pos (z2 a1)]
      · have hne : ¬ nx = nI d := fun z => hF (by
          rw [b1] at z
          rw [z, nI_clamp (by omega)])
        have hz := notC hne
        refine ⟨?_, fun _ => ⟨z1, z2, z3, Or.inr (Or.inl ⟨a1, Or.inl ⟨b1, by omega⟩⟩)⟩, fun z => absurd hz z⟩
        rw [hz, notR (Or.inl (by rw [lt_f]; omega))]
    · have hne : ¬ nx = nI d := fun z => by
        rw [b1] at z
        exact nI_n9 (by omega) z.symm
      have hz := notC hne
      refine ⟨?_, fun _ => ⟨z1, z2, z3, Or.inr (Or.inl ⟨a1, Or.inr ⟨b1, by omega⟩⟩)⟩, fun z => absurd hz z⟩
      rw [hz, notR (Or.inr ?_)]
      unfold d31
      rw [if_pos a1, if_neg]
      intro z
      rw [← z, nI_clamp (by omega)] at b2
      omega
  · obtain ⟨v1, v2, v3⟩ := z3 a1
    have zv := zib_ex v2
    have nv := nI_rd zv.2
    have v0 : 0 < ev.toNatClampNeg := by
      refine Nat.pos_of_ne_zero fun z => v3 ?_
      rw [← nv, z]
      rfl
    generalize hE : ev.toNatClampNeg = E at *
    generalize hF : fi.toNatClampNeg = F at *
    have md : F ≤ d → (nI d - fi) - (nI d - fi) / ev2 * ev2 = nI ((d - F) % E) := by
      intro h
      rw [← v1, ← nv, ← nf, nJ_sub h, md_n (by omega) v0 (by omega)]
    by_cases hx : F + E * k = d
    · have hxx : nx = nI d := by rw [a2, hx]
      have h31 : d31 kd fi ev2 d = 1 := by
        unfold d31
        rw [if_neg a1, md (by omega), if_pos]
        have : d - F = E * k := by omega
        rw [this, Nat.mul_mod_right]
        rfl
      obtain ⟨t1, t2⟩ := today hxx (by rw [lt_f]; omega) h31
      refine ⟨t1, fun z => ?_, fun _ => ?_⟩
      · obtain ⟨u1, u2⟩ := t2 z
        refine ⟨z1, z2, z3, Or.inl ⟨u1, u2, ?_⟩⟩
        rw [hxx]
        exact (nJ_lt (by omega) (by omega)).mpr (Nat.lt_succ_self d)
      · refine ⟨z1, z2, z3, Or.inr (Or.inr ⟨a1, k + 1, ?_, ?_, ?_, Or.inr ?_⟩)⟩
        · unfold nxt
          rw [if_neg v3, a2, ← nv, nI_clamp (by omega), hF, nJ_add]
          congr 1
          rw [Nat.mul_add, Nat.mul_one]
          omega
        · rw [hE, hF, Nat.mul_add, Nat.mul_one]
          omega
        · rw [hE, hF, Nat.mul_add, Nat.mul_one]
          omega
        · rw [hE, hF, Nat.mul_add, Nat.mul_one]
          omega
    · have hne : ¬ nx = nI d := fun z => hx (by
        rw [a2] at z
        exact (nI_inj (by omega) (by omega)).mp z)
      have hz := notC hne
      refine ⟨?_, fun _ => ⟨z1, z2, z3, Or.inr (Or.inr ⟨a1, k, by rw [hE, hF]; exact a2, by rw [hE, hF]; omega, by rw [hE, hF]; exact a4, ?_⟩)⟩, fun z => absurd hz z⟩
      · rw [hz]
        by_cases h1 : d < F
        · rw [notR (Or.inl (lt_f.mpr h1))]
        · rw [notR (Or.inr ?_)]
          unfold d31
          rw [if_neg a1, md (by omega), if_neg]
          intro z
          have z0 : (d - F) % E = 0 := (nI_inj (b := 0) (by have := Nat.mod_lt (d - F) v0; omega) (by decide)).mp z
          have hk : F + E * k < d + E := a5.resolve_left (fun z => by
            rw [z] at a3 hx
            omega)
          have hdm := Nat.div_add_mod (d - F) E
          rw [z0] at hdm
          generalize (d - F) / E = j at hdm
          have l1 : E * j < E * k := by omega
          have l2 : E * k < E * (j + 1) := by
            rw [Nat.mul_add, Nat.mul_one]
            omega
          have l3 := Nat.lt_of_mul_lt_mul_left l1
          have l4 := Nat.lt_of_mul_lt_mul_left l2
          omega
      · rw [hE, hF]
        omega
section ZDU
variable {q : Nat → Nat} {mi : Nat} {C R : zH}
def zup (q : Nat → Nat) (l d : Nat) (j : Nat) : Nat := if j = l then d else q j
theorem n_due0 (I : IN q mi C R) {l d : Nat} (h : LDu d (zI C 4 l 4) (zI C 4 l 5) (zI C 4 l 6) (zI C 4 l 7) (zI R 120 0 l) (zI R 124 0 l) (zI R 125 0 l)) : IN (zup q l d) mi C R := by
  intro k
  have hI := I k
  unfold Jn at hI ⊢
  by_cases a : k = 16
  · rw [if_pos a] at hI ⊢
    exact hI
  rw [if_neg a] at hI ⊢
  by_cases b : k = 38
  · rw [if_pos b] at hI ⊢
    intro j hj
    unfold zup
    by_cases e : j = l
    · rw [if_pos e, e]
      exact h
    · rw [if_neg e]
      exact hI j hj
  rw [if_neg b] at hI ⊢
  exact hI
theorem n_due1 (I : IN q mi C R) {l d : Nat} {x : Int32} (h : LDu d (zI C 4 l 4) x (zI C 4 l 6) (zI C 4 l 7) (zI R 120 0 l) (zI R 124 0 l) (zI R 125 0 l)) : IN (zup q l d) mi (zsI C 4 l 5 x) R := by
  exact IN_mk (by simpa [KC, KR, LO, wN_sI, wN_sJ, wN_sR, wL_sI, wL_sJ, wL_sR, wI_sI, wI_sJ, wI_sR, wJ_sI, wJ_sJ, wJ_sR, wR_sI, wR_sJ, wR_sR, wN_nw, wL_nw, wI_nw, wJ_nw, wR_nw] using (N_kc I :)) (by simpa [KC, KR, LO, wN_sI, wN_sJ, wN_sR, wL_sI, wL_sJ, wL_sR, wI_sI, wI_sJ, wI_sR, wJ_sI, wJ_sJ, wJ_sR, wR_sI, wR_sJ, wR_sR, wN_nw, wL_nw, wI_nw, wJ_nw, wR_nw] using (N_kr I :)) (by simpa [KC, KR, LO, wN_sI, wN_sJ, wN_sR, wL_sI, wL_sJ, wL_sR, wI_sI, wI_sJ, wI_sR, wJ_sI, wJ_sJ, wJ_sR, wR_sI, wR_sJ, wR_sR, wN_nw, wL_nw, wI_nw, wJ_nw, wR_nw] using (N_cnt I :)) (by simpa [KC, KR, LO, wN_sI, wN_sJ, wN_sR, wL_sI, wL_sJ, wL_sR, wI_sI, wI_sJ, wI_sR, wJ_sI, wJ_sJ, wJ_sR, wR_sI, wR_sJ, wR_sR, wN_nw, wL_nw, wI_nw, wJ_nw, wR_nw] using (N_mx I :)) (by simpa [KC, KR, LO, wN_sI, wN_sJ, wN_sR, wL_sI, wL_sJ, wL_sR, wI_sI, wI_sJ, wI_sR, wJ_sI, wJ_sJ, wJ_sR, wR_sI, wR_sJ, wR_sR, wN_nw, wL_nw, wI_nw, wJ_nw, wR_nw] using (N_la I :)) (by simpa [KC, KR, LO, wN_sI, wN_sJ, wN_sR, wL_sI, wL_sJ, wL_sR, wI_sI, wI_sJ, wI_sR, wJ_sI, wJ_sJ, wJ_sR, wR_sI, wR_sJ, wR_sR, wN_nw, wL_nw, wI_nw, wJ_nw, wR_nw] using (N_ll I :)) (by simpa [KC, KR, LO, wN_sI, wN_sJ, wN_sR, wL_sI, wL_sJ, wL_sR, wI_sI, wI_sJ, wI_sR, wJ_sI, wJ_sJ, wJ_sR, wR_sI, wR_sJ, wR_sR, wN_nw, wL_nw, wI_nw, wJ_nw, wR_nw] using (N_lm I :)) (by simpa [KC, KR, LO, wN_sI, wN_sJ, wN_sR, wL_sI, wL_sJ, wL_sR, wI_sI, wI_sJ, wI_sR, wJ_sI, wJ_sJ, wJ_sR, wR_sI, wR_sJ, wR_sR, wN_nw, wL_nw, wI_nw, wJ_nw, wR_nw] using (N_lr I :)) (by simpa [KC, KR, LO, wN_sI, wN_sJ, wN_sR, wL_sI, wL_sJ, wL_sR, wI_sI, wI_sJ, wI_sR, wJ_sI, wJ_sJ, wJ_sR, wR_sI, wR_sJ, wR_sR, wN_nw, wL_nw, wI_nw, wJ_nw, wR_nw] using (N_al I :)) (by simpa [KC, KR, LO, wN_sI, wN_sJ, wN_sR, wL_sI, wL_sJ, wL_sR, wI_sI, wI_sJ, wI_sR, wJ_sI, wJ_sJ, wJ_sR, wR_sI, wR_sJ, wR_sR, wN_nw, wL_nw, wI_nw, wJ_nw, wR_nw] using (N_bno I :)) (by simpa [KC, KR, LO, wN_sI, wN_sJ, wN_sR, wL_sI, wL_sJ, wL_sR, wI_sI, wI_sJ, wI_sR, wJ_sI, wJ_sJ, wJ_sR, wR_sI, wR_sJ, wR_sR, wN_nw, wL_nw, wI_nw, wJ_nw, wR_nw] using (N_bfee I :)) (by simpa [KC, KR, LO, wN_sI, wN_sJ, wN_sR, wL_sI, wL_sJ, wL_sR, wI_sI, wI_sJ, wI_sR, wJ_sI, wJ_sJ, wJ_sR, wR_sI, wR_sJ, wR_sR, wN_nw, wL_nw, wI_nw, wJ_nw, wR_nw] using (N_bcap I :)) (by simpa [KC, KR, LO, wN_sI, wN_sJ, wN_sR, wL_sI, wL_sJ, wL_sR, wI_sI, wI_sJ, wI_sR, wJ_sI, wJ_sJ, wJ_sR, wR_sI, wR_sJ, wR_sR, wN_nw, wL_nw, wI_nw, wJ_nw, wR_nw] using (N_bow I :)) (by simpa [KC, KR, LO, wN_sI, wN_sJ, wN_sR, wL_sI, wL_sJ, wL_sR, wI_sI, wI_sJ, wI_sR, wJ_sI, wJ_sJ, wJ_sR, wR_sI, wR_sJ, wR_sR, wN_nw, wL_nw, wI_nw, wJ_nw, wR_nw] using (N_bdid I :)) (by simpa [KC, KR, LO, wN_sI, wN_sJ, wN_sR, wL_sI, wL_sJ, wL_sR, wI_sI, wI_sJ, wI_sR, wJ_sI, wJ_sJ, wJ_sR, wR_sI, wR_sJ, wR_sR, wN_nw, wL_nw, wI_nw, wJ_nw, wR_nw] using (N_bnet I :)) (by simpa [KC, KR, LO, wN_sI, wN_sJ, wN_sR, wL_sI, wL_sJ, wL_sR, wI_sI, wI_sJ, wI_sR, wJ_sI, wJ_sJ, wJ_sR, wR_sI, wR_sJ, wR_sR, wN_nw, wL_nw, wI_nw, wJ_nw, wR_nw] using (N_day I :)) (by simpa [KC, KR, LO, wN_sI, wN_sJ, wN_sR, wL_sI, wL_sJ, wL_sR, wI_sI, wI_sJ, wI_sR, wJ_sI, wJ_sJ, wJ_sR, wR_sI, wR_sJ, wR_sR, wN_nw, wL_nw, wI_nw, wJ_nw, wR_nw] using (N_ngt I :)) (by simpa [KC, KR, LO, wN_sI, wN_sJ, wN_sR, wL_sI, wL_sJ, wL_sR, wI_sI, wI_sJ, wI_sR, wJ_sI, wJ_sJ, wJ_sR, wR_sI, wR_sJ, wR_sR, wN_nw, wL_nw, wI_nw, wJ_nw, wR_nw] using (N_due I :)) (by simpa [KC, KR, LO, wN_sI, wN_sJ, wN_sR, wL_sI, wL_sJ, wL_sR, wI_sI, wI_sJ, wI_sR, wJ_sI, wJ_sJ, wJ_sR, wR_sI, wR_sJ, wR_sR, wN_nw, wL_nw, wI_nw, wJ_nw, wR_nw] using (N_hol I :)) (by simpa [KC, KR, LO, wN_sI, wN_sJ, wN_sR, wL_sI, wL_sJ, wL_sR, wI_sI, wI_sJ, wI_sR, wJ_sI, wJ_sJ, wJ_sR, wR_sI, wR_sJ, wR_sR, wN_nw, wL_nw, wI_nw, wJ_nw, wR_nw] using (N_lat I :)) (by simpa [KC, KR, LO, wN_sI, wN_sJ, wN_sR, wL_sI, wL_sJ, wL_sR, wI_sI, wI_sJ, wI_sR, wJ_sI, wJ_sJ, wJ_sR, wR_sI, wR_sJ, wR_sR, wN_nw, wL_nw, wI_nw, wJ_nw, wR_nw] using (N_ano I :)) (by simpa [KC, KR, LO, wN_sI, wN_sJ, wN_sR, wL_sI, wL_sJ, wL_sR, wI_sI, wI_sJ, wI_sR, wJ_sI, wJ_sJ, wJ_sR, wR_sI, wR_sJ, wR_sR, wN_nw, wL_nw, wI_nw, wJ_nw, wR_nw] using (N_abk I :)) (by simpa [KC, KR, LO, wN_sI, wN_sJ, wN_sR, wL_sI, wL_sJ, wL_sR, wI_sI, wI_sJ, wI_sR, wJ_sI, wJ_sJ, wJ_sR, wR_sI, wR_sJ, wR_sR, wN_nw, wL_nw, wI_nw, wJ_nw, wR_nw] using (N_anm I :)) (by simpa [KC, KR, LO, wN_sI, wN_sJ, wN_sR, wL_sI, wL_sJ, wL_sR, wI_sI, wI_sJ, wI_sR, wJ_sI, wJ_sJ, wJ_sR, wR_sI, wR_sJ, wR_sR, wN_nw, wL_nw, wI_nw, wJ_nw, wR_nw] using (N_asum I :)) (by simpa [KC, KR, LO, wN_sI, wN_sJ, wN_sR, wL_sI, wL_sJ, wL_sR, wI_sI, wI_sJ, wI_sR, wJ_sI, wJ_sJ, wJ_sR, wR_sI, wR_sJ, wR_sR, wN_nw, wL_nw, wI_nw, wJ_nw, wR_nw] using (N_aov I :)) (by simpa [KC, KR, LO, wN_sI, wN_sJ, wN_sR, wL_sI, wL_sJ, wL_sR, wI_sI, wI_sJ, wI_sR, wJ_sI, wJ_sJ, wJ_sR, wR_sI, wR_sJ, wR_sR, wN_nw, wL_nw, wI_nw, wJ_nw, wR_nw] using (N_ast I :)) (by simpa [KC, KR, LO, wN_sI, wN_sJ, wN_sR, wL_sI, wL_sJ, wL_sR, wI_sI, wI_sJ, wI_sR, wJ_sI, wJ_sJ, wJ_sR, wR_sI, wR_sJ, wR_sR, wN_nw, wL_nw, wI_nw, wJ_nw, wR_nw] using (N_amv I :)) (by simpa [KC, KR, LO, wN_sI, wN_sJ, wN_sR, wL_sI, wL_sJ, wL_sR, wI_sI, wI_sJ, wI_sR, wJ_sI, wJ_sJ, wJ_sR, wR_sI, wR_sJ, wR_sR, wN_nw, wL_nw, wI_nw, wJ_nw, wR_nw] using (N_ano2 I :)) (by simpa [KC, KR, LO, wN_sI, wN_sJ, wN_sR, wL_sI, wL_sJ, wL_sR, wI_sI, wI_sJ, wI_sR, wJ_sI, wJ_sJ, wJ_sR, wR_sI, wR_sJ, wR_sR, wN_nw, wL_nw, wI_nw, wJ_nw, wR_nw] using (N_agd I :)) (by simpa [KC, KR, LO, wN_sI, wN_sJ, wN_sR, wL_sI, wL_sJ, wL_sR, wI_sI, wI_sJ, wI_sR, wJ_sI, wJ_sJ, wJ_sR, wR_sI, wR_sJ, wR_sR, wN_nw, wL_nw, wI_nw, wJ_nw, wR_nw] using (N_akp I :)) (by simpa [KC, KR, LO, wN_sI, wN_sJ, wN_sR, wL_sI, wL_sJ, wL_sR, wI_sI, wI_sJ, wI_sR, wJ_sI, wJ_sJ, wJ_sR, wR_sI, wR_sJ, wR_sR, wN_nw, wL_nw, wI_nw, wJ_nw, wR_nw] using (N_ahs I :)) (by simpa [KC, KR, LO, wN_sI, wN_sJ, wN_sR, wL_sI, wL_sJ, wL_sR, wI_sI, wI_sJ, wI_sR, wJ_sI, wJ_sJ, wJ_sR, wR_sI, wR_sJ, wR_sR, wN_nw, wL_nw, wI_nw, wJ_nw, wR_nw] using (N_afr I :)) (by simpa [KC, KR, LO, wN_sI, wN_sJ, wN_sR, wL_sI, wL_sJ, wL_sR, wI_sI, wI_sJ, wI_sR, wJ_sI, wJ_sJ, wJ_sR, wR_sI, wR_sJ, wR_sR, wN_nw, wL_nw, wI_nw, wJ_nw, wR_nw] using (N_lk I :)) (by simpa [KC, KR, LO, wN_sI, wN_sJ, wN_sR, wL_sI, wL_sJ, wL_sR, wI_sI, wI_sJ, wI_sR, wJ_sI, wJ_sJ, wJ_sR, wR_sI, wR_sJ, wR_sR, wN_nw, wL_nw, wI_nw, wJ_nw, wR_nw] using (N_lft I :)) (by simpa [KC, KR, LO, wN_sI, wN_sJ, wN_sR, wL_sI, wL_sJ, wL_sR, wI_sI, wI_sJ, wI_sR, wJ_sI, wJ_sJ, wJ_sR, wR_sI, wR_sJ, wR_sR, wN_nw, wL_nw, wI_nw, wJ_nw, wR_nw] using (N_lam I :)) (by simpa [KC, KR, LO, wN_sI, wN_sJ, wN_sR, wL_sI, wL_sJ, wL_sR, wI_sI, wI_sJ, wI_sR, wJ_sI, wJ_sJ, wJ_sR, wR_sI, wR_sJ, wR_sR, wN_nw, wL_nw, wI_nw, wJ_nw, wR_nw] using (N_led I :)) (by simpa [KC, KR, LO, wN_sI, wN_sJ, wN_sR, wL_sI, wL_sJ, wL_sR, wI_sI, wI_sJ, wI_sR, wJ_sI, wJ_sJ, wJ_sR, wR_sI, wR_sJ, wR_sR, wN_nw, wL_nw, wI_nw, wJ_nw, wR_nw] using (N_ldn I :)) (by simpa [KC, KR, LO, wN_sI, wN_sJ, wN_sR, wL_sI, wL_sJ, wL_sR, wI_sI, wI_sJ, wI_sR, wJ_sI, wJ_sJ, wJ_sR, wR_sI, wR_sJ, wR_sR, wN_nw, wL_nw, wI_nw, wJ_nw, wR_nw] using (N_lbk I :)) (by
    intro j hj
    unfold zup
    by_cases e : j = l
    · rw [if_pos e]
      subst e
      simpa [wN_sI, wN_sJ, wN_sR, wL_sI, wL_sJ, wL_sR, wI_sI, wI_sJ, wI_sR, wJ_sI, wJ_sJ, wJ_sR, wR_sI, wR_sJ, wR_sR] using h
    · rw [if_neg e]
      have := N_ldu I j hj
      simpa [wN_sI, wN_sJ, wN_sR, wL_sI, wL_sJ, wL_sR, wI_sI, wI_sJ, wI_sR, wJ_sI, wJ_sJ, wJ_sR, wR_sI, wR_sJ, wR_sR, e] using this) (by simpa [KC, KR, LO, wN_sI, wN_sJ, wN_sR, wL_sI, wL_sJ, wL_sR, wI_sI, wI_sJ, wI_sR, wJ_sI, wJ_sJ, wJ_sR, wR_sI, wR_sJ, wR_sR, wN_nw, wL_nw, wI_nw, wJ_nw, wR_nw] using (N_lfr I :)) (by simpa [KC, KR, LO, wN_sI, wN_sJ, wN_sR, wL_sI, wL_sJ, wL_sR, wI_sI, wI_sJ, wI_sR, wJ_sI, wJ_sJ, wJ_sR, wR_sI, wR_sJ, wR_sR, wN_nw, wL_nw, wI_nw, wJ_nw, wR_nw] using (N_mac I :)) (by simpa [KC, KR, LO, wN_sI, wN_sJ, wN_sR, wL_sI, wL_sJ, wL_sR, wI_sI, wI_sJ, wI_sR, wJ_sI, wJ_sJ, wJ_sR, wR_sI, wR_sJ, wR_sR, wN_nw, wL_nw, wI_nw, wJ_nw, wR_nw] using (N_mpt I :)) (by simpa [KC, KR, LO, wN_sI, wN_sJ, wN_sR, wL_sI, wL_sJ, wL_sR, wI_sI, wI_sJ, wI_sR, wJ_sI, wJ_sJ, wJ_sR, wR_sI, wR_sJ, wR_sR, wN_nw, wL_nw, wI_nw, wJ_nw, wR_nw] using (N_mas I :)) (by simpa [KC, KR, LO, wN_sI, wN_sJ, wN_sR, wL_sI, wL_sJ, wL_sR, wI_sI, wI_sJ, wI_sR, wJ_sI, wJ_sJ, wJ_sR, wR_sI, wR_sJ, wR_sR, wN_nw, wL_nw, wI_nw, wJ_nw, wR_nw] using (N_mst I :)) (by simpa [KC, KR, LO, wN_sI, wN_sJ, wN_sR, wL_sI, wL_sJ, wL_sR, wI_sI, wI_sJ, wI_sR, wJ_sI, wJ_sJ, wJ_sR, wR_sI, wR_sJ, wR_sR, wN_nw, wL_nw, wI_nw, wJ_nw, wR_nw] using (N_mgo I :)) (by simpa [KC, KR, LO, wN_sI, wN_sJ, wN_sR, wL_sI, wL_sJ, wL_sR, wI_sI, wI_sJ, wI_sR, wJ_sI, wJ_sJ, wJ_sR, wR_sI, wR_sJ, wR_sR, wN_nw, wL_nw, wI_nw, wJ_nw, wR_nw] using (N_mag I :)) (by simpa [KC, KR, LO, wN_sI, wN_sJ, wN_sR, wL_sI, wL_sJ, wL_sR, wI_sI, wI_sJ, wI_sR, wJ_sI, wJ_sJ, wJ_sR, wR_sI, wR_sJ, wR_sR, wN_nw, wL_nw, wI_nw, wJ_nw, wR_nw] using (N_mwy I :)) (by simpa [KC, KR, LO, wN_sI, wN_sJ, wN_sR, wL_sI, wL_sJ, wL_sR, wI_sI, wI_sJ, wI_sR, wJ_sI, wJ_sJ, wJ_sR, wR_sI, wR_sJ, wR_sR, wN_nw, wL_nw, wI_nw, wJ_nw, wR_nw] using (N_mfa I :)) (by simpa [KC, KR, LO, wN_sI, wN_sJ, wN_sR, wL_sI, wL_sJ, wL_sR, wI_sI, wI_sJ, wI_sR, wJ_sI, wJ_sJ, wJ_sR, wR_sI, wR_sJ, wR_sR, wN_nw, wL_nw, wI_nw, wJ_nw, wR_nw] using (N_mfb I :)) (by simpa [KC, KR, LO, wN_sI, wN_sJ, wN_sR, wL_sI, wL_sJ, wL_sR, wI_sI, wI_sJ, wI_sR, wJ_sI, wJ_sJ, wJ_sR, wR_sI, wR_sJ, wR_sR, wN_nw, wL_nw, wI_nw, wJ_nw, wR_nw] using (N_mop I :)) (by simpa [KC, KR, LO, wN_sI, wN_sJ, wN_sR, wL_sI, wL_sJ, wL_sR, wI_sI, wI_sJ, wI_sR, wJ_sI, wJ_sJ, wJ_sR, wR_sI, wR_sJ, wR_sR, wN_nw, wL_nw, wI_nw, wJ_nw, wR_nw] using (N_mdj I :)) (by simpa [KC, KR, LO, wN_sI, wN_sJ, wN_sR, wL_sI, wL_sJ, wL_sR, wI_sI, wI_sJ, wI_sR, wJ_sI, wJ_sJ, wJ_sR, wR_sI, wR_sJ, wR_sR, wN_nw, wL_nw, wI_nw, wJ_nw, wR_nw] using (N_mfr I :)) (by simpa [KC, KR, LO, wN_sI, wN_sJ, wN_sR, wL_sI, wL_sJ, wL_sR, wI_sI, wI_sJ, wI_sR, wJ_sI, wJ_sJ, wJ_sR, wR_sI, wR_sJ, wR_sR, wN_nw, wL_nw, wI_nw, wJ_nw, wR_nw] using (N_rpf I :)) (by simpa [KC, KR, LO, wN_sI, wN_sJ, wN_sR, wL_sI, wL_sJ, wL_sR, wI_sI, wI_sJ, wI_sR, wJ_sI, wJ_sJ, wJ_sR, wR_sI, wR_sJ, wR_sR, wN_nw, wL_nw, wI_nw, wJ_nw, wR_nw] using (N_rtx I :)) (by simpa [KC, KR, LO, wN_sI, wN_sJ, wN_sR, wL_sI, wL_sJ, wL_sR, wI_sI, wI_sJ, wI_sR, wJ_sI, wJ_sJ, wJ_sR, wR_sI, wR_sJ, wR_sR, wN_nw, wL_nw, wI_nw, wJ_nw, wR_nw] using (N_tap I :)) (by simpa [KC, KR, LO, wN_sI, wN_sJ, wN_sR, wL_sI, wL_sJ, wL_sR, wI_sI, wI_sJ, wI_sR, wJ_sI, wJ_sJ, wJ_sR, wR_sI, wR_sJ, wR_sR, wN_nw, wL_nw, wI_nw, wJ_nw, wR_nw] using (N_row I :)) (by simpa [KC, KR, LO, wN_sI, wN_sJ, wN_sR, wL_sI, wL_sJ, wL_sR, wI_sI, wI_sJ, wI_sR, wJ_sI, wJ_sJ, wJ_sR, wR_sI, wR_sJ, wR_sR, wN_nw, wL_nw, wI_nw, wJ_nw, wR_nw] using (N_sur I :)) (by simpa [KC, KR, LO, wN_sI, wN_sJ, wN_sR, wL_sI, wL_sJ, wL_sR, wI_sI, wI_sJ, wI_sR, wJ_sI, wJ_sJ, wJ_sR, wR_sI, wR_sJ, wR_sR, wN_nw, wL_nw, wI_nw, wJ_nw, wR_nw] using (N_ref I :))
theorem n_q {q' : Nat → Nat} (I : IN q mi C R) (h : ∀ l, l < zN C 4 → q l = q' l) : IN q' mi C R := by
  intro k
  have hI := I k
  unfold Jn at hI ⊢
  by_cases a : k = 16
  · rw [if_pos a] at hI ⊢
    exact hI
  rw [if_neg a] at hI ⊢
  by_cases b : k = 38
  · rw [if_pos b] at hI ⊢
    intro j hj
    rw [← h j hj]
    exact hI j hj
  rw [if_neg b] at hI ⊢
  exact hI
/-- both sides' test, and what the class writes when it is due -/
theorem e_due (I : IN q mi C R) {l d : Nat} (hl : l < zN C 4) (hq : q l = d) (hd : d ≤ 1500) : ∃ a : Int32, f_X3_isDue l (nI d) C = some a ∧ f_X10_isDue 0 (nI l) (nI d) R = some a ∧ (a = 0 → IN (zup q l (d + 1)) mi C R) ∧ (¬ a = 0 → ∃ x, f_X3_setNextDue l C = some (zsI C 4 l 5 x) ∧ IN (zup q l (d + 1)) mi (zsI C 4 l 5 x) R) := by
  have hr := N_kr I
  unfold KR at hr
  have hmx := (N_mx I).2.1
  have cl : (nI l).toNatClampNeg = l := nI_clamp (by omega)
  have z60 : zib (nI l) 60 = true := zib_nI (by omega) (by decide)
  obtain ⟨d1, d2⟩ := N_led I l hl
  have L := N_ldu I l hl
  rw [hq] at L
  obtain ⟨h1, h2, h3⟩ := due_h hd L d1 d2
  have hev : ¬ zI R 120 0 l = 0 → (!decide (zI R 125 0 l = 0)) = true := fun z => by
    obtain ⟨u1, u2, u3⟩ := L.2.2.1 z
    rw [← u1, decide_eq_false u3]
    rfl
  refine ⟨dueC (zI C 4 l 5) (zI C 4 l 6) (zI C 4 l 7) d, ?_, ?_, fun z => n_due0 I (h2 z), fun z => ⟨nxt (zI C 4 l 4) (zI C 4 l 5), ?_, n_due1 I (h3 z)⟩⟩
  · unfold f_X3_isDue dueC
    split
    · split
      · rfl
      · split <;> rfl
    · rfl
  · rw [h1]
    unfold f_X10_isDue f_X10_isDue_31 dueR d31
    simp only [hr, Option.bind_some, zgd, z60, if_true, cl]
    by_cases k0 : zI R 120 0 l = 0
    · simp only [k0, if_true]
      split
      · rfl
      · split
        · split <;> rfl
        · split
          · split <;> rfl
          · rfl
    · simp only [k0, if_false, hev k0, if_true]
      split
      · rfl
      · split
        · split <;> rfl
        · split
          · split <;> rfl
          · rfl
  · unfold f_X3_setNextDue nxt
    simp only [zlt]
    split <;> rfl
end ZDU
