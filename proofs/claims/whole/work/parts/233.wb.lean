/-! ===== the rule in force, and its worth, on both sides ===== -/
theorem bd_eta {α β : Type} (x : Option (α × β)) : Option.bind x (fun o => some (o.1, o.2)) = x := by
  cases x <;> rfl
def bI : Option Nat → Int32
  | none => -1
  | some r => nI r
/-- the reference's worth, once the rule is found -/
def wF (p : Int32) (b : Option Nat) (R : zH) : Option (Int32 × zH) := match b with
  | none => if p = 1 then some (1095, R) else if p = 3 then some (zI R 158 0 102, R) else some (1, R)
  | some r => f_X10_goesThrough 0 (nI (60 * r)) (zI R 141 0 r) R
section ZWB
variable {C R : zH}
theorem l_pick (I : Inq C R) (p d : Int32) : ∀ (n i f g : Nat) (b : Option Nat), i + n = zN C 6 → n < f → n < g → (∀ r, b = some r → r < zN C 6) → ∃ b', (∀ r, b' = some r → r < zN C 6) ∧ f_X6_inForce_5 f 0 p d b (nI i) C = some b' ∧ f_X10_worth_5 g 0 p d (bI b) (nI i) R = wF p b' R := by
  have hk := Q_kc I
  have hr := Q_kr I
  unfold KC at hk
  unfold KR at hr
  have hmx := (Q_mx I).2.2.2
  have hc := (Q_cnt I).2.2.2
  have hsz := (Q_lr I).size
  intro n
  induction n with
  | zero =>
    intro i f g b hi hf hg hb
    obtain ⟨f, rfl⟩ : ∃ f', f = f' + 1 := ⟨f - 1, by omega⟩
    obtain ⟨g, rfl⟩ : ∃ g', g = g' + 1 := ⟨g - 1, by omega⟩
    have hle : nI (zN C 6) ≤ nI i := (nJ_le (by omega) (by omega)).mpr (by omega)
    refine ⟨b, hb, ?_, ?_⟩
    · rw [f_X6_inForce_5]
      simp only [hk, Option.bind_some, hsz, hle, if_true]
    · rw [f_X10_worth_5]
      rw [hc, if_pos hle]
      cases b with
      | none =>
        simp only [bI, wF, show (-1 : Int32) < 0 by decide, if_true, hr, Option.bind_some, zgd, show zib 102 128 = true by decide]
        rfl
      | some r =>
        have hrl := hb r rfl
        have e60 : (60 : Int32) * nI r = nI (60 * r) := nJ_mul 60 r
        simp only [bI, wF, nI_pos (show r < 2 ^ 31 by omega), if_false, hr, Option.bind_some, zgd, zib_nI (show r < 30 by omega) (by decide), if_true, nI_clamp (show r < 2 ^ 31 by omega), bd_eta, e60]
  | succ n ih =>
    intro i f g b hi hf hg hb
    obtain ⟨f, rfl⟩ : ∃ f', f = f' + 1 := ⟨f - 1, by omega⟩
    obtain ⟨g, rfl⟩ : ∃ g', g = g' + 1 := ⟨g - 1, by omega⟩
    have hil : i < zN C 6 := by omega
    have hle : ¬ nI (zN C 6) ≤ nI i := fun z => by have := (nJ_le (by omega) (by omega)).mp z; omega
    obtain ⟨c1, c2, c3⟩ := Q_rpf I i hil
    have hget := (Q_lr I).get hil
    have zi : zib (nI i) 30 = true := zib_nI (by omega) (by decide)
    have same := ih (i + 1) f g b (by omega) (by omega) (by omega) hb
    have newer := ih (i + 1) f g (some i) (by omega) (by omega) (by omega) (fun r hr => by cases hr; exact hil)
    rw [f_X6_inForce_5, f_X10_worth_5]
    simp only [hk, hr, hc, Option.bind_some, hsz, hle, if_false, hget, zgd, zi, if_true, nI_clamp (show i < 2 ^ 31 by omega), c1, c2, ← nI_succ]
    by_cases h1 : zI R 142 0 i = p
    · simp only [h1, if_true]
      by_cases h2 : d < zI R 143 0 i
      · simp only [h2, if_true]
        exact same
      · simp only [h2, if_false]
        cases b with
        | none =>
          simp only [zop, bI, show (-1 : Int32) < 0 by decide, if_true]
          exact newer
        | some r =>
          have hrl := hb r rfl
          have zr : zib (nI r) 30 = true := zib_nI (by omega) (by decide)
          simp only [zop, bI, nI_pos (show r < 2 ^ 31 by omega), if_false, zr, if_true, nI_clamp (show r < 2 ^ 31 by omega), (Q_rpf I r hrl).2.1]
          by_cases h3 : zI R 143 0 i < zI R 143 0 r
          · simp only [h3, if_true]
            exact same
          · simp only [h3, if_false]
            exact newer
    · simp only [h1, if_false]
      exact same
theorem t_pick (I : Inq C R) (p d : Int32) : ∃ b, (∀ r, b = some r → r < zN C 6) ∧ f_X6_inForce 0 p d C = some b ∧ f_X10_worth 0 p d R = wF p b R := by
  have hmx := (Q_mx I).2.2.2
  exact l_pick I p d (zN C 6) 0 fu fu none (by omega) (by unfold fu; omega) (by unfold fu; omega) (fun r h => by cases h)
/-- the class's rule does not depend on what changes unseen -/
theorem t_val (I : Inq C R) {r : Nat} (hr : r < zN C 6) (hL : ∀ i, i < 10 → hld (zJ C 26 0 i) = Lr R i) : ∃ v C' R', f_X5_worth r (some 0) (some 0) C = some (Int32.toInt64 v, C') ∧ wF 0 (some r) R = some (v, R') ∧ SC C C' ∧ SR R R' := by
  have hk := Q_kc I
  have hkr := Q_kr I
  unfold KC at hk
  unfold KR at hkr
  have hmx := (Q_mx I).2.2.2
  obtain ⟨x1, x2, x3, x4, x5, x6⟩ := Q_rtx I r hr
  have hz := zib_ex x1
  generalize hsz : (zI R 141 0 r).toNatClampNeg = sz at *
  generalize htx : (fun k => zI R 144 0 (60 * r + k)) = tx at *
  have w : WC C r (Lr R) (hAll tx sz).2.2 := by
    refine ⟨(Q_rpf I r hr).2.2, x5.symm, fun j hj => x6 j (by omega), ?_, by simp only [hk], by simp only [hk], hL⟩
    have := (hSum_good (tx := tx) (hUnit_good (sz := sz) 5) 0 (Nat.zero_le _)).2.2 x3
    have h2 : (hAll tx sz).2.2.length ≤ (hAll tx sz).2.1 - 0 := this.2.2
    omega
  obtain ⟨C', e1, e2⟩ := c_worth w
  have hn : zI R 141 0 r = nI sz := by
    rw [← hsz, nI_rd hz.2]
  generalize hRx : zsI (zsI (zsI (zsI (zsI R 40 0 62 (nI (60 * r))) 40 0 63 (nI sz)) 40 0 60 0) 40 0 61 0) 40 0 64 1 = Rx
  have td : TD Rx tx sz := by
    subst hRx
    refine ⟨by omega, by simp [wI_sI], by simp [wR_sI, hkr], by simp [wL_sI, hkr], Or.inr ⟨r, by omega, by simp [wI_sI], by simp [wR_sI, hkr], by simp [wL_sI, hkr], fun k hk => ?_⟩⟩
    simp only [wI_sI, show ¬ (144 = 40) by decide, false_and, if_false]
    exact congrFun htx k
  have st : RSt Rx Rx 0 0 := by
    refine ⟨FR.rf, ?_, ?_, ?_⟩ <;> subst hRx <;> simp [wI_sI] <;> rfl
  obtain ⟨v, R', q1, q2⟩ := r_all td 5 0 30 (by decide) (by decide) Rx 0 st (Nat.zero_le _)
  obtain ⟨s1, s2⟩ := q2.1 x3
  have hl : Lr Rx = Lr R := by
    subst hRx
    funext i
    unfold Lr
    simp [wI_sI]
  have hv : tp (rn (Lr R) (hAll tx sz).2.2 []) = v.toInt64 := by
    have := s2 []
    rw [hl] at this
    show tp (rn (Lr R) (hSum tx sz (hUnit tx sz 5) 0).2.2 []) = _
    rw [this]
    rfl
  refine ⟨v, C', R', by rw [e1, hv], ?_, e2.sc, SR.tr ?_ s1.1.sr⟩
  · show f_X10_goesThrough 0 (nI (60 * r)) (zI R 141 0 r) R = _
    unfold f_X10_goesThrough f_X10_sumOf
    simp only [zlt, hn, hRx]
    rw [q1]
    rfl
  · subst hRx
    exact ((((SR.rf.set 40 0 62 (by decide) _).set 40 0 63 (by decide) _).set 40 0 60 (by decide) _).set 40 0 61 (by decide) _).set 40 0 64 (by decide) _
theorem pk_sc {p d : Int32} {C' : zH} (F : SC C C') (I : Inq C R) : f_X6_inForce 0 p d C' = f_X6_inForce 0 p d C := by
  have I' := Inq_SC I F
  have hk := Q_kc I
  have hk' := Q_kc I'
  unfold KC at hk hk'
  have hmx := (Q_mx I).2.2.2
  have hN : zN C' 6 = zN C 6 := F.2.2.2.1 6
  have hsz := (Q_lr I).size
  have hsz' := (Q_lr I').size
  rw [hN] at hsz'
  have key : ∀ (n i f : Nat) (b : Option Nat), i + n = zN C 6 → n < f → f_X6_inForce_5 f 0 p d b (nI i) C' = f_X6_inForce_5 f 0 p d b (nI i) C := by
    intro n
    induction n with
    | zero =>
      intro i f b hi hf
      obtain ⟨f, rfl⟩ : ∃ f', f = f' + 1 := ⟨f - 1, by omega⟩
      have hle : nI (zN C 6) ≤ nI i := (nJ_le (by omega) (by omega)).mpr (by omega)
      rw [f_X6_inForce_5, f_X6_inForce_5]
      simp only [hk, hk', Option.bind_some, hsz, hsz', hle, if_true]
    | succ n ih =>
      intro i f b hi hf
      obtain ⟨f, rfl⟩ : ∃ f', f = f' + 1 := ⟨f - 1, by omega⟩
      have hle : ¬ nI (zN C 6) ≤ nI i := fun z => by have := (nJ_le (by omega) (by omega)).mp z; omega
      have hget := (Q_lr I).get (k := i) (by omega)
      have hget' := (Q_lr I').get (k := i) (by omega)
      have e6 : ∀ j k, zI C' 6 j k = zI C 6 j k := fun j k => F.1 6 j k (by decide) (by simp)
      rw [f_X6_inForce_5, f_X6_inForce_5]
      simp only [hk, hk', Option.bind_some, hsz, hsz', hle, if_false, hget, hget', e6, ← nI_succ]
      have ih' := fun b => ih (i + 1) f b (by omega) (by omega)
      simp only [ih']
  exact key (zN C 6) 0 fu none (by omega) (by unfold fu; omega)
end ZWB
