/-! ===== where an account is sent on to ===== -/
theorem ev1_c {L L' : Nat → Int64} (h : ∀ i, i < 10 → L i = L' i) (t : Int32) (st : List Int64) : ev1 L t st = ev1 L' t st := by
  unfold ev1
  by_cases h0 : 0 ≤ t
  · rw [if_pos h0, if_pos h0]
    by_cases h1 : t - 100000 < 0
    · rw [if_pos h1, if_pos h1]
    · rw [if_neg h1, if_neg h1]
      by_cases h2 : 10 ≤ t - 100000
      · rw [if_pos h2, if_pos h2]
      · rw [if_neg h2, if_neg h2, h]
        refine Decidable.byContradiction fun z => h2 ?_
        rw [← nI_rd h1]
        exact (nJ_le (a := 10) (by decide) rd_lt).mpr (by omega)
  · rw [if_neg h0, if_neg h0]
theorem rn_c {L L' : Nat → Int64} (h : ∀ i, i < 10 → L i = L' i) : ∀ c st, rn L c st = rn L' c st
  | [], st => rfl
  | t :: c, st => by rw [rn, rn, ev1_c h, rn_c h c]
/-- a rule's code, as the hub reads its text -/
def cdO (R : zH) (r : Nat) : List Int32 := (hAll (fun k => zI R 144 0 (60 * r + k)) (zI R 141 0 r).toNatClampNeg).2.2
theorem cdO_sr {R R' : zH} (F : SR R R') (r : Nat) : cdO R' r = cdO R r := by
  unfold cdO
  rw [F.1 141 0 r (by decide) (by simp)]
  congr 3
  funext k
  exact F.1 144 0 _ (by decide) (by simp)
/-- only letters and stack change -/
def SJ (C C' : zH) : Prop := (∀ q i k, zI C' q i k = zI C q i k) ∧ (∀ q i k, ¬ q = 26 → ¬ q = 27 → zJ C' q i k = zJ C q i k) ∧ (∀ q i k, zR C' q i k = zR C q i k) ∧ (∀ q, zN C' q = zN C q) ∧ ∀ q i, zL C' q i = zL C q i
theorem SJ.rf {C : zH} : SJ C C := ⟨fun _ _ _ => rfl, fun _ _ _ _ _ => rfl, fun _ _ _ => rfl, fun _ => rfl, fun _ _ => rfl⟩
theorem SJ.sc {C C' : zH} (h : SJ C C') : SC C C' := ⟨fun q i k _ _ => h.1 q i k, h.2.1, fun q i k _ => h.2.2.1 q i k, h.2.2.2.1, h.2.2.2.2⟩
theorem SJ.set26 {C C' : zH} (h : SJ C C') (k : Nat) (x : Int64) : SJ C (zsJ C' 26 0 k x) := ⟨fun q i l => by rw [wI_sJ]; exact h.1 q i l, fun q i l a b => by rw [wJ_sJ, if_neg (fun z => a z.1)]; exact h.2.1 q i l a b, fun q i l => by rw [wR_sJ]; exact h.2.2.1 q i l, fun q => by rw [wN_sJ]; exact h.2.2.2.1 q, fun q i => by rw [wL_sJ]; exact h.2.2.2.2 q i⟩
theorem SJ.fw {C C' C2 : zH} (h : SJ C C') (g : FW C' C2) : SJ C C2 := ⟨fun q i k => (g.1 q i k).trans (h.1 q i k), fun q i k a b => (g.2.1 q i k b).trans (h.2.1 q i k a b), fun q i k => (g.2.2.1 q i k).trans (h.2.2.1 q i k), fun q => (g.2.2.2.1 q).trans (h.2.2.2.1 q), fun q i => (g.2.2.2.2 q i).trans (h.2.2.2.2 q i)⟩
section ZSN
variable {C R : zH}
theorem l_fillJ (h26 : zL C 26 0 = 10) : ∀ (n i f : Nat) (C1 : zH), i + n = 10 → n < f → SJ C C1 → (∀ j, j < i → zJ C1 26 0 j = 0) → ∃ C2, f_J7_fill_d0a16_6 f (some 0) 0 (nI i) 10 C1 = some C2 ∧ SJ C C2 ∧ ∀ j, j < 10 → zJ C2 26 0 j = 0 := by
  intro n
  induction n with
  | zero =>
    intro i f C1 hi hf F hz
    obtain ⟨f, rfl⟩ : ∃ f', f = f' + 1 := ⟨f - 1, by omega⟩
    have : i = 10 := by omega
    subst this
    rw [f_J7_fill_d0a16_6, if_pos (by decide)]
    exact ⟨C1, rfl, F, hz⟩
  | succ n ih =>
    intro i f C1 hi hf F hz
    obtain ⟨f, rfl⟩ : ∃ f', f = f' + 1 := ⟨f - 1, by omega⟩
    have hle : ¬ (10 : Int32) ≤ nI i := fun z => by have := (nJ_le (a := 10) (by decide) (by omega)).mp z; omega
    have hl : zL C1 26 0 = 10 := (F.2.2.2.2 26 0).trans h26
    rw [f_J7_fill_d0a16_6, if_neg hle]
    simp only [Option.bind_some, hl, zgd, zib_nI (show i < 10 by omega) (by decide), if_true, zlt, nI_clamp (show i < 2 ^ 31 by omega), ← nI_succ]
    refine ih (i + 1) f _ (by omega) (by omega) (F.set26 i 0) (fun j hj => ?_)
    rw [wJ_sJ]
    by_cases e : j = i
    · rw [if_pos ⟨rfl, rfl, e⟩]
    · rw [if_neg (fun z => e z.2.2)]
      exact hz j (by omega)
theorem e_freshJ (hk : KC C) : ∃ C1, f_X6_freshLetters 0 C = some (some 0, C1) ∧ SJ C C1 ∧ ∀ j, j < 10 → zJ C1 26 0 j = 0 := by
  have hk' := id hk
  unfold KC at hk'
  obtain ⟨C1, e1, e2, e3⟩ := l_fillJ (C := C) (by simp only [hk']) 10 0 fu C (by omega) (by unfold fu; omega) SJ.rf (fun j hj => absurd hj (Nat.not_lt_zero _))
  have hk1 := e2.sc.kc hk
  unfold KC at hk1
  refine ⟨C1, ?_, e2, e3⟩
  unfold f_X6_freshLetters f_J7_fill_d0a16
  simp only [hk', Option.bind_some]
  rw [show f_J7_fill_d0a16_6 fu (some 0) 0 0 (Int32.ofNat 10) C = some C1 from e1]
  simp only [Option.bind_some, hk1]
/-- the class's worth, by the letters -/
theorem cval (I : Inq C R) {r : Nat} (hr : r < zN C 6) {L : Nat → Int64} (hL : ∀ i, i < 10 → hld (zJ C 26 0 i) = L i) : ∃ C', f_X5_worth r (some 0) (some 0) C = some (tp (rn L (cdO R r) []), C') ∧ FW C C' := by
  have hk := Q_kc I
  unfold KC at hk
  obtain ⟨x1, x2, x3, x4, x5, x6⟩ := Q_rtx I r hr
  have hz := zib_ex x1
  have w : WC C r L (cdO R r) := by
    refine ⟨(Q_rpf I r hr).2.2, x5.symm, fun j hj => x6 j (by unfold cdO at hj; omega), ?_, by simp only [hk], by simp only [hk], hL⟩
    have h2 := ((hSum_good (tx := fun k => zI R 144 0 (60 * r + k)) (hUnit_good (sz := (zI R 141 0 r).toNatClampNeg) 5) 0 (Nat.zero_le _)).2.2 x3).2.2
    change (cdO R r).length ≤ (hAll (fun k => zI R 144 0 (60 * r + k)) (zI R 141 0 r).toNatClampNeg).2.1 - 0 at h2
    omega
  exact c_worth w
/-- the reference's worth, by the letters -/
theorem rval (I : Inq C R) {r : Nat} (hr : r < zN C 6) {L : Nat → Int64} (hL : ∀ i, i < 10 → Lr R i = L i) (p : Int32) : ∃ v R', wF p (some r) R = some (v, R') ∧ Int32.toInt64 v = tp (rn L (cdO R r) []) ∧ SR R R' := by
  have hkr := Q_kr I
  unfold KR at hkr
  have hmx := (Q_mx I).2.2.2
  obtain ⟨x1, x2, x3, x4, x5, x6⟩ := Q_rtx I r hr
  have hz := zib_ex x1
  have hcd : cdO R r = (hAll (fun k => zI R 144 0 (60 * r + k)) (zI R 141 0 r).toNatClampNeg).2.2 := rfl
  generalize hsz : (zI R 141 0 r).toNatClampNeg = sz at *
  generalize htx : (fun k => zI R 144 0 (60 * r + k)) = tx at *
  have hn : zI R 141 0 r = nI sz := by
    rw [← hsz, nI_rd hz.2]
  generalize hRx : zsI (zsI (zsI (zsI (zsI R 40 0 62 (nI (60 * r))) 40 0 63 (nI sz)) 40 0 60 0) 40 0 61 0) 40 0 64 1 = Rx
  have td : TD Rx tx sz := by
    subst hRx
    refine ⟨by omega, by simp [wI_sI], by simp [wR_sI, hkr], by simp [wL_sI, hkr], Or.inr ⟨r, by omega, by simp [wI_sI], by simp [wR_sI, hkr], by simp [wL_sI, hkr], fun k hk => ?_⟩⟩
    simp only [wI_sI, show ¬ (144 = 40) by decide, false_and, if_false]
    exact congrFun htx k
  have st : RSt Rx Rx 0 0 := by
    refine ⟨FR.rf, ?_, ?_, ?_⟩ <;> subst hRx <;> simp [wI_sI] <;> rfl
  obtain ⟨v, R', q1, q2⟩ := r_all td 5 0 30 (by decide) (by decide) Rx 0 st (Nat.zero_le _)
  obtain ⟨s1, s2⟩ := q2.1 x3
  have hl : ∀ i, i < 10 → L i = Lr Rx i := by
    intro i hi
    rw [← hL i hi]
    subst hRx
    unfold Lr
    simp [wI_sI]
  refine ⟨v, R', ?_, ?_, SR.tr ?_ s1.1.sr⟩
  · show f_X10_goesThrough 0 (nI (60 * r)) (zI R 141 0 r) R = _
    unfold f_X10_goesThrough f_X10_sumOf
    simp only [zlt, hn, hRx]
    rw [q1]
    rfl
  · rw [hcd, rn_c hl]
    show v.toInt64 = tp (rn (Lr Rx) (hSum tx sz (hUnit tx sz 5) 0).2.2 [])
    rw [s2 []]
    rfl
  · subst hRx
    exact ((((SR.rf.set 40 0 62 (by decide) _).set 40 0 63 (by decide) _).set 40 0 60 (by decide) _).set 40 0 61 (by decide) _).set 40 0 64 (by decide) _
def Lx (R : zH) (x : Nat) (d : Int32) (i : Nat) : Int64 := if i = 0 then (zI R 110 0 x).toInt64 else if i = 1 then (zI R 110 0 (zI R 115 0 x).toNatClampNeg).toInt64 else if i = 9 then (d - zI R 116 0 x).toInt64 else 0
/-- whether a moved account is still sent on -/
def sO (R : zH) (b : Option Nat) (d : Int32) (x : Nat) : Bool := match b with
  | none => !decide (1095 < d - zI R 116 0 x)
  | some r => !decide (tp (rn (Lx R x d) (cdO R r) []) < (d - zI R 116 0 x).toInt64)
/-- where it is sent on to -/
def rt (R : zH) (b : Option Nat) (d : Int32) : Nat → Nat → Option Nat
  | 0, _ => none
  | n + 1, x => if zI R 114 0 x = 2 then (if sO R b d x = true then rt R b d n (zI R 115 0 x).toNatClampNeg else none) else some x
theorem since_rg {d z : Int32} (hd : zib d 1501 = true) (hz : zib z 1501 = true) : hld (d - z).toInt64 = (d - z).toInt64 := by
  have a := zib_ex hd
  have b := zib_ex hz
  have e := tI_sub (a := d.toNatClampNeg) (b := z.toNatClampNeg) (by omega) (by omega)
  rw [nI_rd a.2, nI_rd b.2] at e
  exact hld_nn (by omega)
theorem lc_gt (x y : Int64) : 0 < lg_cmp x y ↔ y < x := by
  have := lc_le x y
  constructor
  · intro h
    refine Decidable.byContradiction fun z => ?_
    exact absurd (this.mpr z) (Int32.not_le.mpr h)
  · intro h
    exact Int32.not_le.mp (fun z => this.mp z h)
theorem e_sentC (I : Inq C R) {b : Option Nat} {d : Int32} {x : Nat} (hb : ∀ r, b = some r → r < zN C 6) (hd : zib d 1501 = true) (hx : x < zN C 3) (hm : zI R 114 0 x = 2) : ∃ C1, f_X9_isSentOn 0 (some x) (zR C 3 x 9) d b C = some ((if sO R b d x = true then 1 else 0), C1) ∧ SJ C C1 := by
  obtain ⟨a1, a2, a3, a4, a5⟩ := Q_amv I x hx hm
  have hk := Q_kc I
  unfold KC at hk
  unfold f_X9_isSentOn
  rw [a1, Option.bind_some, a4]
  cases b with
  | none =>
    simp only [Option.bind_some, zop, sO]
    by_cases h : 1095 < d - zI R 116 0 x
    · simp only [h, if_true, decide_true, Bool.not_true, Bool.false_eq_true, if_false]
      exact ⟨C, rfl, SJ.rf⟩
    · simp only [h, if_false, decide_false, Bool.not_false, if_true]
      exact ⟨C, rfl, SJ.rf⟩
  | some r =>
    have hr := hb r rfl
    obtain ⟨C0, f1, f2, f3⟩ := e_freshJ (Q_kc I)
    have I0 := Inq_SC I f2.sc
    have hk0 := Q_kc I0
    unfold KC at hk0
    obtain ⟨b1, b2⟩ := Q_abk I0 x (by rw [f2.2.2.2.1]; exact hx)
    obtain ⟨b3, b4⟩ := Q_abk I0 (zI R 115 0 x).toNatClampNeg (by rw [f2.2.2.2.1]; exact (zib_ex a2).1)
    have n1 := (Q_bno I0 _ (zib_ex b2).1).2
    have n2 := (Q_bno I0 _ (zib_ex b4).1).2
    rw [nI_rd (zib_ex b2).2] at n1
    rw [nI_rd (zib_ex b4).2] at n2
    generalize hC3 : zsJ (zsJ (zsJ C0 26 0 0 (Int32.toInt64 (zI R 110 0 x))) 26 0 1 (Int32.toInt64 (zI R 110 0 (zI R 115 0 x).toNatClampNeg))) 26 0 9 (Int32.toInt64 (d - zI R 116 0 x)) = C3
    have F3 : SJ C C3 := by
      subst hC3
      exact ((f2.set26 0 _).set26 1 _).set26 9 _
    have I3 := Inq_SC I F3.sc
    have hk3 := Q_kc I3
    unfold KC at hk3
    have h0 : hld 0 = 0 := by decide
    obtain ⟨C4, v1, v2⟩ := cval I3 (r := r) (by rw [F3.2.2.2.1]; exact hr) (L := Lx R x d) (fun i hi => by
      subst hC3
      unfold Lx
      simp only [wJ_sJ]
      by_cases e0 : i = 0
      · subst e0
        simp [hld_zib b2]
      · by_cases e1 : i = 1
        · subst e1
          simp [hld_zib b4]
        · by_cases e9 : i = 9
          · subst e9
            simp [since_rg hd a5]
          · simp [e0, e1, e9, f3 i hi, h0])
    have hz : ∀ k, zI C0 3 x k = zI C 3 x k := fun k => f2.1 3 x k
    simp only [Option.bind_some, zop, hk, f1, b1, b3, hk0, zgd, zlt, wN_sI, wN_sJ, wN_sR, wL_sI, wL_sJ, wL_sR, wI_sI, wI_sJ, wI_sR, wJ_sI, wJ_sJ, wJ_sR, wR_sI, wR_sJ, wR_sR, show zib 0 10 = true by decide, show zib 1 10 = true by decide, show zib 9 10 = true by decide, if_true, n1, n2, show Int32.toNatClampNeg 0 = 0 by decide, show Int32.toNatClampNeg 1 = 1 by decide, show Int32.toNatClampNeg 9 = 9 by decide, hC3, hk3, v1, sO]
    by_cases h : tp (rn (Lx R x d) (cdO R r) []) < (d - zI R 116 0 x).toInt64
    · rw [if_pos ((lc_gt _ _).mpr h)]
      simp only [h, decide_true, Bool.not_true, Bool.false_eq_true, if_false]
      exact ⟨C4, rfl, F3.fw v2⟩
    · rw [if_neg (fun z => h ((lc_gt _ _).mp z))]
      simp only [h, decide_false, Bool.not_false, if_true]
      exact ⟨C4, rfl, F3.fw v2⟩
end ZSN
