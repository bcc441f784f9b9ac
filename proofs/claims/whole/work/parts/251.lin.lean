/-! ===== a line goes out, or comes back ===== -/
section ZLI
variable {q : Nat → Nat} {mi : Nat} {C R : zH}
theorem t_342 (I : IN q mi C R) {l m : Nat} {x w : Int32} (hl : l < zN C 4) (hx : zib x (zN C 3) = true) (hw : zib w 5 = true) (hm : m < zN C 5) (hf : ¬ zI R 134 0 m = 0) : TL q mi C R (Option.bind (f_X9_worthOfGood 0 (zR C 3 x.toNatClampNeg 1) (Int32.toInt64 (zI R 123 0 l)) w C) (fun o10 => zlt (zsJ o10.2 3 x.toNatClampNeg 6 ((zJ o10.2 3 x.toNatClampNeg 6) + (if o10.1 < 0 then 0 else o10.1))) (fun S13 => zlt (zsI S13 3 x.toNatClampNeg 11 (Int64.toInt32 (if ((Int32.toInt64 (zI S13 3 x.toNatClampNeg 11)) + (if o10.1 < 0 then 0 else o10.1)) < 1000000000 then ((Int32.toInt64 (zI S13 3 x.toNatClampNeg 11)) + (if o10.1 < 0 then 0 else o10.1)) else 1000000000))) (fun S16 => zlt (zsI S16 2 (zI R 135 0 m).toNatClampNeg 3 (Int64.toInt32 (if ((Int32.toInt64 (zI S16 2 (zI R 135 0 m).toNatClampNeg 3)) + (if o10.1 < 0 then 0 else o10.1)) < 1000000000 then ((Int32.toInt64 (zI S16 2 (zI R 135 0 m).toNatClampNeg 3)) + (if o10.1 < 0 then 0 else o10.1)) else 1000000000))) (fun S19 => some S19))))) (f_X10_goesOut_342 0 (nI l) w x (nI m) R) := by
  have hr := N_kr I
  unfold KR at hr
  have hmx := N_mx I
  have hi := (zib_ex hx).1
  have z40 := zib_mono hx hmx.1
  have z60 : zib (nI l) 60 = true := zib_nI (by omega) (by decide)
  have z30 : zib (nI m) 30 = true := zib_nI (by omega) (by decide)
  have cl : (nI l).toNatClampNeg = l := nI_clamp (by omega)
  have cm : (nI m).toNatClampNeg = m := nI_clamp (by omega)
  obtain ⟨am1, am2⟩ := N_lam I l hl
  obtain ⟨b1, b2⟩ := N_abk I _ hi
  obtain ⟨fb1, fb2⟩ := (N_mfb I m hm).2 hf
  obtain ⟨v, C1, R2, R4, w1, w2, w3, w4, w5, w6⟩ := t_wog I.q hi am2 hw (N_day I).1
  have I4 : IN q mi C1 R4 := IN_SR (IN_SC I w2.sc) w6
  have k2 := N_kr (IN_SR I w4)
  unfold KR at k2
  have k4 := N_kr I4
  unfold KR at k4
  have e110 : ∀ k, zI R2 110 0 k = zI R 110 0 k := fun k => w4.1 110 0 k (by decide) (by simp)
  have e104 : ∀ k, zI R2 104 0 k = zI R 104 0 k := fun k => w4.1 104 0 k (by decide) (by simp)
  have e123 : ∀ k, zI R2 123 0 k = zI R 123 0 k := fun k => w4.1 123 0 k (by decide) (by simp)
  have e46 : zI R2 40 0 46 = zI R 40 0 46 := w4.1 40 0 46 (by decide) (by decide)
  have N3 : zN C1 3 = zN C 3 := w2.2.2.2.1 3
  have hi1 : x.toNatClampNeg < zN C1 3 := by rw [N3]; exact hi
  have s1 := N_asum I4 _ hi1
  obtain ⟨gd1, gd2⟩ := N_agd I4 _ hi1
  have e135 : zI R4 135 0 m = zI R 135 0 m := w6.1 135 0 m (by decide) (by simp)
  obtain ⟨ow1, ow2⟩ := N_bow I4 _ (zib_ex fb2).1
  unfold f_X10_goesOut_342
  simp only [w1, w3, Option.bind_some, k2, zgd, zlt, wN_sI, wN_sJ, wN_sR, wL_sI, wL_sJ, wL_sR, wI_sI, wI_sJ, wI_sR, wJ_sI, wJ_sJ, wJ_sR, wR_sI, wR_sJ, wR_sR, z40, z60, b2, cl, if_true, e110, e104, e123, e46, show zib 98 128 = true by decide, show zib 110 128 = true by decide, show zib 102 128 = true by decide, show zib 119 128 = true by decide, show Int32.toNatClampNeg 98 = 98 by decide, show Int32.toNatClampNeg 110 = 110 by decide, show Int32.toNatClampNeg 102 = 102 by decide, show Int32.toNatClampNeg 119 = 119 by decide, show ¬ (110 : Nat) = 158 by decide, show ¬ (104 : Nat) = 158 by decide, show ¬ (123 : Nat) = 158 by decide, show ¬ (40 : Nat) = 158 by decide, false_and, if_false, w5]
  by_cases hv : v ≤ 0
  · rw [if_pos hv]
    have hv0 : (if v.toInt64 < 0 then (0 : Int64) else v.toInt64) = 0 := by
      by_cases e : v.toInt64 < 0
      · rw [if_pos e]
      · rw [if_neg e]
        rw [show (0 : Int64) = (0 : Int32).toInt64 from rfl, i64_lt] at e
        have : v = 0 := Int32.le_antisymm hv (Int32.not_lt.mp e)
        rw [this]
        rfl
    have mn : ∀ g : Int32, zib g 1000000001 = true → Int64.toInt32 (if g.toInt64 < 1000000000 then g.toInt64 else 1000000000) = g := by
      intro g hg
      have hp : 0 ≤ g.toInt64.toInt := by
        rw [Int32.toInt_toInt64, znn g (zib_ex hg).2]
        omega
      have hb : -1000000000 ≤ g.toInt ∧ g.toInt ≤ 1000000000 := by
        have z := zib_ex hg
        have e := znn g z.2
        omega
      rw [mn_hld hp, hld_nn hb]
      exact (i64_inj _ _).mp (lw_32 (by rw [Int32.toInt_toInt64]; exact hb))
    simp only [hv0, Int64.add_zero, show ¬ (2 : Nat) = 3 by decide, false_and, if_false, gd1, ow1, mn _ gd2, mn _ ow2]
    rw [zsJ_self, ← gd1, zsI_self, ← ow1, zsI_self]
    exact ⟨C1, R4, rfl, rfl, I4, w2.fl, w6.gl⟩
  · rw [if_neg hv]
    have hvn : ¬ v < 0 := fun z => hv (Int32.le_of_lt z)
    have hv1 : (if v.toInt64 < 0 then (0 : Int64) else v.toInt64) = v.toInt64 := by
      rw [if_neg (show ¬ v.toInt64 < 0 from fun z => hvn ((i64_lt v 0).mp z))]
    have p1 := ad_pos gd2 hvn
    have p2 := ad_pos ow2 hvn
    have I5 := n_sum I4 hi1 (zJ R4 118 0 x.toNatClampNeg + v.toInt64)
    have I6 := n_good I5 (i := x.toNatClampNeg) hi1 (hld_zb p1)
    have I7 := n_owed I6 (b := (zI R 135 0 m).toNatClampNeg) (hld_zb p2)
    simp only [hv1, gd1, ow1, s1, show ¬ (2 : Nat) = 3 by decide, show ¬ (135 : Nat) = 117 by decide, show ¬ (106 : Nat) = 117 by decide, false_and, if_false, mn_hld p1, mn_hld p2, k4, Option.bind_some, e_held, z40, z30, cm, if_true, e135, fb2]
    refine ⟨_, _, rfl, rfl, I7, w2.fl.tr ⟨fun q => by simp [wN_sI, wN_sJ, wN_sR, wL_sI, wL_sJ, wL_sR, wI_sI, wI_sJ, wI_sR, wJ_sI, wJ_sJ, wJ_sR, wR_sI, wR_sJ, wR_sR], fun i k => by simp [wN_sI, wN_sJ, wN_sR, wL_sI, wL_sJ, wL_sR, wI_sI, wI_sJ, wI_sR, wJ_sI, wJ_sJ, wJ_sR, wR_sI, wR_sJ, wR_sR], fun q i k => by simp [wN_sI, wN_sJ, wN_sR, wL_sI, wL_sJ, wL_sR, wI_sI, wI_sJ, wI_sR, wJ_sI, wJ_sJ, wJ_sR, wR_sI, wR_sJ, wR_sR]⟩, w6.gl.tr (fun q i k a b c d e f w => ?_)⟩
    rw [wI_sI, if_neg (fun z => e z.1), wI_sI, if_neg (fun z => d z.1), wI_sJ]
theorem t_c23 (I : IN q mi C R) {l : Nat} {x w : Int32} (hl : l < zN C 4) (hx : zib x (zN C 3) = true) (hw : zib w 5 = true) : TL q mi C R (f_X9_comeBack_23 0 (some x.toNatClampNeg) (Int32.toInt64 (zI R 123 0 l)) w C) (f_X10_goesOut_296 fu 0 (nI l) w x 0 R) := by
  have hmx := (N_mx I).2.2.1
  obtain ⟨b, b1, b2⟩ := l_baf (y := nI l) (w := w) I hx (zN C 5) 0 fu fu (by omega) (by unfold fu; omega) (by unfold fu; omega)
  unfold f_X9_comeBack_23
  rw [show f_X9_bankAtFault 0 (some x.toNatClampNeg) C = some b from b1, Option.bind_some]
  rcases b2 with ⟨c1, c2⟩ | ⟨m, m1, m2, m3, m4, m5⟩
  · subst c1
    rw [show f_X10_goesOut_296 fu 0 (nI l) w x 0 R = some R from c2]
    exact ⟨C, R, rfl, rfl, I, FL.rf, GL.rf⟩
  · subst m3
    rw [show f_X10_goesOut_296 fu 0 (nI l) w x 0 R = f_X10_goesOut_342 0 (nI l) w x (nI m) R from m5]
    exact t_342 I hl hx hw m1 m2
theorem t_cb (I : IN q mi C R) {l : Nat} {x w : Int32} (hl : l < zN C 4) (hx : zib x (zN C 3) = true) (hw : zib w 5 = true) : TL q mi C R (f_X9_comeBack 0 (some x.toNatClampNeg) (Int32.toInt64 (zI R 123 0 l)) w C) (f_X10_goesOut_262 0 (nI l) w x R) := by
  have hr := N_kr I
  unfold KR at hr
  have hmx := N_mx I
  have hi := (zib_ex hx).1
  have z40 := zib_mono hx hmx.1
  obtain ⟨b1, b2⟩ := N_abk I _ hi
  obtain ⟨f1, f2⟩ := N_bfee I _ (zib_ex b2).1
  unfold f_X9_comeBack f_X10_goesOut_262
  by_cases h1 : w = 1
  · rw [if_pos h1, if_pos h1]
    simp only [Option.bind_some, b1, f1, N_asum I _ hi, zlt, hr, zgd, z40, b2, if_true]
    have I1 := n_sum I hi (zJ R 118 0 x.toNatClampNeg - Int32.toInt64 (zI R 104 0 (zI R 110 0 x.toNatClampNeg).toNatClampNeg))
    have := t_c23 I1 (l := l) (x := x) (w := w) hl hx hw
    simp only [wI_sJ] at this
    exact this.pre ⟨fun q => by simp [wN_sI, wN_sJ, wN_sR, wL_sI, wL_sJ, wL_sR, wI_sI, wI_sJ, wI_sR, wJ_sI, wJ_sJ, wJ_sR, wR_sI, wR_sJ, wR_sR], fun i k => by simp [wN_sI, wN_sJ, wN_sR, wL_sI, wL_sJ, wL_sR, wI_sI, wI_sJ, wI_sR, wJ_sI, wJ_sJ, wJ_sR, wR_sI, wR_sJ, wR_sR], fun q i k => by simp [wN_sI, wN_sJ, wN_sR, wL_sI, wL_sJ, wL_sR, wI_sI, wI_sJ, wI_sR, wJ_sI, wJ_sJ, wJ_sR, wR_sI, wR_sJ, wR_sR]⟩ (fun q i k _ _ _ _ _ _ _ => by rw [wI_sJ])
  · rw [if_neg h1, if_neg h1]
    exact t_c23 I hl hx hw
/-- a line comes back -/
theorem t_94 (I : IN q mi C R) {l v : Nat} {fo : Option Nat} {xb : Int32} (hl : l < zN C 4) (hv : v < 4) (hfo : ∀ a, fo = some a → a < zN C 3) : TL q mi C R (f_X9_doLine_94 0 (some l) fo (nI (v + 1)) C) (f_X10_goesOut_129 0 (nI l) (bJ fo) xb (nI (v + 1)) R) := by
  have hr := N_kr I
  unfold KR at hr
  have hmx := N_mx I
  have cl : (nI l).toNatClampNeg = l := nI_clamp (by omega)
  have z60 : zib (nI l) 60 = true := zib_nI (by omega) (by decide)
  have ix : (4 : Int32) * nI l + nI (v + 1) - 1 = nI (4 * l + v) := by
    rw [show (4 : Int32) * nI l = nI (4 * l) from nJ_mul 4 l, nJ_add]
    exact nI_pred (4 * l + v)
  have z240 : zib (nI (4 * l + v)) 240 = true := zib_nI (by omega) (by decide)
  have cv : (nI (4 * l + v)).toNatClampNeg = 4 * l + v := nI_clamp (by omega)
  have n0 : ¬ nI (v + 1) = 0 := nI_ne0 (by omega) (by omega)
  have n1 : ¬ nI (v + 1) < 0 := nI_pos (by omega)
  have n5 : ¬ Int32.ofNat 5 ≤ nI (v + 1) := fun z => by have := (nJ_le (a := 5) (by decide) (by omega)).mp z; omega
  have z5 : zib (nI (v + 1)) 5 = true := zib_nI (by omega) (by decide)
  have cw : (nI (v + 1)).toNatClampNeg = v + 1 := nI_clamp (by omega)
  obtain ⟨k1, k2, k3⟩ := N_lbk I l hl
  obtain ⟨l1, l2, l3, l4⟩ := N_lft I l hl
  obtain ⟨am1, am2⟩ := N_lam I l hl
  have I1 := n_back I hl hv (zI R 128 0 (4 * l + v) + 1)
  have hab : f_X3_addBack l (nI (v + 1)) C = some (zsI C 24 l (v + 1) (zI R 128 0 (4 * l + v) + 1)) := by
    unfold f_X3_addBack
    simp only [n1, if_false, k1, Option.bind_some, k2, n5, zgd, z5, if_true, cw, zlt, k3 v hv]
  have F1 : FL C (zsI C 24 l (v + 1) (zI R 128 0 (4 * l + v) + 1)) := ⟨fun q => by simp [wN_sI, wN_sJ, wN_sR, wL_sI, wL_sJ, wL_sR, wI_sI, wI_sJ, wI_sR, wJ_sI, wJ_sJ, wJ_sR, wR_sI, wR_sJ, wR_sR], fun i k => by simp [wN_sI, wN_sJ, wN_sR, wL_sI, wL_sJ, wL_sR, wI_sI, wI_sJ, wI_sR, wJ_sI, wJ_sJ, wJ_sR, wR_sI, wR_sJ, wR_sR], fun q i k => by simp [wN_sI, wN_sJ, wN_sR, wL_sI, wL_sJ, wL_sR, wI_sI, wI_sJ, wI_sR, wJ_sI, wJ_sJ, wJ_sR, wR_sI, wR_sJ, wR_sR]⟩
  have G1 : GL R (zsI R 128 0 (4 * l + v) (zI R 128 0 (4 * l + v) + 1)) := fun q i k a b c d e f w => by
    rw [wI_sI, if_neg (fun z => c z.1)]
  have e43 : zI (zsI C 24 l (v + 1) (zI R 128 0 (4 * l + v) + 1)) 4 l 3 = zI R 123 0 l := by
    rw [wI_sI, if_neg (by omega)]
    exact am1
  have w121 : zI (zsI R 128 0 (4 * l + v) (zI R 128 0 (4 * l + v) + 1)) 121 0 l = zI R 121 0 l := by
    rw [wI_sI, if_neg (by omega)]
  have w123 : zI (zsI R 128 0 (4 * l + v) (zI R 128 0 (4 * l + v) + 1)) 123 0 l = zI R 123 0 l := by
    rw [wI_sI, if_neg (by omega)]
  unfold f_X9_doLine_94 f_X10_goesOut_129 f_X9_doLine_113
  rw [if_neg n0, ix]
  simp only [Option.bind_some, hab, hr, zgd, z240, if_true, cv, zlt, bd_id, wR_sI, wL_sI, z60, cl, w121, e43]
  cases fo with
  | none =>
    simp only [zop, bJ, l1, Option.bind_some, show ¬ (0 : Int32) ≤ -9 by decide, if_false]
    have := t_cb I1 (l := l) (x := zI R 121 0 l) (w := nI (v + 1)) hl l2 z5
    rw [w123] at this
    exact this.pre F1 G1
  | some a =>
    have ha := hfo a rfl
    have h0 : (0 : Int32) ≤ nI a := Int32.not_lt.mp (nI_pos (by omega))
    simp only [zop, bJ, Option.bind_some, h0, if_true]
    have := t_cb I1 (l := l) (x := nI a) (w := nI (v + 1)) hl (show zib (nI a) (zN C 3) = true from zib_nI ha (by omega)) z5
    rw [w123, nI_clamp (by omega)] at this
    exact this.pre F1 G1
end ZLI
