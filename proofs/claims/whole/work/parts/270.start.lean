/-! ===== what is known at the law's entry ===== -/
theorem len0 {args : Array Value} {s : State} {tm : Term} {t : Nat} {cell : Cell} (h : (Term.length tm).eval args s none [] s = some (.int 0)) (ht : tm.eval args s none [] s = some (.ref t)) (hc : s.heap[t]? = some cell) : cell.slots.size = 0 ∧ cell.vm ≠ .unknown := by
  obtain ⟨a, cell2, h1, h2, h3⟩ := Term.length_spec h
  rw [h1] at ht
  have ht : a = t := by
    have := Option.some.inj ht
    injection this
  subst ht
  obtain ⟨q1, q2, q3, q4⟩ := State.arrayAt?_spec h2
  have e : cell2 = cell := Option.some.inj (q1.symm.trans hc)
  subst e
  refine ⟨?_, q2⟩
  have hlt : cell2.slots.size < 2 ^ 31 := by
    refine Decidable.byContradiction fun z => ?_
    simp [Term.eval, h1, h2, z] at h
  have h4 : (0 : Int32) = cell2.slots.size.toInt32 := by injection h3
  exact ((nI_inj (b := 0) hlt (by decide)).mp h4.symm)
theorem eq_ref {args : Array Value} {s : State} {t u : Term} {a b : Nat} (h : (Cond.eq t u).before args s = true) (ht : t.eval args s none [] s = some (.ref a)) (hu : u.eval args s none [] s = some (.ref b)) : a = b := by
  simp only [Cond.before, Cond.holds, Cond.value, ht, hu] at h
  simpa using h
theorem ztn_on {w : Cond} (h : w ∈ ztn) : w.onTables = true := by
  have h2 := (List.mem_filter.mp h).2
  cases w <;> first | rfl | cases h2
theorem st_C {s : State} {args : Array Value} (htz : ∀ w ∈ ztb, w.before args s = true) : ∃ D : va_G, ∀ (c : Nat) (q : vw_C), zcl[c]? = some q → u_Kn s q.1 q.2.1 q.2.2 (D.1 c) (D.2 c) := by
  obtain ⟨c0, i0, k0⟩ := u_known (C := RX0) (T := TX0) (N := 13) (n := 13) htz zin_X0 (htz _ (ztb_at 296 (by decide +kernel)))
  obtain ⟨c1, i1, k1⟩ := u_known (C := RX1) (T := TX1) (N := 6) (n := 6) htz zin_X1 (htz _ (ztb_at 67 (by decide +kernel)))
  obtain ⟨c2, i2, k2⟩ := u_known (C := RX2) (T := TX2) (N := 7) (n := 7) htz zin_X2 (htz _ (ztb_at 34 (by decide +kernel)))
  obtain ⟨c3, i3, k3⟩ := u_known (C := RX3) (T := TX3) (N := 11) (n := 11) htz zin_X3 (htz _ (ztb_at 370 (by decide +kernel)))
  obtain ⟨c4, i4, k4⟩ := u_known (C := RX4) (T := TX4) (N := 11) (n := 11) htz zin_X4 (htz _ (ztb_at 283 (by decide +kernel)))
  obtain ⟨c5, i5, k5⟩ := u_known (C := RX5) (T := TX5) (N := 3) (n := 3) htz zin_X5 (htz _ (ztb_at 332 (by decide +kernel)))
  obtain ⟨c6, i6, k6⟩ := u_known (C := RX6) (T := TX6) (N := 3) (n := 3) htz zin_X6 (htz _ (ztb_at 121 (by decide +kernel)))
  obtain ⟨c7, i7, k7⟩ := u_known (C := RX7) (T := TX7) (N := 2) (n := 2) htz zin_X7 (htz _ (ztb_at 179 (by decide +kernel)))
  obtain ⟨c8, i8, k8⟩ := u_known (C := RX8) (T := TX8) (N := 6) (n := 6) htz zin_X8 (htz _ (ztb_at 153 (by decide +kernel)))
  obtain ⟨c9, i9, k9⟩ := u_known (C := RX9) (T := TX9) (N := 11) (n := 11) htz zin_X9 (htz _ (ztb_at 26 (by decide +kernel)))
  obtain ⟨c10, i10, k10⟩ := u_known (C := RX10) (T := TX10) (N := 65) (n := 65) htz zin_X10 (htz _ (ztb_at 1032 (by decide +kernel)))
  obtain ⟨c11, i11, k11⟩ := u_known (C := RJx4a65c) (T := TJx4a65c) (N := 3) (n := 3) htz zin_Jx4a65c (htz _ (ztb_at 95 (by decide +kernel)))
  refine ⟨(fun k => if k = 0 then c0 else if k = 1 then c1 else if k = 2 then c2 else if k = 3 then c3 else if k = 4 then c4 else if k = 5 then c5 else if k = 6 then c6 else if k = 7 then c7 else if k = 8 then c8 else if k = 9 then c9 else if k = 10 then c10 else c11, fun k => if k = 0 then i0 else if k = 1 then i1 else if k = 2 then i2 else if k = 3 then i3 else if k = 4 then i4 else if k = 5 then i5 else if k = 6 then i6 else if k = 7 then i7 else if k = 8 then i8 else if k = 9 then i9 else if k = 10 then i10 else i11), ?_⟩
  intro c q hq
  match c, hq with
  | 0, hq => cases hq; exact k0
  | 1, hq => cases hq; exact k1
  | 2, hq => cases hq; exact k2
  | 3, hq => cases hq; exact k3
  | 4, hq => cases hq; exact k4
  | 5, hq => cases hq; exact k5
  | 6, hq => cases hq; exact k6
  | 7, hq => cases hq; exact k7
  | 8, hq => cases hq; exact k8
  | 9, hq => cases hq; exact k9
  | 10, hq => cases hq; exact k10
  | 11, hq => cases hq; exact k11
  | n + 12, hq => cases hq
theorem st_A {s : State} {args : Array Value} {ty : FieldType} (h : (Cond.arrayClass ty).before args s = true) : ∃ c, ArrOfT s c ty ∧ s.vm.findClass ("[" ++ ty.toString) = some c := by
  obtain ⟨c, k, comp, h1, h2, h3⟩ := Cond.arrayClass_spec (args := args) (first := s) (o := none) (s := s) (idx := []) h
  exact ⟨c, fun n z => ⟨(fun k h => by cases h), k, h2, comp, h3⟩, h1⟩
theorem st_O {s : State} {args : Array Value} {C : String} (h : (Cond.arrayOver (.object C)).before args s = true) : ∃ c, ArrOfT s c (.object C) ∧ va_RA s c (.object C) := by
  obtain ⟨comp, c, k, h1, h2, h3, h4, h5⟩ := Cond.arrayOver_spec (args := args) (first := s) (o := none) (s := s) (idx := []) h
  exact ⟨c, fun n z => ⟨(fun k h => by cases h), k, h3, comp, h4⟩, k, comp, h3, h4, h1, h5⟩
theorem st_G {p : Program} {s : State} {m : MethodId} {meth : Method} {c : Code} {b L : Nat} {xs : Nat → Int32} (l : Launch) (C0 : lw_At p s m meth c b L xs) : ∃ G : zG, G.1 = l ∧ zKs G (fun q => s.heap.size ≤ q) s := by
  obtain ⟨hx, hb, hr, hml, hown, hts, hX, hbl, hlocks, hgv⟩ := C0
  have htz : ∀ w ∈ ztb, w.before #[Value.ref b] s = true := fun w hw => hts w (ztb_tbl w hw)
  have hgs := flat_of_before _ hgv
  have hA : ∀ a : Nat, a < s.heap.size → ¬ (fun q => s.heap.size ≤ q) a := fun a h z => by have : s.heap.size ≤ a := z; omega
  obtain ⟨D, hD⟩ := st_C htz
  obtain ⟨a0, A0, B0⟩ := st_A (htz _ w_arrI)
  obtain ⟨a1, A1, B1⟩ := st_A (htz _ w_arrJ)
  obtain ⟨a2, A2, B2⟩ := st_A (htz _ w_arrZ)
  have hob : (Cond.arrayOver (.object "SwitchSeven$Bank")).before #[Value.ref b] s = true := hts _ (List.mem_append_right _ (List.mem_of_getElem? (i := 66) (by decide +kernel)))
  have hoo : (Cond.arrayOver (.object "java/lang/Object")).before #[Value.ref b] s = true := hts _ (List.mem_append_right _ (List.mem_of_getElem? (i := 582) (by decide +kernel)))
  obtain ⟨a3, A3, B3⟩ := st_O hob
  obtain ⟨a4, A4, B4⟩ := st_O hoo
  have e1 : (Cond.arrayOf (Term.static "java/util/ArrayList" "DEFAULTCAPACITY_EMPTY_ELEMENTDATA" "[Ljava/lang/Object;") (.object "java/lang/Object")).before #[Value.ref b] s = true := hgs _ (by decide +kernel)
  have e2 : (Cond.exactly (Term.static "java/util/ArrayList" "DEFAULTCAPACITY_EMPTY_ELEMENTDATA" "[Ljava/lang/Object;") "[Ljava/lang/Object;").before #[Value.ref b] s = true := hgs _ (by decide +kernel)
  have e3 : (Cond.eq (.length (Term.static "java/util/ArrayList" "DEFAULTCAPACITY_EMPTY_ELEMENTDATA" "[Ljava/lang/Object;")) (.int 0)).before #[Value.ref b] s = true := hgs _ (by decide +kernel)
  have e4 : (Cond.eq (Term.static "java/lang/String" "COMPACT_STRINGS" "Z") (.int 1)).before #[Value.ref b] s = true := hgs _ (by decide +kernel)
  have e5 : (Cond.isRef (.mirror "[Ljava/lang/Object;")).before #[Value.ref b] s = true := hgs _ (by decide +kernel)
  have e6 : (Cond.exactly (Term.string "SwitchSeven$RuleBook" 18) "java/lang/String").before #[Value.ref b] s = true := hgs _ (by decide +kernel)
  have e7 : (Cond.exactly (Term.string "SwitchSeven$Tape" 63) "java/lang/String").before #[Value.ref b] s = true := hgs _ (by decide +kernel)
  have e8 : (Cond.eq (Term.string "SwitchSeven$RuleBook" 18) (Term.string "SwitchSeven$Tape" 63)).before #[Value.ref b] s = true := hgs _ (by decide +kernel)
  have e9 : (Cond.eq (.field (Term.string "SwitchSeven$RuleBook" 18) "java/lang/String" "coder" "B") (.int 0)).before #[Value.ref b] s = true := hgs _ (by decide +kernel)
  have e10 : (Cond.arrayOf (.field (Term.string "SwitchSeven$RuleBook" 18) "java/lang/String" "value" "[B") .byte).before #[Value.ref b] s = true := hgs _ (by decide +kernel)
  have e11 : (Cond.eq (.length (.field (Term.string "SwitchSeven$RuleBook" 18) "java/lang/String" "value" "[B")) (.int 10)).before #[Value.ref b] s = true := hgs _ (by decide +kernel)
  have m12 : ∀ j, j < 10 → (Cond.eq (.elem (.field (Term.string "SwitchSeven$RuleBook" 18) "java/lang/String" "value" "[B") (.int (Int32.ofNat j))) (.int ((([[98, 116, 115, 111, 106, 108, 110, 102, 119, 100]] : List (List Int32)).getD 0 []).getD j 0))) ∈ flatC (Jvm.Cond.and given_1 narrow_1) := by decide +kernel
  obtain ⟨t, T1, T2⟩ := va_Tof (f := fun _ => .null) (N := 0) (A := fun q => s.heap.size ≤ q) (by decide) e1 (va_eqt e3) (fun j hj => absurd hj (Nat.not_lt_zero _)) hA
  obtain ⟨ta, tc, cell, tk, x1, x2, x3, x4, x5, x6, x7⟩ := Cond.exactly_spec (args := #[Value.ref b]) (first := s) (o := none) (s := s) (idx := []) e2
  have hta : ta = t := by
    rw [x1] at T1
    have := Option.some.inj T1
    injection this
  subst hta
  have hcls : cell.cls = a4 := by
    obtain ⟨kA, comp, z1, z2, z3, z4⟩ := B4
    rw [x6]
    exact Option.some.inj (x2.symm.trans z4)
  obtain ⟨y1, y2⟩ := len0 (va_eqt e3) x1 x3
  obtain ⟨mi, hmi⟩ := va_Mi.of e5
  have v0 : ∀ i : Nat, i < 1 → i = 0 := fun i h => by omega
  obtain ⟨adK, adV, S1, S2⟩ := vk_Sof (N := 1) (tm := fun _ => (Term.string "SwitchSeven$RuleBook" 18)) (len := [10]) (byt := [[98, 116, 115, 111, 106, 108, 110, 102, 119, 100]]) (A := fun q => s.heap.size ≤ q) (fun i hi => by obtain rfl := v0 i hi; decide) (fun _ _ => e6) (fun _ _ => e9) (fun _ _ => e10) (fun i hi => by obtain rfl := v0 i hi; exact e11) (fun i hi j hj => by obtain rfl := v0 i hi; exact hgs _ (m12 j hj)) (fun i j hi hj hne => absurd ((v0 i hi).trans (v0 j hj).symm) hne) hA
  have S3 := S2 0 (by decide)
  obtain ⟨tb, tc2, cell2, tk2, w1, w2, w3, w4, w5, w6, w7⟩ := Cond.exactly_spec (args := #[Value.ref b]) (first := s) (o := none) (s := s) (idx := []) e7
  have htb : adK 0 = tb := eq_ref e8 S3 w1
  refine ⟨(l, D, fun k => if k = 0 then a0 else if k = 1 then a1 else if k = 2 then a2 else if k = 3 then a3 else a4, fun k => if k = 0 then ta else if k = 1 then mi else if k = 2 then adK 0 else adV 0), rfl, ⟨hD, fun k q hq => ?_⟩, fun w hw => va_Nw.of (ztn_on hw) (hts w (List.mem_append_right _ (List.mem_filter.mp hw).1)), va_AO.of hob, va_AO.of hoo, ?_⟩
  · match k, hq with
    | 0, hq => cases hq; exact ⟨A0, B0⟩
    | 1, hq => cases hq; exact ⟨A1, B1⟩
    | 2, hq => cases hq; exact ⟨A2, B2⟩
    | 3, hq => cases hq; exact ⟨A3, B3⟩
    | 4, hq => cases hq; exact ⟨A4, B4⟩
    | n + 5, hq => cases hq
  · refine ⟨va_Zof (hts _ (List.mem_append_right _ (List.mem_of_getElem? (i := 107) (by decide +kernel)))) (htz _ (ztb_at 6 (by decide +kernel))) x1 hA, T2, ⟨cell, x3, hcls, y1, y2, x5⟩, hA _ (Array.getElem?_eq_some_iff.mp x3).1, hmi, va_Dc.of (hts _ (List.mem_append_right _ (List.mem_of_getElem? (i := 1517) (by decide +kernel)))), vk_R.of (hts _ (List.mem_append_right _ (List.mem_of_getElem? (i := 128) (by decide +kernel)))) S3, vk_R.of (hts _ (List.mem_append_right _ (List.mem_of_getElem? (i := 670) (by decide +kernel)))) (w1.trans (by rw [← htb]; rfl)), ⟨fun i hi => ?_, fun i j hi hj _ => by omega⟩, va_Zof (hts _ (List.mem_append_right _ (List.mem_of_getElem? (i := 138) (by decide +kernel)))) (htz _ (ztb_at 8 (by decide +kernel))) (va_eqt e4) hA⟩
    have : i = 0 := by omega
    subst this
    exact S1.1 0 (by decide)
