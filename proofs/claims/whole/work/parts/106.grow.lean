/-! ===== a list's row grows ===== -/
section ZGR
variable {G : zG} {D kc ks : Nat} {S : zH} {p i : Nat}
/-- Arrays.copyOf(U[], int, Class), called with the class Object[] -/
theorem zm_cp3 (hp : 10 ≤ p ∧ p ≤ 13) {a : Nat} {x : Int32} (hx0 : ¬ x < 0) (hL : 0 < zL S (p + 4) a) (hLx : zL S (p + 4) a ≤ x.toNatClampNeg) (hx8 : x.toNatClampNeg ≤ 80) (h0 : 0 < zN S (p + 4)) (ha : a < zN S (p + 4)) :
    ∀ (rm : Room) (ph : Nat → Nat → Nat) (A : Nat → Prop), 1 ≤ rm.frames → 64 * 1 ≤ rm.locals → rm.cells = 1 → rm.slots = 80 →
    Met G.1 M_J7_copyOf_6403c.1 (Cond.code M_J7_copyOf_6403c.1 M_J7_copyOf_6403c.2.1 M_J7_copyOf_6403c.2.2.1 M_J7_copyOf_6403c.2.2.2 :: ztb) rm (fun v U => v = ([.ref (ph (p + 4) a), .int x, .ref (G.2.2.2 1)] : List Value).toArray ∧ zKs G A U ∧ (∀ q, U.heap.size ≤ q → A q) ∧ zW G ph S U.heap ∧ zcv A ph S)
      (zQc G A ph S (zpo (some (vR (p + 4) (some (zN S (p + 4))))) (zcpR (znw S (p + 4) x.toNatClampNeg) (p + 4) a (zN S (p + 4)) (zL S (p + 4) a)))) 1 80 A := by
  intro rm ph A h1 h2 h3 h4
  obtain ⟨C, hC, hca⟩ := jca hp
  have hne : a ≠ zN S (p + 4) := by omega
  have body : zn G M_J7_copyOf_6403c 1 1 80 6 [(0, vR (p + 4) (some a)), (1, vI x)] [] S (zpo (some (vR (p + 4) (some (zN S (p + 4))))) (zcpR (znw S (p + 4) x.toNatClampNeg) (p + 4) a (zN S (p + 4)) (zL S (p + 4) a))) := by
    refine zn_iload_n (pc := 6) 1 dJ7_copyOf_6403c_6 rfl rfl ?_
    refine zn_newO (pc := 7) (kc := 0) (ks := 0) (M := M_J7_copyOf_6403c) (jk hp) h0 cl_J7_2 dJ7_copyOf_6403c_7 hx0 rfl (by omega) rfl (ks0 := 80) hx8 ?_
    refine zn_goto (pc := 10) (tgt := 24) dJ7_copyOf_6403c_10 (by decide) ?_
    refine zn_astore_n (pc := 24) (ls' := [(3, vR (p + 4) (some (zN S (p + 4)))), (0, vR (p + 4) (some a)), (1, vI x)]) dJ7_copyOf_6403c_24 rfl (Nat.le_of_ble_eq_true rfl) rfl ?_
    refine zn_aload_n (pc := 25) 1 dJ7_copyOf_6403c_25 rfl rfl ?_
    refine zn_iconst (pc := 26) (x := 0) dJ7_copyOf_6403c_26 (by decide) ?_
    refine zn_aload_n (pc := 27) 0 dJ7_copyOf_6403c_27 rfl rfl ?_
    refine zn_iconst (pc := 28) (x := 0) dJ7_copyOf_6403c_28 (by decide) ?_
    refine zn_aload_n (pc := 29) 1 dJ7_copyOf_6403c_29 rfl rfl ?_
    refine zn_alen (pc := 30) (jk hp) rfl dJ7_copyOf_6403c_30 ?_
    refine zn_iload_n (pc := 31) 2 dJ7_copyOf_6403c_31 rfl rfl ?_
    refine zn_mmin (pc := 32) dJ7_copyOf_6403c_32 ml_J7_304 ws_min.1 ws_min.2.1 ws_min.2.2 (Nat.le_of_ble_eq_true rfl) ?_
    have hL1 : zL (znw S (p + 4) x.toNatClampNeg) (p + 4) a = zL S (p + 4) a := by rw [zL_nw]; exact if_neg (fun z => hne z.2)
    have hL2 : zL (znw S (p + 4) x.toNatClampNeg) (p + 4) (zN S (p + 4)) = x.toNatClampNeg := by rw [zL_nw]; exact if_pos ⟨rfl, rfl⟩
    have hmin : (if x < Int32.ofNat (zL (znw S (p + 4) x.toNatClampNeg) (p + 4) a) then x else Int32.ofNat (zL (znw S (p + 4) x.toNatClampNeg) (p + 4) a)) = nI (zL S (p + 4) a) := by
      rw [hL1]
      refine if_neg ?_
      rw [Int32.lt_iff_toInt_lt, znn x hx0]
      have : (Int32.ofNat (zL S (p + 4) a)).toInt = (zL S (p + 4) a : Int) := nI_toInt (by omega)
      omega
    rw [hmin]
    have hcl : (nI (zL S (p + 4) a)).toNatClampNeg = zL S (p + 4) a := nI_clamp (by omega)
    refine zn_acpR (pc := 35) (jk hp) hC hca hne (nI_pos (by omega)) (by rw [hcl, hL1]; exact Nat.le_refl _) (by rw [hcl, hL2]; exact hLx) (by omega) (by rw [hL1]; exact hL) rfl dJ7_copyOf_6403c_35 (Nat.le_of_ble_eq_true rfl) ?_
    rw [hcl]
    refine zn_aload_n (pc := 38) 0 dJ7_copyOf_6403c_38 rfl rfl ?_
    exact zn_areturn (pc := 39) dJ7_copyOf_6403c_39 rfl (Or.inr ⟨_, rfl⟩) ⟨rfl, rfl⟩
  refine Met.ofW (cc := M_J7_copyOf_6403c.2.1) (maxL := M_J7_copyOf_6403c.2.2.1) (ret := M_J7_copyOf_6403c.2.2.2) (by decide) rfl ?_
  intro p0 e s m args below meth c s₁ B hml hv
  obtain ⟨rfl, hK, hA, hW, hcv⟩ := hv
  have hts0 := atoms_spec (ws := Cond.code M_J7_copyOf_6403c.1 M_J7_copyOf_6403c.2.1 M_J7_copyOf_6403c.2.2.1 M_J7_copyOf_6403c.2.2.2 :: ztb) B.pre
  have hts : ∀ w ∈ ztb, w.before _ s = true := fun w hw => hts0 w (List.mem_cons_of_mem _ hw)
  have hown : s.vm.findClass RJ7 = some m.cls := findClass_of_methodNamed B.named
  have he := lv_entry ([.ref (ph (p + 4) a), .int x, .ref (G.2.2.2 1)]) (n := 4) (Nat.le_of_ble_eq_true rfl)
  rw [lg_entry_eq]
  generalize (lg_sl ([.ref (ph (p + 4) a), .int x, .ref (G.2.2.2 1)]) ++ List.replicate (M_J7_copyOf_6403c.2.2.1 - (lg_sl ([.ref (ph (p + 4) a), .int x, .ref (G.2.2.2 1)])).length) Slot.unset).toArray = la at he ⊢
  have he : lv_has la 4 [(0, .ref (ph (p + 4) a)), (1, .int x), (2, .ref (G.2.2.2 1))] := he
  refine lv_aload_n B.exec B.bytes dJ7_copyOf_6403c_0 rfl (lv_at he 2 rfl) ?_
  refine va_ldcM B.exec B.bytes hown (hts _ cl_J7_110) hK.2.2.2.2.2.2.2.2.1 dJ7_copyOf_6403c_1 ?_
  refine lv_acmp_ne (rx := some (G.2.2.2 1)) (ry := some (G.2.2.2 1)) (tgt := 13) B.exec B.bytes dJ7_copyOf_6403c_3 (by decide) (fun z => absurd rfl z) (fun _ => ?_)
  exact body p0 e _ s m _ below meth c s.heap [] 0 0 1 80 ph A la ⟨B.exec, B.bytes, hml, B.returns, B.notSynchronized, hown, (name_of_methodNamed B.named B.method).1, hts, hK, hA⟩
    ⟨h1, h2, by omega, by omega, by show 1 ≤ rm.cells; omega, by show 80 ≤ rm.slots; omega⟩ ⟨hW, va_S.rf, hcv⟩ ⟨fun v h => (by cases h), fun v h => by
      rcases List.mem_cons.mp h with e | e
      · rw [e]; exact fun i hi => by cases hi; exact ha
      · rw [List.mem_singleton.mp e]; trivial, lv_sub he [0, 1] rfl⟩
/-- Arrays.copyOf(T[], int) -/
theorem zc_cpO (hp : 10 ≤ p ∧ p ≤ 13) {a : Nat} {x : Int32} (hx0 : ¬ x < 0) (hL : 0 < zL S (p + 4) a) (hLx : zL S (p + 4) a ≤ x.toNatClampNeg) (hx8 : x.toNatClampNeg ≤ 80) (h0 : 0 < zN S (p + 4)) :
    zct G M_J7_copyOf_1904c 2 1 80 [vR (p + 4) (some a), vI x] S (zpo (some (vR (p + 4) (some (zN S (p + 4))))) (zcpR (znw S (p + 4) x.toNatClampNeg) (p + 4) a (zN S (p + 4)) (zL S (p + 4) a))) := by
  intro rm ph A h1 h2 h3 h4
  refine Met.ofW (cc := M_J7_copyOf_1904c.2.1) (maxL := M_J7_copyOf_1904c.2.2.1) (ret := M_J7_copyOf_1904c.2.2.2) (by decide) rfl ?_
  intro p0 e s m args below meth c s₁ B hml hv
  obtain ⟨rfl, hK, hA, hW, hcv, hzo⟩ := hv
  have ha : a < zN S (p + 4) := hzo _ List.mem_cons_self a rfl
  have hts0 := atoms_spec (ws := Cond.code M_J7_copyOf_1904c.1 M_J7_copyOf_1904c.2.1 M_J7_copyOf_1904c.2.2.1 M_J7_copyOf_1904c.2.2.2 :: ztb) B.pre
  have hts : ∀ w ∈ ztb, w.before _ s = true := fun w hw => hts0 w (List.mem_cons_of_mem _ hw)
  have hown : s.vm.findClass RJ7 = some m.cls := findClass_of_methodNamed B.named
  have he := lv_entry ([.ref (ph (p + 4) a), .int x]) (n := 2) (Nat.le_of_ble_eq_true rfl)
  show W _ _ _ _ _ _ _ _ _ _ _ _ _ _ _ (entryFrame m ([.ref (ph (p + 4) a), .int x] : List Value).toArray 2)
  rw [lg_entry_eq]
  generalize (lg_sl ([.ref (ph (p + 4) a), .int x]) ++ List.replicate (2 - (lg_sl ([.ref (ph (p + 4) a), .int x])).length) Slot.unset).toArray = la at he ⊢
  have he : lv_has la 2 [(0, .ref (ph (p + 4) a)), (1, .int x)] := he
  have X : zCx G M_J7_copyOf_1904c A p0 s m _ meth c := ⟨B.exec, B.bytes, hml, B.returns, B.notSynchronized, hown, (name_of_methodNamed B.named B.method).1, hts, hK, hA⟩
  have T : zSt G A s s.heap [] ph S := ⟨hW, va_S.rf, hcv⟩
  have hc := zAR (hW.1 (p + 4) a ha) (jk hp) hL
  have ht : (zyt G.2.2.1)[4]? = some (G.2.2.1 4, .object "java/lang/Object") := rfl
  have hnm : s.vm.findClass "[Ljava/lang/Object;" = some (G.2.2.1 4) := va_nmO (hK.1.2 4 _ ht).2 (by decide)
  have h1' : 2 ≤ rm.frames := h1
  have h2' : 128 ≤ rm.locals := h2
  refine lv_aload_n B.exec B.bytes dJ7_copyOf_1904c_0 rfl (lv_at he 0 rfl) ?_
  refine lv_iload_n B.exec B.bytes dJ7_copyOf_1904c_1 rfl (lv_at he 1 rfl) ?_
  refine lv_aload_n B.exec B.bytes dJ7_copyOf_1904c_2 rfl (lv_at he 0 rfl) ?_
  refine va_getC (C := "[Ljava/lang/Object;") (mi := G.2.2.2 1) B.exec B.bytes (hml.trans he.1.symm) hown (hts _ ws_gc.1) (va_Dc.use hK.2.2.2.2.2.2.2.2.2.1) (hts _ ws_gc.2.1) (hts _ ws_gc.2.2.1) (hts _ ws_gc.2.2.2) hK.2.2.2.2.2.2.2.2.1 ⟨_, hc, rfl, hnm⟩ (by show 1 ≤ rm.frames; omega) (by show _ ≤ rm.locals; simp only [List.map_cons, List.map_nil, List.sum_cons, List.sum_nil, Value.category]; omega) dJ7_copyOf_1904c_3 ?_
  have hM := zm_cp3 (G := G) hp hx0 hL hLx hx8 h0 ha { frames := 1, cells := 1, slots := 80, locals := 64 } ph A (Nat.le_refl _) (Nat.le_refl _) rfl rfl
  have hws := zws mk_J7_copyOf_6403c hts
  have hln : Cond.methodLink RJ7 300 M_J7_copyOf_6403c.1 ∈ ztb := ztb_at 578 (by decide +kernel)
  have hblind : FrameBlind (fun v U => v = ([.ref (ph (p + 4) a), .int x, .ref (G.2.2.2 1)] : List Value).toArray ∧ zKs G A U ∧ (∀ q, U.heap.size ≤ q → A q) ∧ zW G ph S U.heap ∧ zcv A ph S) := by
    intro a' U g mk h
    obtain ⟨q1, q2, q3, q4, q5⟩ := h
    exact ⟨q1, zKs.same (U := U.calling g mk a') (u := U) rfl rfl q2, q3, q4, q5⟩
  have hr := va_runS (p := p0) (l := G.1) (e := e) (below := below) (meth := meth) (H := s.heap) (locs := []) (cells := 0) (slots := 0) (R := (headSpec (Cond.code M_J7_copyOf_1904c.1 M_J7_copyOf_1904c.2.1 M_J7_copyOf_1904c.2.2.1 M_J7_copyOf_1904c.2.2.2 :: ztb) rm).room) (own := RJ7) (index := 300) (cc := M_J7_copyOf_1904c.2.1) (nL := 2) (As := [.ref (ph (p + 4) a), .int x, .ref (G.2.2.2 1)]) (rest := []) (n := 3) (bytes := M_J7_copyOf_6403c.2.1) (maxL := M_J7_copyOf_6403c.2.2.1) (ret := M_J7_copyOf_6403c.2.2.2) (g := F0 m (3 + 3) la [.ref (G.2.2.2 1), .int x, .ref (ph (p + 4) a)])
    ⟨B.exec, B.bytes, hml, hown, hts⟩ hM ⟨⟨rfl, rfl, (by show 1 + 1 ≤ rm.frames; omega), (by show 8 + (4 + 11) + 64 ≤ rm.locals; omega), hws, List.mem_cons_self, hts _ mk_J7_copyOf_6403c.1, hts _ mk_J7_copyOf_6403c.2.1, mk_J7_copyOf_6403c.2.2.1, mk_J7_copyOf_6403c.len, hts _ hln⟩, hts _ cs_J7_300.2.2⟩
    ⟨hblind, fun U hU hWm => ⟨rfl, hK.warm hWm (fun a h1 h2 => by rw [hU]), fun q hq => hA q (by rw [hU] at hq; exact hq), by rw [hU]; exact hW, hcv⟩⟩ rfl rfl he.1 rfl (by exact lv_room (Nat.zero_le _)) dJ7_copyOf_1904c_6 ⟨by show 0 + 1 ≤ rm.cells; omega, by show 0 + 80 ≤ rm.slots; omega⟩
  refine zcall (M := M_J7_copyOf_1904c) (D := 1) (kc := 0) (ks := 0) (kc' := 1) (ks' := 80) (st := []) (ls := []) X ⟨h1', h2', by omega, by omega, by show 1 ≤ rm.cells; omega, by show 80 ≤ rm.slots; omega⟩ T (fun v h => (by cases h)) (fun v h => (by cases h)) (lv_sub he [] rfl) hr (fun r S1 h => ?_)
  obtain ⟨rfl, rfl⟩ := h
  exact zn_areturn (pc := 9) dJ7_copyOf_1904c_9 rfl (Or.inr ⟨_, rfl⟩) ⟨rfl, rfl⟩
end ZGR
