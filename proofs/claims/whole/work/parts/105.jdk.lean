/-! ===== the JDK's pieces: contracts ===== -/
theorem jca {p : Nat} (hp : 10 ≤ p ∧ p ≤ 13) : ∃ C, zpc (p - 7) C ∧ Cond.castable C "java/lang/Object" ∈ ztn := by
  rcases jp hp with rfl | rfl | rfl | rfl
  · exact ⟨RX0, pc_3, ztn_at 1510 (by decide +kernel)⟩
  · exact ⟨RX3, pc_4, ztn_at 1512 (by decide +kernel)⟩
  · exact ⟨RX4, pc_5, ztn_at 1513 (by decide +kernel)⟩
  · exact ⟨RX5, pc_6, ztn_at 1511 (by decide +kernel)⟩
section ZCQ
variable {G : zG} {M : zM} {D kc ks pc : Nat} {ls : List (Nat × zV)} {st : List zV} {S S1 : zH} {Post : Option zV → zH → Prop}
/-- the references of a list's row go to another row of that pool -/
theorem zn_acpR {q a b t : Nat} {C : String} {x : Int32} (hk : zk q = .inr (4, t + 2)) (hC : zpc t C) (hca : Cond.castable C "java/lang/Object" ∈ ztn) (hab : a ≠ b) (hx0 : ¬ x < 0) (h4 : x.toNatClampNeg ≤ zL S q a) (h5 : x.toNatClampNeg ≤ zL S q b) (h6 : 0 < zL S q b) (h7 : 0 < zL S q a) (hM : M.1.cls = RJ7) (hd : decode M.2.1 pc = .ok (.invokestatic 150, 3)) (h8 : (st.map zcat).sum ≤ 8) (k : zn G M (D + 1) kc ks (pc + 3) ls st (zcpR S q a b x.toNatClampNeg) Post) : zn G M (D + 1) kc ks pc ls (vI x :: vI 0 :: vR q (some b) :: vI 0 :: vR q (some a) :: st) S Post := by
  intro p e R s m args below meth c H locs cells slots cm sm ph A la X Rm T F
  obtain ⟨hx, hb, hml, hret, hlk, hown, hnm, hts, hK, hA⟩ := id X
  obtain ⟨r1, r2, r3, r4, r5, r6⟩ := id Rm
  have hz := F.1
  have ha : a < zN S q := zsh (zs4 hz) a rfl
  have hbn : b < zN S q := zsh (zs2 hz) b rfl
  have hc0 := zAR (T.1.1 q a ha) hk h7
  have hc1 := zAR (T.1.1 q b hbn) hk h6
  have hkd : ∀ k, zkd q k = t + 2 := fun k => by unfold zkd; rw [hk]
  have f0 : ∀ i, (fun k => zv ph (zfv S q i k)) = fun k => va_rf ((zR S q i k).map (ph t)) := fun i => by funext k; rw [zfv_2 (hkd k)]; rfl
  rw [f0 a] at hc0
  rw [f0 b] at hc1
  have ht : (zyt G.2.2.1)[4]? = some (G.2.2.1 4, .object "java/lang/Object") := rfl
  obtain ⟨-, k0, hk0, cm0, hkk0⟩ := (hK.1.2 4 _ ht).1 (zL S q a) (fun j => va_rf ((zR S q a j).map (ph t)))
  obtain ⟨-, k1, hk1, cm1, hkk1⟩ := (hK.1.2 4 _ ht).1 (zL S q b) (fun j => va_rf ((zR S q b j).map (ph t)))
  have h8' := zst8 (ph := ph) (m := m) (la := la) (pc := pc) (gst := (st.map (zv ph))) h8
  have w := ws_acp
  rw [← hM] at w
  intro T0 hT0 X0
  obtain ⟨vm', X', step⟩ := X0.arraycopy hx hown (hts _ w.1) (hts _ w.2.1) (hts _ w.2.2.1) (hts _ w.2.2.2) (src := ph q a) (dst := ph q b) (cs := arrV (G.2.2.1 4) (zL S q a) (fun j => va_rf ((zR S q a j).map (ph t)))) (cd := arrV (G.2.2.1 4) (zL S q b) (fun j => va_rf ((zR S q b j).map (ph t)))) (srcPos := 0) (destPos := 0) (n := x) (by rw [hT0]; exact hc0) (by rw [hT0]; exact hc1)
    (fun _ h => by cases h) (fun _ h => by cases h) (fun h => by cases h) (fun h => by cases h) hk0 hk1 hkk0 hkk1 rfl (by decide) (by decide) hx0
    (by rw [znn x hx0, arrV_size]; show ¬ (0 : Int) + _ > _; omega)
    (by rw [znn x hx0, arrV_size]; show ¬ (0 : Int) + _ > _; omega)
    (fun vm₁ hal i hi => by
      have e : (arrV (G.2.2.1 4) (zL S q a) (fun j => va_rf ((zR S q a j).map (ph t)))).slots.getD ((0 : Int32).toNatClampNeg + i) .null = va_rf ((zR S q a ((0 : Int32).toNatClampNeg + i)).map (ph t)) := by
        rw [Array.getD_eq_getD_getElem?, arrV_read _ _ (by rw [sb_cl0]; omega)]
        rfl
      rw [e]
      cases hy : zR S q a ((0 : Int32).toNatClampNeg + i) with
      | none => exact ⟨rfl, trivial⟩
      | some y =>
        have hyv : y < zN S t := by
          have := T.1.2.2.1 q a ((0 : Int32).toNatClampNeg + i) ha
          rw [zfv_2 (hkd _)] at this
          exact this y hy
        obtain ⟨cellV, g1, g2, g3, g4⟩ := zrecv hK T.1 hyv hC
        obtain ⟨kA, comp, r1', r2', r3', -⟩ := (hK.1.2 4 _ ht).2
        cases hk1.symm.trans r1'
        cases hkk1.symm.trans r2'
        obtain ⟨kC, hkC, -⟩ := Vm.findClass_spec g3
        obtain ⟨kE, hkE, -⟩ := Vm.findClass_spec r3'
        obtain ⟨kC', hkC', -⟩ := hal.2.2 _ _ hkC
        obtain ⟨kE', hkE', -⟩ := hal.2.2 _ _ hkE
        refine ⟨rfl, cellV, (show T0.heap[ph t y]? = some cellV by rw [hT0]; exact g1), (fun q h => by rw [h] at g2; cases g2), ⟨kC', hkC'⟩, ?_, ?_⟩
        · exact ⟨kE', hkE'⟩
        · show vm₁.assignable _ _ = true
          rw [hal.assignable]
          exact vb_asgC (hK.2.1 _ hca) _ _ r3' g3)
    (g := F0 m pc la (.int x :: .int 0 :: .ref (ph q b) :: .int 0 :: .ref (ph q a) :: st.map (zv ph))) rfl (by rw [hml]; exact F.2.2.1) (rest := st.map (zv ph)) rfl (by rw [hb]; exact hd) (by omega) (by
      have hw : nativeFrameWords "java/lang/System" "arraycopy" 5 ≤ 20 := (by decide)
      have : 2 * (F0 m pc la (st.map (zv ph))).monitorRoom + ((st.map (zv ph)).map fun v => v.category).sum ≤ 8 := h8'
      have e0 : (F0 m pc la (.int x :: .int 0 :: .ref (ph q b) :: .int 0 :: .ref (ph q a) :: st.map (zv ph))).monitorRoom = (F0 m pc la (st.map (zv ph))).monitorRoom := rfl
      show 2 * (F0 m pc la _).monitorRoom + _ + _ ≤ _
      rw [e0]
      omega)
  have e1 : copied (arrV (G.2.2.1 4) (zL S q a) (fun j => va_rf ((zR S q a j).map (ph t)))) (arrV (G.2.2.1 4) (zL S q b) (fun j => va_rf ((zR S q b j).map (ph t)))) 0 0 x = arrV (G.2.2.1 4) (zL S q b) (fun j => va_rf (va_cpy (fun j => (zR S q a j).map (ph t)) (fun j => (zR S q b j).map (ph t)) 0 0 x.toNatClampNeg j)) := by
    have := va_copied (fun z => va_rf z) (G.2.2.1 4) (G.2.2.1 4) (n0 := zL S q a) (n1 := zL S q b) (sp := 0) (dp := 0) (n := x.toNatClampNeg) (fun j => (zR S q a j).map (ph t)) (fun j => (zR S q b j).map (ph t)) (by omega)
    exact this
  rw [e1] at X' step
  have hl : ph q b < H.size := (Array.getElem?_eq_some_iff.mp hc1).1
  have hcv : ∀ l, zfv (zcpR S q a b x.toNatClampNeg) q b l = vR t (if l < x.toNatClampNeg then zR S q a l else zR S q b l) := by
    intro l
    rw [zfv_2 (hkd l)]
    show vR t (if q = q ∧ b = b ∧ l < x.toNatClampNeg then zR S q a l else zR S q b l) = _
    simp
  refine (zn_heap (S1 := zcpR S q a b x.toNatClampNeg) (fun _ => rfl) k X Rm (zarr_cpy (H' := (H.setIfInBounds (ph q b) (arrV (G.2.2.1 4) (zL S q b) (fun j => va_rf (va_cpy (fun j => (zR S q a j).map (ph t)) (fun j => (zR S q b j).map (ph t)) 0 0 x.toNatClampNeg j))))) T hk hbn h6 (fun _ => rfl) (fun _ _ => rfl) ?_ ?_ ?_ ?_ ?_ ?_) (zs1 (zs4 hz)) F.2.1 F.2.2 _ (by rw [← hT0]; rfl) X').imp (fun t h => ⟨step t h.1, h.2⟩)
  · intro a1 b1 c1 hne
    unfold zfv
    have : zR (zcpR S q a b x.toNatClampNeg) a1 b1 c1 = zR S a1 b1 c1 := by
      show (if a1 = q ∧ b1 = b ∧ c1 < x.toNatClampNeg then _ else _) = _
      rw [if_neg (fun z => hne ⟨z.1, z.2.1⟩)]
      rfl
    rw [this]
    rfl
  · intro l
    rw [hcv l]
    have h1 := T.1.2.2.1 q a l ha
    have h2 := T.1.2.2.1 q b l hbn
    rw [zfv_2 (hkd l)] at h1 h2
    split
    · exact h1
    · exact h2
  · rw [show (fun k => zv ph (zfv (zcpR S q a b x.toNatClampNeg) q b k)) = fun j => va_rf (va_cpy (fun j => (zR S q a j).map (ph t)) (fun j => (zR S q b j).map (ph t)) 0 0 x.toNatClampNeg j) from by
      funext j
      rw [hcv j]
      show va_rf _ = _
      unfold va_cpy
      by_cases hlt : j < x.toNatClampNeg
      · simp [hlt]
      · simp [hlt]]
    simp [Array.getElem?_setIfInBounds, hl]
  · simp
  · intro z hz
    simp [Array.getElem?_setIfInBounds, Ne.symm hz]
  · intro l hl
    rcases List.mem_append.mp hl with h | h
    · exact Or.inl h
    · obtain ⟨z, -, hz⟩ := List.mem_map.mp h
      exact Or.inr (by rw [← hz])
end ZCQ
section ZJ
variable {G : zG} {D kc ks : Nat} {S : zH} {p i : Nat}
theorem zc_size {out : Int32} (hp : 10 ≤ p ∧ p ≤ 13) (hD : 0 ≤ D) (h : zl_size p i S = some out) : zct G M_Jx4a65c_size_8abf5 D 0 0 [vR p (some i)] S (zpo (some (vI out)) S) := by
  refine zct_of (by decide) (Nat.le_of_ble_eq_true rfl) ?_
  show zn G M_Jx4a65c_size_8abf5 D 0 0 0 [(0, vR p (some i))] [] S _
  refine zn_aload_n (pc := 0) 0 dJx4a65c_size_8abf5_0 rfl rfl ?_
  refine zn_getI (pc := 1) (jfs hp).1 (jfs hp).2 dJx4a65c_size_8abf5_1 ?_
  have hz := Option.some.inj h
  exact zn_ireturn (pc := 4) dJx4a65c_size_8abf5_4 rfl ⟨by rw [hz], rfl⟩
theorem zc_ci3 {x n : Int32} (h1 : ¬ x < 0) (h2 : x < n) : zct G M_J3_checkIndex_8e157 0 0 0 [vI x, vI n, vR 3 none] S (zpo (some (vI x)) S) := by
  refine zct_of (by decide) (Nat.le_of_ble_eq_true rfl) ?_
  show zn G M_J3_checkIndex_8e157 0 0 0 0 [(0, vI x), (1, vI n), (2, vR 3 none)] [] S _
  refine zn_iload_n (pc := 0) 0 dJ3_checkIndex_8e157_0 rfl rfl ?_
  refine zn_if_lt (pc := 1) (tgt := 9) dJ3_checkIndex_8e157_1 (by decide) (fun q => absurd q h1) (fun _ => ?_)
  refine zn_iload_n (pc := 4) 0 dJ3_checkIndex_8e157_4 rfl rfl ?_
  refine zn_iload_n (pc := 5) 1 dJ3_checkIndex_8e157_5 rfl rfl ?_
  refine zn_icmp_lt (pc := 6) (tgt := 16) dJ3_checkIndex_8e157_6 (by decide) (fun _ => ?_) (fun q => absurd h2 q)
  refine zn_iload_n (pc := 16) 0 dJ3_checkIndex_8e157_16 rfl rfl ?_
  exact zn_ireturn (pc := 17) dJ3_checkIndex_8e157_17 rfl ⟨rfl, rfl⟩
theorem zc_ci2 {x n : Int32} (h1 : ¬ x < 0) (h2 : x < n) : zct G M_J15_checkIndex_7cf53 1 0 0 [vI x, vI n] S (zpo (some (vI x)) S) := by
  refine zct_of (by decide) (Nat.le_of_ble_eq_true rfl) ?_
  show zn G M_J15_checkIndex_7cf53 1 0 0 0 [(0, vI x), (1, vI n)] [] S _
  refine zn_iload_n (pc := 0) 0 dJ15_checkIndex_7cf53_0 rfl rfl ?_
  refine zn_iload_n (pc := 1) 1 dJ15_checkIndex_7cf53_1 rfl rfl ?_
  refine zn_null (pc := 2) 3 dJ15_checkIndex_7cf53_2 ?_
  refine zn_cSv (pc := 3) (kc := 0) (ks := 0) (kc' := 0) (ks' := 0) (As := [vI x, vI n, vR 3 none]) (st := []) dJ15_checkIndex_7cf53_3 cs_J15_105 rfl rfl (Nat.le_of_ble_eq_true rfl) (zc_ci3 h1 h2) ?_
  exact zn_ireturn (pc := 6) dJ15_checkIndex_7cf53_6 rfl ⟨rfl, rfl⟩
theorem zc_elem {x : Int32} {a : Nat} (hp : 10 ≤ p ∧ p ≤ 13) (ha : zR S p i 1 = some a) (h : zib x (zL S (p + 4) a) = true) : zct G M_Jx4a65c_elementData_915e3 0 0 0 [vR p (some i), vI x] S (zpo (some (vR (p - 7) (zR S (p + 4) a x.toNatClampNeg))) S) := by
  refine zct_of (by decide) (Nat.le_of_ble_eq_true rfl) ?_
  show zn G M_Jx4a65c_elementData_915e3 0 0 0 0 [(0, vR p (some i)), (1, vI x)] [] S _
  refine zn_aload_n (pc := 0) 0 dJx4a65c_elementData_915e3_0 rfl rfl ?_
  refine zn_getR (pc := 1) (jfe hp).1 (jfe hp).2 dJx4a65c_elementData_915e3_1 ?_
  rw [ha]
  refine zn_iload_n (pc := 4) 1 dJx4a65c_elementData_915e3_4 rfl rfl ?_
  refine zn_aaload (pc := 5) (jk hp) rfl dJx4a65c_elementData_915e3_5 (zib_in h) ?_
  exact zn_areturn (pc := 6) dJx4a65c_elementData_915e3_6 rfl (Or.inl ⟨_, rfl⟩) ⟨rfl, rfl⟩
theorem zc_get {x : Int32} {out : Option Nat} {q : Nat} (hp : 10 ≤ p ∧ p ≤ 13) (hq : q = p - 7) (hD : 3 ≤ D) (h : zl_get p i x S = some out) : zct G M_Jx4a65c_get_915e3 D 0 0 [vR p (some i), vI x] S (zpo (some (vR q out)) S) := by
  refine zct.mono (D := 2) ?_ (by omega)
  subst hq
  obtain ⟨a, ha, h⟩ := zbd h
  obtain ⟨hb, h⟩ := zgdd h
  simp only [Bool.and_eq_true, Bool.not_eq_true', decide_eq_false_iff_not, decide_eq_true_eq] at hb
  have hz := Option.some.inj h
  refine zct_of (by decide) (Nat.le_of_ble_eq_true rfl) ?_
  show zn G M_Jx4a65c_get_915e3 2 0 0 0 [(0, vR p (some i)), (1, vI x)] [] S _
  refine zn_iload_n (pc := 0) 1 dJx4a65c_get_915e3_0 rfl rfl ?_
  refine zn_aload_n (pc := 1) 0 dJx4a65c_get_915e3_1 rfl rfl ?_
  refine zn_getI (pc := 2) (jfs hp).1 (jfs hp).2 dJx4a65c_get_915e3_2 ?_
  refine zn_cSv (pc := 5) (kc := 0) (ks := 0) (kc' := 0) (ks' := 0) (As := [vI x, vI (zI S p i 2)]) (st := []) dJx4a65c_get_915e3_5 cs_Jx4a65c_118 rfl rfl (Nat.le_of_ble_eq_true rfl) (zc_ci2 hb.1.1 hb.1.2) ?_
  refine zn_pop (pc := 8) dJx4a65c_get_915e3_8 rfl ?_
  refine zn_aload_n (pc := 9) 0 dJx4a65c_get_915e3_9 rfl rfl ?_
  refine zn_iload_n (pc := 10) 1 dJx4a65c_get_915e3_10 rfl rfl ?_
  refine zn_cVv (pc := 11) (kc := 0) (ks := 0) (kc' := 0) (ks' := 0) (As := [vI x]) (st := []) dJx4a65c_get_915e3_11 cs_Jx4a65c_123 (jpc hp) rfl rfl (Nat.le_of_ble_eq_true rfl) ((zc_elem hp ha hb.2).mono (Nat.le_of_ble_eq_true rfl)) ?_
  exact zn_areturn (pc := 14) dJx4a65c_get_915e3_14 rfl (Or.inl ⟨_, rfl⟩) ⟨by rw [hz], rfl⟩
theorem zc_aci (q : Nat) : zct G M_Jxa1e45_init_da8c8 1 0 0 [vR q (some i)] S (zpo none S) := by
  refine zct_of (by decide) (Nat.le_of_ble_eq_true rfl) ?_
  show zn G M_Jxa1e45_init_da8c8 1 0 0 0 [(0, vR q (some i))] [] S _
  refine zn_aload_n (pc := 0) 0 dJxa1e45_init_da8c8_0 rfl rfl ?_
  refine zn_objInit (pc := 1) dJxa1e45_init_da8c8_1 ol_Jxa1e45_1 ws_obj.1 ws_obj.2 (Nat.le_of_ble_eq_true rfl) ?_
  exact zn_return (pc := 4) dJxa1e45_init_da8c8_4 rfl ⟨rfl, rfl⟩
theorem zc_ali (hp : 10 ≤ p ∧ p ≤ 13) : zct G M_Jxc12de_init_da8c8 2 0 0 [vR p (some i)] S (zpo none (zsI S p i 0 0)) := by
  refine zct_of (by decide) (Nat.le_of_ble_eq_true rfl) ?_
  show zn G M_Jxc12de_init_da8c8 2 0 0 0 [(0, vR p (some i))] [] S _
  refine zn_aload_n (pc := 0) 0 dJxc12de_init_da8c8_0 rfl rfl ?_
  refine zn_cI0 (pc := 1) (kc := 0) (ks := 0) (kc' := 0) (ks' := 0) (As := []) (st := []) dJxc12de_init_da8c8_1 cs_Jxc12de_1 rfl rfl (Nat.le_of_ble_eq_true rfl) (zc_aci p) ?_
  refine zn_aload_n (pc := 4) 0 dJxc12de_init_da8c8_4 rfl rfl ?_
  refine zn_iconst (pc := 5) (x := 0) dJxc12de_init_da8c8_5 (by decide) ?_
  refine zn_putI (pc := 6) (jpa hp) (jfm hp).2 dJxc12de_init_da8c8_6 rfl ?_
  exact zn_return (pc := 9) dJxc12de_init_da8c8_9 rfl ⟨rfl, rfl⟩
theorem zc_init {out : zH} (hp : 10 ≤ p ∧ p ≤ 13) (hD : 4 ≤ D) (h : zl_init p i S = some out) : zct G M_Jx4a65c_init_da8c8 D 0 0 [vR p (some i)] S (zpo none out) := by
  refine zct.mono (D := 3) ?_ (by omega)
  obtain ⟨hb, h⟩ := zgdd h
  have hz := Option.some.inj h
  refine zct_of (by decide) (Nat.le_of_ble_eq_true rfl) ?_
  show zn G M_Jx4a65c_init_da8c8 3 0 0 0 [(0, vR p (some i))] [] S _
  refine zn_aload_n (pc := 0) 0 dJx4a65c_init_da8c8_0 rfl rfl ?_
  refine zn_cI0 (pc := 1) (kc := 0) (ks := 0) (kc' := 0) (ks' := 0) (As := []) (st := []) dJx4a65c_init_da8c8_1 cs_Jx4a65c_1 rfl rfl (Nat.le_of_ble_eq_true rfl) (zc_ali hp) ?_
  refine zn_aload_n (pc := 4) 0 dJx4a65c_init_da8c8_4 rfl rfl ?_
  refine zn_empty (pc := 5) hp (of_decide_eq_true hb) rfl dJx4a65c_init_da8c8_5 ?_
  refine zn_putR (pc := 8) (jpe hp) (Or.inr ⟨_, rfl⟩) (jfe hp).2 dJx4a65c_init_da8c8_8 rfl ?_
  exact zn_return (pc := 11) dJx4a65c_init_da8c8_11 rfl ⟨rfl, hz⟩
theorem zc_copy {r : Option Nat} {x : Int32} {out : Nat × zH} (hD : 2 ≤ D) (h : za_copy r x S = some out) : zct G M_J7_copyOf_59c91 D 1 60 [vR 29 r, vI x] S (zpo (some (vR 25 (some out.1))) out.2) := by
  refine zct.mono (D := 1) ?_ (by omega)
  obtain ⟨a, ha, h⟩ := zbd h
  obtain ⟨hb, h⟩ := zgdd h
  simp only [Bool.and_eq_true, decide_eq_true_eq] at hb
  have hz := Option.some.inj h
  subst ha
  have hin := zib_in hb.1.1
  have hx0 : ¬ x < 0 := fun q => hin (Or.inl q)
  have hlt : x.toNatClampNeg < zL S 29 a := Nat.not_le.mp fun q => hin (Or.inr q)
  have hpos : 0 < x.toNatClampNeg := by
    have h1 : (0 : Int32).toInt < x.toInt := Int32.lt_iff_toInt_lt.mp hb.2
    have h2 := znn x hx0
    have h3 : (0 : Int32).toInt = 0 := rfl
    omega
  have hne : ¬ x = Int32.ofNat (zL S 29 a) := by
    intro e
    have h2 : (Int32.ofNat (zL S 29 a)).toNatClampNeg = zL S 29 a := nI_clamp (by omega)
    rw [e, h2] at hlt
    omega
  refine zct_of (by decide) (Nat.le_of_ble_eq_true rfl) ?_
  show zn G M_J7_copyOf_59c91 1 1 60 0 [(0, vR 29 (some a)), (1, vI x)] [] S _
  refine zn_iload_n (pc := 0) 1 dJ7_copyOf_59c91_0 rfl rfl ?_
  refine zn_aload_n (pc := 1) 0 dJ7_copyOf_59c91_1 rfl rfl ?_
  refine zn_alen (pc := 2) zk_29 rfl dJ7_copyOf_59c91_2 ?_
  refine zn_icmp_ne (pc := 3) (tgt := 14) dJ7_copyOf_59c91_3 (by decide) (fun _ => ?_) (fun q => absurd q hne)
  refine zn_iload_n (pc := 14) 1 dJ7_copyOf_59c91_14 rfl rfl ?_
  refine zn_newI (pc := 15) (kc := 0) (ks := 0) (M := M_J7_copyOf_59c91) zk_25 w_arrI dJ7_copyOf_59c91_15 hx0 rfl (by omega) rfl (ks0 := 60) (by omega) ?_
  refine zn_astore_n (pc := 17) (ls' := [(2, vR 25 (some (zN S 25))), (0, vR 29 (some a)), (1, vI x)]) dJ7_copyOf_59c91_17 rfl (Nat.le_of_ble_eq_true rfl) rfl ?_
  refine zn_aload_n (pc := 18) 1 dJ7_copyOf_59c91_18 rfl rfl ?_
  refine zn_iconst (pc := 19) (x := 0) dJ7_copyOf_59c91_19 (by decide) ?_
  refine zn_aload_n (pc := 20) 0 dJ7_copyOf_59c91_20 rfl rfl ?_
  refine zn_iconst (pc := 21) (x := 0) dJ7_copyOf_59c91_21 (by decide) ?_
  refine zn_aload_n (pc := 22) 1 dJ7_copyOf_59c91_22 rfl rfl ?_
  refine zn_alen (pc := 23) zk_29 rfl dJ7_copyOf_59c91_23 ?_
  refine zn_iload_n (pc := 24) 2 dJ7_copyOf_59c91_24 rfl rfl ?_
  refine zn_mmin (pc := 25) dJ7_copyOf_59c91_25 ml_J7_304 ws_min.1 ws_min.2.1 ws_min.2.2 (Nat.le_of_ble_eq_true rfl) ?_
  have hL : zL (znw S 25 x.toNatClampNeg) 29 a = zL S 29 a := by rw [zL_nw]; exact if_neg (fun z => absurd z.1 (by decide))
  have hL2 : zL (znw S 25 x.toNatClampNeg) 25 (zN S 25) = x.toNatClampNeg := by rw [zL_nw]; exact if_pos ⟨rfl, rfl⟩
  have hmin : (if x < Int32.ofNat (zL (znw S 25 x.toNatClampNeg) 29 a) then x else Int32.ofNat (zL (znw S 25 x.toNatClampNeg) 29 a)) = x := by
    rw [hL]
    refine if_pos ?_
    rw [Int32.lt_iff_toInt_lt, znn x hx0]
    have : (Int32.ofNat (zL S 29 a)).toInt = (zL S 29 a : Int) := nI_toInt (by omega)
    omega
  rw [hmin]
  refine zn_acpI (pc := 28) zk_29 zk_25 hx0 (by omega) (by omega) (by omega) (by omega) rfl dJ7_copyOf_59c91_28 (Nat.le_of_ble_eq_true rfl) ?_
  refine zn_aload_n (pc := 31) 0 dJ7_copyOf_59c91_31 rfl rfl ?_
  exact zn_areturn (pc := 32) dJ7_copyOf_59c91_32 rfl (Or.inr ⟨_, rfl⟩) ⟨by rw [← hz], by rw [← hz]⟩
end ZJ
