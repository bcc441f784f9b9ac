/-! ===== the law's own calls ===== -/
def LX (G : zG) (p : Program) (s : State) (m : MethodId) (meth : Method) (c : Code) (b L : Nat) (xs : Nat → Int32) : Prop :=
  p.tables.exec = Jvm.exec ∧ c.code = code ∧ meth.sig.returnType = ret ∧ c.maxLocals = 4 ∧ s.vm.findClass R_law = some m.cls ∧ (∀ w ∈ ztb, w.before #[Value.ref b] s = true) ∧ va_X b L xs s s.heap ∧ b < s.heap.size ∧ meth.locks = false ∧ zKs G (fun q => s.heap.size ≤ q) s
section ZLC
variable {G : zG} {p : Program} {e : Env} {s : State} {m : MethodId} {below : List Frame} {meth : Method} {c : Code} {b L : Nat} {xs : Nat → Int32} {M' : zM} {D kc' ks' pc n idx q i cells slots : Nat} {As : List zV} {Post' : Option zV → zH → Prop} {ph1 ph2 : Nat → Nat → Nat} {S1 S2 : zH} {H : Heap} {locs : List Loc} {la : Array Slot} {rest : List Value} {f : Nat → Bool} {Q : State → Prop}
theorem lk_pre (X : LX G p s m meth c b L xs) (hw : WW G s.heap.size ph1 S1 ph2 S2 H) (hS : va_S (fun q => s.heap.size ≤ q) s.heap H locs) (hz : ∀ v ∈ As, zo S1 v) : ∀ U : State, U.heap = H → s.WarmedH U.vm → (fun (a : Array Value) (U : State) => a = (As.map (zv ph1)).toArray ∧ zKs G (AX s.heap.size ph2 S2) U ∧ (∀ q, U.heap.size ≤ q → AX s.heap.size ph2 S2 q) ∧ zW G ph1 S1 U.heap ∧ zcv (AX s.heap.size ph2 S2) ph1 S1 ∧ ∀ v ∈ As, zo S1 v) (As.map (zv ph1)).toArray U := by
  intro U hU hW
  obtain ⟨hx, hb, hret, hml, hown, hts, hX, hbl, hlk, hK⟩ := X
  refine ⟨rfl, (hK.warm hW (fun a h1 h2 => by rw [hU]; exact hS.2.1 a h1 h2)).sub (fun q z => z.1), fun q hq => ⟨?_, fun ⟨p', j, hj, e1⟩ => ?_⟩, by rw [hU]; exact hw.1, hw.cv, hz⟩
  · rw [hU] at hq
    exact Nat.le_trans hS.1 hq
  · have := (hw.2.1.1 p' j hj).lt
    rw [e1] at this
    rw [hU] at hq
    omega
theorem lk_back (hf : fok f) (hw : WW G s.heap.size ph1 S1 ph2 S2 H) (hS : va_S (fun q => s.heap.size ≤ q) s.heap H locs) {a : Array Value}
    (hr : va_Run p G.1 e room_1 s m #[Value.ref b] below meth c H locs cells slots kc' ks' (F0 m pc la ((As.map (zv ph1)).reverse ++ .ref (ph1 q i) :: rest)) rest (zQc G (AX s.heap.size ph2 S2) ph1 S1 Post' a) (AX s.heap.size ph2 S2))
    (k : ∀ r S1' ph1' H1 locs1, Post' r S1' → (∀ v, r = some v → zo S1' v) → WW G s.heap.size ph1' (zct1 S1' f) ph2 S2 H1 → va_S (fun q => s.heap.size ≤ q) s.heap H1 locs1 → (∀ p i, i < zN S1 p → ph1' p i = ph1 p i) → (∀ p, zN S1 p ≤ zN S1' p) → W p G.1 e room_1 s m #[Value.ref b] below meth c H1 locs1 (cells + kc') (slots + ks') Q (F0 m (pc + 3) la ((r.map (zv ph1')).toList ++ rest))) :
    W p G.1 e room_1 s m #[Value.ref b] below meth c H locs cells slots Q (F0 m pc la ((As.map (zv ph1)).reverse ++ .ref (ph1 q i) :: rest)) := by
  intro T0 hT0 X0
  obtain ⟨v, st₀, t, T', L', h0, X', hL, e1, e2, ⟨⟨r, S1', ph1', hv, hzo, hW1, hcv1, hle, hP⟩, hz, hk⟩, stp⟩ := hr T0 hT0 X0
  rw [h0] at hz hk
  have hS' : va_S (fun q => s.heap.size ≤ q) s.heap T'.heap (locs ++ L') := by
    refine ⟨Nat.le_trans hS.1 (by rw [e1]; exact hz), fun q h1 h2 => ?_, fun q hq => ?_⟩
    · rw [e1, hk q (Nat.lt_of_lt_of_le h1 hS.1) (fun z => h2 z.1)]
      exact hS.2.1 q h1 h2
    · rcases List.mem_append.mp hq with h | h
      · exact hS.2.2 q h
      · exact (hL q h).1
  have hWW : WW G s.heap.size ph1' (zct1 S1' f) ph2 S2 T'.heap := by
    refine ⟨by rw [e1]; exact hW1.cut hf, hw.2.1.keep (fun p' j hj => ?_), fun p' j hj hnz => ?_, hw.2.2.2.1, fun p' j q' j' hj hj' hn1 hn2 e3 => ?_, fun p' hp' => ?_, hw.2.2.2.2.2.2⟩
    · rw [e1]
      exact hk _ (hw.2.1.1 p' j hj).lt (fun z => z.2 ⟨p', j, hj, rfl⟩)
    · exact (hcv1 p' j (Nat.lt_of_lt_of_le hj (zct1_le _ _ _)) hnz).1
    · exact (hcv1 p' j (Nat.lt_of_lt_of_le hj (zct1_le _ _ _)) hn1).2 ⟨q', j', hj', e3.symm⟩
    · exact hf.1 p' (zct1_f hp')
  have kk := k r S1' ph1' T'.heap (locs ++ L') hP hzo hWW hS' hle.2 hle.1
  obtain ⟨t2, a1, b1⟩ := kk T' rfl X'
  refine ⟨t2, stp t2 ?_, b1⟩
  have hv' : v = r.map (zv ph1') := Outcome.returned.inj hv
  rw [hv']
  exact a1
/-- a call on one of the two objects -/
theorem lk_callV {Cn : String} (X : LX G p s m meth c b L xs) (hf : fok f) (hd : decode code pc = .ok (.invokevirtual idx, 3)) (hm : zmk M' n) (hl : Cond.methodLink R_law idx M'.1 ∈ ztb) (hin : Cond.instanceMethod M'.1 ∈ ztb) (hsel : Cond.selects Cn M'.1 M'.1 ∈ ztb) (hC : zpc q Cn) (hn : As.length = n) (h8 : (rest.map fun v => v.category).sum ≤ 8) (hA : ∀ v ∈ As, zo S1 v) (hi : i < zN S1 q)
    (hc : zct G M' D kc' ks' (vR q (some i) :: As) S1 Post') (hD : D ≤ 100) (g3 : cells + kc' ≤ 20000) (g4 : slots + ks' ≤ 2500000) (hw : WW G s.heap.size ph1 S1 ph2 S2 H) (hS : va_S (fun q => s.heap.size ≤ q) s.heap H locs) (hla : la.size = 4)
    (k : ∀ r S1' ph1' H1 locs1, Post' r S1' → (∀ v, r = some v → zo S1' v) → WW G s.heap.size ph1' (zct1 S1' f) ph2 S2 H1 → va_S (fun q => s.heap.size ≤ q) s.heap H1 locs1 → (∀ p i, i < zN S1 p → ph1' p i = ph1 p i) → (∀ p, zN S1 p ≤ zN S1' p) → W p G.1 e room_1 s m #[Value.ref b] below meth c H1 locs1 (cells + kc') (slots + ks') Q (F0 m (pc + 3) la ((r.map (zv ph1')).toList ++ rest))) :
    W p G.1 e room_1 s m #[Value.ref b] below meth c H locs cells slots Q (F0 m pc la ((As.map (zv ph1)).reverse ++ .ref (ph1 q i) :: rest)) := by
  obtain ⟨hx, hb, hret, hml, hown, hts, hX, hbl, hlk, hK⟩ := id X
  have hM := hc { frames := D, cells := kc', slots := ks', locals := 64 * D } ph1 (AX s.heap.size ph2 S2) (Nat.le_refl _) (Nat.le_refl _) rfl rfl
  have hAll : ∀ v ∈ vR q (some i) :: As, zo S1 v := fun v hv => by
    rcases List.mem_cons.mp hv with e1 | e1
    · rw [e1]
      intro j hj
      cases hj
      exact hi
    · exact hA v e1
  obtain ⟨cell, c1, c2, c3, -⟩ := zrecv (hK.sub (B := AX s.heap.size ph2 S2) (fun q z => z.1)) hw.1 hi hC
  have hmL := hm.2.2.2.2
  refine lk_back hf hw hS (va_runV (C := Cn) (b := ph1 q i) (As := As.map (zv ph1)) (rest := rest) (n := n) (bytes := M'.2.1) (maxL := M'.2.2.1) (ret := M'.2.2.2) ⟨hx, hb, hml, hown, hts⟩ hM ⟨⟨rfl, rfl, ?_, ?_, zws hm hts, List.mem_cons_self, hts _ hm.1, hts _ hm.2.1, hm.2.2.1, hm.len, hts _ hl⟩, hts _ hin, hts _ hsel⟩ ⟨zblind, ⟨cell, c1, c2, c3⟩, lk_pre (As := vR q (some i) :: As) X hw hS hAll⟩ rfl (by rw [List.length_map]; exact hn) hla rfl (lv_room h8) hd ⟨Nat.le_trans g3 lw_rc, Nat.le_trans g4 lw_rs⟩) k
  · show D + 1 ≤ room_1.frames
    exact Nat.le_trans (Nat.succ_le_succ hD) lw_rf
  · show 8 + (M'.2.2.1 + 11) + 64 * D ≤ room_1.locals
    exact Nat.le_trans (show 8 + (M'.2.2.1 + 11) + 64 * D ≤ 6464 by omega) lw_rl
/-- a constructor -/
theorem lk_callI (X : LX G p s m meth c b L xs) (hf : fok f) (hd : decode code pc = .ok (.invokespecial idx, 3)) (hm : zmk M' n) (hnone : M'.2.2.2 = none) (hname : M'.1.name = "<init>") (hl : Cond.methodLink R_law idx M'.1 ∈ ztb) (hin : Cond.instanceMethod M'.1 ∈ ztb) (hn : As.length = n) (h8 : (rest.map fun v => v.category).sum ≤ 8) (hA : ∀ v ∈ As, zo S1 v) (hi : i < zN S1 q)
    (hc : zct G M' D kc' ks' (vR q (some i) :: As) S1 Post') (hD : D ≤ 100) (g3 : cells + kc' ≤ 20000) (g4 : slots + ks' ≤ 2500000) (hw : WW G s.heap.size ph1 S1 ph2 S2 H) (hS : va_S (fun q => s.heap.size ≤ q) s.heap H locs) (hla : la.size = 4)
    (k : ∀ r S1' ph1' H1 locs1, Post' r S1' → (∀ v, r = some v → zo S1' v) → WW G s.heap.size ph1' (zct1 S1' f) ph2 S2 H1 → va_S (fun q => s.heap.size ≤ q) s.heap H1 locs1 → (∀ p i, i < zN S1 p → ph1' p i = ph1 p i) → (∀ p, zN S1 p ≤ zN S1' p) → W p G.1 e room_1 s m #[Value.ref b] below meth c H1 locs1 (cells + kc') (slots + ks') Q (F0 m (pc + 3) la ((r.map (zv ph1')).toList ++ rest))) :
    W p G.1 e room_1 s m #[Value.ref b] below meth c H locs cells slots Q (F0 m pc la ((As.map (zv ph1)).reverse ++ .ref (ph1 q i) :: rest)) := by
  obtain ⟨hx, hb, hret, hml, hown, hts, hX, hbl, hlk, hK⟩ := id X
  have hM := hc { frames := D, cells := kc', slots := ks', locals := 64 * D } ph1 (AX s.heap.size ph2 S2) (Nat.le_refl _) (Nat.le_refl _) rfl rfl
  have hAll : ∀ v ∈ vR q (some i) :: As, zo S1 v := fun v hv => by
    rcases List.mem_cons.mp hv with e1 | e1
    · rw [e1]
      intro j hj
      cases hj
      exact hi
    · exact hA v e1
  have hmL := hm.2.2.2.2
  have hcode := hts _ hm.1
  have hcw : Cond.code M'.1 M'.2.1 M'.2.2.1 none ∈ (Cond.code M'.1 M'.2.1 M'.2.2.1 M'.2.2.2 :: ztb) := by rw [hnone]; exact List.mem_cons_self
  refine lk_back hf hw hS (va_runI (b := ph1 q i) (As := As.map (zv ph1)) (rest := rest) (n := n) (bytes := M'.2.1) (maxL := M'.2.2.1) ⟨hx, hb, hml, hown, hts⟩ hM ⟨⟨rfl, rfl, ?_, ?_, zws hm hts, hcw, by rw [hnone] at hcode; exact hcode, hts _ hm.2.1, hm.2.2.1, hm.len, hts _ hl⟩, hname, hts _ hin⟩ ⟨zblind, lk_pre (As := vR q (some i) :: As) X hw hS hAll⟩ rfl (by rw [List.length_map]; exact hn) hla rfl (lv_room h8) hd ⟨Nat.le_trans g3 lw_rc, Nat.le_trans g4 lw_rs⟩) k
  · show D + 1 ≤ room_1.frames
    exact Nat.le_trans (Nat.succ_le_succ hD) lw_rf
  · show 8 + (M'.2.2.1 + 11) + 64 * D ≤ room_1.locals
    exact Nat.le_trans (show 8 + (M'.2.2.1 + 11) + 64 * D ≤ 6464 by omega) lw_rl
end ZLC
