/-! ===== rules: calls ===== -/
/-- a method that the tables know, of n parameters (this apart) -/
def zmk (M : zM) (n : Nat) : Prop := Cond.code M.1 M.2.1 M.2.2.1 M.2.2.2 ∈ ztb ∧ Cond.initialized M.1.cls ∈ ztb ∧ (M.1.cls ≠ "java/lang/invoke/MethodHandle" ∧ M.1.cls ≠ "java/lang/invoke/VarHandle") ∧ (parseMethodDescriptor M.1.desc).map (fun d => d.parameters.length) = some n ∧ M.2.2.1 ≤ 45
def zln (own : String) (idx : Nat) (M : zM) : Prop := Cond.methodLink own idx M.1 ∈ ztb ∨ ∃ host, Cond.methodLinkNest own idx M.1 host ∈ ztn
theorem zmk.len {M : zM} {n : Nat} (h : zmk M n) : ∀ sig, parseMethodDescriptor M.1.desc = some sig → n = sig.parameters.length := by
  intro sig hs
  have h2 := h.2.2.2.1
  rw [hs] at h2
  exact (Option.some.inj h2).symm
theorem zws {args : Array Value} {s : State} {M : zM} {n : Nat} (h : zmk M n) (hts : ∀ w ∈ ztb, w.before args s = true) : ∀ w ∈ (Cond.code M.1 M.2.1 M.2.2.1 M.2.2.2 :: ztb), ∀ (a' : Array Value) (U : State), s.WarmedH U.vm → w.before a' U = true := by
  intro w hw a' U hW
  have hw' : w ∈ ztb := by
    rcases List.mem_cons.mp hw with e | e
    · rw [e]; exact h.1
    · exact e
  exact word_at hW (good_of_word (ztb_good w hw')) (hts w hw')
section ZC
variable {G : zG} {M M' : zM} {D kc ks kc' ks' pc n : Nat} {ls : List (Nat × zV)} {st stk : List zV} {S : zH} {Post Post' : Option zV → zH → Prop} {q i idx : Nat} {As : List zV}
theorem zblind {A : Nat → Prop} {ph : Nat → Nat → Nat} {S : zH} {As : List zV} : FrameBlind (fun a U => a = (As.map (zv ph)).toArray ∧ zKs G A U ∧ (∀ q, U.heap.size ≤ q → A q) ∧ zW G ph S U.heap ∧ zcv A ph S ∧ ∀ v ∈ As, zo S v) := by
  intro a U g mk h
  obtain ⟨h1, h2, h3, h4, h5, h6⟩ := h
  exact ⟨h1, zKs.same (U := U.calling g mk a) (u := U) rfl rfl h2, h3, h4, h5, h6⟩
/-- behind a call -/
theorem zcall {p : Program} {e : Env} {R : Room} {s : State} {m : MethodId} {args : Array Value} {below : List Frame} {meth : Method} {c : Code} {H : Heap} {locs : List Loc} {cells slots cm sm : Nat} {ph : Nat → Nat → Nat} {A : Nat → Prop} {la : Array Slot} {a : Array Value} {gst : List Value}
    (X : zCx G M A p s m args meth c) (Rm : zRm R (D + 1) (kc + kc') (ks + ks') cells slots cm sm) (T : zSt G A s H locs ph S) (F1 : ∀ v ∈ st, zo S v) (F2 : ∀ q ∈ ls, zo S q.2) (F3 : lv_has la M.2.2.1 (ls.map fun q => (q.1, zv ph q.2)))
    (hr : va_Run p G.1 e R s m args below meth c H locs cells slots kc' ks' (F0 m pc la gst) (st.map (zv ph)) (zQc G A ph S Post' a) A)
    (k : ∀ r S1, Post' r S1 → zn G M (D + 1) kc ks (pc + 3) ls (r.toList ++ st) S1 Post) : W p G.1 e R s m args below meth c H locs cells slots (MQ below (zQc G A ph S Post) args s cm sm A) (F0 m pc la gst) := by
  obtain ⟨r1, r2, r3, r4, r5, r6⟩ := Rm
  intro T0 hT0 X0
  obtain ⟨v, st₀, t, T', L, h0, X', hL, e1, e2, ⟨⟨r, S1, ph1, hv, hzo, hW1, hcv1, hle, hP⟩, hz, hk⟩, stp⟩ := hr T0 hT0 X0
  rw [h0] at hz hk
  have hst : (st.map (zv ph1)) = st.map (zv ph) := List.map_congr_left fun v hv => zv.move (F1 v hv) hle.2
  have hls : (ls.map fun q => (q.1, zv ph1 q.2)) = ls.map fun q => (q.1, zv ph q.2) := List.map_congr_left fun v hv => by rw [zv.move (F2 v hv) hle.2]
  have hS' : va_S A s.heap T'.heap (locs ++ L) := ⟨Nat.le_trans T.2.1.1 (by rw [e1]; exact hz), fun q h1 h2 => by rw [e1, hk q (Nat.lt_of_lt_of_le h1 T.2.1.1) h2]; exact T.2.1.2.1 q h1 h2, fun q hq => by
      rcases List.mem_append.mp hq with h | h
      · exact T.2.1.2.2 q h
      · exact hL q h⟩
  have kk := k r S1 hP p e R s m args below meth c T'.heap (locs ++ L) (cells + kc') (slots + ks') cm sm ph1 A la X ⟨r1, r2, by omega, by omega, r5, r6⟩ ⟨by rw [e1]; exact hW1, hS', hcv1⟩
    ⟨fun v hv => by
      rcases List.mem_append.mp hv with h | h
      · cases r with
        | none => cases h
        | some w => rw [List.mem_singleton.mp h]; exact hzo w rfl
      · exact (F1 v h).mono hle.1, fun q hq => (F2 q hq).mono hle.1, by rw [hls]; exact F3⟩
  have kk2 := zW_mono (zMQ_mono fun o t h => zQc_le (S := S) (ph := ph) hle h) kk
  obtain ⟨t2, a1, b1⟩ := kk2 T' rfl X'
  refine ⟨t2, stp t2 ?_, b1⟩
  have hv' : v = r.map (zv ph1) := Outcome.returned.inj hv
  have hfr : ((r.toList ++ st).map (zv ph1)) = v.toList ++ st.map (zv ph) := by
    rw [List.map_append, hst, hv']
    cases r <;> rfl
  rw [hfr] at a1
  exact a1
theorem zpre {A : Nat → Prop} {p : Program} {s : State} {m : MethodId} {args : Array Value} {meth : Method} {c : Code} {H : Heap} {locs : List Loc} {ph : Nat → Nat → Nat} (X : zCx G M A p s m args meth c) (T : zSt G A s H locs ph S) (hz : ∀ v ∈ As, zo S v) : ∀ U : State, U.heap = H → s.WarmedH U.vm → (fun (a : Array Value) (U : State) => a = (As.map (zv ph)).toArray ∧ zKs G A U ∧ (∀ q, U.heap.size ≤ q → A q) ∧ zW G ph S U.heap ∧ zcv A ph S ∧ ∀ v ∈ As, zo S v) (As.map (zv ph)).toArray U := by
  intro U hU hW
  obtain ⟨hx, hb, hml, hret, hlk, hown, hnm, hts, hK, hA⟩ := X
  exact ⟨rfl, hK.warm hW (fun a h1 h2 => by rw [hU]; exact T.2.1.2.1 a h1 h2), fun q hq => hA q (by rw [hU] at hq; exact Nat.le_trans T.2.1.1 hq), by rw [hU]; exact T.1, T.2.2, hz⟩
theorem zroom {R : Room} {cells slots cm sm mL : Nat} (Rm : zRm R (D + 1) (kc + kc') (ks + ks') cells slots cm sm) (h : mL ≤ 45) : D + 1 ≤ R.frames ∧ 8 + (mL + 11) + 64 * D ≤ R.locals ∧ cells + kc' ≤ R.cells ∧ slots + ks' ≤ R.slots := by
  obtain ⟨r1, r2, r3, r4, r5, r6⟩ := Rm
  exact ⟨r1, by omega, by omega, by omega⟩
theorem zgst {ph : Nat → Nat → Nat} (h : stk = As.reverse ++ st) : stk.map (zv ph) = (As.map (zv ph)).reverse ++ st.map (zv ph) := by
  rw [h, List.map_append, List.map_reverse]
theorem zst8 {ph : Nat → Nat → Nat} {m : MethodId} {la : Array Slot} {gst : List Value} (h : (st.map zcat).sum ≤ 8) : 2 * (F0 m pc la gst).monitorRoom + ((st.map (zv ph)).map fun v => v.category).sum ≤ 8 := by
  refine lv_room ?_
  rw [List.map_map]
  have : ((fun v => v.category) ∘ zv ph) = zcat := by funext v; exact zv_cat ph v
  rw [this]
  exact h
theorem zn_callV {C : String} (hd : decode M.2.1 pc = .ok (.invokevirtual idx, 3)) (hm : zmk M' n) (hln : zln M.1.cls idx M') (hin : Cond.instanceMethod M'.1 ∈ ztb) (hsel : Cond.selects C M'.1 M'.1 ∈ ztb) (hC : zpc q C) (hn : As.length = n) (hstk : stk = (vR q (some i) :: As).reverse ++ st) (h8 : (st.map zcat).sum ≤ 8)
    (hc : zct G M' D kc' ks' (vR q (some i) :: As) S Post') (k : ∀ r S1, Post' r S1 → zn G M (D + 1) kc ks (pc + 3) ls (r.toList ++ st) S1 Post) : zn G M (D + 1) (kc + kc') (ks + ks') pc ls stk S Post := by
  intro p e R s m args below meth c H locs cells slots cm sm ph A la X Rm T F
  obtain ⟨hx, hb, hml, hret, hlk, hown, hnm, hts, hK, hA⟩ := id X
  obtain ⟨g1, g2, g3, g4⟩ := zroom Rm hm.2.2.2.2
  have hval : (∀ v ∈ vR q (some i) :: As, zo S v) ∧ ∀ v ∈ st, zo S v := by
    have := F.1
    rw [hstk] at this
    exact ⟨fun v hv => this v (List.mem_append_left _ (List.mem_reverse.mpr hv)), fun v hv => this v (List.mem_append_right _ hv)⟩
  have hi : i < zN S q := hval.1 _ List.mem_cons_self i rfl
  obtain ⟨cell, c1, c2, c3, -⟩ := zrecv hK T.1 hi hC
  have hM := hc { frames := D, cells := kc', slots := ks', locals := 64 * D } ph A (Nat.le_refl _) (Nat.le_refl _) rfl rfl
  have hgst : stk.map (zv ph) = (As.map (zv ph)).reverse ++ .ref (ph q i) :: st.map (zv ph) := by rw [zgst hstk]; simp [zv, va_rf]
  have hws := zws hm hts
  rcases hln with hl | ⟨host, hl⟩
  · refine zcall X Rm T hval.2 F.2.1 F.2.2 (va_runV (C := C) (b := ph q i) (As := As.map (zv ph)) (rest := st.map (zv ph)) (n := n) (bytes := M'.2.1) (maxL := M'.2.2.1) (ret := M'.2.2.2) ⟨hx, hb, hml, hown, hts⟩ hM ⟨⟨rfl, rfl, g1, g2, hws, List.mem_cons_self, hts _ hm.1, hts _ hm.2.1, hm.2.2.1, hm.len, hts _ hl⟩, hts _ hin, hts _ hsel⟩ ⟨zblind, ⟨cell, c1, c2, c3⟩, zpre X T hval.1⟩ rfl (by rw [List.length_map]; exact hn) F.2.2.1 hgst (zst8 h8) hd ⟨g3, g4⟩) k
  · refine zcall X Rm T hval.2 F.2.1 F.2.2 (va_runVN (C := C) (b := ph q i) (As := As.map (zv ph)) (rest := st.map (zv ph)) (n := n) (bytes := M'.2.1) (maxL := M'.2.2.1) (ret := M'.2.2.2) (host := host) ⟨hx, hb, hml, hown, hts⟩ hM ⟨⟨⟨rfl, rfl, g1, g2, hws, List.mem_cons_self⟩, hts _ hm.1, hts _ hm.2.1, hm.2.2.1, hm.len, va_Nw.use rfl (hK.2.1 _ hl)⟩, hts _ hin, hts _ hsel⟩ ⟨zblind, ⟨cell, c1, c2, c3⟩, zpre X T hval.1⟩ rfl (by rw [List.length_map]; exact hn) F.2.2.1 hgst (zst8 h8) hd ⟨g3, g4⟩) k
theorem zn_callS (hd : decode M.2.1 pc = .ok (.invokestatic idx, 3)) (hm : zmk M' n) (hln : zln M.1.cls idx M') (hin : Cond.static M'.1 ∈ ztb) (hn : As.length = n) (hstk : stk = As.reverse ++ st) (h8 : (st.map zcat).sum ≤ 8)
    (hc : zct G M' D kc' ks' As S Post') (k : ∀ r S1, Post' r S1 → zn G M (D + 1) kc ks (pc + 3) ls (r.toList ++ st) S1 Post) : zn G M (D + 1) (kc + kc') (ks + ks') pc ls stk S Post := by
  intro p e R s m args below meth c H locs cells slots cm sm ph A la X Rm T F
  obtain ⟨hx, hb, hml, hret, hlk, hown, hnm, hts, hK, hA⟩ := id X
  obtain ⟨g1, g2, g3, g4⟩ := zroom Rm hm.2.2.2.2
  have hval : (∀ v ∈ As, zo S v) ∧ ∀ v ∈ st, zo S v := by
    have := F.1
    rw [hstk] at this
    exact ⟨fun v hv => this v (List.mem_append_left _ (List.mem_reverse.mpr hv)), fun v hv => this v (List.mem_append_right _ hv)⟩
  have hM := hc { frames := D, cells := kc', slots := ks', locals := 64 * D } ph A (Nat.le_refl _) (Nat.le_refl _) rfl rfl
  have hgst := zgst (ph := ph) hstk
  have hws := zws hm hts
  rcases hln with hl | ⟨host, hl⟩
  · refine zcall X Rm T hval.2 F.2.1 F.2.2 (va_runS (As := As.map (zv ph)) (rest := st.map (zv ph)) (n := n) (bytes := M'.2.1) (maxL := M'.2.2.1) (ret := M'.2.2.2) ⟨hx, hb, hml, hown, hts⟩ hM ⟨⟨rfl, rfl, g1, g2, hws, List.mem_cons_self, hts _ hm.1, hts _ hm.2.1, hm.2.2.1, hm.len, hts _ hl⟩, hts _ hin⟩ ⟨zblind, zpre X T hval.1⟩ rfl (by rw [List.length_map]; exact hn) F.2.2.1 hgst (zst8 h8) hd ⟨g3, g4⟩) k
  · refine zcall X Rm T hval.2 F.2.1 F.2.2 (va_runSN (As := As.map (zv ph)) (rest := st.map (zv ph)) (n := n) (bytes := M'.2.1) (maxL := M'.2.2.1) (ret := M'.2.2.2) (host := host) ⟨hx, hb, hml, hown, hts⟩ hM ⟨⟨⟨rfl, rfl, g1, g2, hws, List.mem_cons_self⟩, hts _ hm.1, hts _ hm.2.1, hm.2.2.1, hm.len, va_Nw.use rfl (hK.2.1 _ hl)⟩, hts _ hin, trivial⟩ ⟨zblind, zpre X T hval.1⟩ rfl (by rw [List.length_map]; exact hn) F.2.2.1 hgst (zst8 h8) hd ⟨g3, g4⟩) k
theorem zn_callI (hd : decode M.2.1 pc = .ok (.invokespecial idx, 3)) (hm : zmk M' n) (hnone : M'.2.2.2 = none) (hname : M'.1.name = "<init>") (hln : zln M.1.cls idx M') (hin : Cond.instanceMethod M'.1 ∈ ztb) (hn : As.length = n) (hstk : stk = (vR q (some i) :: As).reverse ++ st) (h8 : (st.map zcat).sum ≤ 8)
    (hc : zct G M' D kc' ks' (vR q (some i) :: As) S Post') (k : ∀ r S1, Post' r S1 → zn G M (D + 1) kc ks (pc + 3) ls (r.toList ++ st) S1 Post) : zn G M (D + 1) (kc + kc') (ks + ks') pc ls stk S Post := by
  intro p e R s m args below meth c H locs cells slots cm sm ph A la X Rm T F
  obtain ⟨hx, hb, hml, hret, hlk, hown, hnm, hts, hK, hA⟩ := id X
  obtain ⟨g1, g2, g3, g4⟩ := zroom Rm hm.2.2.2.2
  have hval : (∀ v ∈ vR q (some i) :: As, zo S v) ∧ ∀ v ∈ st, zo S v := by
    have := F.1
    rw [hstk] at this
    exact ⟨fun v hv => this v (List.mem_append_left _ (List.mem_reverse.mpr hv)), fun v hv => this v (List.mem_append_right _ hv)⟩
  have hM := hc { frames := D, cells := kc', slots := ks', locals := 64 * D } ph A (Nat.le_refl _) (Nat.le_refl _) rfl rfl
  have hgst : stk.map (zv ph) = (As.map (zv ph)).reverse ++ .ref (ph q i) :: st.map (zv ph) := by rw [zgst hstk]; simp [zv, va_rf]
  have hws := zws hm hts
  have hcode := hts _ hm.1
  have hcw : Cond.code M'.1 M'.2.1 M'.2.2.1 none ∈ (Cond.code M'.1 M'.2.1 M'.2.2.1 M'.2.2.2 :: ztb) := by rw [hnone]; exact List.mem_cons_self
  rcases hln with hl | ⟨host, hl⟩
  · refine zcall X Rm T hval.2 F.2.1 F.2.2 (va_runI (b := ph q i) (As := As.map (zv ph)) (rest := st.map (zv ph)) (n := n) (bytes := M'.2.1) (maxL := M'.2.2.1) ⟨hx, hb, hml, hown, hts⟩ hM ⟨⟨rfl, rfl, g1, g2, hws, hcw, by rw [hnone] at hcode; exact hcode, hts _ hm.2.1, hm.2.2.1, hm.len, hts _ hl⟩, hname, hts _ hin⟩ ⟨zblind, zpre X T hval.1⟩ rfl (by rw [List.length_map]; exact hn) F.2.2.1 hgst (zst8 h8) hd ⟨g3, g4⟩) k
  · refine zcall X Rm T hval.2 F.2.1 F.2.2 (va_runIN (b := ph q i) (As := As.map (zv ph)) (rest := st.map (zv ph)) (n := n) (bytes := M'.2.1) (maxL := M'.2.2.1) (host := host) ⟨hx, hb, hml, hown, hts⟩ hM ⟨⟨⟨rfl, rfl, g1, g2, hws, hcw⟩, by rw [hnone] at hcode; exact hcode, hts _ hm.2.1, hm.2.2.1, hm.len, va_Nw.use rfl (hK.2.1 _ hl)⟩, hname, hts _ hin⟩ ⟨zblind, zpre X T hval.1⟩ rfl (by rw [List.length_map]; exact hn) F.2.2.1 hgst (zst8 h8) hd ⟨g3, g4⟩) k
/-- Object's constructor -/
theorem zn_objInit (hd : decode M.2.1 pc = .ok (.invokespecial idx, 3)) (hl : Cond.methodLink M.1.cls idx objectInit ∈ ztb) (hi : Cond.instanceMethod objectInit ∈ ztb) (hco : Cond.code objectInit ⟨#[0xb1]⟩ 1 none ∈ ztb) (h8 : (st.map zcat).sum ≤ 8) (k : zn G M (D + 1) kc ks (pc + 3) ls st S Post) : zn G M (D + 1) kc ks pc ls (vR q (some i) :: st) S Post := by
  intro p e R s m args below meth c H locs cells slots cm sm ph A la X Rm T F
  obtain ⟨hx, hb, hml, hret, hlk, hown, hnm, hts, hK, hA⟩ := id X
  obtain ⟨r1, r2, r3, r4, r5, r6⟩ := id Rm
  have h8' := zst8 (ph := ph) (m := m) (la := la) (pc := pc) (gst := ((vR q (some i) :: st).map (zv ph))) h8
  exact W.objInit hx hb hown (hts _ hl) (hts _ hi) (hts _ hco) rfl (by rw [hml]; exact F.2.2.1) (a := ph q i) (rest := st.map (zv ph)) rfl hd (by omega) (by omega) (k p e R s m args below meth c H locs cells slots cm sm ph A la X Rm T ⟨zs1 F.1, F.2⟩)
/-- Math.max, min of ints and longs -/
theorem zn_mmax {x y : Int32} (hd : decode M.2.1 pc = .ok (.invokestatic idx, 3)) (hl : Cond.methodLink M.1.cls idx Lib.Math.max.name ∈ ztb) (hs : Cond.static Lib.Math.max.name ∈ ztb) (hi : Cond.initialized "java/lang/Math" ∈ ztb) (hco : Cond.code Lib.Math.max.name Lib.Math.max.code 2 (some .int) ∈ ztb) (h8 : (st.map zcat).sum ≤ 8) (k : zn G M (D + 1) kc ks (pc + 3) ls (vI (if x < y then y else x) :: st) S Post) : zn G M (D + 1) kc ks pc ls (vI y :: vI x :: st) S Post := by
  intro p e R s m args below meth c H locs cells slots cm sm ph A la X Rm T F
  obtain ⟨hx, hb, hml, hret, hlk, hown, hnm, hts, hK, hA⟩ := id X
  obtain ⟨r1, r2, r3, r4, r5, r6⟩ := id Rm
  have h8' := zst8 (ph := ph) (m := m) (la := la) (pc := pc) (gst := (st.map (zv ph))) h8
  exact va_mmax hx hb (hml.trans F.2.2.1.symm) hown (hts _ hl) (hts _ hs) (hts _ hi) (hts _ hco) (by omega) (by omega) (by omega) (by omega) hd (k p e R s m args below meth c H locs cells slots cm sm ph A la X Rm T ⟨zsp trivial (zs2 F.1), F.2⟩)
theorem zn_mmin {x y : Int32} (hd : decode M.2.1 pc = .ok (.invokestatic idx, 3)) (hl : Cond.methodLink M.1.cls idx Lib.Math.min.name ∈ ztb) (hs : Cond.static Lib.Math.min.name ∈ ztb) (hi : Cond.initialized "java/lang/Math" ∈ ztb) (hco : Cond.code Lib.Math.min.name Lib.Math.min.code 2 (some .int) ∈ ztb) (h8 : (st.map zcat).sum ≤ 8) (k : zn G M (D + 1) kc ks (pc + 3) ls (vI (if y < x then y else x) :: st) S Post) : zn G M (D + 1) kc ks pc ls (vI y :: vI x :: st) S Post := by
  intro p e R s m args below meth c H locs cells slots cm sm ph A la X Rm T F
  obtain ⟨hx, hb, hml, hret, hlk, hown, hnm, hts, hK, hA⟩ := id X
  obtain ⟨r1, r2, r3, r4, r5, r6⟩ := id Rm
  have h8' := zst8 (ph := ph) (m := m) (la := la) (pc := pc) (gst := (st.map (zv ph))) h8
  exact va_mmin hx hb (hml.trans F.2.2.1.symm) hown (hts _ hl) (hts _ hs) (hts _ hi) (hts _ hco) (by omega) (by omega) (by omega) (by omega) hd (k p e R s m args below meth c H locs cells slots cm sm ph A la X Rm T ⟨zsp trivial (zs2 F.1), F.2⟩)
theorem zn_mmaxJ {x y : Int64} (hd : decode M.2.1 pc = .ok (.invokestatic idx, 3)) (hl : Cond.methodLink M.1.cls idx Lib.MathLoose.max_long.x ∈ ztb) (hs : Cond.static Lib.MathLoose.max_long.x ∈ ztb) (hi : Cond.initialized "java/lang/Math" ∈ ztb) (hco : Cond.code Lib.MathLoose.max_long.x Lib.MathLoose.max_long.code 4 (some .long) ∈ ztb) (h8 : (st.map zcat).sum ≤ 8) (k : zn G M (D + 1) kc ks (pc + 3) ls (vJ (if y < x then x else y) :: st) S Post) : zn G M (D + 1) kc ks pc ls (vJ y :: vJ x :: st) S Post := by
  intro p e R s m args below meth c H locs cells slots cm sm ph A la X Rm T F
  obtain ⟨hx, hb, hml, hret, hlk, hown, hnm, hts, hK, hA⟩ := id X
  obtain ⟨r1, r2, r3, r4, r5, r6⟩ := id Rm
  have h8' := zst8 (ph := ph) (m := m) (la := la) (pc := pc) (gst := (st.map (zv ph))) h8
  exact va_mmax_long hx hb (hml.trans F.2.2.1.symm) hown (hts _ hl) (hts _ hs) (hts _ hi) (hts _ hco) (by omega) (by omega) (by omega) (by omega) hd (k p e R s m args below meth c H locs cells slots cm sm ph A la X Rm T ⟨zsp trivial (zs2 F.1), F.2⟩)
theorem zn_mminJ {x y : Int64} (hd : decode M.2.1 pc = .ok (.invokestatic idx, 3)) (hl : Cond.methodLink M.1.cls idx Lib.MathLoose.min_long.x ∈ ztb) (hs : Cond.static Lib.MathLoose.min_long.x ∈ ztb) (hi : Cond.initialized "java/lang/Math" ∈ ztb) (hco : Cond.code Lib.MathLoose.min_long.x Lib.MathLoose.min_long.code 4 (some .long) ∈ ztb) (h8 : (st.map zcat).sum ≤ 8) (k : zn G M (D + 1) kc ks (pc + 3) ls (vJ (if y < x then y else x) :: st) S Post) : zn G M (D + 1) kc ks pc ls (vJ y :: vJ x :: st) S Post := by
  intro p e R s m args below meth c H locs cells slots cm sm ph A la X Rm T F
  obtain ⟨hx, hb, hml, hret, hlk, hown, hnm, hts, hK, hA⟩ := id X
  obtain ⟨r1, r2, r3, r4, r5, r6⟩ := id Rm
  have h8' := zst8 (ph := ph) (m := m) (la := la) (pc := pc) (gst := (st.map (zv ph))) h8
  exact va_mmin_long hx hb (hml.trans F.2.2.1.symm) hown (hts _ hl) (hts _ hs) (hts _ hi) (hts _ hco) (by omega) (by omega) (by omega) (by omega) hd (k p e R s m args below meth c H locs cells slots cm sm ph A la X Rm T ⟨zsp trivial (zs2 F.1), F.2⟩)
end ZC
