/-! ===== the words; what holds of the tables and of what nobody writes ===== -/
def ztb : List Cond := lw_tbl.filter goodWord
def zisN (w : Cond) : Bool := match w with
  | .fieldLinkNest .. => true
  | .methodLinkNest .. => true
  | .castable .. => true
  | _ => false
def ztn : List Cond := tables_1.filter zisN
theorem ztb_good : ∀ w ∈ ztb, goodWord w = true := fun _ h => (List.mem_filter.mp h).2
theorem ztb_tbl : ∀ w ∈ ztb, w ∈ lw_tbl := fun _ h => (List.mem_filter.mp h).1
theorem ztb_of {w : Cond} (h : w ∈ lw_tbl) (hg : goodWord w = true) : w ∈ ztb := List.mem_filter.mpr ⟨h, hg⟩
theorem ztb_at (i : Nat) {w : Cond} (h : tables_1[i]? = some w ∧ goodWord w = true) : w ∈ ztb := ztb_of (List.mem_append_right _ (List.mem_of_getElem? h.1)) h.2
theorem ztn_at (i : Nat) {w : Cond} (h : tables_1[i]? = some w ∧ zisN w = true) : w ∈ ztn := List.mem_filter.mpr ⟨List.mem_of_getElem? h.1, h.2⟩
theorem ztn_warm {w : Cond} (h : w ∈ ztn) {s U : State} (hW : s.WarmedH U.vm) (hZ : va_Nw w s) : va_Nw w U := by
  have h2 := (List.mem_filter.mp h).2
  cases w <;> first | exact va_Nw.warmF hW hZ | exact va_Nw.warmM hW hZ | exact va_Nw.warmC hW hZ | cases h2
theorem ztn_same {w : Cond} (h : w ∈ ztn) {u U : State} (hv : u.vm = U.vm) (hZ : va_Nw w u) : va_Nw w U := by
  have h2 := (List.mem_filter.mp h).2
  cases w <;> first | exact va_Nw.same rfl hv hZ | cases h2
/-- what nobody writes: ArrayList's empty row, the class object of Object[], the constant text -/
def zst (G : zG) (A : Nat → Prop) (U : State) (H : Heap) : Prop :=
  va_Z "java/util/ArrayList" "DEFAULTCAPACITY_EMPTY_ELEMENTDATA" "[Ljava/lang/Object;" (.ref (G.2.2.2 0)) A U H ∧ va_T (.object "java/lang/Object") (G.2.2.2 0) 0 (fun _ => .null) A U H ∧
  zwk (G.2.2.2 0) (G.2.2.1 4) H ∧ ¬ A (G.2.2.2 0) ∧ va_Mi "[Ljava/lang/Object;" (G.2.2.2 1) U ∧ va_Dc U ∧
  vk_R "SwitchSeven$RuleBook" 18 "btsojlnfwd" (G.2.2.2 2) U ∧ vk_R "SwitchSeven$Tape" 63 "btsojlnfwd" (G.2.2.2 2) U ∧
  vk_S 1 [10] [[98, 116, 115, 111, 106, 108, 110, 102, 119, 100]] (fun _ => G.2.2.2 2) (fun _ => G.2.2.2 3) A U H ∧ va_Z "java/lang/String" "COMPACT_STRINGS" "Z" (.int 1) A U H
theorem zst.same {G : zG} {A : Nat → Prop} {u U : State} {H : Heap} (hv : u.vm = U.vm) (h : zst G A u H) : zst G A U H := by
  obtain ⟨h1, h2, h3, h4, h5, h6, h7, h8, h9, h10⟩ := h
  have ha : u.vm.Alike U.vm := by rw [hv]; exact Vm.Alike.refl _
  exact ⟨h1.moved ha, h2.moved ha, h3, h4, h5.moved ha, h6.moved ha, h7.same hv.symm, h8.same hv.symm, h9.moved ha, h10.moved ha⟩
theorem zst.warm {G : zG} {A : Nat → Prop} {s U : State} {H H1 : Heap} (hW : s.WarmedH U.vm) (h : zst G A s H) (hq : ∀ a : Nat, a < H.size → ¬ A a → H1[a]? = H[a]?) : zst G A U H1 := by
  obtain ⟨h1, h2, h3, h4, h5, h6, h7, h8, h9, h10⟩ := h
  have ha := hW.alike
  exact ⟨(h1.moved ha).kept hq, (h2.moved ha).kept hq, (by obtain ⟨cell, z1, z2⟩ := h3; exact ⟨cell, by rw [hq _ (Array.getElem?_eq_some_iff.mp z1).1 h4]; exact z1, z2⟩), h4, h5.moved ha, h6.moved ha, h7.warm hW, h8.warm hW, (h9.moved ha).kept hq, (h10.moved ha).kept hq⟩
def zyt (cy : Nat → ClassId) : List (ClassId × FieldType) := [(cy 0, .int), (cy 1, .long), (cy 2, .boolean), (cy 3, .object "SwitchSeven$Bank"), (cy 4, .object "java/lang/Object")]
/-- what is known of a state, its heap's own cells apart -/
def zKs (G : zG) (A : Nat → Prop) (U : State) : Prop :=
  va_K G.2.1 zcl (zyt G.2.2.1) U ∧ (∀ w ∈ ztn, va_Nw w U) ∧ va_AO "SwitchSeven$Bank" U ∧ va_AO "java/lang/Object" U ∧ zst G A U U.heap
theorem zKs.same {G : zG} {A : Nat → Prop} {u U : State} (hv : u.vm = U.vm) (hh : u.heap = U.heap) (h : zKs G A u) : zKs G A U := by
  obtain ⟨h1, h2, h3, h4, h5⟩ := h
  have ha : u.vm.Alike U.vm := by rw [hv]; exact Vm.Alike.refl _
  exact ⟨h1.moved ha, fun w hw => ztn_same hw hv (h2 w hw), h3.moved ha, h4.moved ha, by rw [← hh]; exact h5.same hv⟩
theorem zKs.warm {G : zG} {A : Nat → Prop} {s U : State} (hW : s.WarmedH U.vm) (h : zKs G A s) (hq : ∀ a : Nat, a < s.heap.size → ¬ A a → U.heap[a]? = s.heap[a]?) : zKs G A U := by
  obtain ⟨h1, h2, h3, h4, h5⟩ := h
  exact ⟨h1.moved hW.alike, fun w hw => ztn_warm hw hW (h2 w hw), h3.moved hW.alike, h4.moved hW.alike, h5.warm hW hq⟩
/-- the cells that may be written are A's -/
def zcv (A : Nat → Prop) (ph : Nat → Nat → Nat) (S : zH) : Prop := ∀ p i, i < zN S p → ¬ zz S p i → A (ph p i)
/-- later: no cell is gone, none has moved -/
def zle (ph : Nat → Nat → Nat) (S : zH) (ph' : Nat → Nat → Nat) (S' : zH) : Prop := (∀ p, zN S p ≤ zN S' p) ∧ ∀ p i, i < zN S p → ph' p i = ph p i
theorem zle.rf {ph : Nat → Nat → Nat} {S : zH} : zle ph S ph S := ⟨fun _ => Nat.le_refl _, fun _ _ _ => rfl⟩
theorem zle.tr {ph ph' ph2 : Nat → Nat → Nat} {S S' S2 : zH} (h : zle ph S ph' S') (h' : zle ph' S' ph2 S2) : zle ph S ph2 S2 :=
  ⟨fun p => Nat.le_trans (h.1 p) (h'.1 p), fun p i hi => (h'.2 p i (Nat.lt_of_lt_of_le hi (h.1 p))).trans (h.2 p i hi)⟩
/-! ===== the judgement: from this place, with these locals, this stack, this heap, the method ends, and Post holds of its answer and heap ===== -/
def zQc (G : zG) (A : Nat → Prop) (ph : Nat → Nat → Nat) (S : zH) (Post : Option zV → zH → Prop) : Array Value → State → Outcome → State → Prop := fun _ st o t =>
  (∃ (r : Option zV) (S' : zH) (ph' : Nat → Nat → Nat), o = .returned (r.map (zv ph')) ∧ (∀ v, r = some v → zo S' v) ∧ zW G ph' S' t.heap ∧ zcv A ph' S' ∧ zle ph S ph' S' ∧ Post r S') ∧ va_F A st t
def zCx (G : zG) (M : zM) (A : Nat → Prop) (p : Program) (s : State) (m : MethodId) (args : Array Value) (meth : Method) (c : Code) : Prop :=
  p.tables.exec = Jvm.exec ∧ c.code = M.2.1 ∧ c.maxLocals = M.2.2.1 ∧ meth.sig.returnType = M.2.2.2 ∧ meth.locks = false ∧ s.vm.findClass M.1.cls = some m.cls ∧ meth.name = M.1.name ∧ (∀ w ∈ ztb, w.before args s = true) ∧ zKs G A s ∧ ∀ q, s.heap.size ≤ q → A q
def zRm (R : Room) (D kc ks cells slots cm sm : Nat) : Prop := D ≤ R.frames ∧ 64 * D ≤ R.locals ∧ cells + kc ≤ cm ∧ slots + ks ≤ sm ∧ cm ≤ R.cells ∧ sm ≤ R.slots
def zSt (G : zG) (A : Nat → Prop) (s : State) (H : Heap) (locs : List Loc) (ph : Nat → Nat → Nat) (S : zH) : Prop := zW G ph S H ∧ va_S A s.heap H locs ∧ zcv A ph S
def zFr (S : zH) (ph : Nat → Nat → Nat) (n : Nat) (ls : List (Nat × zV)) (st : List zV) (la : Array Slot) : Prop :=
  (∀ v ∈ st, zo S v) ∧ (∀ q ∈ ls, zo S q.2) ∧ lv_has la n (ls.map fun q => (q.1, zv ph q.2))
def zn (G : zG) (M : zM) (D kc ks pc : Nat) (ls : List (Nat × zV)) (st : List zV) (S : zH) (Post : Option zV → zH → Prop) : Prop :=
  ∀ (p : Program) (e : Env) (R : Room) (s : State) (m : MethodId) (args : Array Value) (below : List Frame) (meth : Method) (c : Code) (H : Heap) (locs : List Loc) (cells slots cm sm : Nat) (ph : Nat → Nat → Nat) (A : Nat → Prop) (la : Array Slot),
    zCx G M A p s m args meth c → zRm R D kc ks cells slots cm sm → zSt G A s H locs ph S → zFr S ph M.2.2.1 ls st la →
    W p G.1 e R s m args below meth c H locs cells slots (MQ below (zQc G A ph S Post) args s cm sm A) (F0 m pc la (st.map (zv ph)))
/-- a method's contract at these arguments and this heap -/
def zct (G : zG) (M : zM) (D kc ks : Nat) (As : List zV) (S : zH) (Post : Option zV → zH → Prop) : Prop :=
  ∀ (rm : Room) (ph : Nat → Nat → Nat) (A : Nat → Prop), D ≤ rm.frames → 64 * D ≤ rm.locals → rm.cells = kc → rm.slots = ks →
    Met G.1 M.1 (Cond.code M.1 M.2.1 M.2.2.1 M.2.2.2 :: ztb) rm (fun a U => a = (As.map (zv ph)).toArray ∧ zKs G A U ∧ (∀ q, U.heap.size ≤ q → A q) ∧ zW G ph S U.heap ∧ zcv A ph S ∧ ∀ v ∈ As, zo S v) (zQc G A ph S Post) kc ks A
theorem zct.mono {G : zG} {M : zM} {D D' kc ks : Nat} {As : List zV} {S : zH} {Post : Option zV → zH → Prop} (h : zct G M D kc ks As S Post) (hD : D ≤ D') : zct G M D' kc ks As S Post :=
  fun rm ph A h1 h2 h3 h4 => h rm ph A (Nat.le_trans hD h1) (Nat.le_trans (Nat.mul_le_mul_left 64 hD) h2) h3 h4
theorem zQc.post {G : zG} {A : Nat → Prop} {ph : Nat → Nat → Nat} {S : zH} {Post Post' : Option zV → zH → Prop} (hp : ∀ r S', Post r S' → Post' r S') {a : Array Value} {st t : State} {o : Outcome} (h : zQc G A ph S Post a st o t) : zQc G A ph S Post' a st o t := by
  obtain ⟨⟨r, S', ph', h1, h2, h3, h4, h5, h6⟩, h7⟩ := h
  exact ⟨⟨r, S', ph', h1, h2, h3, h4, h5, hp r S' h6⟩, h7⟩
/-- the locals with which a method begins -/
def zags : Nat → List zV → List (Nat × zV)
  | _, [] => []
  | i, v :: vs => (i, v) :: zags (i + zcat v) vs
theorem zags_lv (ph : Nat → Nat → Nat) : ∀ (As : List zV) (i : Nat), lv_args i (As.map (zv ph)) = (zags i As).map (fun q => (q.1, zv ph q.2))
  | [], _ => rfl
  | v :: As, i => by
    have hc := zv_cat ph v
    have h2 : (if (zv ph v).category = 2 then i + 2 else i + 1) = i + zcat v := by
      rw [hc]
      rcases v with x | x | x <;> simp [zcat]
    simp only [List.map_cons, lv_args, zags, h2, zags_lv ph As]
theorem zags_len (ph : Nat → Nat → Nat) : ∀ (As : List zV), (lg_sl (As.map (zv ph))).length = (As.map zcat).sum
  | [] => rfl
  | v :: As => by
    have hc := zv_cat ph v
    have ih := zags_len ph As
    have e : lg_sl ((v :: As).map (zv ph)) = (if (zv ph v).category = 2 then [Slot.val (zv ph v), Slot.second] else [Slot.val (zv ph v)]) ++ lg_sl (As.map (zv ph)) := by
      simp [lg_sl]
    rw [e, List.length_append, ih, hc, List.map_cons, List.sum_cons]
    rcases v with x | x | x <;> simp [zcat]
theorem zags_zo {S : zH} : ∀ (As : List zV) (i : Nat), (∀ v ∈ As, zo S v) → ∀ q ∈ zags i As, zo S q.2
  | [], _, _, q, h => by cases h
  | v :: As, i, hA, q, h => by
    rcases List.mem_cons.mp h with h1 | h1
    · rw [h1]; exact hA v List.mem_cons_self
    · exact zags_zo As _ (fun w hw => hA w (List.mem_cons_of_mem _ hw)) q h1
/-- a contract out of a walk of the body -/
theorem zct_of {G : zG} {M : zM} {D kc ks : Nat} {As : List zV} {S : zH} {Post : Option zV → zH → Prop} (hy : plainName M.1.cls = true) (hl : (As.map zcat).sum ≤ M.2.2.1) (h : zn G M D kc ks 0 (zags 0 As) [] S Post) : zct G M D kc ks As S Post := by
  intro rm ph A h1 h2 h3 h4
  refine Met.ofW (cc := M.2.1) (maxL := M.2.2.1) (ret := M.2.2.2) hy rfl ?_
  intro p e s m args below meth c s₁ B hml hv
  obtain ⟨rfl, hK, hA, hW, hcv, hzo⟩ := hv
  have hts := atoms_spec (ws := Cond.code M.1 M.2.1 M.2.2.1 M.2.2.2 :: ztb) B.pre
  have he := lv_entry (As.map (zv ph)) (n := M.2.2.1) (by rw [zags_len]; exact hl)
  rw [zags_lv] at he
  rw [lg_entry_eq]
  exact h p e _ s m _ below meth c s.heap [] 0 0 kc ks ph A _ ⟨B.exec, B.bytes, hml, B.returns, B.notSynchronized, findClass_of_methodNamed B.named, (name_of_methodNamed B.named B.method).1, fun w hw => hts w (List.mem_cons_of_mem _ hw), hK, hA⟩
    ⟨h1, h2, by omega, by omega, by show kc ≤ rm.cells; omega, by show ks ≤ rm.slots; omega⟩ ⟨hW, va_S.rf, hcv⟩ ⟨fun v h => (by cases h), zags_zo As 0 hzo, he⟩
