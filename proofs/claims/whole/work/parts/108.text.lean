/-! ===== the constant text: length and indexOf ===== -/
def zQr (A : Nat → Prop) (x : Int32) : Array Value → State → Outcome → State → Prop := fun _ st o t => o = .returned (some (.int x)) ∧ t.heap = st.heap ∧ va_F A st t
def zPr (G : zG) (A : Nat → Prop) (As : List Value) : Array Value → State → Prop := fun a U => a = As.toArray ∧ zKs G A U ∧ ∀ q, U.heap.size ≤ q → A q
/-- a contract that reads only -/
def zcr (G : zG) (M : zM) (D : Nat) (As : List Value) (x : Int32) : Prop :=
  ∀ (rm : Room) (A : Nat → Prop), D ≤ rm.frames → 64 * D ≤ rm.locals → rm.cells = 0 → rm.slots = 0 → Met G.1 M.1 (Cond.code M.1 M.2.1 M.2.2.1 M.2.2.2 :: ztb) rm (zPr G A As) (zQr A x) 0 0 A
def zr (G : zG) (M : zM) (D pc : Nat) (ls : List (Nat × Value)) (st : List Value) (x : Int32) : Prop :=
  ∀ (p : Program) (e : Env) (R : Room) (s : State) (m : MethodId) (args : Array Value) (below : List Frame) (meth : Method) (c : Code) (locs : List Loc) (A : Nat → Prop) (la : Array Slot),
    zCx G M A p s m args meth c → D ≤ R.frames → 64 * D ≤ R.locals → va_S A s.heap s.heap locs → lv_has la M.2.2.1 ls →
    W p G.1 e R s m args below meth c s.heap locs 0 0 (MQ below (zQr A x) args s 0 0 A) (F0 m pc la st)
theorem zPr_blind {G : zG} {A : Nat → Prop} {As : List Value} : FrameBlind (zPr G A As) := by
  intro a U g mk h
  obtain ⟨h1, h2, h3⟩ := h
  exact ⟨h1, zKs.same (U := U.calling g mk a) (u := U) rfl rfl h2, h3⟩
theorem zcr_of {G : zG} {M : zM} {D : Nat} {As : List Value} {x : Int32} (hy : plainName M.1.cls = true) (hl : (lg_sl As).length ≤ M.2.2.1) (h : zr G M D 0 (lv_args 0 As) [] x) : zcr G M D As x := by
  intro rm A h1 h2 h3 h4
  refine Met.ofW (cc := M.2.1) (maxL := M.2.2.1) (ret := M.2.2.2) hy rfl ?_
  intro p e s m args below meth c s₁ B hml hv
  obtain ⟨rfl, hK, hA⟩ := hv
  have hts := atoms_spec (ws := Cond.code M.1 M.2.1 M.2.2.1 M.2.2.2 :: ztb) B.pre
  have he := lv_entry As (n := M.2.2.1) hl
  rw [lg_entry_eq]
  exact h p e _ s m _ below meth c [] A _ ⟨B.exec, B.bytes, hml, B.returns, B.notSynchronized, findClass_of_methodNamed B.named, (name_of_methodNamed B.named B.method).1, fun w hw => hts w (List.mem_cons_of_mem _ hw), hK, hA⟩ h1 h2 va_S.rf he
section ZTX
variable {p : Program} {e : Env} {R : Room} {s : State} {m : MethodId} {args : Array Value} {below : List Frame} {meth : Method} {c : Code} {H : Heap} {locs : List Loc} {cells slots : Nat} {Q : State → Prop} {A : Nat → Prop} {la : Array Slot}
variable {G : zG} {M M' : zM} {D pc n idx : Nat} {As rest : List Value} {x : Int32}
theorem zrrun {a : Array Value} {gst : List Value} (hS : va_S A s.heap H locs) (hr : va_Run p G.1 e R s m args below meth c H locs cells slots 0 0 (F0 m pc la gst) rest (zQr A x a) A)
    (k : ∀ locs', va_S A s.heap H locs' → W p G.1 e R s m args below meth c H locs' cells slots Q (F0 m (pc + 3) la (.int x :: rest))) : W p G.1 e R s m args below meth c H locs cells slots Q (F0 m pc la gst) := by
  intro T hT X
  obtain ⟨v, st₀, t, T', L, h0, X', hL, e1, e2, ⟨hv, hh, hF⟩, stp⟩ := hr T hT X
  have hT' : T'.heap = H := by rw [e1, hh, h0]
  have hS' : va_S A s.heap H (locs ++ L) := ⟨hS.1, hS.2.1, fun q hq => by
    rcases List.mem_append.mp hq with h | h
    · exact hS.2.2 q h
    · exact hL q h⟩
  obtain ⟨t2, a1, b1⟩ := k _ hS' T' hT' X'
  have hv' : v = some (.int x) := Outcome.returned.inj hv
  subst hv'
  exact ⟨t2, stp t2 a1, b1⟩
theorem zPr_at (X : zCx G M A p s m args meth c) (hS : va_S A s.heap H locs) : ∀ U : State, U.heap = H → s.WarmedH U.vm → zPr G A As As.toArray U := by
  intro U hU hW
  obtain ⟨hx, hb, hml, hret, hlk, hown, hnm, hts, hK, hA⟩ := X
  exact ⟨rfl, hK.warm hW (fun a h1 h2 => by rw [hU]; exact hS.2.1 a h1 h2), fun q hq => hA q (by rw [hU] at hq; exact Nat.le_trans hS.1 hq)⟩
/-- a method of the text is called -/
theorem zrV (X : zCx G M A p s m args meth c) (r1 : D + 1 ≤ R.frames) (r2 : 64 * (D + 1) ≤ R.locals) (hc0 : cells ≤ R.cells) (hs0 : slots ≤ R.slots) (hS : va_S A s.heap H locs) (F : la.size = M.2.2.1) (hd : decode M.2.1 pc = .ok (.invokevirtual idx, 3)) (hm : zmk M' n) (hl : Cond.methodLink M.1.cls idx M'.1 ∈ ztb) (hin : Cond.instanceMethod M'.1 ∈ ztb) (hsel : Cond.selects "java/lang/String" M'.1 M'.1 ∈ ztb) (hn : As.length = n) (h8 : (rest.map fun v => v.category).sum ≤ 8)
    (hc : zcr G M' D (.ref (G.2.2.2 2) :: As) x) (k : ∀ locs', va_S A s.heap H locs' → W p G.1 e R s m args below meth c H locs' cells slots Q (F0 m (pc + 3) la (.int x :: rest))) : W p G.1 e R s m args below meth c H locs cells slots Q (F0 m pc la (As.reverse ++ .ref (G.2.2.2 2) :: rest)) := by
  obtain ⟨hx, hb, hml, hret, hlk, hown, hnm, hts, hK, hA⟩ := id X
  obtain ⟨z1, z2, z3, z4, z5, z6, z7, z8, z9, z10⟩ := id hK.2.2.2.2
  have h45 := hm.2.2.2.2
  have hM := hc { frames := D, cells := 0, slots := 0, locals := 64 * D } A (Nat.le_refl _) (Nat.le_refl _) rfl rfl
  exact zrrun hS (va_runV (C := "java/lang/String") (b := G.2.2.2 2) (As := As) (rest := rest) (n := n) (bytes := M'.2.1) (maxL := M'.2.2.1) (ret := M'.2.2.2) ⟨hx, hb, hml, hown, hts⟩ hM ⟨⟨rfl, rfl, r1, (by show 8 + (M'.2.2.1 + 11) + 64 * D ≤ R.locals; omega), zws hm hts, List.mem_cons_self, hts _ hm.1, hts _ hm.2.1, hm.2.2.1, hm.len, hts _ hl⟩, hts _ hin, hts _ hsel⟩ ⟨zPr_blind, vk_recv z9 (i := 0) Nat.one_pos hS, zPr_at X hS⟩ rfl hn F rfl (lv_room h8) hd ⟨by omega, by omega⟩) k
theorem zrS (X : zCx G M A p s m args meth c) (r1 : D + 1 ≤ R.frames) (r2 : 64 * (D + 1) ≤ R.locals) (hc0 : cells ≤ R.cells) (hs0 : slots ≤ R.slots) (hS : va_S A s.heap H locs) (F : la.size = M.2.2.1) (hd : decode M.2.1 pc = .ok (.invokestatic idx, 3)) (hm : zmk M' n) (hl : Cond.methodLink M.1.cls idx M'.1 ∈ ztb) (hin : Cond.static M'.1 ∈ ztb) (hn : As.length = n) (h8 : (rest.map fun v => v.category).sum ≤ 8)
    (hc : zcr G M' D As x) (k : ∀ locs', va_S A s.heap H locs' → W p G.1 e R s m args below meth c H locs' cells slots Q (F0 m (pc + 3) la (.int x :: rest))) : W p G.1 e R s m args below meth c H locs cells slots Q (F0 m pc la (As.reverse ++ rest)) := by
  obtain ⟨hx, hb, hml, hret, hlk, hown, hnm, hts, hK, hA⟩ := id X
  have h45 := hm.2.2.2.2
  have hM := hc { frames := D, cells := 0, slots := 0, locals := 64 * D } A (Nat.le_refl _) (Nat.le_refl _) rfl rfl
  exact zrrun hS (va_runS (As := As) (rest := rest) (n := n) (bytes := M'.2.1) (maxL := M'.2.2.1) (ret := M'.2.2.2) ⟨hx, hb, hml, hown, hts⟩ hM ⟨⟨rfl, rfl, r1, (by show 8 + (M'.2.2.1 + 11) + 64 * D ≤ R.locals; omega), zws hm hts, List.mem_cons_self, hts _ hm.1, hts _ hm.2.1, hm.2.2.1, hm.len, hts _ hl⟩, hts _ hin⟩ ⟨zPr_blind, zPr_at X hS⟩ rfl hn F rfl (lv_room h8) hd ⟨by omega, by omega⟩) k
theorem zr_ret (X : zCx G M A p s m args meth c) (hS : va_S A s.heap s.heap locs) (hd : decode M.2.1 pc = .ok (.ireturn, 1)) (hr : M.2.2.2 = some .int) : W p G.1 e R s m args below meth c s.heap locs 0 0 (MQ below (zQr A x) args s 0 0 A) (F0 m pc la [.int x]) :=
  W.iret (v := x) X.1 X.2.1 (X.2.2.2.1.trans hr) (fun t ht _ => ⟨rfl, ht, hS.F ht⟩) hS.2.2 hd X.2.2.2.2.1
theorem zr_zret {ty : FieldType} (X : zCx G M A p s m args meth c) (hS : va_S A s.heap s.heap locs) (hd : decode M.2.1 pc = .ok (.ireturn, 1)) (hr : M.2.2.2 = some ty) (hn : narrow ty (.int x) = .int x) : W p G.1 e R s m args below meth c s.heap locs 0 0 (MQ below (zQr A x) args s 0 0 A) (F0 m pc la [.int x]) :=
  W.zret (v := x) (ty := ty) X.1 X.2.1 (X.2.2.2.1.trans hr) hn (fun t ht _ => ⟨rfl, ht, hS.F ht⟩) hS.2.2 hd X.2.2.2.2.1
end ZTX
section ZTM
variable {G : zG}
theorem jl38 : Cond.fieldLink RJ0 38 "java/lang/String" "COMPACT_STRINGS" "Z" ∈ ztb := ztb_at 137 (by decide +kernel)
theorem jl9 : Cond.fieldLink RJ0 9 "java/lang/String" "value" "[B" ∈ ztb := ztb_at 1524 (by decide +kernel)
theorem jl15 : Cond.fieldLink RJ0 15 "java/lang/String" "coder" "B" ∈ ztb := ztb_at 1525 (by decide +kernel)
theorem zx_coder : zcr G M_J0_coder_7d493 0 [.ref (G.2.2.2 2)] 0 := by
  refine zcr_of (by decide) (Nat.le_of_ble_eq_true rfl) ?_
  intro p e R s m args below meth c locs A la X r1 r2 hS F
  obtain ⟨hx, hb, hml, hret, hlk, hown, hnm, hts, hK, hA⟩ := id X
  obtain ⟨z1, z2, z3, z4, z5, z6, z7, z8, z9, z10⟩ := id hK.2.2.2.2
  refine va_gets (C := "java/lang/String") hx hb z10 hS hown (hts _ jl38) (fun _ h => h) dJ0_coder_7d493_0 ?_
  refine lv_if_eq (tgt := 13) hx hb dJ0_coder_7d493_3 (by decide) (fun q => absurd q (by decide)) (fun _ => ?_)
  refine lv_aload_n hx hb dJ0_coder_7d493_6 rfl (lv_at F 0 rfl) ?_
  refine vk_getf hx hb (z9.1 0 Nat.one_pos).2.1 hS hown (hts _ jl15) (fun _ h => h) dJ0_coder_7d493_7 ?_
  refine lv_goto (tgt := 14) hx hb dJ0_coder_7d493_10 (by decide) ?_
  exact zr_zret (M := M_J0_coder_7d493) X hS dJ0_coder_7d493_14 rfl (by decide)
theorem zx_latin : zcr G M_J0_isLatin1_aae02 0 [.ref (G.2.2.2 2)] 1 := by
  refine zcr_of (by decide) (Nat.le_of_ble_eq_true rfl) ?_
  intro p e R s m args below meth c locs A la X r1 r2 hS F
  obtain ⟨hx, hb, hml, hret, hlk, hown, hnm, hts, hK, hA⟩ := id X
  obtain ⟨z1, z2, z3, z4, z5, z6, z7, z8, z9, z10⟩ := id hK.2.2.2.2
  refine va_gets (C := "java/lang/String") hx hb z10 hS hown (hts _ jl38) (fun _ h => h) dJ0_isLatin1_aae02_0 ?_
  refine lv_if_eq (tgt := 17) hx hb dJ0_isLatin1_aae02_3 (by decide) (fun q => absurd q (by decide)) (fun _ => ?_)
  refine lv_aload_n hx hb dJ0_isLatin1_aae02_6 rfl (lv_at F 0 rfl) ?_
  refine vk_getf hx hb (z9.1 0 Nat.one_pos).2.1 hS hown (hts _ jl15) (fun _ h => h) dJ0_isLatin1_aae02_7 ?_
  refine lv_if_ne (tgt := 17) hx hb dJ0_isLatin1_aae02_10 (by decide) (fun q => absurd rfl q) (fun _ => ?_)
  refine lv_iconst (v := 1) hx hb dJ0_isLatin1_aae02_13 (by decide) ?_
  refine lv_goto (tgt := 18) hx hb dJ0_isLatin1_aae02_14 (by decide) ?_
  exact zr_zret (M := M_J0_isLatin1_aae02) X hS dJ0_isLatin1_aae02_18 rfl (by decide)
theorem zx_len : zcr G M_J0_length_8abf5 1 [.ref (G.2.2.2 2)] 10 := by
  refine zcr_of (by decide) (Nat.le_of_ble_eq_true rfl) ?_
  intro p e R s m args below meth c locs A la X r1 r2 hS F
  obtain ⟨hx, hb, hml, hret, hlk, hown, hnm, hts, hK, hA⟩ := id X
  obtain ⟨z1, z2, z3, z4, z5, z6, z7, z8, z9, z10⟩ := id hK.2.2.2.2
  refine lv_aload_n hx hb dJ0_length_8abf5_0 rfl (lv_at F 0 rfl) ?_
  refine vk_getf hx hb (z9.1 0 Nat.one_pos).2.2.1 hS hown (hts _ jl9) (fun _ h => h) dJ0_length_8abf5_1 ?_
  refine va_tlen (v := 10) hx hb (z9.1 0 Nat.one_pos).2.2.2 hS (by decide) dJ0_length_8abf5_4 ?_
  refine lv_aload_n hx hb dJ0_length_8abf5_5 rfl (lv_at F 0 rfl) ?_
  refine zrV (M := M_J0_length_8abf5) (M' := M_J0_coder_7d493) (D := 0) (As := []) (rest := [.int 10]) X r1 r2 (Nat.zero_le _) (Nat.zero_le _) hS F.1 dJ0_length_8abf5_6 mk_J0_coder_7d493 (ztb_at 133 (by decide +kernel)) (ztb_at 134 (by decide +kernel)) (ztb_at 135 (by decide +kernel)) rfl (Nat.le_of_ble_eq_true rfl) zx_coder (fun locs' hS' => ?_)
  refine lv_ishr hx hb dJ0_length_8abf5_9 ?_
  have e0 : (10 : Int32) >>> ((0 : Int32) &&& 31) = 10 := by decide
  rw [e0]
  exact zr_ret (M := M_J0_length_8abf5) X hS' dJ0_length_8abf5_10 rfl
theorem zx_can {x b : Int32} (hb0 : (if x < 0 then 0 else if 255 < x then 0 else 1) = b) : zcr G M_J1_canEncode_9a6ad 0 [.int x] b := by
  refine zcr_of (by decide) (Nat.le_of_ble_eq_true rfl) ?_
  intro p e R s m args below meth c locs A la X r1 r2 hS F
  obtain ⟨hx, hb, hml, hret, hlk, hown, hnm, hts, hK, hA⟩ := id X
  refine lv_iload_n hx hb dJ1_canEncode_9a6ad_0 rfl (lv_at F 0 rfl) ?_
  refine lv_if_lt (tgt := 15) hx hb dJ1_canEncode_9a6ad_1 (by decide) (fun q => ?_) (fun q => ?_)
  · rw [if_pos q] at hb0
    subst hb0
    refine lv_iconst (v := 0) hx hb dJ1_canEncode_9a6ad_15 (by decide) ?_
    exact zr_zret (M := M_J1_canEncode_9a6ad) X hS dJ1_canEncode_9a6ad_16 rfl (by decide)
  rw [if_neg q] at hb0
  refine lv_iload_n hx hb dJ1_canEncode_9a6ad_4 rfl (lv_at F 0 rfl) ?_
  refine lv_sipush (v := 255) hx hb dJ1_canEncode_9a6ad_5 (by decide) ?_
  refine lv_icmp_gt (tgt := 15) hx hb dJ1_canEncode_9a6ad_8 (by decide) (fun q => ?_) (fun q => ?_)
  · rw [if_pos q] at hb0
    subst hb0
    refine lv_iconst (v := 0) hx hb dJ1_canEncode_9a6ad_15 (by decide) ?_
    exact zr_zret (M := M_J1_canEncode_9a6ad) X hS dJ1_canEncode_9a6ad_16 rfl (by decide)
  rw [if_neg q] at hb0
  subst hb0
  refine lv_iconst (v := 1) hx hb dJ1_canEncode_9a6ad_11 (by decide) ?_
  refine lv_goto (tgt := 16) hx hb dJ1_canEncode_9a6ad_12 (by decide) ?_
  exact zr_zret (M := M_J1_canEncode_9a6ad) X hS dJ1_canEncode_9a6ad_16 rfl (by decide)
def zby : List Int32 := [98, 116, 115, 111, 106, 108, 110, 102, 119, 100]
/-- the last n letters are looked through -/
def zsc (b : Int32) : Nat → Int32
  | 0 => -1
  | n + 1 => if zby.getD (10 - (n + 1)) 0 = b then nI (10 - (n + 1)) else zsc b n
theorem zx_loop {x b : Int32} : ∀ n, n ≤ 10 → zr G M_J1_indexOfChar_4cfef 0 7 [(5, .int (nI (10 - n))), (4, .int b), (0, .ref (G.2.2.2 3)), (1, .int x), (2, .int 0), (3, .int 10)] [] (zsc b n)
  | 0, _ => by
    intro p e R s m args below meth c locs A la X r1 r2 hS F
    obtain ⟨hx, hb, hml, hret, hlk, hown, hnm, hts, hK, hA⟩ := id X
    refine lv_iload hx hb dJ1_indexOfChar_4cfef_7 (lv_at F 0 rfl) ?_
    refine lv_iload_n hx hb dJ1_indexOfChar_4cfef_9 rfl (lv_at F 5 rfl) ?_
    refine lv_icmp_ge (tgt := 31) hx hb dJ1_indexOfChar_4cfef_10 (by decide) (fun _ => ?_) (fun q => absurd (by decide) q)
    refine lv_iconst (v := -1) hx hb dJ1_indexOfChar_4cfef_31 (by decide) ?_
    exact zr_ret (M := M_J1_indexOfChar_4cfef) X hS dJ1_indexOfChar_4cfef_32 rfl
  | n + 1, hn => by
    intro p e R s m args below meth c locs A la X r1 r2 hS F
    obtain ⟨hx, hb, hml, hret, hlk, hown, hnm, hts, hK, hA⟩ := id X
    obtain ⟨z1, z2, z3, z4, z5, z6, z7, z8, z9, z10⟩ := id hK.2.2.2.2
    refine lv_iload hx hb dJ1_indexOfChar_4cfef_7 (lv_at F 0 rfl) ?_
    refine lv_iload_n hx hb dJ1_indexOfChar_4cfef_9 rfl (lv_at F 5 rfl) ?_
    refine lv_icmp_ge (tgt := 31) hx hb dJ1_indexOfChar_4cfef_10 (by decide) (fun q => absurd q (nI_ge (a := 10 - (n + 1)) (b := 10) (by omega) (by decide))) (fun _ => ?_)
    refine lv_aload_n hx hb dJ1_indexOfChar_4cfef_13 rfl (lv_at F 2 rfl) ?_
    refine lv_iload hx hb dJ1_indexOfChar_4cfef_14 (lv_at F 0 rfl) ?_
    refine va_tb (v := .int (zby.getD (10 - (n + 1)) 0)) hx hb (z9.1 0 Nat.one_pos).2.2.2 hS (by
      intro z
      rcases z with z | z
      · exact nI_pos (by omega) z
      · rw [nI_clamp (by omega)] at z
        have : ([10] : List Nat).getD 0 0 = 10 := rfl
        omega) (by rw [nI_clamp (by omega)]; rfl) dJ1_indexOfChar_4cfef_16 ?_
    refine lv_iload hx hb dJ1_indexOfChar_4cfef_17 (lv_at F 1 rfl) ?_
    refine lv_icmp_ne (tgt := 25) hx hb dJ1_indexOfChar_4cfef_19 (by decide) (fun q => ?_) (fun q => ?_)
    · have hz : zsc b (n + 1) = zsc b n := if_neg q
      rw [hz]
      have hnx : nI (10 - (n + 1)) + Int32.ofInt 1 = nI (10 - n) := by
        have : 10 - n = (10 - (n + 1)) + 1 := by omega
        rw [this, nI_succ]
        rfl
      refine lv_iinc (k := 0) hx hb dJ1_indexOfChar_4cfef_25 F rfl hnx (Nat.le_of_ble_eq_true rfl) rfl (fun la' F' => ?_)
      refine lv_goto (tgt := 7) hx hb dJ1_indexOfChar_4cfef_28 (by decide) ?_
      exact zx_loop n (by omega) p e R s m args below meth c locs A la' X r1 r2 hS F'
    · have hz : zsc b (n + 1) = nI (10 - (n + 1)) := if_pos q
      rw [hz]
      refine lv_iload hx hb dJ1_indexOfChar_4cfef_22 (lv_at F 0 rfl) ?_
      exact zr_ret (M := M_J1_indexOfChar_4cfef) X hS dJ1_indexOfChar_4cfef_24 rfl
theorem zx_char {x : Int32} : zcr G M_J1_indexOfChar_4cfef 0 [.ref (G.2.2.2 3), .int x, .int 0, .int 10] (zsc x.toInt8.toInt32 10) := by
  refine zcr_of (by decide) (Nat.le_of_ble_eq_true rfl) ?_
  intro p e R s m args below meth c locs A la X r1 r2 hS F
  obtain ⟨hx, hb, hml, hret, hlk, hown, hnm, hts, hK, hA⟩ := id X
  refine lv_iload_n hx hb dJ1_indexOfChar_4cfef_0 rfl (lv_at F 1 rfl) ?_
  refine lv_i2b hx hb dJ1_indexOfChar_4cfef_1 rfl ?_
  refine lv_istore hx hb dJ1_indexOfChar_4cfef_2 F (Nat.le_of_ble_eq_true rfl) rfl (fun la1 F1 => ?_)
  refine lv_iload_n hx hb dJ1_indexOfChar_4cfef_4 rfl (lv_at F1 3 rfl) ?_
  refine lv_istore hx hb dJ1_indexOfChar_4cfef_5 F1 (Nat.le_of_ble_eq_true rfl) rfl (fun la2 F2 => ?_)
  exact zx_loop 10 (Nat.le_refl _) p e R s m args below meth c locs A la2 X r1 r2 hS F2
theorem zx_ix4 {x b r : Int32} (hb0 : (if x < 0 then 0 else if 255 < x then 0 else 1) = b) (hr0 : (if b = 0 then -1 else zsc x.toInt8.toInt32 10) = r) : zcr G M_J1_indexOf_4cfef 1 [.ref (G.2.2.2 3), .int x, .int 0, .int 10] r := by
  refine zcr_of (by decide) (Nat.le_of_ble_eq_true rfl) ?_
  intro p e R s m args below meth c locs A la X r1 r2 hS F
  obtain ⟨hx, hb, hml, hret, hlk, hown, hnm, hts, hK, hA⟩ := id X
  obtain ⟨z1, z2, z3, z4, z5, z6, z7, z8, z9, z10⟩ := id hK.2.2.2.2
  refine lv_iload_n hx hb dJ1_indexOf_4cfef_0 rfl (lv_at F 1 rfl) ?_
  refine zrS (M := M_J1_indexOf_4cfef) (M' := M_J1_canEncode_9a6ad) (D := 0) (As := [.int x]) (rest := []) X r1 r2 (Nat.zero_le _) (Nat.zero_le _) hS F.1 dJ1_indexOf_4cfef_1 mk_J1_canEncode_9a6ad (ztb_at 687 (by decide +kernel)) (ztb_at 688 (by decide +kernel)) rfl (Nat.le_of_ble_eq_true rfl) (zx_can hb0) (fun locs1 hS1 => ?_)
  refine lv_if_ne (tgt := 9) hx hb dJ1_indexOf_4cfef_4 (by decide) (fun q => ?_) (fun q => ?_)
  · rw [if_neg q] at hr0
    refine lv_iload_n hx hb dJ1_indexOf_4cfef_9 rfl (lv_at F 2 rfl) ?_
    refine lv_iconst (v := 0) hx hb dJ1_indexOf_4cfef_10 (by decide) ?_
    refine va_mmax hx hb (hml.trans F.1.symm) hown (hts _ ml_J1_92) (hts _ ws_max.1) (hts _ ws_max.2.1) (hts _ ws_max.2.2) (by omega) (by show 0 + 13 ≤ R.locals; omega) (Nat.zero_le _) (Nat.zero_le _) dJ1_indexOf_4cfef_11 ?_
    have e0 : (if (0 : Int32) < 0 then (0 : Int32) else 0) = 0 := by decide
    rw [e0]
    refine lv_istore_n hx hb dJ1_indexOf_4cfef_14 rfl F (Nat.le_of_ble_eq_true rfl) rfl (fun la1 F1 => ?_)
    refine lv_iload_n hx hb dJ1_indexOf_4cfef_15 rfl (lv_at F1 3 rfl) ?_
    refine lv_aload_n hx hb dJ1_indexOf_4cfef_16 rfl (lv_at F1 1 rfl) ?_
    refine va_tlen (v := 10) hx hb (z9.1 0 Nat.one_pos).2.2.2 hS1 (by decide) dJ1_indexOf_4cfef_17 ?_
    refine va_mmin hx hb (hml.trans F1.1.symm) hown (hts _ ml_J1_38) (hts _ ws_min.1) (hts _ ws_min.2.1) (hts _ ws_min.2.2) (by omega) (by show 0 + 13 ≤ R.locals; omega) (Nat.zero_le _) (Nat.zero_le _) dJ1_indexOf_4cfef_18 ?_
    have e1 : (if (10 : Int32) < 10 then (10 : Int32) else 10) = 10 := by decide
    rw [e1]
    refine lv_istore_n hx hb dJ1_indexOf_4cfef_21 rfl F1 (Nat.le_of_ble_eq_true rfl) rfl (fun la2 F2 => ?_)
    refine lv_iload_n hx hb dJ1_indexOf_4cfef_22 rfl (lv_at F2 1 rfl) ?_
    refine lv_iload_n hx hb dJ1_indexOf_4cfef_23 rfl (lv_at F2 0 rfl) ?_
    refine lv_icmp_lt (tgt := 29) hx hb dJ1_indexOf_4cfef_24 (by decide) (fun _ => ?_) (fun q => absurd (by decide) q)
    refine lv_aload_n hx hb dJ1_indexOf_4cfef_29 rfl (lv_at F2 2 rfl) ?_
    refine lv_iload_n hx hb dJ1_indexOf_4cfef_30 rfl (lv_at F2 3 rfl) ?_
    refine lv_iload_n hx hb dJ1_indexOf_4cfef_31 rfl (lv_at F2 1 rfl) ?_
    refine lv_iload_n hx hb dJ1_indexOf_4cfef_32 rfl (lv_at F2 0 rfl) ?_
    refine zrS (M := M_J1_indexOf_4cfef) (M' := M_J1_indexOfChar_4cfef) (D := 0) (As := [.ref (G.2.2.2 3), .int x, .int 0, .int 10]) (rest := []) X r1 r2 (Nat.zero_le _) (Nat.zero_le _) hS1 F2.1 dJ1_indexOf_4cfef_33 mk_J1_indexOfChar_4cfef (ztb_at 692 (by decide +kernel)) (ztb_at 693 (by decide +kernel)) rfl (Nat.le_of_ble_eq_true rfl) zx_char (fun locs2 hS2 => ?_)
    rw [hr0]
    exact zr_ret (M := M_J1_indexOf_4cfef) X hS2 dJ1_indexOf_4cfef_36 rfl
  · rw [if_pos q] at hr0
    subst hr0
    refine lv_iconst (v := -1) hx hb dJ1_indexOf_4cfef_7 (by decide) ?_
    exact zr_ret (M := M_J1_indexOf_4cfef) X hS1 dJ1_indexOf_4cfef_8 rfl
theorem zx_ix2 {x b r : Int32} (hb0 : (if x < 0 then 0 else if 255 < x then 0 else 1) = b) (hr0 : (if b = 0 then -1 else zsc x.toInt8.toInt32 10) = r) : zcr G M_J0_indexOf_7cf53 2 [.ref (G.2.2.2 2), .int x, .int 0] r := by
  refine zcr_of (by decide) (Nat.le_of_ble_eq_true rfl) ?_
  intro p e R s m args below meth c locs A la X r1 r2 hS F
  obtain ⟨hx, hb, hml, hret, hlk, hown, hnm, hts, hK, hA⟩ := id X
  obtain ⟨z1, z2, z3, z4, z5, z6, z7, z8, z9, z10⟩ := id hK.2.2.2.2
  refine lv_aload_n hx hb dJ0_indexOf_7cf53_0 rfl (lv_at F 0 rfl) ?_
  refine zrV (M := M_J0_indexOf_7cf53) (M' := M_J0_isLatin1_aae02) (D := 0) (As := []) (rest := []) X (by omega) (by omega) (Nat.zero_le _) (Nat.zero_le _) hS F.1 dJ0_indexOf_7cf53_1 mk_J0_isLatin1_aae02 (ztb_at 679 (by decide +kernel)) (ztb_at 680 (by decide +kernel)) (ztb_at 681 (by decide +kernel)) rfl (Nat.le_of_ble_eq_true rfl) zx_latin (fun locs1 hS1 => ?_)
  refine lv_if_eq (tgt := 23) hx hb dJ0_indexOf_7cf53_4 (by decide) (fun q => absurd q (by decide)) (fun _ => ?_)
  refine lv_aload_n hx hb dJ0_indexOf_7cf53_7 rfl (lv_at F 0 rfl) ?_
  refine vk_getf hx hb (z9.1 0 Nat.one_pos).2.2.1 hS1 hown (hts _ jl9) (fun _ h => h) dJ0_indexOf_7cf53_8 ?_
  refine lv_iload_n hx hb dJ0_indexOf_7cf53_11 rfl (lv_at F 1 rfl) ?_
  refine lv_iload_n hx hb dJ0_indexOf_7cf53_12 rfl (lv_at F 2 rfl) ?_
  refine lv_aload_n hx hb dJ0_indexOf_7cf53_13 rfl (lv_at F 0 rfl) ?_
  refine zrV (M := M_J0_indexOf_7cf53) (M' := M_J0_length_8abf5) (D := 1) (As := []) (rest := [.int 0, .int x, .ref (G.2.2.2 3)]) X r1 r2 (Nat.zero_le _) (Nat.zero_le _) hS1 F.1 dJ0_indexOf_7cf53_14 mk_J0_length_8abf5 (ztb_at 683 (by decide +kernel)) (ztb_at 130 (by decide +kernel)) (ztb_at 131 (by decide +kernel)) rfl (Nat.le_of_ble_eq_true rfl) zx_len (fun locs2 hS2 => ?_)
  refine zrS (M := M_J0_indexOf_7cf53) (M' := M_J1_indexOf_4cfef) (D := 1) (As := [.ref (G.2.2.2 3), .int x, .int 0, .int 10]) (rest := []) X r1 r2 (Nat.zero_le _) (Nat.zero_le _) hS2 F.1 dJ0_indexOf_7cf53_17 mk_J1_indexOf_4cfef (ztb_at 684 (by decide +kernel)) (ztb_at 685 (by decide +kernel)) rfl (Nat.le_of_ble_eq_true rfl) (zx_ix4 hb0 hr0) (fun locs3 hS3 => ?_)
  refine lv_goto (tgt := 36) hx hb dJ0_indexOf_7cf53_20 (by decide) ?_
  exact zr_ret (M := M_J0_indexOf_7cf53) X hS3 dJ0_indexOf_7cf53_36 rfl
theorem zx_ix1 {x b r : Int32} (hb0 : (if x < 0 then 0 else if 255 < x then 0 else 1) = b) (hr0 : (if b = 0 then -1 else zsc x.toInt8.toInt32 10) = r) : zcr G M_J0_indexOf_0f7a4 3 [.ref (G.2.2.2 2), .int x] r := by
  refine zcr_of (by decide) (Nat.le_of_ble_eq_true rfl) ?_
  intro p e R s m args below meth c locs A la X r1 r2 hS F
  obtain ⟨hx, hb, hml, hret, hlk, hown, hnm, hts, hK, hA⟩ := id X
  refine lv_aload_n hx hb dJ0_indexOf_0f7a4_0 rfl (lv_at F 0 rfl) ?_
  refine lv_iload_n hx hb dJ0_indexOf_0f7a4_1 rfl (lv_at F 1 rfl) ?_
  refine lv_iconst (v := 0) hx hb dJ0_indexOf_0f7a4_2 (by decide) ?_
  refine zrV (M := M_J0_indexOf_0f7a4) (M' := M_J0_indexOf_7cf53) (D := 2) (As := [.int x, .int 0]) (rest := []) X r1 r2 (Nat.zero_le _) (Nat.zero_le _) hS F.1 dJ0_indexOf_0f7a4_3 mk_J0_indexOf_7cf53 (ztb_at 675 (by decide +kernel)) (ztb_at 676 (by decide +kernel)) (ztb_at 677 (by decide +kernel)) rfl (Nat.le_of_ble_eq_true rfl) (zx_ix2 hb0 hr0) (fun locs1 hS1 => ?_)
  exact zr_ret (M := M_J0_indexOf_0f7a4) X hS1 dJ0_indexOf_0f7a4_6 rfl
theorem zsc_zix : ∀ n, n < 256 → zsc (nI n).toInt8.toInt32 10 = zix (nI n) := by decide +kernel
theorem zsc_all (x : Int32) : (if (if x < 0 then (0 : Int32) else if 255 < x then 0 else 1) = 0 then -1 else zsc x.toInt8.toInt32 10) = zix x := by
  by_cases h1 : x < 0
  · rw [if_pos (by rw [if_pos h1])]
    unfold zix
    have : ∀ n : Int32, ¬ n < 0 → ¬ x = n := fun n hn e => hn (e ▸ h1)
    rw [if_neg (this _ (by decide)), if_neg (this _ (by decide)), if_neg (this _ (by decide)), if_neg (this _ (by decide)), if_neg (this _ (by decide)), if_neg (this _ (by decide)), if_neg (this _ (by decide)), if_neg (this _ (by decide)), if_neg (this _ (by decide)), if_neg (this _ (by decide))]
  by_cases h2 : 255 < x
  · rw [if_pos (by rw [if_neg h1, if_pos h2])]
    unfold zix
    have : ∀ n : Int32, ¬ 255 < n → ¬ x = n := fun n hn e => hn (e ▸ h2)
    rw [if_neg (this _ (by decide)), if_neg (this _ (by decide)), if_neg (this _ (by decide)), if_neg (this _ (by decide)), if_neg (this _ (by decide)), if_neg (this _ (by decide)), if_neg (this _ (by decide)), if_neg (this _ (by decide)), if_neg (this _ (by decide)), if_neg (this _ (by decide))]
  rw [if_neg (by rw [if_neg h1, if_neg h2]; decide)]
  have hn := znn x h1
  have h3 : x.toInt ≤ 255 := by
    have := mt Int32.lt_iff_toInt_lt.mpr h2
    have e : (255 : Int32).toInt = 255 := rfl
    omega
  have hx : x = nI x.toNatClampNeg := by
    apply Int32.toInt_inj.mp
    rw [nI_toInt (by omega)]
    exact hn
  rw [hx]
  exact zsc_zix _ (by omega)
end ZTM
section ZTN
variable {G : zG} {D kc ks : Nat} {ls : List (Nat × zV)} {st : List zV} {S : zH} {Post : Option zV → zH → Prop}
theorem zcat8 {ph : Nat → Nat → Nat} {k : Nat} (h : (st.map zcat).sum ≤ k) : ((st.map (zv ph)).map fun v => v.category).sum ≤ k := by
  rw [List.map_map]
  have : ((fun v => v.category) ∘ zv ph) = zcat := by funext v; exact zv_cat ph v
  rw [this]
  exact h
theorem zn_letLen (hd : decode cX6_init 16 = .ok (.ldc 18, 2)) (hd2 : decode cX6_init 18 = .ok (.invokevirtual 20, 3)) (h8 : (st.map zcat).sum ≤ 7) (k : zn G M_X6_init (D + 5) kc ks 21 ls (vI 10 :: st) S Post) : zn G M_X6_init (D + 5) kc ks 16 ls st S Post := by
  intro p e R s m args below meth c H locs cells slots cm sm ph A la X Rm T F
  obtain ⟨hx, hb, hml, hret, hlk, hown, hnm, hts, hK, hA⟩ := id X
  obtain ⟨z1, z2, z3, z4, z5, z6, z7, z8, z9, z10⟩ := id hK.2.2.2.2
  obtain ⟨r1, r2, r3, r4, r5, r6⟩ := id Rm
  refine va_ldcS hx hb hown z7 hd ?_
  refine zrV (M := M_X6_init) (M' := M_J0_length_8abf5) (D := 1) (As := []) (rest := st.map (zv ph)) X (by omega) (by omega) (by omega) (by omega) T.2.1 F.2.2.1 hd2 mk_J0_length_8abf5 (ztb_at 129 (by decide +kernel)) (ztb_at 130 (by decide +kernel)) (ztb_at 131 (by decide +kernel)) rfl (zcat8 (by omega)) zx_len (fun locs1 hS1 => ?_)
  exact k p e R s m args below meth c H locs1 cells slots cm sm ph A la X Rm ⟨T.1, hS1, T.2.2⟩ ⟨zsp trivial F.1, F.2⟩
theorem zn_letIx (j : Nat) {x : Int32} (hd : decode cX8_readUnit 14 = .ok (.ldc 63, 2)) (hd2 : decode cX8_readUnit 16 = .ok (.iload_n 2, 1)) (hd3 : decode cX8_readUnit 17 = .ok (.i2c, 1)) (hd4 : decode cX8_readUnit 18 = .ok (.invokevirtual 65, 3)) (hj : ls[j]? = some (2, vI x)) (h8 : (st.map zcat).sum ≤ 6) (k : zn G M_X8_readUnit (D + 8) kc ks 21 ls (vI (zlet x) :: st) S Post) : zn G M_X8_readUnit (D + 8) kc ks 14 ls st S Post := by
  intro p e R s m args below meth c H locs cells slots cm sm ph A la X Rm T F
  obtain ⟨hx, hb, hml, hret, hlk, hown, hnm, hts, hK, hA⟩ := id X
  obtain ⟨z1, z2, z3, z4, z5, z6, z7, z8, z9, z10⟩ := id hK.2.2.2.2
  obtain ⟨r1, r2, r3, r4, r5, r6⟩ := id Rm
  refine va_ldcS hx hb hown z8 hd ?_
  refine lv_iload_n hx hb hd2 rfl (zat_l F.2.2 hj) ?_
  refine lv_i2c hx hb hd3 rfl ?_
  refine zrV (M := M_X8_readUnit) (M' := M_J0_indexOf_0f7a4) (D := 3) (As := [.int (UInt32.toInt32 (Int32.toUInt32 x % 65536))]) (rest := st.map (zv ph)) X (by omega) (by omega) (by omega) (by omega) T.2.1 F.2.2.1 hd4 mk_J0_indexOf_0f7a4 (ztb_at 671 (by decide +kernel)) (ztb_at 672 (by decide +kernel)) (ztb_at 673 (by decide +kernel)) rfl (zcat8 (by omega)) (zx_ix1 rfl (zsc_all _)) (fun locs1 hS1 => ?_)
  exact k p e R s m args below meth c H locs1 cells slots cm sm ph A la X Rm ⟨T.1, hS1, T.2.2⟩ ⟨zsp trivial F.1, F.2⟩
end ZTN
