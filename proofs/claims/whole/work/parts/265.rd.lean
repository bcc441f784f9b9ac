/-! ===== the law reads its script ===== -/
def zbo (x : Int32) : Int32 := if x = 0 then 0 else 1
theorem zbo_c (x : Int32) : zbo x = 0 ∨ zbo x = 1 := by
  unfold zbo
  split
  · exact Or.inl rfl
  · exact Or.inr rfl
/-- how the law goes on behind a case -/
def KO (G : zG) (p : Program) (e : Env) (s : State) (m : MethodId) (below : List Frame) (meth : Method) (c : Code) (b : Nat) (Q : State → Prop) (la : Array Slot) (x0 y0 cells slots : Nat) : Prop :=
  ∀ phC C phR R H locs, WW G s.heap.size phC C phR R H → va_S (fun q => s.heap.size ≤ q) s.heap H locs → Inv C R → phC 0 0 = x0 → phR 40 0 = y0 → W p G.1 e room_1 s m #[Value.ref b] below meth c H locs (cells + 10) (slots + 2000) Q (F0 m 1251 la [])
section ZRD
variable {G : zG} {p : Program} {e : Env} {s : State} {m : MethodId} {below : List Frame} {meth : Method} {c : Code} {b L i k pc cells slots x0 y0 : Nat} {xs : Nat → Int32} {H : Heap} {locs : List Loc} {la : Array Slot} {Q : State → Prop} {st : List Value}
theorem lk_rd (X : LX G p s m meth c b L xs) (hS : va_S (fun q => s.heap.size ≤ q) s.heap H locs) (ha : lv_has la 4 [(0, .ref b), (1, .ref x0), (2, .ref y0), (3, .int (nI i))]) (hi : i + 7 ≤ L) (hL : L ≤ 3584) (hk : k < 7)
    (d0 : decode code pc = .ok (.aload_n 0, 1)) (d1 : decode code (pc + 1) = .ok (.iload_n 3, 1)) (d2 : decode code (pc + 2) = .ok (.iconst (k : Int), 1)) (d3 : decode code (pc + 3) = .ok (.iadd, 1)) (d4 : decode code (pc + 4) = .ok (.iaload, 1))
    (kk : W p G.1 e room_1 s m #[Value.ref b] below meth c H locs cells slots Q (F0 m (pc + 5) la (.int (xs (i + k)) :: st))) : W p G.1 e room_1 s m #[Value.ref b] below meth c H locs cells slots Q (F0 m pc la st) := by
  obtain ⟨hx, hb, hret, hml, hown, hts, hX, hbl, hlk, hK⟩ := X
  refine lv_aload_n (pc := pc) hx hb d0 rfl (lv_at ha 0 rfl) ?_
  refine lv_iload_n (pc := pc + 1) hx hb d1 rfl (lv_at ha 3 rfl) ?_
  refine lv_iconst (pc := pc + 2) (v := nI k) hx hb d2 Int32.ofInt_eq_ofNat ?_
  refine lv_iadd (pc := pc + 3) hx hb d3 ?_
  rw [nI_add]
  refine va_sld (pc := pc + 4) (A := fun q => s.heap.size ≤ q) (L := L) hx hb hX hbl (by show ¬ s.heap.size ≤ b; omega) hS (nI_in (by omega) (by omega)) d4 ?_
  rw [nI_clamp (by omega)]
  exact kk
theorem lk_rdb (X : LX G p s m meth c b L xs) (hS : va_S (fun q => s.heap.size ≤ q) s.heap H locs) (ha : lv_has la 4 [(0, .ref b), (1, .ref x0), (2, .ref y0), (3, .int (nI i))]) (hi : i + 7 ≤ L) (hL : L ≤ 3584) (hk : k < 7)
    (d0 : decode code pc = .ok (.aload_n 0, 1)) (d1 : decode code (pc + 1) = .ok (.iload_n 3, 1)) (d2 : decode code (pc + 2) = .ok (.bipush (k : Int), 2)) (d3 : decode code (pc + 4) = .ok (.iadd, 1)) (d4 : decode code (pc + 5) = .ok (.iaload, 1))
    (kk : W p G.1 e room_1 s m #[Value.ref b] below meth c H locs cells slots Q (F0 m (pc + 6) la (.int (xs (i + k)) :: st))) : W p G.1 e room_1 s m #[Value.ref b] below meth c H locs cells slots Q (F0 m pc la st) := by
  obtain ⟨hx, hb, hret, hml, hown, hts, hX, hbl, hlk, hK⟩ := X
  have hv : (Int8.ofInt (k : Int)).toInt32 = nI k := by
    have : ∀ k : Nat, k < 7 → (Int8.ofInt (k : Int)).toInt32 = nI k := by decide
    exact this k hk
  refine lv_aload_n (pc := pc) hx hb d0 rfl (lv_at ha 0 rfl) ?_
  refine lv_iload_n (pc := pc + 1) hx hb d1 rfl (lv_at ha 3 rfl) ?_
  refine lv_bipush (pc := pc + 2) (v := nI k) hx hb d2 hv ?_
  refine lv_iadd (pc := pc + 4) hx hb d3 ?_
  rw [nI_add]
  refine va_sld (pc := pc + 5) (A := fun q => s.heap.size ≤ q) (L := L) hx hb hX hbl (by show ¬ s.heap.size ≤ b; omega) hS (nI_in (by omega) (by omega)) d4 ?_
  rw [nI_clamp (by omega)]
  exact kk
theorem lk_bool {v : Int32} (hx : p.tables.exec = Jvm.exec) (hb : c.code = code) (d0 : decode code pc = .ok (.ifCond .eq 7, 3)) (d1 : decode code (pc + 3) = .ok (.iconst 1, 1)) (d2 : decode code (pc + 4) = .ok (.goto 4, 3)) (d3 : decode code (pc + 7) = .ok (.iconst 0, 1))
    (kk : W p G.1 e room_1 s m #[Value.ref b] below meth c H locs cells slots Q (F0 m (pc + 8) la (.int (zbo v) :: st))) : W p G.1 e room_1 s m #[Value.ref b] below meth c H locs cells slots Q (F0 m pc la (.int v :: st)) := by
  refine lv_if_eq (pc := pc) (tgt := pc + 7) hx hb d0 (by omega) (fun h => ?_) (fun h => ?_)
  · refine lv_iconst (pc := pc + 7) (v := 0) hx hb d3 (by decide) ?_
    have e1 : zbo v = 0 := by
      unfold zbo
      rw [if_pos h]
    rw [e1] at kk
    exact kk
  · refine lv_iconst (pc := pc + 3) (v := 1) hx hb d1 (by decide) ?_
    refine lv_goto (pc := pc + 4) (tgt := pc + 8) hx hb d2 (by omega) ?_
    have e1 : zbo v = 1 := by
      unfold zbo
      rw [if_neg h]
    rw [e1] at kk
    exact kk
end ZRD
