/-! ===== the pieces that the functions are made of ===== -/
def zgd {α : Type} (b : Bool) (k : Option α) : Option α := if b = true then k else none
def zlt {α : Type} (S : zH) (f : zH → Option α) : Option α := f S
def zop {α : Type} (r : Option Nat) (a : Option α) (f : Nat → Option α) : Option α := match r with
  | none => a
  | some i => f i
def zib (j : Int32) (n : Nat) : Bool := !(decide (j < 0)) && decide (j.toNatClampNeg < n)
/-- how often a loop may go round -/
def fu : Nat := 4000
theorem zgdd {α : Type} {b : Bool} {k : Option α} {o : α} (h : zgd b k = some o) : b = true ∧ k = some o := by
  unfold zgd at h
  split at h
  · next hb => exact ⟨hb, h⟩
  · cases h
theorem zltd {α : Type} {S : zH} {f : zH → Option α} {o : α} (h : zlt S f = some o) : ∃ S1, S = S1 ∧ f S1 = some o := ⟨S, rfl, h⟩
theorem zbd {α β : Type} {a : Option α} {f : α → Option β} {o : β} (h : Option.bind a f = some o) : ∃ x, a = some x ∧ f x = some o := by
  cases a with
  | none => cases h
  | some x => exact ⟨x, rfl, h⟩
theorem zop_n {α : Type} {r : Option Nat} {a : Option α} {f : Nat → Option α} {o : α} (hr : r = none) (h : zop r a f = some o) : a = some o := by subst hr; exact h
theorem zop_s {α : Type} {r : Option Nat} {a : Option α} {f : Nat → Option α} {o : α} {i : Nat} (hr : r = some i) (h : zop r a f = some o) : f i = some o := by subst hr; exact h
theorem zif_t {α : Type} {c : Prop} [Decidable c] {a b : Option α} {o : α} (hc : c) (h : (if c then a else b) = some o) : a = some o := by rw [if_pos hc] at h; exact h
theorem zif_f {α : Type} {c : Prop} [Decidable c] {a b : Option α} {o : α} (hc : ¬ c) (h : (if c then a else b) = some o) : b = some o := by rw [if_neg hc] at h; exact h
theorem zib_in {j : Int32} {n : Nat} (h : zib j n = true) : vp_in j n := by
  unfold zib at h
  simp only [Bool.and_eq_true, Bool.not_eq_true', decide_eq_false_iff_not, decide_eq_true_eq] at h
  intro q
  rcases q with q | q
  · exact h.1 q
  · omega
theorem zib_0 {j : Int32} {n : Nat} (h : zib j n = true) : ¬ j < 0 := fun q => zib_in h (Or.inl q)
theorem zib_le {j : Int32} {n : Nat} (h : zib j (n + 1) = true) : j.toNatClampNeg ≤ n := by
  have := zib_in h
  unfold vp_in at this
  omega
theorem zne_of {y : Int32} (h : (!decide (y = 0)) = true) : ¬ y = 0 := by simpa using h
theorem zneL_of {y : Int64} (h : (!decide (y = 0)) = true) : ¬ y = 0 := by simpa using h
section ZP
variable {G : zG} {M M' : zM} {D kc ks kc' ks' pc n : Nat} {ls ls' : List (Nat × zV)} {st stk : List zV} {S S1 : zH} {Post : Option zV → zH → Prop} {q i idx : Nat} {As : List zV} {C : String} {v : zV}
theorem zn_pick (is : List Nat) (h : is.filterMap (fun k => ls[k]?) = ls') (k : zn G M D kc ks pc ls' st S Post) : zn G M D kc ks pc ls st S Post := by
  intro p e R s m args below meth c H locs cells slots cm sm ph A la X Rm T F
  have hm : ∀ q ∈ ls', q ∈ ls := by
    intro q hq
    rw [← h] at hq
    obtain ⟨a, -, ha⟩ := List.mem_filterMap.mp hq
    exact List.mem_of_getElem? ha
  refine k p e R s m args below meth c H locs cells slots cm sm ph A la X Rm T ⟨F.1, fun q hq => F.2.1 q (hm q hq), F.2.2.1, F.2.2.2.1, fun q hq => ?_⟩
  obtain ⟨w, hw, rfl⟩ := List.mem_map.mp hq
  exact F.2.2.2.2 _ (List.mem_map.mpr ⟨w, hm w hw, rfl⟩)
theorem zn_wid {kc0 ks0 : Nat} (h1 : kc0 ≤ kc) (h2 : ks0 ≤ ks) (k : zn G M D kc0 ks0 pc ls st S Post) : zn G M D kc ks pc ls st S Post := by
  intro p e R s m args below meth c H locs cells slots cm sm ph A la X Rm T F
  obtain ⟨r1, r2, r3, r4, r5, r6⟩ := Rm
  exact k p e R s m args below meth c H locs cells slots cm sm ph A la X ⟨r1, r2, by omega, by omega, r5, r6⟩ T F
theorem zn_cVv (hd : decode M.2.1 pc = .ok (.invokevirtual idx, 3)) (hcs : zcsV M.1.cls idx M' n C) (hC : zpc q C) (hn : As.length = n) (hstk : stk = (vR q (some i) :: As).reverse ++ st) (h8 : (st.map zcat).sum ≤ 8) (hc : zct G M' D kc' ks' (vR q (some i) :: As) S (zpo (some v) S1)) (k : zn G M (D + 1) kc ks (pc + 3) ls (v :: st) S1 Post) : zn G M (D + 1) (kc + kc') (ks + ks') pc ls stk S Post :=
  zn_callV hd hcs.1 hcs.2.1 hcs.2.2.1 hcs.2.2.2 hC hn hstk h8 hc (fun r S2 h => by obtain ⟨rfl, rfl⟩ := h; exact k)
theorem zn_cV0 (hd : decode M.2.1 pc = .ok (.invokevirtual idx, 3)) (hcs : zcsV M.1.cls idx M' n C) (hC : zpc q C) (hn : As.length = n) (hstk : stk = (vR q (some i) :: As).reverse ++ st) (h8 : (st.map zcat).sum ≤ 8) (hc : zct G M' D kc' ks' (vR q (some i) :: As) S (zpo none S1)) (k : zn G M (D + 1) kc ks (pc + 3) ls st S1 Post) : zn G M (D + 1) (kc + kc') (ks + ks') pc ls stk S Post :=
  zn_callV hd hcs.1 hcs.2.1 hcs.2.2.1 hcs.2.2.2 hC hn hstk h8 hc (fun r S2 h => by obtain ⟨rfl, rfl⟩ := h; exact k)
theorem zn_cSv (hd : decode M.2.1 pc = .ok (.invokestatic idx, 3)) (hcs : zcsS M.1.cls idx M' n) (hn : As.length = n) (hstk : stk = As.reverse ++ st) (h8 : (st.map zcat).sum ≤ 8) (hc : zct G M' D kc' ks' As S (zpo (some v) S1)) (k : zn G M (D + 1) kc ks (pc + 3) ls (v :: st) S1 Post) : zn G M (D + 1) (kc + kc') (ks + ks') pc ls stk S Post :=
  zn_callS hd hcs.1 hcs.2.1 hcs.2.2 hn hstk h8 hc (fun r S2 h => by obtain ⟨rfl, rfl⟩ := h; exact k)
theorem zn_cS0 (hd : decode M.2.1 pc = .ok (.invokestatic idx, 3)) (hcs : zcsS M.1.cls idx M' n) (hn : As.length = n) (hstk : stk = As.reverse ++ st) (h8 : (st.map zcat).sum ≤ 8) (hc : zct G M' D kc' ks' As S (zpo none S1)) (k : zn G M (D + 1) kc ks (pc + 3) ls st S1 Post) : zn G M (D + 1) (kc + kc') (ks + ks') pc ls stk S Post :=
  zn_callS hd hcs.1 hcs.2.1 hcs.2.2 hn hstk h8 hc (fun r S2 h => by obtain ⟨rfl, rfl⟩ := h; exact k)
theorem zn_cI0 (hd : decode M.2.1 pc = .ok (.invokespecial idx, 3)) (hcs : zcsI M.1.cls idx M' n) (hn : As.length = n) (hstk : stk = (vR q (some i) :: As).reverse ++ st) (h8 : (st.map zcat).sum ≤ 8) (hc : zct G M' D kc' ks' (vR q (some i) :: As) S (zpo none S1)) (k : zn G M (D + 1) kc ks (pc + 3) ls st S1 Post) : zn G M (D + 1) (kc + kc') (ks + ks') pc ls stk S Post :=
  zn_callI hd hcs.1 hcs.2.2.2.1 hcs.2.2.2.2 hcs.2.1 hcs.2.2.1 hn hstk h8 hc (fun r S2 h => by obtain ⟨rfl, rfl⟩ := h; exact k)
end ZP
