/-! ===== the abstract machine's values and heaps: pools of cells by number; references are (pool, place) ===== -/
abbrev zV : Type := Int32 ⊕ Int64 ⊕ (Nat × Option Nat)
abbrev zH : Type := (Nat → Nat) × (Nat → Nat → Nat) × (Nat → Nat → Nat → Int32) × (Nat → Nat → Nat → Int64) × (Nat → Nat → Nat → Option Nat)
abbrev zG : Type := Launch × va_G × (Nat → ClassId) × (Nat → Nat)
abbrev zM : Type := MethodName × ByteArray × Nat × Option FieldType
def zN (S : zH) (p : Nat) : Nat := S.1 p
def zL (S : zH) (p i : Nat) : Nat := S.2.1 p i
def zI (S : zH) (p i k : Nat) : Int32 := S.2.2.1 p i k
def zJ (S : zH) (p i k : Nat) : Int64 := S.2.2.2.1 p i k
def zR (S : zH) (p i k : Nat) : Option Nat := S.2.2.2.2 p i k
abbrev vI (x : Int32) : zV := .inl x
abbrev vJ (x : Int64) : zV := .inr (.inl x)
abbrev vR (p : Nat) (r : Option Nat) : zV := .inr (.inr (p, r))
def zsI (S : zH) (p i k : Nat) (x : Int32) : zH := (S.1, S.2.1, fun q j l => if q = p ∧ j = i ∧ l = k then x else S.2.2.1 q j l, S.2.2.2.1, S.2.2.2.2)
def zsJ (S : zH) (p i k : Nat) (x : Int64) : zH := (S.1, S.2.1, S.2.2.1, fun q j l => if q = p ∧ j = i ∧ l = k then x else S.2.2.2.1 q j l, S.2.2.2.2)
def zsR (S : zH) (p i k : Nat) (x : Option Nat) : zH := (S.1, S.2.1, S.2.2.1, S.2.2.2.1, fun q j l => if q = p ∧ j = i ∧ l = k then x else S.2.2.2.2 q j l)
/-- a new cell in pool p, of length n, all empty -/
def znw (S : zH) (p n : Nat) : zH :=
  (fun q => if q = p then S.1 p + 1 else S.1 q, fun q j => if q = p ∧ j = S.1 p then n else S.2.1 q j, fun q j l => if q = p ∧ j = S.1 p then 0 else S.2.2.1 q j l,
   fun q j l => if q = p ∧ j = S.1 p then 0 else S.2.2.2.1 q j l, fun q j l => if q = p ∧ j = S.1 p then none else S.2.2.2.2 q j l)
theorem zN_sI (S : zH) (p i k : Nat) (x : Int32) (q : Nat) : zN (zsI S p i k x) q = zN S q := rfl
theorem zN_sJ (S : zH) (p i k : Nat) (x : Int64) (q : Nat) : zN (zsJ S p i k x) q = zN S q := rfl
theorem zN_sR (S : zH) (p i k : Nat) (x : Option Nat) (q : Nat) : zN (zsR S p i k x) q = zN S q := rfl
theorem zL_sI (S : zH) (p i k : Nat) (x : Int32) (q j : Nat) : zL (zsI S p i k x) q j = zL S q j := rfl
theorem zL_sJ (S : zH) (p i k : Nat) (x : Int64) (q j : Nat) : zL (zsJ S p i k x) q j = zL S q j := rfl
theorem zL_sR (S : zH) (p i k : Nat) (x : Option Nat) (q j : Nat) : zL (zsR S p i k x) q j = zL S q j := rfl
theorem zI_sI (S : zH) (p i k : Nat) (x : Int32) (q j l : Nat) : zI (zsI S p i k x) q j l = if q = p ∧ j = i ∧ l = k then x else zI S q j l := rfl
theorem zI_sJ (S : zH) (p i k : Nat) (x : Int64) (q j l : Nat) : zI (zsJ S p i k x) q j l = zI S q j l := rfl
theorem zI_sR (S : zH) (p i k : Nat) (x : Option Nat) (q j l : Nat) : zI (zsR S p i k x) q j l = zI S q j l := rfl
theorem zJ_sI (S : zH) (p i k : Nat) (x : Int32) (q j l : Nat) : zJ (zsI S p i k x) q j l = zJ S q j l := rfl
theorem zJ_sJ (S : zH) (p i k : Nat) (x : Int64) (q j l : Nat) : zJ (zsJ S p i k x) q j l = if q = p ∧ j = i ∧ l = k then x else zJ S q j l := rfl
theorem zJ_sR (S : zH) (p i k : Nat) (x : Option Nat) (q j l : Nat) : zJ (zsR S p i k x) q j l = zJ S q j l := rfl
theorem zR_sI (S : zH) (p i k : Nat) (x : Int32) (q j l : Nat) : zR (zsI S p i k x) q j l = zR S q j l := rfl
theorem zR_sJ (S : zH) (p i k : Nat) (x : Int64) (q j l : Nat) : zR (zsJ S p i k x) q j l = zR S q j l := rfl
theorem zR_sR (S : zH) (p i k : Nat) (x : Option Nat) (q j l : Nat) : zR (zsR S p i k x) q j l = if q = p ∧ j = i ∧ l = k then x else zR S q j l := rfl
theorem zN_nw (S : zH) (p n q : Nat) : zN (znw S p n) q = if q = p then zN S p + 1 else zN S q := rfl
theorem zL_nw (S : zH) (p n q j : Nat) : zL (znw S p n) q j = if q = p ∧ j = zN S p then n else zL S q j := rfl
theorem zI_nw (S : zH) (p n q j l : Nat) : zI (znw S p n) q j l = if q = p ∧ j = zN S p then 0 else zI S q j l := rfl
theorem zJ_nw (S : zH) (p n q j l : Nat) : zJ (znw S p n) q j l = if q = p ∧ j = zN S p then 0 else zJ S q j l := rfl
theorem zR_nw (S : zH) (p n q j l : Nat) : zR (znw S p n) q j l = if q = p ∧ j = zN S p then none else zR S q j l := rfl
/-! ===== the pools' kinds: .inl (class, its fields' kinds), .inr (array class, its elements' kind); kinds: 0 int, 1 long, q + 2 a reference into pool q ===== -/
def zkd (p k : Nat) : Nat := match zk p with
  | .inl x => x.2.getD k 0
  | .inr x => x.2
def zar (p : Nat) : Bool := (zk p).isRight
/-- an array of no places: nobody can write it -/
def zz (S : zH) (p i : Nat) : Prop := zar p = true ∧ zL S p i = 0
def zv (ph : Nat → Nat → Nat) (v : zV) : Value := match v with
  | .inl x => .int x
  | .inr (.inl x) => .long x
  | .inr (.inr r) => va_rf (r.2.map (ph r.1))
def zo (S : zH) (v : zV) : Prop := match v with
  | .inl _ => True
  | .inr (.inl _) => True
  | .inr (.inr r) => ∀ i, r.2 = some i → i < zN S r.1
def zcat (v : zV) : Nat := match v with
  | .inr (.inl _) => 2
  | _ => 1
theorem zv_cat (ph : Nat → Nat → Nat) (v : zV) : (zv ph v).category = zcat v := by
  rcases v with x | x | ⟨p, r⟩
  · rfl
  · rfl
  · cases r <;> rfl
/-- what place k of cell i of pool p holds -/
def zfv (S : zH) (p i k : Nat) : zV := match zkd p k with
  | 0 => vI (zI S p i k)
  | 1 => vJ (zJ S p i k)
  | q + 2 => vR q (zR S p i k)
/-- a row of no places, whatever else its cell bears -/
def zwk (a : Nat) (cls : ClassId) (H : Heap) : Prop := ∃ cell : Cell, H[a]? = some cell ∧ cell.cls = cls ∧ cell.slots.size = 0 ∧ cell.vm ≠ .unknown ∧ cell.vm.isStatics = false
def zat (G : zG) (ph : Nat → Nat → Nat) (S : zH) (p i : Nat) (H : Heap) : Prop := match zk p with
  | .inl x => t_OB (ph p i) (G.2.1.1 x.1) x.2.length (G.2.1.2 x.1) H (fun k => zv ph (zfv S p i k))
  | .inr x => (zL S p i = 0 ∧ zwk (ph p i) (G.2.2.1 x.1) H) ∨ H[ph p i]? = some (arrV (G.2.2.1 x.1) (zL S p i) (fun k => zv ph (zfv S p i k)))
def zin (ph : Nat → Nat → Nat) (S : zH) : Prop := ∀ p i q j, i < zN S p → j < zN S q → ph p i = ph q j → (p = q ∧ i = j) ∨ (zz S p i ∧ zz S q j)
def zco (S : zH) : Prop := ∀ p i k, i < zN S p → zo S (zfv S p i k)
/-- the first row of each pool of a list's rows is the empty one that all lists begin with -/
def zem (G : zG) (ph : Nat → Nat → Nat) (S : zH) : Prop := ∀ p, 14 ≤ p → p ≤ 17 → 0 < zN S p → ph p 0 = G.2.2.2 0 ∧ zL S p 0 = 0
def zW (G : zG) (ph : Nat → Nat → Nat) (S : zH) (H : Heap) : Prop := (∀ p i, i < zN S p → zat G ph S p i H) ∧ zin ph S ∧ zco S ∧ zem G ph S
theorem zat.kept {G : zG} {ph : Nat → Nat → Nat} {S S1 : zH} {p i : Nat} {H H1 : Heap} (h : zat G ph S p i H) (hL : zL S1 p i = zL S p i) (hv : ∀ k, zfv S1 p i k = zfv S p i k) (hq : H1[ph p i]? = H[ph p i]?) : zat G ph S1 p i H1 := by
  unfold zat at h ⊢
  cases hk : zk p with
  | inl x =>
    rw [hk] at h
    exact (h.kept hq).to fun k _ => by rw [hv]
  | inr x =>
    rw [hk] at h
    show (zL S1 p i = 0 ∧ zwk _ _ H1) ∨ H1[ph p i]? = _
    rw [hL]
    rcases h with ⟨h0, cell, h1, h2⟩ | h
    · exact Or.inl ⟨h0, cell, by rw [hq]; exact h1, h2⟩
    · refine Or.inr ?_
      rw [hq]
      simp only [hv]
      exact h
theorem zat.lt {G : zG} {ph : Nat → Nat → Nat} {S : zH} {p i : Nat} {H : Heap} (h : zat G ph S p i H) : ph p i < H.size := by
  unfold zat at h
  cases hk : zk p with
  | inl x =>
    rw [hk] at h
    obtain ⟨cell, h1, -⟩ := h
    exact (Array.getElem?_eq_some_iff.mp h1).1
  | inr x =>
    rw [hk] at h
    rcases h with ⟨h0, cell, h1, h2⟩ | h
    · exact (Array.getElem?_eq_some_iff.mp h1).1
    · exact (Array.getElem?_eq_some_iff.mp h).1
/-- the same, at addresses that agree on the cells that are there -/
theorem zat.move {G : zG} {ph ph' : Nat → Nat → Nat} {S : zH} {p i : Nat} {H : Heap} (h : zat G ph S p i H) (hi : i < zN S p) (hc : zco S) (hp : ∀ q j, j < zN S q → ph' q j = ph q j) : zat G ph' S p i H := by
  have hv : ∀ k, zv ph' (zfv S p i k) = zv ph (zfv S p i k) := by
    intro k
    have h1 := hc p i k hi
    rcases hz : zfv S p i k with x | x | ⟨q, r⟩
    · rfl
    · rfl
    · rw [hz] at h1
      cases r with
      | none => rfl
      | some j => show Value.ref _ = Value.ref _; rw [hp q j (h1 j rfl)]
  unfold zat at h ⊢
  cases hk : zk p with
  | inl x =>
    rw [hk] at h
    show t_OB (ph' p i) _ _ _ _ _
    rw [hp p i hi]
    simp only [hv]
    exact h
  | inr x =>
    rw [hk] at h
    show (zL S p i = 0 ∧ zwk (ph' p i) _ H) ∨ H[ph' p i]? = _
    rw [hp p i hi]
    simp only [hv]
    exact h
theorem zo.mono {S S1 : zH} {v : zV} (h : zo S v) (hN : ∀ q, zN S q ≤ zN S1 q) : zo S1 v := by
  rcases v with x | x | ⟨q, r⟩
  · trivial
  · trivial
  · exact fun i e => Nat.lt_of_lt_of_le (h i e) (hN q)
theorem zv.move {S : zH} {ph ph' : Nat → Nat → Nat} {v : zV} (h : zo S v) (hp : ∀ q j, j < zN S q → ph' q j = ph q j) : zv ph' v = zv ph v := by
  rcases v with x | x | ⟨q, r⟩
  · rfl
  · rfl
  · cases r with
    | none => rfl
    | some j => show Value.ref _ = Value.ref _; rw [hp q j (h j rfl)]
/-- one place of one cell is written -/
theorem zW.set {G : zG} {ph : Nat → Nat → Nat} {S S1 : zH} {H H1 : Heap} {p i : Nat} (h : zW G ph S H) (hi : i < zN S p) (hzz : ¬ zz S p i) (hN : ∀ q, zN S1 q = zN S q) (hL : ∀ q j, zL S1 q j = zL S q j)
    (hv : ∀ q j k, ¬ (q = p ∧ j = i) → zfv S1 q j k = zfv S q j k) (hat : zat G ph S1 p i H1) (oq : ∀ q, q ≠ ph p i → H1[q]? = H[q]?) (hc : ∀ k, zo S (zfv S1 p i k)) : zW G ph S1 H1 := by
  refine ⟨fun q j hj => ?_, fun q j q' j' hj hj' e => ?_, fun q j k hj => ?_, fun q h1 h2 h3 => by rw [hN] at h3; rw [hL]; exact h.2.2.2 q h1 h2 h3⟩
  · by_cases hqj : q = p ∧ j = i
    · obtain ⟨rfl, rfl⟩ := hqj
      exact hat
    · rw [hN] at hj
      refine (h.1 q j hj).kept (hL q j) (fun k => hv q j k hqj) (oq _ fun e => ?_)
      rcases h.2.1 q j p i hj hi e with h1 | h1
      · exact hqj h1
      · exact hzz h1.2
  · rw [hN] at hj hj'
    have := h.2.1 q j q' j' hj hj' e
    simpa [zz, hL] using this
  · rw [hN] at hj
    refine zo.mono (S := S) ?_ (fun q => by rw [hN]; exact Nat.le_refl _)
    by_cases hqj : q = p ∧ j = i
    · obtain ⟨rfl, rfl⟩ := hqj
      exact hc k
    · rw [hv q j k hqj]
      exact h.2.2.1 q j k hj
/-- a new cell at the heap's end -/
theorem zW.new {G : zG} {ph ph' : Nat → Nat → Nat} {S : zH} {H H1 : Heap} {p n : Nat} (h : zW G ph S H) (hph : ∀ q j, j < zN S q → ph' q j = ph q j) (hp : ph' p (zN S p) = H.size) (hat : zat G ph' (znw S p n) p (zN S p) H1) (oq : ∀ q, q < H.size → H1[q]? = H[q]?) (hd : ∀ k, zo S (zfv (znw S p n) p (zN S p) k)) (he : 14 ≤ p → p ≤ 17 → 0 < zN S p) : zW G ph' (znw S p n) H1 := by
  have hmono : ∀ q, zN S q ≤ zN (znw S p n) q := fun q => by
    rw [zN_nw]
    split
    · next e => rw [e]; omega
    · exact Nat.le_refl _
  have hcase : ∀ q j, j < zN (znw S p n) q → j < zN S q ∨ (q = p ∧ j = zN S p) := by
    intro q j hj
    rw [zN_nw] at hj
    split at hj
    · next e =>
      subst e
      rcases Nat.lt_or_ge j (zN S q) with h1 | h1
      · exact Or.inl h1
      · exact Or.inr ⟨rfl, by omega⟩
    · exact Or.inl hj
  have hfv : ∀ q j k, j < zN S q → zfv (znw S p n) q j k = zfv S q j k := by
    intro q j k hj
    have hne : ¬ (q = p ∧ j = zN S p) := fun e => by obtain ⟨rfl, rfl⟩ := e; omega
    unfold zfv
    simp only [zI_nw, zJ_nw, zR_nw, if_neg hne]
  have hLL : ∀ q j, j < zN S q → zL (znw S p n) q j = zL S q j := by
    intro q j hj
    rw [zL_nw, if_neg (fun e => by obtain ⟨rfl, rfl⟩ := e; omega)]
  have hlt : ∀ q j, j < zN S q → ph' q j < H.size := fun q j hj => by rw [hph q j hj]; exact (h.1 q j hj).lt
  refine ⟨fun q j hj => ?_, fun q j q' j' hj hj' e => ?_, fun q j k hj => ?_, fun q h1 h2 h3 => ?_⟩
  · rcases hcase q j hj with h1 | ⟨rfl, rfl⟩
    · exact ((h.1 q j h1).move h1 h.2.2.1 hph).kept (hLL q j h1) (fun k => hfv q j k h1) (oq _ (hlt q j h1))
    · exact hat
  · rcases hcase q j hj with h1 | ⟨rfl, rfl⟩ <;> rcases hcase q' j' hj' with h2 | ⟨rfl, rfl⟩
    · rw [hph q j h1, hph q' j' h2] at e
      have := h.2.1 q j q' j' h1 h2 e
      simpa [zz, hLL q j h1, hLL q' j' h2] using this
    · have := hlt q j h1
      rw [hp] at e
      omega
    · have := hlt q' j' h2
      rw [hp] at e
      omega
    · exact Or.inl ⟨rfl, rfl⟩
  · rcases hcase q j hj with h1 | ⟨rfl, rfl⟩
    · rw [hfv q j k h1]
      exact (h.2.2.1 q j k h1).mono hmono
    · exact (hd k).mono hmono
  · have h4 : 0 < zN S q := by
      rw [zN_nw] at h3
      split at h3
      · next e => subst e; exact he h1 h2
      · exact h3
    rw [hph q 0 h4, hLL q 0 h4]
    exact h.2.2.2 q h1 h2 h4
