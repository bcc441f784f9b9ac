/-! ===== rules: an instruction each ===== -/
theorem zs1 {S : zH} {a : zV} {st : List zV} (h : ∀ v ∈ a :: st, zo S v) : ∀ v ∈ st, zo S v := (List.forall_mem_cons.mp h).2
theorem zs2 {S : zH} {a b : zV} {st : List zV} (h : ∀ v ∈ a :: b :: st, zo S v) : ∀ v ∈ st, zo S v := zs1 (zs1 h)
theorem zs3 {S : zH} {a b c : zV} {st : List zV} (h : ∀ v ∈ a :: b :: c :: st, zo S v) : ∀ v ∈ st, zo S v := zs1 (zs2 h)
theorem zs4 {S : zH} {a b c d : zV} {st : List zV} (h : ∀ v ∈ a :: b :: c :: d :: st, zo S v) : ∀ v ∈ st, zo S v := zs1 (zs3 h)
theorem zsp {S : zH} {a : zV} {st : List zV} (ha : zo S a) (h : ∀ v ∈ st, zo S v) : ∀ v ∈ a :: st, zo S v := List.forall_mem_cons.mpr ⟨ha, h⟩
theorem zsh {S : zH} {a : zV} {st : List zV} (h : ∀ v ∈ a :: st, zo S v) : zo S a := (List.forall_mem_cons.mp h).1
theorem zat_l {ls : List (Nat × zV)} {ph : Nat → Nat → Nat} {n k i : Nat} {v : zV} {la : Array Slot} (h : lv_has la n (ls.map fun q => (q.1, zv ph q.2))) (hk : ls[k]? = some (i, v)) : la[i]? = some (.val (zv ph v)) :=
  lv_at h k (by rw [List.getElem?_map, hk]; rfl)
theorem zls_o {S : zH} {ls : List (Nat × zV)} {k i : Nat} {v : zV} (h : ∀ q ∈ ls, zo S q.2) (hk : ls[k]? = some (i, v)) : zo S v := h _ (List.mem_of_getElem? hk)
def zss (ls : List (Nat × zV)) (i : Nat) (v : zV) : List (Nat × zV) := (i, v) :: ls.filter (fun q => !(q.1 == i) && !(q.1 + 1 == i && zcat q.2 == 2))
def zss2 (ls : List (Nat × zV)) (i : Nat) (v : zV) : List (Nat × zV) := (i, v) :: ls.filter (fun q => !(q.1 == i) && (!(q.1 == i + 1) && !(q.1 + 1 == i && zcat q.2 == 2)))
theorem zss_lv (ph : Nat → Nat → Nat) (ls : List (Nat × zV)) (i : Nat) (v : zV) : (zss ls i v).map (fun q => (q.1, zv ph q.2)) = (i, zv ph v) :: (ls.map fun q => (q.1, zv ph q.2)).filter (fun q => !(q.1 == i) && !(q.1 + 1 == i && q.2.category == 2)) := by
  unfold zss
  rw [List.map_cons, List.filter_map]
  congr 2
  apply List.filter_congr
  intro q _
  simp only [Function.comp, zv_cat]
theorem zss2_lv (ph : Nat → Nat → Nat) (ls : List (Nat × zV)) (i : Nat) (v : zV) : (zss2 ls i v).map (fun q => (q.1, zv ph q.2)) = (i, zv ph v) :: (ls.map fun q => (q.1, zv ph q.2)).filter (fun q => !(q.1 == i) && (!(q.1 == i + 1) && !(q.1 + 1 == i && q.2.category == 2))) := by
  unfold zss2
  rw [List.map_cons, List.filter_map]
  congr 2
  apply List.filter_congr
  intro q _
  simp only [Function.comp, zv_cat]
theorem zss_o {S : zH} {ls : List (Nat × zV)} {i : Nat} {v : zV} (h : ∀ q ∈ ls, zo S q.2) (hv : zo S v) : ∀ q ∈ zss ls i v, zo S q.2 := by
  intro q hq
  rcases List.mem_cons.mp hq with e | e
  · rw [e]; exact hv
  · exact h q (List.mem_filter.mp e).1
theorem zss2_o {S : zH} {ls : List (Nat × zV)} {i : Nat} {v : zV} (h : ∀ q ∈ ls, zo S q.2) (hv : zo S v) : ∀ q ∈ zss2 ls i v, zo S q.2 := by
  intro q hq
  rcases List.mem_cons.mp hq with e | e
  · rw [e]; exact hv
  · exact h q (List.mem_filter.mp e).1
theorem zW_mono {p : Program} {l : Launch} {e : Env} {R : Room} {s : State} {m : MethodId} {args : Array Value} {below : List Frame} {meth : Method} {c : Code} {H : Heap} {locs : List Loc} {cells slots : Nat} {Q Q' : State → Prop} {g : JFrame} (hQ : ∀ t, Q t → Q' t) (h : W p l e R s m args below meth c H locs cells slots Q g) : W p l e R s m args below meth c H locs cells slots Q' g := fun T hT X => by
  obtain ⟨t, a, b⟩ := h T hT X
  exact ⟨t, a, hQ t b⟩
theorem zMQ_mono {below : List Frame} {Qc Qc' : Array Value → State → Outcome → State → Prop} {a : Array Value} {s : State} {mc ms : Nat} {free : Addr → Prop} (hQ : ∀ o t, Qc a s o t → Qc' a s o t) : ∀ t, MQ below Qc a s mc ms free t → MQ below Qc' a s mc ms free t := fun t h => by
  obtain ⟨o, h1, h2, h3, h4⟩ := h
  exact ⟨o, h1, h2, hQ o t h3, h4⟩
theorem zQc_le {G : zG} {A : Nat → Prop} {ph ph1 : Nat → Nat → Nat} {S S1 : zH} {Post : Option zV → zH → Prop} (hle : zle ph S ph1 S1) {a : Array Value} {st t : State} {o : Outcome} (h : zQc G A ph1 S1 Post a st o t) : zQc G A ph S Post a st o t := by
  obtain ⟨⟨r, S', ph', h1, h2, h3, h4, h5, h6⟩, h7⟩ := h
  exact ⟨⟨r, S', ph', h1, h2, h3, h4, hle.tr h5, h6⟩, h7⟩
/-- the same addresses serve where no cell was made -/
theorem zn_heap {G : zG} {M : zM} {D kc ks pc : Nat} {ls : List (Nat × zV)} {st : List zV} {S S1 : zH} {Post : Option zV → zH → Prop} (hN : ∀ q, zN S1 q = zN S q) (k : zn G M D kc ks pc ls st S1 Post)
    {p : Program} {e : Env} {R : Room} {s : State} {m : MethodId} {args : Array Value} {below : List Frame} {meth : Method} {c : Code} {H : Heap} {locs : List Loc} {cells slots cm sm : Nat} {ph : Nat → Nat → Nat} {A : Nat → Prop} {la : Array Slot}
    (X : zCx G M A p s m args meth c) (Rm : zRm R D kc ks cells slots cm sm) (T : zSt G A s H locs ph S1) (F1 : ∀ v ∈ st, zo S v) (F2 : ∀ q ∈ ls, zo S q.2) (F3 : lv_has la M.2.2.1 (ls.map fun q => (q.1, zv ph q.2))) :
    W p G.1 e R s m args below meth c H locs cells slots (MQ below (zQc G A ph S Post) args s cm sm A) (F0 m pc la (st.map (zv ph))) := by
  have hm : ∀ q, zN S q ≤ zN S1 q := fun q => by rw [hN]; exact Nat.le_refl _
  refine zW_mono (zMQ_mono fun o t h => zQc_le (S := S) (ph := ph) ⟨hm, fun _ _ _ => rfl⟩ h) (k p e R s m args below meth c H locs cells slots cm sm ph A la X Rm T ⟨fun v hv => (F1 v hv).mono hm, fun q hq => (F2 q hq).mono hm, F3⟩)
section ZR
variable {G : zG} {M : zM} {D kc ks pc : Nat} {ls : List (Nat × zV)} {st : List zV} {S : zH} {Post : Option zV → zH → Prop}
theorem zn_iconst {n : Int} {x : Int32} (hd : decode M.2.1 pc = .ok (.iconst n, 1)) (hv : Int32.ofInt n = x) (k : zn G M D kc ks (pc + 1) ls (vI x :: st) S Post) : zn G M D kc ks pc ls (st) S Post := by
  intro p e R s m args below meth c H locs cells slots cm sm ph A la X Rm T F
  exact lv_iconst X.1 X.2.1 hd hv (k p e R s m args below meth c H locs cells slots cm sm ph A la X Rm T ⟨zsp trivial F.1, F.2⟩)
theorem zn_bipush {n : Int} {x : Int32} (hd : decode M.2.1 pc = .ok (.bipush n, 2)) (hv : (Int8.ofInt n).toInt32 = x) (k : zn G M D kc ks (pc + 2) ls (vI x :: st) S Post) : zn G M D kc ks pc ls (st) S Post := by
  intro p e R s m args below meth c H locs cells slots cm sm ph A la X Rm T F
  exact lv_bipush X.1 X.2.1 hd hv (k p e R s m args below meth c H locs cells slots cm sm ph A la X Rm T ⟨zsp trivial F.1, F.2⟩)
theorem zn_sipush {n : Int} {x : Int32} (hd : decode M.2.1 pc = .ok (.sipush n, 3)) (hv : (Int16.ofInt n).toInt32 = x) (k : zn G M D kc ks (pc + 3) ls (vI x :: st) S Post) : zn G M D kc ks pc ls (st) S Post := by
  intro p e R s m args below meth c H locs cells slots cm sm ph A la X Rm T F
  exact lv_sipush X.1 X.2.1 hd hv (k p e R s m args below meth c H locs cells slots cm sm ph A la X Rm T ⟨zsp trivial F.1, F.2⟩)
theorem zn_lconst {n : Fin 2} {x : Int64} (hd : decode M.2.1 pc = .ok (.lconst n, 1)) (hv : Int64.ofNat (n : Nat) = x) (k : zn G M D kc ks (pc + 1) ls (vJ x :: st) S Post) : zn G M D kc ks pc ls (st) S Post := by
  intro p e R s m args below meth c H locs cells slots cm sm ph A la X Rm T F
  exact lv_lconst X.1 X.2.1 hd hv (k p e R s m args below meth c H locs cells slots cm sm ph A la X Rm T ⟨zsp trivial F.1, F.2⟩)
theorem zn_ldc {x : Int32} {idx : Nat} (hd : decode M.2.1 pc = .ok (.ldc idx, 2)) (hw : Cond.constant M.1.cls idx x ∈ ztb) (k : zn G M D kc ks (pc + 2) ls (vI x :: st) S Post) : zn G M D kc ks pc ls st S Post := by
  intro p e R s m args below meth c H locs cells slots cm sm ph A la X Rm T F
  exact lv_ldc X.1 X.2.1 X.2.2.2.2.2.1 (X.2.2.2.2.2.2.2.1 _ hw) hd (k p e R s m args below meth c H locs cells slots cm sm ph A la X Rm T ⟨zsp trivial F.1, F.2⟩)
theorem zn_ldc2 {x : Int64} {idx : Nat} (hd : decode M.2.1 pc = .ok (.ldc2_w idx, 3)) (hw : Cond.constantLong M.1.cls idx x ∈ ztb) (k : zn G M D kc ks (pc + 3) ls (vJ x :: st) S Post) : zn G M D kc ks pc ls st S Post := by
  intro p e R s m args below meth c H locs cells slots cm sm ph A la X Rm T F
  exact lv_ldc2 X.1 X.2.1 X.2.2.2.2.2.1 (X.2.2.2.2.2.2.2.1 _ hw) hd (k p e R s m args below meth c H locs cells slots cm sm ph A la X Rm T ⟨zsp trivial F.1, F.2⟩)
theorem zn_null (q : Nat) (hd : decode M.2.1 pc = .ok (.aconst_null, 1)) (k : zn G M D kc ks (pc + 1) ls (vR q none :: st) S Post) : zn G M D kc ks pc ls st S Post := by
  intro p e R s m args below meth c H locs cells slots cm sm ph A la X Rm T F
  exact lv_null X.1 X.2.1 hd (k p e R s m args below meth c H locs cells slots cm sm ph A la X Rm T ⟨zsp (fun i h => (nomatch h)) F.1, F.2⟩)
theorem zn_iload_n (j : Nat) {f : Fin 4} {i : Nat} {x : Int32} (hd : decode M.2.1 pc = .ok (.iload_n f, 1)) (hi : (f : Nat) = i) (hj : ls[j]? = some (i, vI x)) (k : zn G M D kc ks (pc + 1) ls (vI x :: st) S Post) : zn G M D kc ks pc ls st S Post := by
  intro p e R s m args below meth c H locs cells slots cm sm ph A la X Rm T F
  exact lv_iload_n X.1 X.2.1 hd hi (zat_l F.2.2 hj) (k p e R s m args below meth c H locs cells slots cm sm ph A la X Rm T ⟨zsp trivial F.1, F.2⟩)
theorem zn_iload (j : Nat) {i : Nat} {x : Int32} (hd : decode M.2.1 pc = .ok (.iload i, 2)) (hj : ls[j]? = some (i, vI x)) (k : zn G M D kc ks (pc + 2) ls (vI x :: st) S Post) : zn G M D kc ks pc ls st S Post := by
  intro p e R s m args below meth c H locs cells slots cm sm ph A la X Rm T F
  exact lv_iload X.1 X.2.1 hd (zat_l F.2.2 hj) (k p e R s m args below meth c H locs cells slots cm sm ph A la X Rm T ⟨zsp trivial F.1, F.2⟩)
theorem zn_lload_n (j : Nat) {f : Fin 4} {i : Nat} {x : Int64} (hd : decode M.2.1 pc = .ok (.lload_n f, 1)) (hi : (f : Nat) = i) (hj : ls[j]? = some (i, vJ x)) (k : zn G M D kc ks (pc + 1) ls (vJ x :: st) S Post) : zn G M D kc ks pc ls st S Post := by
  intro p e R s m args below meth c H locs cells slots cm sm ph A la X Rm T F
  exact lv_lload_n X.1 X.2.1 hd hi (zat_l F.2.2 hj) (k p e R s m args below meth c H locs cells slots cm sm ph A la X Rm T ⟨zsp trivial F.1, F.2⟩)
theorem zn_lload (j : Nat) {i : Nat} {x : Int64} (hd : decode M.2.1 pc = .ok (.lload i, 2)) (hj : ls[j]? = some (i, vJ x)) (k : zn G M D kc ks (pc + 2) ls (vJ x :: st) S Post) : zn G M D kc ks pc ls st S Post := by
  intro p e R s m args below meth c H locs cells slots cm sm ph A la X Rm T F
  exact lv_lload X.1 X.2.1 hd (zat_l F.2.2 hj) (k p e R s m args below meth c H locs cells slots cm sm ph A la X Rm T ⟨zsp trivial F.1, F.2⟩)
theorem zn_aload_n (j : Nat) {f : Fin 4} {i q : Nat} {r : Option Nat} (hd : decode M.2.1 pc = .ok (.aload_n f, 1)) (hi : (f : Nat) = i) (hj : ls[j]? = some (i, vR q r)) (k : zn G M D kc ks (pc + 1) ls (vR q r :: st) S Post) : zn G M D kc ks pc ls st S Post := by
  intro p e R s m args below meth c H locs cells slots cm sm ph A la X Rm T F
  have hv := zat_l F.2.2 hj
  have kk := (k p e R s m args below meth c H locs cells slots cm sm ph A la X Rm T ⟨zsp (zls_o F.2.1 hj) F.1, F.2⟩)
  cases r with
  | none => exact lv_aload_nN X.1 X.2.1 hd hi hv kk
  | some a => exact lv_aload_n X.1 X.2.1 hd hi hv kk
theorem zn_aload (j : Nat) {i q : Nat} {r : Option Nat} (hd : decode M.2.1 pc = .ok (.aload i, 2)) (hj : ls[j]? = some (i, vR q r)) (k : zn G M D kc ks (pc + 2) ls (vR q r :: st) S Post) : zn G M D kc ks pc ls st S Post := by
  intro p e R s m args below meth c H locs cells slots cm sm ph A la X Rm T F
  have hv := zat_l F.2.2 hj
  have kk := (k p e R s m args below meth c H locs cells slots cm sm ph A la X Rm T ⟨zsp (zls_o F.2.1 hj) F.1, F.2⟩)
  cases r with
  | none => exact lv_aloadN X.1 X.2.1 hd hv kk
  | some a => exact lv_aload X.1 X.2.1 hd hv kk
theorem zn_istore_n {f : Fin 4} {i : Nat} {x : Int32} {ls' : List (Nat × zV)} (hd : decode M.2.1 pc = .ok (.istore_n f, 1)) (hi : (f : Nat) = i) (hn : i < M.2.2.1) (hl : zss ls i (vI x) = ls') (k : zn G M D kc ks (pc + 1) ls' st S Post) : zn G M D kc ks pc ls (vI x :: st) S Post := by
  intro p e R s m args below meth c H locs cells slots cm sm ph A la X Rm T F
  subst hl
  exact lv_istore_n X.1 X.2.1 hd hi F.2.2 hn (zss_lv ph ls i (vI x)).symm fun la' h' => k p e R s m args below meth c H locs cells slots cm sm ph A la' X Rm T ⟨zs1 F.1, zss_o F.2.1 (zsh F.1), h'⟩
theorem zn_istore {i : Nat} {x : Int32} {ls' : List (Nat × zV)} (hd : decode M.2.1 pc = .ok (.istore i, 2)) (hn : i < M.2.2.1) (hl : zss ls i (vI x) = ls') (k : zn G M D kc ks (pc + 2) ls' st S Post) : zn G M D kc ks pc ls (vI x :: st) S Post := by
  intro p e R s m args below meth c H locs cells slots cm sm ph A la X Rm T F
  subst hl
  exact lv_istore X.1 X.2.1 hd F.2.2 hn (zss_lv ph ls i (vI x)).symm fun la' h' => k p e R s m args below meth c H locs cells slots cm sm ph A la' X Rm T ⟨zs1 F.1, zss_o F.2.1 (zsh F.1), h'⟩
theorem zn_lstore {i : Nat} {x : Int64} {ls' : List (Nat × zV)} (hd : decode M.2.1 pc = .ok (.lstore i, 2)) (hn : i + 1 < M.2.2.1) (hl : zss2 ls i (vJ x) = ls') (k : zn G M D kc ks (pc + 2) ls' st S Post) : zn G M D kc ks pc ls (vJ x :: st) S Post := by
  intro p e R s m args below meth c H locs cells slots cm sm ph A la X Rm T F
  subst hl
  exact lv_lstore X.1 X.2.1 hd F.2.2 hn (zss2_lv ph ls i (vJ x)).symm fun la' h' => k p e R s m args below meth c H locs cells slots cm sm ph A la' X Rm T ⟨zs1 F.1, zss2_o F.2.1 (zsh F.1), h'⟩
theorem zn_lstore_n {f : Fin 4} {i : Nat} {x : Int64} {ls' : List (Nat × zV)} (hd : decode M.2.1 pc = .ok (.lstore_n f, 1)) (hi : (f : Nat) = i) (hn : i + 1 < M.2.2.1) (hl : zss2 ls i (vJ x) = ls') (k : zn G M D kc ks (pc + 1) ls' st S Post) : zn G M D kc ks pc ls (vJ x :: st) S Post := by
  intro p e R s m args below meth c H locs cells slots cm sm ph A la X Rm T F
  subst hl
  exact lv_lstore_n X.1 X.2.1 hd hi F.2.2 hn (zss2_lv ph ls i (vJ x)).symm fun la' h' => k p e R s m args below meth c H locs cells slots cm sm ph A la' X Rm T ⟨zs1 F.1, zss2_o F.2.1 (zsh F.1), h'⟩
theorem zn_astore_n {f : Fin 4} {i q : Nat} {r : Option Nat} {ls' : List (Nat × zV)} (hd : decode M.2.1 pc = .ok (.astore_n f, 1)) (hi : (f : Nat) = i) (hn : i < M.2.2.1) (hl : zss ls i (vR q r) = ls') (k : zn G M D kc ks (pc + 1) ls' st S Post) : zn G M D kc ks pc ls (vR q r :: st) S Post := by
  intro p e R s m args below meth c H locs cells slots cm sm ph A la X Rm T F
  subst hl
  have kk : ∀ la' : Array Slot, lv_has la' M.2.2.1 ((zss ls i (vR q r)).map fun q => (q.1, zv ph q.2)) → _ := fun la' h' => k p e R s m args below meth c H locs cells slots cm sm ph A la' X Rm T ⟨zs1 F.1, zss_o F.2.1 (zsh F.1), h'⟩
  rw [zss_lv] at kk
  cases r with
  | none => exact lv_astore_nN X.1 X.2.1 hd hi F.2.2 hn rfl kk
  | some a => exact lv_astore_n X.1 X.2.1 hd hi F.2.2 hn rfl kk
theorem zn_astore {i q : Nat} {r : Option Nat} {ls' : List (Nat × zV)} (hd : decode M.2.1 pc = .ok (.astore i, 2)) (hn : i < M.2.2.1) (hl : zss ls i (vR q r) = ls') (k : zn G M D kc ks (pc + 2) ls' st S Post) : zn G M D kc ks pc ls (vR q r :: st) S Post := by
  intro p e R s m args below meth c H locs cells slots cm sm ph A la X Rm T F
  subst hl
  have kk : ∀ la' : Array Slot, lv_has la' M.2.2.1 ((zss ls i (vR q r)).map fun q => (q.1, zv ph q.2)) → _ := fun la' h' => k p e R s m args below meth c H locs cells slots cm sm ph A la' X Rm T ⟨zs1 F.1, zss_o F.2.1 (zsh F.1), h'⟩
  rw [zss_lv] at kk
  cases r with
  | none => exact lv_astoreN X.1 X.2.1 hd F.2.2 hn rfl kk
  | some a => exact lv_astore X.1 X.2.1 hd F.2.2 hn rfl kk
theorem zn_iinc (j : Nat) {i : Nat} {n : Int} {x y : Int32} {ls' : List (Nat × zV)} (hd : decode M.2.1 pc = .ok (.iinc i n, 3)) (hj : ls[j]? = some (i, vI x)) (hv : x + Int32.ofInt n = y) (hn : i < M.2.2.1) (hl : zss ls i (vI y) = ls') (k : zn G M D kc ks (pc + 3) ls' st S Post) : zn G M D kc ks pc ls st S Post := by
  intro p e R s m args below meth c H locs cells slots cm sm ph A la X Rm T F
  subst hl
  exact lv_iinc (k := j) X.1 X.2.1 hd F.2.2 (by rw [List.getElem?_map, hj]; rfl) hv hn (zss_lv ph ls i (vI y)).symm fun la' h' => k p e R s m args below meth c H locs cells slots cm sm ph A la' X Rm T ⟨F.1, zss_o F.2.1 trivial, h'⟩
theorem zn_iadd {x y : Int32} (hd : decode M.2.1 pc = .ok (.iadd, 1)) (k : zn G M D kc ks (pc + 1) ls (vI (x + y) :: st) S Post) : zn G M D kc ks pc ls (vI y :: vI x :: st) S Post := by
  intro p e R s m args below meth c H locs cells slots cm sm ph A la X Rm T F
  exact lv_iadd X.1 X.2.1 hd (k p e R s m args below meth c H locs cells slots cm sm ph A la X Rm T ⟨zsp trivial (zs2 F.1), F.2⟩)
theorem zn_isub {x y : Int32} (hd : decode M.2.1 pc = .ok (.isub, 1)) (k : zn G M D kc ks (pc + 1) ls (vI (x - y) :: st) S Post) : zn G M D kc ks pc ls (vI y :: vI x :: st) S Post := by
  intro p e R s m args below meth c H locs cells slots cm sm ph A la X Rm T F
  exact lv_isub X.1 X.2.1 hd (k p e R s m args below meth c H locs cells slots cm sm ph A la X Rm T ⟨zsp trivial (zs2 F.1), F.2⟩)
theorem zn_imul {x y : Int32} (hd : decode M.2.1 pc = .ok (.imul, 1)) (k : zn G M D kc ks (pc + 1) ls (vI (x * y) :: st) S Post) : zn G M D kc ks pc ls (vI y :: vI x :: st) S Post := by
  intro p e R s m args below meth c H locs cells slots cm sm ph A la X Rm T F
  exact lv_imul X.1 X.2.1 hd (k p e R s m args below meth c H locs cells slots cm sm ph A la X Rm T ⟨zsp trivial (zs2 F.1), F.2⟩)
theorem zn_iand {x y : Int32} (hd : decode M.2.1 pc = .ok (.iand, 1)) (k : zn G M D kc ks (pc + 1) ls (vI (x &&& y) :: st) S Post) : zn G M D kc ks pc ls (vI y :: vI x :: st) S Post := by
  intro p e R s m args below meth c H locs cells slots cm sm ph A la X Rm T F
  exact lv_iand X.1 X.2.1 hd (k p e R s m args below meth c H locs cells slots cm sm ph A la X Rm T ⟨zsp trivial (zs2 F.1), F.2⟩)
theorem zn_ior {x y : Int32} (hd : decode M.2.1 pc = .ok (.ior, 1)) (k : zn G M D kc ks (pc + 1) ls (vI (x ||| y) :: st) S Post) : zn G M D kc ks pc ls (vI y :: vI x :: st) S Post := by
  intro p e R s m args below meth c H locs cells slots cm sm ph A la X Rm T F
  exact lv_ior X.1 X.2.1 hd (k p e R s m args below meth c H locs cells slots cm sm ph A la X Rm T ⟨zsp trivial (zs2 F.1), F.2⟩)
theorem zn_ixor {x y : Int32} (hd : decode M.2.1 pc = .ok (.ixor, 1)) (k : zn G M D kc ks (pc + 1) ls (vI (x ^^^ y) :: st) S Post) : zn G M D kc ks pc ls (vI y :: vI x :: st) S Post := by
  intro p e R s m args below meth c H locs cells slots cm sm ph A la X Rm T F
  exact lv_ixor X.1 X.2.1 hd (k p e R s m args below meth c H locs cells slots cm sm ph A la X Rm T ⟨zsp trivial (zs2 F.1), F.2⟩)
theorem zn_ishl {x y : Int32} (hd : decode M.2.1 pc = .ok (.ishl, 1)) (k : zn G M D kc ks (pc + 1) ls (vI (x <<< (y &&& 31)) :: st) S Post) : zn G M D kc ks pc ls (vI y :: vI x :: st) S Post := by
  intro p e R s m args below meth c H locs cells slots cm sm ph A la X Rm T F
  exact lv_ishl X.1 X.2.1 hd (k p e R s m args below meth c H locs cells slots cm sm ph A la X Rm T ⟨zsp trivial (zs2 F.1), F.2⟩)
theorem zn_ishr {x y : Int32} (hd : decode M.2.1 pc = .ok (.ishr, 1)) (k : zn G M D kc ks (pc + 1) ls (vI (x >>> (y &&& 31)) :: st) S Post) : zn G M D kc ks pc ls (vI y :: vI x :: st) S Post := by
  intro p e R s m args below meth c H locs cells slots cm sm ph A la X Rm T F
  exact lv_ishr X.1 X.2.1 hd (k p e R s m args below meth c H locs cells slots cm sm ph A la X Rm T ⟨zsp trivial (zs2 F.1), F.2⟩)
theorem zn_idiv {x y : Int32} (hd : decode M.2.1 pc = .ok (.idiv, 1)) (hne : ¬ y = 0) (k : zn G M D kc ks (pc + 1) ls (vI (x / y) :: st) S Post) : zn G M D kc ks pc ls (vI y :: vI x :: st) S Post := by
  intro p e R s m args below meth c H locs cells slots cm sm ph A la X Rm T F
  exact lv_idiv X.1 X.2.1 hd hne (k p e R s m args below meth c H locs cells slots cm sm ph A la X Rm T ⟨zsp trivial (zs2 F.1), F.2⟩)
theorem zn_irem {x y : Int32} (hd : decode M.2.1 pc = .ok (.irem, 1)) (hne : ¬ y = 0) (k : zn G M D kc ks (pc + 1) ls (vI (x - x / y * y) :: st) S Post) : zn G M D kc ks pc ls (vI y :: vI x :: st) S Post := by
  intro p e R s m args below meth c H locs cells slots cm sm ph A la X Rm T F
  exact lv_irem X.1 X.2.1 hd hne (k p e R s m args below meth c H locs cells slots cm sm ph A la X Rm T ⟨zsp trivial (zs2 F.1), F.2⟩)
theorem zn_ladd {x y : Int64} (hd : decode M.2.1 pc = .ok (.ladd, 1)) (k : zn G M D kc ks (pc + 1) ls (vJ (x + y) :: st) S Post) : zn G M D kc ks pc ls (vJ y :: vJ x :: st) S Post := by
  intro p e R s m args below meth c H locs cells slots cm sm ph A la X Rm T F
  exact lv_ladd X.1 X.2.1 hd (k p e R s m args below meth c H locs cells slots cm sm ph A la X Rm T ⟨zsp trivial (zs2 F.1), F.2⟩)
theorem zn_lsub {x y : Int64} (hd : decode M.2.1 pc = .ok (.lsub, 1)) (k : zn G M D kc ks (pc + 1) ls (vJ (x - y) :: st) S Post) : zn G M D kc ks pc ls (vJ y :: vJ x :: st) S Post := by
  intro p e R s m args below meth c H locs cells slots cm sm ph A la X Rm T F
  exact lv_lsub X.1 X.2.1 hd (k p e R s m args below meth c H locs cells slots cm sm ph A la X Rm T ⟨zsp trivial (zs2 F.1), F.2⟩)
theorem zn_lmul {x y : Int64} (hd : decode M.2.1 pc = .ok (.lmul, 1)) (k : zn G M D kc ks (pc + 1) ls (vJ (x * y) :: st) S Post) : zn G M D kc ks pc ls (vJ y :: vJ x :: st) S Post := by
  intro p e R s m args below meth c H locs cells slots cm sm ph A la X Rm T F
  exact lv_lmul X.1 X.2.1 hd (k p e R s m args below meth c H locs cells slots cm sm ph A la X Rm T ⟨zsp trivial (zs2 F.1), F.2⟩)
theorem zn_land {x y : Int64} (hd : decode M.2.1 pc = .ok (.land, 1)) (k : zn G M D kc ks (pc + 1) ls (vJ (x &&& y) :: st) S Post) : zn G M D kc ks pc ls (vJ y :: vJ x :: st) S Post := by
  intro p e R s m args below meth c H locs cells slots cm sm ph A la X Rm T F
  exact lv_land X.1 X.2.1 hd (k p e R s m args below meth c H locs cells slots cm sm ph A la X Rm T ⟨zsp trivial (zs2 F.1), F.2⟩)
theorem zn_lor {x y : Int64} (hd : decode M.2.1 pc = .ok (.lor, 1)) (k : zn G M D kc ks (pc + 1) ls (vJ (x ||| y) :: st) S Post) : zn G M D kc ks pc ls (vJ y :: vJ x :: st) S Post := by
  intro p e R s m args below meth c H locs cells slots cm sm ph A la X Rm T F
  exact lv_lor X.1 X.2.1 hd (k p e R s m args below meth c H locs cells slots cm sm ph A la X Rm T ⟨zsp trivial (zs2 F.1), F.2⟩)
theorem zn_lxor {x y : Int64} (hd : decode M.2.1 pc = .ok (.lxor, 1)) (k : zn G M D kc ks (pc + 1) ls (vJ (x ^^^ y) :: st) S Post) : zn G M D kc ks pc ls (vJ y :: vJ x :: st) S Post := by
  intro p e R s m args below meth c H locs cells slots cm sm ph A la X Rm T F
  exact lv_lxor X.1 X.2.1 hd (k p e R s m args below meth c H locs cells slots cm sm ph A la X Rm T ⟨zsp trivial (zs2 F.1), F.2⟩)
theorem zn_ldiv {x y : Int64} (hd : decode M.2.1 pc = .ok (.ldiv, 1)) (hne : ¬ y = 0) (k : zn G M D kc ks (pc + 1) ls (vJ (x / y) :: st) S Post) : zn G M D kc ks pc ls (vJ y :: vJ x :: st) S Post := by
  intro p e R s m args below meth c H locs cells slots cm sm ph A la X Rm T F
  exact lv_ldiv X.1 X.2.1 hd hne (k p e R s m args below meth c H locs cells slots cm sm ph A la X Rm T ⟨zsp trivial (zs2 F.1), F.2⟩)
theorem zn_ineg {x : Int32} (hd : decode M.2.1 pc = .ok (.ineg, 1)) (k : zn G M D kc ks (pc + 1) ls (vI (-x) :: st) S Post) : zn G M D kc ks pc ls (vI x :: st) S Post := by
  intro p e R s m args below meth c H locs cells slots cm sm ph A la X Rm T F
  exact lv_ineg X.1 X.2.1 hd (k p e R s m args below meth c H locs cells slots cm sm ph A la X Rm T ⟨zsp trivial (zs1 F.1), F.2⟩)
theorem zn_i2l {x : Int32} (hd : decode M.2.1 pc = .ok (.i2l, 1)) (k : zn G M D kc ks (pc + 1) ls (vJ x.toInt64 :: st) S Post) : zn G M D kc ks pc ls (vI x :: st) S Post := by
  intro p e R s m args below meth c H locs cells slots cm sm ph A la X Rm T F
  exact lv_i2l X.1 X.2.1 hd rfl (k p e R s m args below meth c H locs cells slots cm sm ph A la X Rm T ⟨zsp trivial (zs1 F.1), F.2⟩)
theorem zn_l2i {x : Int64} (hd : decode M.2.1 pc = .ok (.l2i, 1)) (k : zn G M D kc ks (pc + 1) ls (vI x.toInt32 :: st) S Post) : zn G M D kc ks pc ls (vJ x :: st) S Post := by
  intro p e R s m args below meth c H locs cells slots cm sm ph A la X Rm T F
  exact lv_l2i X.1 X.2.1 hd rfl (k p e R s m args below meth c H locs cells slots cm sm ph A la X Rm T ⟨zsp trivial (zs1 F.1), F.2⟩)
theorem zn_i2c {x : Int32} (hd : decode M.2.1 pc = .ok (.i2c, 1)) (k : zn G M D kc ks (pc + 1) ls (vI (x.toUInt32 % 65536).toInt32 :: st) S Post) : zn G M D kc ks pc ls (vI x :: st) S Post := by
  intro p e R s m args below meth c H locs cells slots cm sm ph A la X Rm T F
  exact lv_i2c X.1 X.2.1 hd rfl (k p e R s m args below meth c H locs cells slots cm sm ph A la X Rm T ⟨zsp trivial (zs1 F.1), F.2⟩)
theorem zn_lshl {x : Int64} {y : Int32} (hd : decode M.2.1 pc = .ok (.lshl, 1)) (k : zn G M D kc ks (pc + 1) ls (vJ (x <<< (y.toInt64 &&& 63)) :: st) S Post) : zn G M D kc ks pc ls (vI y :: vJ x :: st) S Post := by
  intro p e R s m args below meth c H locs cells slots cm sm ph A la X Rm T F
  exact lv_lshl X.1 X.2.1 hd rfl (k p e R s m args below meth c H locs cells slots cm sm ph A la X Rm T ⟨zsp trivial (zs2 F.1), F.2⟩)
theorem zn_lshr {x : Int64} {y : Int32} (hd : decode M.2.1 pc = .ok (.lshr, 1)) (k : zn G M D kc ks (pc + 1) ls (vJ (x >>> (y.toInt64 &&& 63)) :: st) S Post) : zn G M D kc ks pc ls (vI y :: vJ x :: st) S Post := by
  intro p e R s m args below meth c H locs cells slots cm sm ph A la X Rm T F
  exact lv_lshr X.1 X.2.1 hd rfl (k p e R s m args below meth c H locs cells slots cm sm ph A la X Rm T ⟨zsp trivial (zs2 F.1), F.2⟩)
theorem zn_lcmp {x y : Int64} (hd : decode M.2.1 pc = .ok (.lcmp, 1)) (k : zn G M D kc ks (pc + 1) ls (vI (lg_cmp x y) :: st) S Post) : zn G M D kc ks pc ls (vJ y :: vJ x :: st) S Post := by
  intro p e R s m args below meth c H locs cells slots cm sm ph A la X Rm T F
  exact W.lcmp X.1 X.2.1 hd (k p e R s m args below meth c H locs cells slots cm sm ph A la X Rm T ⟨zsp trivial (zs2 F.1), F.2⟩)
theorem zn_dup {v : zV} (hd : decode M.2.1 pc = .ok (.dup, 1)) (hc : zcat v = 1) (k : zn G M D kc ks (pc + 1) ls (v :: v :: st) S Post) : zn G M D kc ks pc ls (v :: st) S Post := by
  intro p e R s m args below meth c H locs cells slots cm sm ph A la X Rm T F
  exact lv_dup X.1 X.2.1 hd (by rw [zv_cat]; exact hc) (k p e R s m args below meth c H locs cells slots cm sm ph A la X Rm T ⟨zsp (zsh F.1) F.1, F.2⟩)
theorem zn_pop {v : zV} (hd : decode M.2.1 pc = .ok (.pop, 1)) (hc : zcat v = 1) (k : zn G M D kc ks (pc + 1) ls (st) S Post) : zn G M D kc ks pc ls (v :: st) S Post := by
  intro p e R s m args below meth c H locs cells slots cm sm ph A la X Rm T F
  exact lv_pop X.1 X.2.1 hd (by rw [zv_cat]; exact hc) (k p e R s m args below meth c H locs cells slots cm sm ph A la X Rm T ⟨zs1 F.1, F.2⟩)
theorem zn_dup2 {v w : zV} (hd : decode M.2.1 pc = .ok (.dup2, 1)) (hc : zcat v = 1) (hc2 : zcat w = 1) (k : zn G M D kc ks (pc + 1) ls (v :: w :: v :: w :: st) S Post) : zn G M D kc ks pc ls (v :: w :: st) S Post := by
  intro p e R s m args below meth c H locs cells slots cm sm ph A la X Rm T F
  exact lv_dup2_11 X.1 X.2.1 hd (by rw [zv_cat]; exact hc) (by rw [zv_cat]; exact hc2) (k p e R s m args below meth c H locs cells slots cm sm ph A la X Rm T ⟨zsp (zsh F.1) (zsp (zsh (zs1 F.1)) F.1), F.2⟩)
theorem zn_dup2J {x : Int64} (hd : decode M.2.1 pc = .ok (.dup2, 1)) (k : zn G M D kc ks (pc + 1) ls (vJ x :: vJ x :: st) S Post) : zn G M D kc ks pc ls (vJ x :: st) S Post := by
  intro p e R s m args below meth c H locs cells slots cm sm ph A la X Rm T F
  exact lv_dup2_2 X.1 X.2.1 hd rfl (k p e R s m args below meth c H locs cells slots cm sm ph A la X Rm T ⟨zsp trivial F.1, F.2⟩)
theorem zn_icmp_eq {x y : Int32} {off : Int} {tgt : Nat} (hd : decode M.2.1 pc = .ok (.if_icmp .eq off, 3)) (ht : (pc : Int) + off = (tgt : Int)) (kt : x = y → zn G M D kc ks tgt ls st S Post) (kf : ¬ x = y → zn G M D kc ks (pc + 3) ls st S Post) : zn G M D kc ks pc ls (vI y :: vI x :: st) S Post := by
  intro p e R s m args below meth c H locs cells slots cm sm ph A la X Rm T F
  exact lv_icmp_eq X.1 X.2.1 hd ht (fun q => kt q p e R s m args below meth c H locs cells slots cm sm ph A la X Rm T ⟨zs2 F.1, F.2⟩) (fun q => kf q p e R s m args below meth c H locs cells slots cm sm ph A la X Rm T ⟨zs2 F.1, F.2⟩)
theorem zn_if_eq {x : Int32} {off : Int} {tgt : Nat} (hd : decode M.2.1 pc = .ok (.ifCond .eq off, 3)) (ht : (pc : Int) + off = (tgt : Int)) (kt : x = 0 → zn G M D kc ks tgt ls st S Post) (kf : ¬ x = 0 → zn G M D kc ks (pc + 3) ls st S Post) : zn G M D kc ks pc ls (vI x :: st) S Post := by
  intro p e R s m args below meth c H locs cells slots cm sm ph A la X Rm T F
  exact lv_if_eq X.1 X.2.1 hd ht (fun q => kt q p e R s m args below meth c H locs cells slots cm sm ph A la X Rm T ⟨zs1 F.1, F.2⟩) (fun q => kf q p e R s m args below meth c H locs cells slots cm sm ph A la X Rm T ⟨zs1 F.1, F.2⟩)
theorem zn_icmp_ne {x y : Int32} {off : Int} {tgt : Nat} (hd : decode M.2.1 pc = .ok (.if_icmp .ne off, 3)) (ht : (pc : Int) + off = (tgt : Int)) (kt : ¬ x = y → zn G M D kc ks tgt ls st S Post) (kf : x = y → zn G M D kc ks (pc + 3) ls st S Post) : zn G M D kc ks pc ls (vI y :: vI x :: st) S Post := by
  intro p e R s m args below meth c H locs cells slots cm sm ph A la X Rm T F
  exact lv_icmp_ne X.1 X.2.1 hd ht (fun q => kt q p e R s m args below meth c H locs cells slots cm sm ph A la X Rm T ⟨zs2 F.1, F.2⟩) (fun q => kf q p e R s m args below meth c H locs cells slots cm sm ph A la X Rm T ⟨zs2 F.1, F.2⟩)
theorem zn_if_ne {x : Int32} {off : Int} {tgt : Nat} (hd : decode M.2.1 pc = .ok (.ifCond .ne off, 3)) (ht : (pc : Int) + off = (tgt : Int)) (kt : ¬ x = 0 → zn G M D kc ks tgt ls st S Post) (kf : x = 0 → zn G M D kc ks (pc + 3) ls st S Post) : zn G M D kc ks pc ls (vI x :: st) S Post := by
  intro p e R s m args below meth c H locs cells slots cm sm ph A la X Rm T F
  exact lv_if_ne X.1 X.2.1 hd ht (fun q => kt q p e R s m args below meth c H locs cells slots cm sm ph A la X Rm T ⟨zs1 F.1, F.2⟩) (fun q => kf q p e R s m args below meth c H locs cells slots cm sm ph A la X Rm T ⟨zs1 F.1, F.2⟩)
theorem zn_icmp_lt {x y : Int32} {off : Int} {tgt : Nat} (hd : decode M.2.1 pc = .ok (.if_icmp .lt off, 3)) (ht : (pc : Int) + off = (tgt : Int)) (kt : x < y → zn G M D kc ks tgt ls st S Post) (kf : ¬ x < y → zn G M D kc ks (pc + 3) ls st S Post) : zn G M D kc ks pc ls (vI y :: vI x :: st) S Post := by
  intro p e R s m args below meth c H locs cells slots cm sm ph A la X Rm T F
  exact lv_icmp_lt X.1 X.2.1 hd ht (fun q => kt q p e R s m args below meth c H locs cells slots cm sm ph A la X Rm T ⟨zs2 F.1, F.2⟩) (fun q => kf q p e R s m args below meth c H locs cells slots cm sm ph A la X Rm T ⟨zs2 F.1, F.2⟩)
theorem zn_if_lt {x : Int32} {off : Int} {tgt : Nat} (hd : decode M.2.1 pc = .ok (.ifCond .lt off, 3)) (ht : (pc : Int) + off = (tgt : Int)) (kt : x < 0 → zn G M D kc ks tgt ls st S Post) (kf : ¬ x < 0 → zn G M D kc ks (pc + 3) ls st S Post) : zn G M D kc ks pc ls (vI x :: st) S Post := by
  intro p e R s m args below meth c H locs cells slots cm sm ph A la X Rm T F
  exact lv_if_lt X.1 X.2.1 hd ht (fun q => kt q p e R s m args below meth c H locs cells slots cm sm ph A la X Rm T ⟨zs1 F.1, F.2⟩) (fun q => kf q p e R s m args below meth c H locs cells slots cm sm ph A la X Rm T ⟨zs1 F.1, F.2⟩)
theorem zn_icmp_ge {x y : Int32} {off : Int} {tgt : Nat} (hd : decode M.2.1 pc = .ok (.if_icmp .ge off, 3)) (ht : (pc : Int) + off = (tgt : Int)) (kt : y ≤ x → zn G M D kc ks tgt ls st S Post) (kf : ¬ y ≤ x → zn G M D kc ks (pc + 3) ls st S Post) : zn G M D kc ks pc ls (vI y :: vI x :: st) S Post := by
  intro p e R s m args below meth c H locs cells slots cm sm ph A la X Rm T F
  exact lv_icmp_ge X.1 X.2.1 hd ht (fun q => kt q p e R s m args below meth c H locs cells slots cm sm ph A la X Rm T ⟨zs2 F.1, F.2⟩) (fun q => kf q p e R s m args below meth c H locs cells slots cm sm ph A la X Rm T ⟨zs2 F.1, F.2⟩)
theorem zn_if_ge {x : Int32} {off : Int} {tgt : Nat} (hd : decode M.2.1 pc = .ok (.ifCond .ge off, 3)) (ht : (pc : Int) + off = (tgt : Int)) (kt : 0 ≤ x → zn G M D kc ks tgt ls st S Post) (kf : ¬ 0 ≤ x → zn G M D kc ks (pc + 3) ls st S Post) : zn G M D kc ks pc ls (vI x :: st) S Post := by
  intro p e R s m args below meth c H locs cells slots cm sm ph A la X Rm T F
  exact lv_if_ge X.1 X.2.1 hd ht (fun q => kt q p e R s m args below meth c H locs cells slots cm sm ph A la X Rm T ⟨zs1 F.1, F.2⟩) (fun q => kf q p e R s m args below meth c H locs cells slots cm sm ph A la X Rm T ⟨zs1 F.1, F.2⟩)
theorem zn_icmp_gt {x y : Int32} {off : Int} {tgt : Nat} (hd : decode M.2.1 pc = .ok (.if_icmp .gt off, 3)) (ht : (pc : Int) + off = (tgt : Int)) (kt : y < x → zn G M D kc ks tgt ls st S Post) (kf : ¬ y < x → zn G M D kc ks (pc + 3) ls st S Post) : zn G M D kc ks pc ls (vI y :: vI x :: st) S Post := by
  intro p e R s m args below meth c H locs cells slots cm sm ph A la X Rm T F
  exact lv_icmp_gt X.1 X.2.1 hd ht (fun q => kt q p e R s m args below meth c H locs cells slots cm sm ph A la X Rm T ⟨zs2 F.1, F.2⟩) (fun q => kf q p e R s m args below meth c H locs cells slots cm sm ph A la X Rm T ⟨zs2 F.1, F.2⟩)
theorem zn_if_gt {x : Int32} {off : Int} {tgt : Nat} (hd : decode M.2.1 pc = .ok (.ifCond .gt off, 3)) (ht : (pc : Int) + off = (tgt : Int)) (kt : 0 < x → zn G M D kc ks tgt ls st S Post) (kf : ¬ 0 < x → zn G M D kc ks (pc + 3) ls st S Post) : zn G M D kc ks pc ls (vI x :: st) S Post := by
  intro p e R s m args below meth c H locs cells slots cm sm ph A la X Rm T F
  exact lv_if_gt X.1 X.2.1 hd ht (fun q => kt q p e R s m args below meth c H locs cells slots cm sm ph A la X Rm T ⟨zs1 F.1, F.2⟩) (fun q => kf q p e R s m args below meth c H locs cells slots cm sm ph A la X Rm T ⟨zs1 F.1, F.2⟩)
theorem zn_icmp_le {x y : Int32} {off : Int} {tgt : Nat} (hd : decode M.2.1 pc = .ok (.if_icmp .le off, 3)) (ht : (pc : Int) + off = (tgt : Int)) (kt : x ≤ y → zn G M D kc ks tgt ls st S Post) (kf : ¬ x ≤ y → zn G M D kc ks (pc + 3) ls st S Post) : zn G M D kc ks pc ls (vI y :: vI x :: st) S Post := by
  intro p e R s m args below meth c H locs cells slots cm sm ph A la X Rm T F
  exact lv_icmp_le X.1 X.2.1 hd ht (fun q => kt q p e R s m args below meth c H locs cells slots cm sm ph A la X Rm T ⟨zs2 F.1, F.2⟩) (fun q => kf q p e R s m args below meth c H locs cells slots cm sm ph A la X Rm T ⟨zs2 F.1, F.2⟩)
theorem zn_if_le {x : Int32} {off : Int} {tgt : Nat} (hd : decode M.2.1 pc = .ok (.ifCond .le off, 3)) (ht : (pc : Int) + off = (tgt : Int)) (kt : x ≤ 0 → zn G M D kc ks tgt ls st S Post) (kf : ¬ x ≤ 0 → zn G M D kc ks (pc + 3) ls st S Post) : zn G M D kc ks pc ls (vI x :: st) S Post := by
  intro p e R s m args below meth c H locs cells slots cm sm ph A la X Rm T F
  exact lv_if_le X.1 X.2.1 hd ht (fun q => kt q p e R s m args below meth c H locs cells slots cm sm ph A la X Rm T ⟨zs1 F.1, F.2⟩) (fun q => kf q p e R s m args below meth c H locs cells slots cm sm ph A la X Rm T ⟨zs1 F.1, F.2⟩)
theorem zn_goto {off : Int} {tgt : Nat} (hd : decode M.2.1 pc = .ok (.goto off, 3)) (ht : (pc : Int) + off = (tgt : Int)) (k : zn G M D kc ks tgt ls st S Post) : zn G M D kc ks pc ls st S Post := by
  intro p e R s m args below meth c H locs cells slots cm sm ph A la X Rm T F
  exact lv_goto X.1 X.2.1 hd ht (k p e R s m args below meth c H locs cells slots cm sm ph A la X Rm T F)
theorem zn_ifnull {q : Nat} {r : Option Nat} {off : Int} {tgt : Nat} (hd : decode M.2.1 pc = .ok (.ifnull off, 3)) (ht : (pc : Int) + off = (tgt : Int)) (kt : r = none → zn G M D kc ks tgt ls st S Post) (kf : ∀ i, r = some i → zn G M D kc ks (pc + 3) ls st S Post) : zn G M D kc ks pc ls (vR q r :: st) S Post := by
  intro p e R s m args below meth c H locs cells slots cm sm ph A la X Rm T F
  cases r with
  | none => exact lv_ifnullN X.1 X.2.1 hd ht (kt rfl p e R s m args below meth c H locs cells slots cm sm ph A la X Rm T ⟨zs1 F.1, F.2⟩)
  | some a => exact lv_ifnull X.1 X.2.1 hd (kf a rfl p e R s m args below meth c H locs cells slots cm sm ph A la X Rm T ⟨zs1 F.1, F.2⟩)
theorem zn_ifnonnull {q : Nat} {r : Option Nat} {off : Int} {tgt : Nat} (hd : decode M.2.1 pc = .ok (.ifnonnull off, 3)) (ht : (pc : Int) + off = (tgt : Int)) (kt : ∀ i, r = some i → zn G M D kc ks tgt ls st S Post) (kf : r = none → zn G M D kc ks (pc + 3) ls st S Post) : zn G M D kc ks pc ls (vR q r :: st) S Post := by
  intro p e R s m args below meth c H locs cells slots cm sm ph A la X Rm T F
  cases r with
  | none => exact lv_ifnonnullN X.1 X.2.1 hd (kf rfl p e R s m args below meth c H locs cells slots cm sm ph A la X Rm T ⟨zs1 F.1, F.2⟩)
  | some a => exact lv_ifnonnull X.1 X.2.1 hd ht (kt a rfl p e R s m args below meth c H locs cells slots cm sm ph A la X Rm T ⟨zs1 F.1, F.2⟩)
theorem zrf_inj {ph : Nat → Nat → Nat} {S : zH} {G : zG} {H : Heap} (hW : zW G ph S H) {q : Nat} (hq : zar q = false) {r r' : Option Nat} (h : zo S (vR q r)) (h' : zo S (vR q r')) : r.map (ph q) = r'.map (ph q) ↔ r = r' := by
  refine ⟨fun e => ?_, fun e => by rw [e]⟩
  cases r with
  | none => cases r' with
    | none => rfl
    | some b => cases e
  | some a => cases r' with
    | none => cases e
    | some b =>
      rcases hW.2.1 q a q b (h a rfl) (h' b rfl) (Option.some.inj e) with h1 | h1
      · rw [h1.2]
      · exact absurd h1.1.1 (by rw [hq]; decide)
theorem zn_acmp_eq {q : Nat} (hq : zar q = false) {r r' : Option Nat} {off : Int} {tgt : Nat} (hd : decode M.2.1 pc = .ok (.if_acmp .eq off, 3)) (ht : (pc : Int) + off = (tgt : Int)) (kt : r = r' → zn G M D kc ks tgt ls st S Post) (kf : ¬ r = r' → zn G M D kc ks (pc + 3) ls st S Post) : zn G M D kc ks pc ls (vR q r' :: vR q r :: st) S Post := by
  intro p e R s m args below meth c H locs cells slots cm sm ph A la X Rm T F
  have hi := zrf_inj T.1 hq (zsh (zs1 F.1)) (zsh F.1)
  exact lv_acmp_eq X.1 X.2.1 hd ht (fun z => kt (hi.mp z) p e R s m args below meth c H locs cells slots cm sm ph A la X Rm T ⟨zs2 F.1, F.2⟩) (fun z => kf (fun w => z (hi.mpr w)) p e R s m args below meth c H locs cells slots cm sm ph A la X Rm T ⟨zs2 F.1, F.2⟩)
theorem zn_acmp_ne {q : Nat} (hq : zar q = false) {r r' : Option Nat} {off : Int} {tgt : Nat} (hd : decode M.2.1 pc = .ok (.if_acmp .ne off, 3)) (ht : (pc : Int) + off = (tgt : Int)) (kt : ¬ r = r' → zn G M D kc ks tgt ls st S Post) (kf : r = r' → zn G M D kc ks (pc + 3) ls st S Post) : zn G M D kc ks pc ls (vR q r' :: vR q r :: st) S Post := by
  intro p e R s m args below meth c H locs cells slots cm sm ph A la X Rm T F
  have hi := zrf_inj T.1 hq (zsh (zs1 F.1)) (zsh F.1)
  exact lv_acmp_ne X.1 X.2.1 hd ht (fun z => kt (fun w => z (hi.mpr w)) p e R s m args below meth c H locs cells slots cm sm ph A la X Rm T ⟨zs2 F.1, F.2⟩) (fun z => kf (hi.mp z) p e R s m args below meth c H locs cells slots cm sm ph A la X Rm T ⟨zs2 F.1, F.2⟩)
theorem zn_tsIn {dflt lo hi : Int} {offs : Array Int} {len : Nat} {x c0 : Int32} {off : Int} {tgt : Nat} (hd : decode M.2.1 pc = .ok (.tableswitch dflt lo hi offs, len)) (hx : x = c0) (h1 : ¬ c0.toInt < lo ∧ ¬ hi < c0.toInt ∧ offs[(c0.toInt - lo).toNat]? = some off) (ht : (pc : Int) + off = (tgt : Int)) (k : zn G M D kc ks tgt ls st S Post) : zn G M D kc ks pc ls (vI x :: st) S Post := by
  intro p e R s m args below meth c H locs cells slots cm sm ph A la X Rm T F
  subst hx
  exact lv_tableIn X.1 X.2.1 hd h1.1 h1.2.1 h1.2.2 ht (k p e R s m args below meth c H locs cells slots cm sm ph A la X Rm T ⟨zs1 F.1, F.2⟩)
theorem zn_tsOut {dflt lo hi : Int} {offs : Array Int} {len : Nat} {x : Int32} {tgt : Nat} (hd : decode M.2.1 pc = .ok (.tableswitch dflt lo hi offs, len)) (h : x.toInt < lo ∨ hi < x.toInt) (ht : (pc : Int) + dflt = (tgt : Int)) (k : zn G M D kc ks tgt ls st S Post) : zn G M D kc ks pc ls (vI x :: st) S Post := by
  intro p e R s m args below meth c H locs cells slots cm sm ph A la X Rm T F
  exact lv_tableOut X.1 X.2.1 hd h ht (k p e R s m args below meth c H locs cells slots cm sm ph A la X Rm T ⟨zs1 F.1, F.2⟩)
theorem zret {G : zG} {A : Nat → Prop} {s : State} {H : Heap} {locs : List Loc} {ph : Nat → Nat → Nat} {S : zH} {Post : Option zV → zH → Prop} {args : Array Value} (T : zSt G A s H locs ph S) (r : Option zV) (hr : ∀ v, r = some v → zo S v) (hp : Post r S) (t : State) (ht : t.heap = H) : zQc G A ph S Post args s (.returned (r.map (zv ph))) t :=
  ⟨⟨r, S, ph, rfl, hr, by rw [ht]; exact T.1, T.2.2, zle.rf, hp⟩, T.2.1.F ht⟩
theorem zn_ireturn {x : Int32} (hd : decode M.2.1 pc = .ok (.ireturn, 1)) (hr : M.2.2.2 = some .int) (hp : Post (some (vI x)) S) : zn G M D kc ks pc ls [vI x] S Post := by
  intro p e R s m args below meth c H locs cells slots cm sm ph A la X Rm T F
  refine W.widen (k := cm) (n := sm) (by have := Rm.2.2.1; omega) (by have := Rm.2.2.2.1; omega) ?_
  exact W.iret (v := x) X.1 X.2.1 (X.2.2.2.1.trans hr) (fun t ht _ => zret T (some (vI x)) (fun v h => by cases h; trivial) hp t ht) T.2.1.2.2 hd X.2.2.2.2.1
theorem zn_zreturn {x : Int32} (hd : decode M.2.1 pc = .ok (.ireturn, 1)) (hr : M.2.2.2 = some .boolean) (hx : x &&& 1 = x) (hp : Post (some (vI x)) S) : zn G M D kc ks pc ls [vI x] S Post := by
  intro p e R s m args below meth c H locs cells slots cm sm ph A la X Rm T F
  refine W.widen (k := cm) (n := sm) (by have := Rm.2.2.1; omega) (by have := Rm.2.2.2.1; omega) ?_
  exact W.zret (v := x) (ty := .boolean) X.1 X.2.1 (X.2.2.2.1.trans hr) (by show Value.int (x &&& 1) = _; rw [hx]) (fun t ht _ => zret T (some (vI x)) (fun v h => by cases h; trivial) hp t ht) T.2.1.2.2 hd X.2.2.2.2.1
theorem zn_lreturn {x : Int64} (hd : decode M.2.1 pc = .ok (.lreturn, 1)) (hr : M.2.2.2 = some .long) (hp : Post (some (vJ x)) S) : zn G M D kc ks pc ls [vJ x] S Post := by
  intro p e R s m args below meth c H locs cells slots cm sm ph A la X Rm T F
  refine W.widen (k := cm) (n := sm) (by have := Rm.2.2.1; omega) (by have := Rm.2.2.2.1; omega) ?_
  exact W.lret (v := x) X.1 X.2.1 (X.2.2.2.1.trans hr) (fun t ht _ => zret T (some (vJ x)) (fun v h => by cases h; trivial) hp t ht) T.2.1.2.2 hd X.2.2.2.2.1
theorem zn_return (hd : decode M.2.1 pc = .ok (.return_, 1)) (hr : M.2.2.2 = none) (hp : Post none S) : zn G M D kc ks pc ls [] S Post := by
  intro p e R s m args below meth c H locs cells slots cm sm ph A la X Rm T F
  refine W.widen (k := cm) (n := sm) (by have := Rm.2.2.1; omega) (by have := Rm.2.2.2.1; omega) ?_
  exact W.vret X.1 X.2.1 (X.2.2.2.1.trans hr) (fun t ht _ => zret T none (fun v h => (nomatch h)) hp t ht) T.2.1.2.2 hd X.2.2.2.2.1
theorem zn_areturn {q : Nat} {r : Option Nat} {rt : FieldType} (hd : decode M.2.1 pc = .ok (.areturn, 1)) (hr : M.2.2.2 = some rt) (hrt : (∃ n, rt = .object n) ∨ ∃ t, rt = .array t) (hp : Post (some (vR q r)) S) : zn G M D kc ks pc ls [vR q r] S Post := by
  intro p e R s m args below meth c H locs cells slots cm sm ph A la X Rm T F
  refine W.widen (k := cm) (n := sm) (by have := Rm.2.2.1; omega) (by have := Rm.2.2.2.1; omega) ?_
  exact W.aret (v := zv ph (vR q r)) X.1 X.2.1 (X.2.2.2.1.trans hr) hrt (by cases r with | none => exact Or.inl rfl | some a => exact Or.inr ⟨_, rfl⟩) (fun t ht _ => zret T (some (vR q r)) (fun v h => by cases h; exact zsh F.1) hp t ht) T.2.1.2.2 hd X.2.2.2.2.1
end ZR
