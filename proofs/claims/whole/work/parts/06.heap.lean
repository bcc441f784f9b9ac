/-! ===== rules: fields ===== -/
/-- the field k of pool p's class is the one that the entry idx of own's constants names -/
def zfa (own : String) (idx p k : Nat) : Prop := ∃ (C : String) (T : u_T) (ci : Nat) (ts : List Nat) (ty : Nat → FieldType), zk p = .inl (ci, ts) ∧ k < ts.length ∧ zcl[ci]? = some (C, T, ts.length) ∧ (∀ w ∈ u_ws C T ts.length, w ∈ ztb) ∧ (∀ k, k < ts.length → parseFieldDescriptor (T k).2.2.1 = some (ty k)) ∧ (∀ a, a < ts.length → ∀ b, b < ts.length → a ≠ b → (T a).2.1 ≠ (T b).2.1) ∧
  ((∃ ref, Cond.fieldLink own idx ref (T k).2.1 (T k).2.2.1 ∈ ztb ∧ (ref = (T k).1 ∨ Cond.sameField ref (T k).1 (T k).2.1 (T k).2.2.1 ∈ ztb)) ∨ ∃ host, Cond.fieldLinkNest own idx (T k).1 (T k).2.1 (T k).2.2.1 host ∈ ztn)
/-- and may be written: not final, or in a constructor of its own class -/
def zfp (own nm : String) (idx p k : Nat) (t0 : FieldType) : Prop := ∃ (C : String) (T : u_T) (ci : Nat) (ts : List Nat) (ty : Nat → FieldType), zk p = .inl (ci, ts) ∧ k < ts.length ∧ zcl[ci]? = some (C, T, ts.length) ∧ (∀ w ∈ u_ws C T ts.length, w ∈ ztb) ∧ (∀ k, k < ts.length → parseFieldDescriptor (T k).2.2.1 = some (ty k)) ∧ (∀ a, a < ts.length → ∀ b, b < ts.length → a ≠ b → (T a).2.1 ≠ (T b).2.1) ∧ ty k = t0 ∧
  ((∃ ref, Cond.fieldLink own idx ref (T k).2.1 (T k).2.2.1 ∈ ztb ∧ (ref = (T k).1 ∨ Cond.sameField ref (T k).1 (T k).2.1 (T k).2.2.1 ∈ ztb) ∧ ((T k).2.2.2 = false ∨ ((T k).2.2.2 = true ∧ nm = "<init>" ∧ (T k).1 = own))) ∨ ((T k).2.2.2 = false ∧ ∃ host, Cond.fieldLinkNest own idx (T k).1 (T k).2.1 (T k).2.2.1 host ∈ ztn))
theorem zOB {G : zG} {ph : Nat → Nat → Nat} {S : zH} {p i : Nat} {H : Heap} (h : zat G ph S p i H) {ci : Nat} {ts : List Nat} (hk : zk p = .inl (ci, ts)) : t_OB (ph p i) (G.2.1.1 ci) ts.length (G.2.1.2 ci) H (fun k => zv ph (zfv S p i k)) := by
  unfold zat at h
  rw [hk] at h
  exact h
theorem zAR {G : zG} {ph : Nat → Nat → Nat} {S : zH} {p i : Nat} {H : Heap} (h : zat G ph S p i H) {a t : Nat} (hk : zk p = .inr (a, t)) (hpos : 0 < zL S p i) : H[ph p i]? = some (arrV (G.2.2.1 a) (zL S p i) (fun k => zv ph (zfv S p i k))) := by
  unfold zat at h
  rw [hk] at h
  exact h.resolve_left (fun z => by have := z.1; omega)
theorem zfv_0 {S : zH} {p i k : Nat} (h : zkd p k = 0) : zfv S p i k = vI (zI S p i k) := by unfold zfv; rw [h]
theorem zfv_1 {S : zH} {p i k : Nat} (h : zkd p k = 1) : zfv S p i k = vJ (zJ S p i k) := by unfold zfv; rw [h]
theorem zfv_2 {S : zH} {p i k q : Nat} (h : zkd p k = q + 2) : zfv S p i k = vR q (zR S p i k) := by unfold zfv; rw [h]
theorem zfv_sI {S : zH} {p i k : Nat} (h : zkd p k = 0) (x : Int32) (q j l : Nat) : zfv (zsI S p i k x) q j l = if q = p ∧ j = i ∧ l = k then vI x else zfv S q j l := by
  by_cases e : q = p ∧ j = i ∧ l = k
  · obtain ⟨rfl, rfl, rfl⟩ := e
    rw [zfv_0 h, zI_sI, if_pos ⟨rfl, rfl, rfl⟩, if_pos ⟨rfl, rfl, rfl⟩]
  · unfold zfv
    simp only [zI_sI, if_neg e, zJ_sI, zR_sI]
theorem zfv_sJ {S : zH} {p i k : Nat} (h : zkd p k = 1) (x : Int64) (q j l : Nat) : zfv (zsJ S p i k x) q j l = if q = p ∧ j = i ∧ l = k then vJ x else zfv S q j l := by
  by_cases e : q = p ∧ j = i ∧ l = k
  · obtain ⟨rfl, rfl, rfl⟩ := e
    rw [zfv_1 h, zJ_sJ, if_pos ⟨rfl, rfl, rfl⟩, if_pos ⟨rfl, rfl, rfl⟩]
  · unfold zfv
    simp only [zI_sJ, if_neg e, zJ_sJ, zR_sJ]
theorem zfv_sR {S : zH} {p i k t : Nat} (h : zkd p k = t + 2) (x : Option Nat) (q j l : Nat) : zfv (zsR S p i k x) q j l = if q = p ∧ j = i ∧ l = k then vR t x else zfv S q j l := by
  by_cases e : q = p ∧ j = i ∧ l = k
  · obtain ⟨rfl, rfl, rfl⟩ := e
    rw [zfv_2 h, zR_sR, if_pos ⟨rfl, rfl, rfl⟩, if_pos ⟨rfl, rfl, rfl⟩]
  · unfold zfv
    simp only [zI_sR, if_neg e, zJ_sR, zR_sR]
section ZF
variable {G : zG} {M : zM} {D kc ks pc : Nat} {ls : List (Nat × zV)} {st : List zV} {S S1 : zH} {Post : Option zV → zH → Prop} {q i l idx : Nat}
theorem zn_get (h : zfa M.1.cls idx q l) (hd : decode M.2.1 pc = .ok (.getfield idx, 3)) (k : zn G M D kc ks (pc + 3) ls (zfv S q i l :: st) S Post) : zn G M D kc ks pc ls (vR q (some i) :: st) S Post := by
  intro p e R s m args below meth c H locs cells slots cm sm ph A la X Rm T F
  obtain ⟨hx, hb, hml, hret, hlk, hown, hnm, hts, hK, hA⟩ := id X
  obtain ⟨C, T0, ci, ts, ty, h1, h2, h3, h4, h5, h6, h7⟩ := h
  have hi : i < zN S q := zsh F.1 i rfl
  obtain ⟨cell, q1, q2, q3, q4⟩ := zOB (T.1.1 q i hi) h1
  obtain ⟨hS, hfc, kC, hkC, hkind⟩ := hK.1.1 ci _ h3
  obtain ⟨cf, kf, fi, f, hi2, hsl⟩ := hS l h2
  have hst := (u_facts hfc hkC (u_lays hts h4 h2) hi2).1
  have kk := k p e R s m args below meth c H locs cells slots cm sm ph A la X Rm T ⟨zsp (T.1.2.2.1 q i l hi) (zs1 F.1), F.2⟩
  have hv : cell.slots[f.slot]? = some (zv ph (zfv S q i l)) := by rw [hsl]; exact q4 l h2
  have hu : cell.vm ≠ .unknown := by rw [q3]; exact fun h => by cases h
  rcases h7 with ⟨ref, h7, h8⟩ | ⟨host, h7⟩
  · have hsame : s.fieldFound? ref (T0 l).2.1 (T0 l).2.2.1 = some (cf, kf, fi, f) := by
      rcases h8 with h8 | h8
      · rw [h8]; exact hi2
      · exact u_same (hts _ h8) _ hi2
    exact W.getf hx hb hown (hts _ h7) hsame hst q1 hu hv rfl rfl hd kk
  · exact va_Wgetf hx hb hown (va_Nw.use rfl (hK.2.1 _ h7)) hi2 hst q1 hu hv rfl rfl hd kk
theorem zn_getI (h : zfa M.1.cls idx q l) (hk : zkd q l = 0) (hd : decode M.2.1 pc = .ok (.getfield idx, 3)) (k : zn G M D kc ks (pc + 3) ls (vI (zI S q i l) :: st) S Post) : zn G M D kc ks pc ls (vR q (some i) :: st) S Post := zn_get h hd (by rw [zfv_0 hk]; exact k)
theorem zn_getJ (h : zfa M.1.cls idx q l) (hk : zkd q l = 1) (hd : decode M.2.1 pc = .ok (.getfield idx, 3)) (k : zn G M D kc ks (pc + 3) ls (vJ (zJ S q i l) :: st) S Post) : zn G M D kc ks pc ls (vR q (some i) :: st) S Post := zn_get h hd (by rw [zfv_1 hk]; exact k)
theorem zn_getR {t : Nat} (h : zfa M.1.cls idx q l) (hk : zkd q l = t + 2) (hd : decode M.2.1 pc = .ok (.getfield idx, 3)) (k : zn G M D kc ks (pc + 3) ls (vR t (zR S q i l) :: st) S Post) : zn G M D kc ks pc ls (vR q (some i) :: st) S Post := zn_get h hd (by rw [zfv_2 hk]; exact k)
theorem zn_put {v : zV} {t0 : FieldType} (h : zfp M.1.cls M.1.name idx q l t0) (hn : ∀ ph, narrow t0 (zv ph v) = zv ph v ∧ fits t0 (zv ph v) = true) (hN : ∀ a, zN S1 a = zN S a) (hL : ∀ a b, zL S1 a b = zL S a b) (hv : ∀ a b c, zfv S1 a b c = if a = q ∧ b = i ∧ c = l then v else zfv S a b c)
    (hd : decode M.2.1 pc = .ok (.putfield idx, 3)) (k : zn G M D kc ks (pc + 3) ls st S1 Post) : zn G M D kc ks pc ls (v :: vR q (some i) :: st) S Post := by
  intro p e R s m args below meth c H locs cells slots cm sm ph A la X Rm T F
  obtain ⟨hx, hb, hml, hret, hlk, hown, hnm, hts, hK, hA⟩ := id X
  obtain ⟨C, T0, ci, ts, ty, h1, h2, h3, h4, h5, h6, ht, h7⟩ := h
  have hi : i < zN S q := zsh (zs1 F.1) i rfl
  have hzz : ¬ zz S q i := fun z => by
    have := z.1
    simp [zar, h1] at this
  obtain ⟨cell, q1, q2, q3, q4⟩ := zOB (T.1.1 q i hi) h1
  have hap := va_apart (own := M.1.cls) hts h4 ty h5 h6 hK.1 h3
  obtain ⟨hS, hfc, kC, hkC, hkind⟩ := hK.1.1 ci _ h3
  obtain ⟨cf, kf, fi, f, hi2, hsl⟩ := hS l h2
  have hlay := hts _ (h4 _ (u_in_lay h2))
  have hst := (u_facts hfc hkC (u_lays hts h4 h2) hi2).1
  have hd5 : parseFieldDescriptor (T0 l).2.2.1 = some t0 := by rw [h5 l h2, ht]
  have fin : ∀ (H' : Heap) (locs' : List Loc), H'[ph q i]? = some (cell.setSlot f.slot (zv ph v)) → H'.size = H.size → (∀ a, a ≠ ph q i → H'[a]? = H[a]?) → locs' = locs ++ [⟨ph q i, f.slot⟩] → W p G.1 e R s m args below meth c H' locs' cells slots (MQ below (zQc G A ph S Post) args s cm sm A) (F0 m (pc + 3) la (st.map (zv ph))) := by
    intro H' locs' e1 e2 e3 e4
    subst e4
    refine zn_heap hN k X Rm ⟨T.1.set hi hzz hN hL (fun a b c hne => by rw [hv, if_neg (fun z => hne ⟨z.1, z.2.1⟩)]) ?_ e3 ?_, T.2.1.put e2 e3 (T.2.2 q i hi hzz), fun a b hb hz => T.2.2 a b (by rw [← hN]; exact hb) (fun z => hz ⟨z.1, by rw [hL]; exact z.2⟩)⟩ (zs2 F.1) F.2.1 F.2.2
    · unfold zat
      rw [h1]
      refine t_OB.to (V := updV (fun k => zv ph (zfv S q i k)) l (zv ph v)) ⟨_, e1, q2, q3, by rw [hsl]; exact t_set q4 hap h2 _⟩ (fun j _ => ?_)
      rw [hv]
      by_cases hj : j = l
      · simp [updV, hj]
      · simp [updV, hj]
    · intro j
      rw [hv]
      split
      · exact zsh F.1
      · exact T.1.2.2.1 q i j hi
  rcases h7 with ⟨ref, h7, h8, h9⟩ | ⟨h9, host, h7⟩
  · have hsame : s.fieldFound? ref (T0 l).2.1 (T0 l).2.2.1 = some (cf, kf, fi, f) := by
      rcases h8 with h8 | h8
      · rw [h8]; exact hi2
      · exact u_same (hts _ h8) _ hi2
    rcases h9 with h9 | ⟨h9, h10, h11⟩
    · unfold u_lay at hlay
      rw [if_neg (by rw [h9]; decide)] at hlay
      have h6' := u_store hfc hkC hkind hlay hi2 hd5 (hn ph).1 (hn ph).2
      exact W.putK hx hb (f := f) ⟨hown, hts _ h7, ⟨_, _, _, hsame⟩, hst⟩ (by rw [q2]; exact h6') q1 q3 (by rw [hsl]; exact k2_hasslot (q4 l h2)) rfl rfl hd (fun H' e1 e2 e3 => fin H' _ e1 e2 e3 rfl)
    · unfold u_lay at hlay
      rw [if_pos h9] at hlay
      have hcf : m.cls = cf := by
        obtain ⟨_, _, c', _, _, _, -, -, hf', -, -, -, hown2, -⟩ := Cond.laysFinal_spec hlay
        have e1 : c' = cf := by have := hi2.symm.trans hf'; simp at this; exact this.1.symm
        rw [h11] at hown2
        rw [← e1]; exact Option.some.inj (hown.symm.trans hown2)
      have h6' := u_fits hfc hkC hkind (Or.inr hlay) hi2 hd5 (hn ph).1 (hn ph).2
      exact W.putFinK hx hb hown (hts _ h7) hsame hst hcf (hnm.trans h10) (by rw [q2]; exact h6') q1 q3 (by rw [hsl]; exact k2_hasslot (q4 l h2)) rfl rfl hd (fun H' e1 e2 e3 => fin H' _ e1 e2 e3 rfl)
  · unfold u_lay at hlay
    rw [if_neg (by rw [h9]; decide)] at hlay
    have h6' := u_store hfc hkC hkind hlay hi2 hd5 (hn ph).1 (hn ph).2
    exact va_WputK hx hb (f := f) hown (va_Nw.use rfl (hK.2.1 _ h7)) hi2 hst (by rw [q2]; exact h6') q1 q3 (by rw [hsl]; exact k2_hasslot (q4 l h2)) rfl rfl hd (fun H' e1 e2 e3 => fin H' _ e1 e2 e3 rfl)
theorem zn_putI {x : Int32} (h : zfp M.1.cls M.1.name idx q l .int) (hk : zkd q l = 0) (hd : decode M.2.1 pc = .ok (.putfield idx, 3)) (hS : zsI S q i l x = S1) (k : zn G M D kc ks (pc + 3) ls st S1 Post) : zn G M D kc ks pc ls (vI x :: vR q (some i) :: st) S Post := by
  subst hS
  exact zn_put (S1 := zsI S q i l x) h (fun _ => ⟨rfl, rfl⟩) (fun _ => rfl) (fun _ _ => rfl) (zfv_sI hk x) hd k
theorem zn_putZ {x : Int32} (h : zfp M.1.cls M.1.name idx q l .boolean) (hk : zkd q l = 0) (hd : decode M.2.1 pc = .ok (.putfield idx, 3)) (hx : x = 0 ∨ x = 1) (hS : zsI S q i l x = S1) (k : zn G M D kc ks (pc + 3) ls st S1 Post) : zn G M D kc ks pc ls (vI x :: vR q (some i) :: st) S Post := by
  subst hS
  refine zn_put (S1 := zsI S q i l x) h (fun _ => ?_) (fun _ => rfl) (fun _ _ => rfl) (zfv_sI hk x) hd k
  rcases hx with rfl | rfl <;> exact ⟨rfl, rfl⟩
theorem zn_putJ {x : Int64} (h : zfp M.1.cls M.1.name idx q l .long) (hk : zkd q l = 1) (hd : decode M.2.1 pc = .ok (.putfield idx, 3)) (hS : zsJ S q i l x = S1) (k : zn G M D kc ks (pc + 3) ls st S1 Post) : zn G M D kc ks pc ls (vJ x :: vR q (some i) :: st) S Post := by
  subst hS
  exact zn_put (S1 := zsJ S q i l x) h (fun _ => ⟨rfl, rfl⟩) (fun _ => rfl) (fun _ _ => rfl) (zfv_sJ hk x) hd k
theorem zn_putR {t : Nat} {r : Option Nat} {t0 : FieldType} (h : zfp M.1.cls M.1.name idx q l t0) (ht : (∃ n, t0 = .object n) ∨ ∃ t, t0 = .array t) (hk : zkd q l = t + 2) (hd : decode M.2.1 pc = .ok (.putfield idx, 3)) (hS : zsR S q i l r = S1) (k : zn G M D kc ks (pc + 3) ls st S1 Post) : zn G M D kc ks pc ls (vR t r :: vR q (some i) :: st) S Post := by
  subst hS
  refine zn_put (S1 := zsR S q i l r) h (fun ph => ?_) (fun _ => rfl) (fun _ _ => rfl) (zfv_sR hk r) hd k
  rcases ht with ⟨n, rfl⟩ | ⟨n, rfl⟩ <;> cases r <;> exact ⟨rfl, rfl⟩
end ZF
/-! ===== rules: arrays ===== -/
section ZA
variable {G : zG} {M : zM} {D kc ks pc : Nat} {ls : List (Nat × zV)} {st : List zV} {S S1 : zH} {Post : Option zV → zH → Prop} {q i : Nat} {j : Int32}
theorem zn_iaload (hk : zk q = .inr (0, 0)) (hd : decode M.2.1 pc = .ok (.iaload, 1)) (hin : vp_in j (zL S q i)) (k : zn G M D kc ks (pc + 1) ls (vI (zI S q i j.toNatClampNeg) :: st) S Post) : zn G M D kc ks pc ls (vI j :: vR q (some i) :: st) S Post := by
  intro p e R s m args below meth c H locs cells slots cm sm ph A la X Rm T F
  obtain ⟨hx, hb, hml, hret, hlk, hown, hnm, hts, hK, hA⟩ := id X
  have hi : i < zN S q := zsh (zs1 F.1) i rfl
  have hlt : j.toNatClampNeg < zL S q i := Nat.not_le.mp fun z => hin (Or.inr z)
  have hc := zAR (T.1.1 q i hi) hk (by omega)
  have hkd : zkd q j.toNatClampNeg = 0 := by unfold zkd; rw [hk]
  exact W.iald (v := zv ph (zfv S q i j.toNatClampNeg)) hx hb hc ((hK.1.2 0 (G.2.2.1 0, .int) rfl).1 _ _) (fun z => by cases z) (by rw [arrV_size]; exact hin) (arrV_read _ _ hlt) rfl rfl hd (by rw [zfv_0 hkd]; exact k p e R s m args below meth c H locs cells slots cm sm ph A la X Rm T ⟨zsp trivial (zs2 F.1), F.2⟩)
theorem zn_baload (hk : zk q = .inr (2, 0)) (hd : decode M.2.1 pc = .ok (.baload, 1)) (hin : vp_in j (zL S q i)) (k : zn G M D kc ks (pc + 1) ls (vI (zI S q i j.toNatClampNeg) :: st) S Post) : zn G M D kc ks pc ls (vI j :: vR q (some i) :: st) S Post := by
  intro p e R s m args below meth c H locs cells slots cm sm ph A la X Rm T F
  obtain ⟨hx, hb, hml, hret, hlk, hown, hnm, hts, hK, hA⟩ := id X
  have hi : i < zN S q := zsh (zs1 F.1) i rfl
  have hlt : j.toNatClampNeg < zL S q i := Nat.not_le.mp fun z => hin (Or.inr z)
  have hc := zAR (T.1.1 q i hi) hk (by omega)
  have hkd : zkd q j.toNatClampNeg = 0 := by unfold zkd; rw [hk]
  exact W.zald (v := zv ph (zfv S q i j.toNatClampNeg)) hx hb hc ((hK.1.2 2 (G.2.2.1 2, .boolean) rfl).1 _ _) (fun z => by cases z) (by rw [arrV_size]; exact hin) (arrV_read _ _ hlt) rfl rfl hd (by rw [zfv_0 hkd]; exact k p e R s m args below meth c H locs cells slots cm sm ph A la X Rm T ⟨zsp trivial (zs2 F.1), F.2⟩)
theorem zn_laload (hk : zk q = .inr (1, 1)) (hd : decode M.2.1 pc = .ok (.laload, 1)) (hin : vp_in j (zL S q i)) (k : zn G M D kc ks (pc + 1) ls (vJ (zJ S q i j.toNatClampNeg) :: st) S Post) : zn G M D kc ks pc ls (vI j :: vR q (some i) :: st) S Post := by
  intro p e R s m args below meth c H locs cells slots cm sm ph A la X Rm T F
  obtain ⟨hx, hb, hml, hret, hlk, hown, hnm, hts, hK, hA⟩ := id X
  have hi : i < zN S q := zsh (zs1 F.1) i rfl
  have hlt : j.toNatClampNeg < zL S q i := Nat.not_le.mp fun z => hin (Or.inr z)
  have hc := zAR (T.1.1 q i hi) hk (by omega)
  have hkd : zkd q j.toNatClampNeg = 1 := by unfold zkd; rw [hk]
  exact W.lald (v := zv ph (zfv S q i j.toNatClampNeg)) hx hb hc ((hK.1.2 1 (G.2.2.1 1, .long) rfl).1 _ _) (fun z => by cases z) (by rw [arrV_size]; exact hin) (arrV_read _ _ hlt) rfl rfl hd (by rw [zfv_1 hkd]; exact k p e R s m args below meth c H locs cells slots cm sm ph A la X Rm T ⟨zsp trivial (zs2 F.1), F.2⟩)
theorem zn_aaload {C : String} {a t : Nat} (hk : zk q = .inr (a, t + 2)) (hty : zty[a]? = some (.object C)) (hd : decode M.2.1 pc = .ok (.aaload, 1)) (hin : vp_in j (zL S q i)) (k : zn G M D kc ks (pc + 1) ls (vR t (zR S q i j.toNatClampNeg) :: st) S Post) : zn G M D kc ks pc ls (vI j :: vR q (some i) :: st) S Post := by
  intro p e R s m args below meth c H locs cells slots cm sm ph A la X Rm T F
  obtain ⟨hx, hb, hml, hret, hlk, hown, hnm, hts, hK, hA⟩ := id X
  have hi : i < zN S q := zsh (zs1 F.1) i rfl
  have hlt : j.toNatClampNeg < zL S q i := Nat.not_le.mp fun z => hin (Or.inr z)
  have hc := zAR (T.1.1 q i hi) hk (by omega)
  have hkd : zkd q j.toNatClampNeg = t + 2 := by unfold zkd; rw [hk]
  have ht : (zyt G.2.2.1)[a]? = some (G.2.2.1 a, .object C) := by
    match a, hty with
    | 0, h => cases h
    | 1, h => cases h
    | 2, h => cases h
    | 3, h => cases h; rfl
    | 4, h => cases h; rfl
    | n + 5, h => cases h
  have hz := T.1.2.2.1 q i j.toNatClampNeg hi
  exact W.aald (v := zv ph (zfv S q i j.toNatClampNeg)) (ty := .object C) hx hb hc ((hK.1.2 a _ ht).1 _ _) rfl (fun z => by cases z) (by rw [arrV_size]; exact hin) (arrV_read _ _ hlt) rfl rfl hd (by rw [zfv_2 hkd] at hz ⊢; exact k p e R s m args below meth c H locs cells slots cm sm ph A la X Rm T ⟨zsp hz (zs2 F.1), F.2⟩)
theorem zarr_set {G : zG} {A : Nat → Prop} {s : State} {H H' : Heap} {locs : List Loc} {ph : Nat → Nat → Nat} {S S1 : zH} {q i a t l : Nat} {v : zV} (T : zSt G A s H locs ph S) (hk : zk q = .inr (a, t)) (hi : i < zN S q) (hl : l < zL S q i) (hN : ∀ a, zN S1 a = zN S a) (hL : ∀ a b, zL S1 a b = zL S a b) (hv : ∀ a b c, zfv S1 a b c = if a = q ∧ b = i ∧ c = l then v else zfv S a b c) (hzo : zo S v)
    (e1 : H'[ph q i]? = some ((arrV (G.2.2.1 a) (zL S q i) (fun k => zv ph (zfv S q i k))).setSlot l (zv ph v))) (e2 : H'.size = H.size) (e3 : ∀ a, a ≠ ph q i → H'[a]? = H[a]?) : zSt G A s H' (locs ++ [⟨ph q i, l⟩]) ph S1 := by
  have hzz : ¬ zz S q i := fun z => by have := z.2; omega
  refine ⟨T.1.set hi hzz hN hL (fun a b c hne => by rw [hv, if_neg (fun z => hne ⟨z.1, z.2.1⟩)]) ?_ e3 ?_, T.2.1.put e2 e3 (T.2.2 q i hi hzz), fun a b hb hz => T.2.2 a b (by rw [← hN]; exact hb) (fun z => hz ⟨z.1, by rw [hL]; exact z.2⟩)⟩
  · unfold zat
    rw [hk]
    refine Or.inr ?_
    show H'[ph q i]? = _
    rw [e1, arrV_store, hL]
    congr 2
    funext c
    rw [hv]
    by_cases hc : c = l
    · simp [updV, hc]
    · simp [updV, hc]
  · intro c
    rw [hv]
    split
    · exact hzo
    · exact T.1.2.2.1 q i c hi
theorem zn_iastore {x : Int32} (hk : zk q = .inr (0, 0)) (hd : decode M.2.1 pc = .ok (.iastore, 1)) (hin : vp_in j (zL S q i)) (hS : zsI S q i j.toNatClampNeg x = S1) (k : zn G M D kc ks (pc + 1) ls st S1 Post) : zn G M D kc ks pc ls (vI x :: vI j :: vR q (some i) :: st) S Post := by
  intro p e R s m args below meth c H locs cells slots cm sm ph A la X Rm T F
  obtain ⟨hx, hb, hml, hret, hlk, hown, hnm, hts, hK, hA⟩ := id X
  subst hS
  have hi : i < zN S q := zsh (zs2 F.1) i rfl
  have hlt : j.toNatClampNeg < zL S q i := Nat.not_le.mp fun z => hin (Or.inr z)
  have hc := zAR (T.1.1 q i hi) hk (by omega)
  have hkd : zkd q j.toNatClampNeg = 0 := by unfold zkd; rw [hk]
  exact W.iast hx hb hc ((hK.1.2 0 (G.2.2.1 0, .int) rfl).1 _ _) (fun z => by cases z) (by rw [arrV_size]; exact hin) rfl rfl hd fun H' e1 e2 e3 => zn_heap (fun _ => rfl) k X Rm (zarr_set (v := vI x) T hk hi hlt (fun _ => rfl) (fun _ _ => rfl) (zfv_sI hkd x) trivial e1 e2 e3) (zs3 F.1) F.2.1 F.2.2
theorem zn_bastore {x : Int32} (hk : zk q = .inr (2, 0)) (hd : decode M.2.1 pc = .ok (.bastore, 1)) (hin : vp_in j (zL S q i)) (hS : zsI S q i j.toNatClampNeg (x &&& 1) = S1) (k : zn G M D kc ks (pc + 1) ls st S1 Post) : zn G M D kc ks pc ls (vI x :: vI j :: vR q (some i) :: st) S Post := by
  intro p e R s m args below meth c H locs cells slots cm sm ph A la X Rm T F
  obtain ⟨hx, hb, hml, hret, hlk, hown, hnm, hts, hK, hA⟩ := id X
  subst hS
  have hi : i < zN S q := zsh (zs2 F.1) i rfl
  have hlt : j.toNatClampNeg < zL S q i := Nat.not_le.mp fun z => hin (Or.inr z)
  have hc := zAR (T.1.1 q i hi) hk (by omega)
  have hkd : zkd q j.toNatClampNeg = 0 := by unfold zkd; rw [hk]
  exact W.zast hx hb hc ((hK.1.2 2 (G.2.2.1 2, .boolean) rfl).1 _ _) (fun z => by cases z) (by rw [arrV_size]; exact hin) rfl rfl hd fun H' e1 e2 e3 => zn_heap (fun _ => rfl) k X Rm (zarr_set (v := vI (x &&& 1)) T hk hi hlt (fun _ => rfl) (fun _ _ => rfl) (zfv_sI hkd (x &&& 1)) trivial e1 e2 e3) (zs3 F.1) F.2.1 F.2.2
theorem zn_lastore {x : Int64} (hk : zk q = .inr (1, 1)) (hd : decode M.2.1 pc = .ok (.lastore, 1)) (hin : vp_in j (zL S q i)) (hS : zsJ S q i j.toNatClampNeg x = S1) (k : zn G M D kc ks (pc + 1) ls st S1 Post) : zn G M D kc ks pc ls (vJ x :: vI j :: vR q (some i) :: st) S Post := by
  intro p e R s m args below meth c H locs cells slots cm sm ph A la X Rm T F
  obtain ⟨hx, hb, hml, hret, hlk, hown, hnm, hts, hK, hA⟩ := id X
  subst hS
  have hi : i < zN S q := zsh (zs2 F.1) i rfl
  have hlt : j.toNatClampNeg < zL S q i := Nat.not_le.mp fun z => hin (Or.inr z)
  have hc := zAR (T.1.1 q i hi) hk (by omega)
  have hkd : zkd q j.toNatClampNeg = 1 := by unfold zkd; rw [hk]
  exact W.last hx hb hc ((hK.1.2 1 (G.2.2.1 1, .long) rfl).1 _ _) (fun z => by cases z) (by rw [arrV_size]; exact hin) rfl rfl hd fun H' e1 e2 e3 => zn_heap (fun _ => rfl) k X Rm (zarr_set (v := vJ x) T hk hi hlt (fun _ => rfl) (fun _ _ => rfl) (zfv_sJ hkd x) trivial e1 e2 e3) (zs3 F.1) F.2.1 F.2.2
/-- the class of pool t's objects is C -/
def zpc (t : Nat) (C : String) : Prop := ∃ (T : u_T) (ci : Nat) (ts : List Nat), zk t = .inl (ci, ts) ∧ zcl[ci]? = some (C, T, ts.length)
theorem zrecv {G : zG} {A : Nat → Prop} {s : State} {ph : Nat → Nat → Nat} {S : zH} {H : Heap} (hK : zKs G A s) (hW : zW G ph S H) {t j : Nat} (hj : j < zN S t) {C : String} (hC : zpc t C) : ∃ cell : Cell, H[ph t j]? = some cell ∧ cell.vm.isStatics = false ∧ s.vm.findClass C = some cell.cls ∧ cell.vm = .none := by
  obtain ⟨T0, ci, ts, h1, h2⟩ := hC
  obtain ⟨cell, q1, q2, q3, -⟩ := zOB (hW.1 t j hj) h1
  exact ⟨cell, q1, by rw [q3]; rfl, by rw [q2]; exact (hK.1.1 ci _ h2).2.1, q3⟩
/-- a reference is stored into a row whose component class is just that of the pool's objects -/
theorem zn_aastore {C : String} {a t b : Nat} (hk : zk q = .inr (a, t + 2)) (hty : zty[a]? = some (.object C)) (hC : zpc t C) (hd : decode M.2.1 pc = .ok (.aastore, 1)) (hin : vp_in j (zL S q i)) (hS : zsR S q i j.toNatClampNeg (some b) = S1) (k : zn G M D kc ks (pc + 1) ls st S1 Post) : zn G M D kc ks pc ls (vR t (some b) :: vI j :: vR q (some i) :: st) S Post := by
  intro p e R s m args below meth c H locs cells slots cm sm ph A la X Rm T F
  obtain ⟨hx, hb, hml, hret, hlk, hown, hnm, hts, hK, hA⟩ := id X
  subst hS
  have hi : i < zN S q := zsh (zs2 F.1) i rfl
  have hbn : b < zN S t := zsh F.1 b rfl
  have hlt : j.toNatClampNeg < zL S q i := Nat.not_le.mp fun z => hin (Or.inr z)
  have hc := zAR (T.1.1 q i hi) hk (by omega)
  have h0 : ¬ j < 0 := fun z => hin (Or.inl z)
  have hkd : zkd q j.toNatClampNeg = t + 2 := by unfold zkd; rw [hk]
  have ht : (zyt G.2.2.1)[a]? = some (G.2.2.1 a, .object C) := by
    match a, hty with
    | 0, h => cases h
    | 1, h => cases h
    | 2, h => cases h
    | 3, h => cases h; rfl
    | 4, h => cases h; rfl
    | n + 5, h => cases h
  obtain ⟨T0, ci, ts, h1, h2⟩ := id hC
  obtain ⟨cellV, g1, g2, g3, g4⟩ := zrecv hK T.1 hbn hC
  have hcls := (hK.1.1 ci _ h2).2
  obtain ⟨kA, comp, k1, k2, k3, -⟩ := (hK.1.2 a _ ht).2
  have hcomp : comp = G.2.1.1 ci := Option.some.inj (k3.symm.trans hcls.1)
  have hvc : cellV.cls = G.2.1.1 ci := Option.some.inj (g3.symm.trans hcls.1)
  subst hcomp
  obtain ⟨kC, hkC, -⟩ := hcls.2
  exact W.aast hx hb hc (fun z h => by cases h) (fun h => by cases h) k1 k2 rfl hkC ⟨h0, by rw [arrV_size]; exact hlt⟩ g1 (fun z h => by rw [g4] at h; cases h) (by rw [hvc]; exact hkC) (by rw [hvc]; exact va_assign hcls) rfl rfl hd fun H' e1 e2 e3 => zn_heap (fun _ => rfl) k X Rm (zarr_set (v := vR t (some b)) T hk hi hlt (fun _ => rfl) (fun _ _ => rfl) (zfv_sR hkd (some b)) (zsh F.1) e1 e2 e3) (zs3 F.1) F.2.1 F.2.2
theorem zn_alen {a t : Nat} {ty : FieldType} (hk : zk q = .inr (a, t)) (hty : zty[a]? = some ty) (hd : decode M.2.1 pc = .ok (.arraylength, 1)) (k : zn G M D kc ks (pc + 1) ls (vI (Int32.ofNat (zL S q i)) :: st) S Post) : zn G M D kc ks pc ls (vR q (some i) :: st) S Post := by
  intro p e R s m args below meth c H locs cells slots cm sm ph A la X Rm T F
  obtain ⟨hx, hb, hml, hret, hlk, hown, hnm, hts, hK, hA⟩ := id X
  have hi : i < zN S q := zsh F.1 i rfl
  have ht : (zyt G.2.2.1)[a]? = some (G.2.2.1 a, ty) := by
    match a, hty with
    | 0, h => cases h; rfl
    | 1, h => cases h; rfl
    | 2, h => cases h; rfl
    | 3, h => cases h; rfl
    | 4, h => cases h; rfl
    | n + 5, h => cases h
  have kk := k p e R s m args below meth c H locs cells slots cm sm ph A la X Rm T ⟨zsp trivial (zs1 F.1), F.2⟩
  have hz := T.1.1 q i hi
  unfold zat at hz
  rw [hk] at hz
  rcases hz with ⟨h0, cell, c1, c2, c3, c4, c5⟩ | hc
  · obtain ⟨-, kA, e1, comp, e2⟩ := (hK.1.2 a _ ht).1 0 (fun _ => .null)
    exact W.alen (n := Int32.ofNat (zL S q i)) (ty := ty) hx hb c1 ⟨fun k h => (by rw [h] at c5; cases c5), kA, (by rw [c2]; exact e1), comp, e2⟩ (by rw [c3, h0] <;> rfl) rfl rfl hd kk
  · exact W.alen (n := Int32.ofNat (zL S q i)) (ty := ty) hx hb hc ((hK.1.2 a _ ht).1 _ _) (by rw [arrV_size] <;> rfl) rfl rfl hd kk
theorem zn_cast {r : Option Nat} {idx : Nat} {C : String} (hw : Cond.classLink M.1.cls idx C ∈ ztb) (hC : zpc q C) (hd : decode M.2.1 pc = .ok (.checkcast idx, 3)) (k : zn G M D kc ks (pc + 3) ls (vR q r :: st) S Post) : zn G M D kc ks pc ls (vR q r :: st) S Post := by
  intro p e R s m args below meth c H locs cells slots cm sm ph A la X Rm T F
  obtain ⟨hx, hb, hml, hret, hlk, hown, hnm, hts, hK, hA⟩ := id X
  have kk := k p e R s m args below meth c H locs cells slots cm sm ph A la X Rm T F
  cases r with
  | none => exact lv_castN hx hb hd kk
  | some a =>
    obtain ⟨cell, g1, g2, g3, -⟩ := zrecv hK T.1 (zsh F.1 a rfl) hC
    exact va_castE hx hb hown (hts _ hw) ⟨cell, g1, g2, g3⟩ hd kk
end ZA
/-! ===== rules: new cells ===== -/
section ZNW
variable {G : zG} {M : zM} {D kc ks pc : Nat} {ls : List (Nat × zV)} {st : List zV} {S S1 : zH} {Post : Option zV → zH → Prop}
theorem zno14 {S : zH} {q : Nat} (h : (∃ x, zk q = .inl x) ∨ ∃ a t, zk q = .inr (a, t) ∧ a ≠ 4) : 14 ≤ q → q ≤ 17 → 0 < zN S q := by
  intro h1 h2
  have h3 : q = 14 ∨ q = 15 ∨ q = 16 ∨ q = 17 := by omega
  rcases h with ⟨x, h⟩ | ⟨a, t, h, h4⟩
  · rcases h3 with rfl | rfl | rfl | rfl <;> cases h
  · rcases h3 with rfl | rfl | rfl | rfl <;> (cases h; exact absurd rfl h4)
theorem zn_grow {q n : Nat} (k : zn G M D kc ks pc ls (vR q (some (zN S q)) :: st) (znw S q n) Post)
    {p : Program} {e : Env} {R : Room} {s : State} {m : MethodId} {args : Array Value} {below : List Frame} {meth : Method} {c : Code} {H H1 : Heap} {locs : List Loc} {cells slots cm sm : Nat} {ph : Nat → Nat → Nat} {A : Nat → Prop} {la : Array Slot}
    (X : zCx G M A p s m args meth c) (Rm : zRm R D kc ks cells slots cm sm) (T : zSt G A s H locs ph S) (F : zFr S ph M.2.2.1 ls st la) (hq4 : 14 ≤ q → q ≤ 17 → 0 < zN S q) (hat : ∀ ph', ph' q (zN S q) = H.size → zat G ph' (znw S q n) q (zN S q) H1) (z1 : H1.size = H.size + 1) (o1 : ∀ a, a < H.size → H1[a]? = H[a]?) :
    W p G.1 e R s m args below meth c H1 locs cells slots (MQ below (zQc G A ph S Post) args s cm sm A) (F0 m pc la (.ref H.size :: st.map (zv ph))) := by
  let ph' : Nat → Nat → Nat := fun a b => if a = q ∧ b = zN S q then H.size else ph a b
  have hp1 : ph' q (zN S q) = H.size := if_pos ⟨rfl, rfl⟩
  have hp : ∀ a b, b < zN S a → ph' a b = ph a b := fun a b hb => if_neg (fun z => by obtain ⟨rfl, rfl⟩ := z; omega)
  have hm : ∀ a, zN S a ≤ zN (znw S q n) a := fun a => by
    rw [zN_nw]
    split
    · next z => rw [z]; omega
    · exact Nat.le_refl _
  have hA := X.2.2.2.2.2.2.2.2.2
  have hfv : ∀ c, zo S (zfv (znw S q n) q (zN S q) c) := by
    intro c
    unfold zfv
    split
    · trivial
    · trivial
    · rw [zR_nw, if_pos ⟨rfl, rfl⟩]
      exact fun i h => (nomatch h)
  have hW' : zW G ph' (znw S q n) H1 := T.1.new hp hp1 (hat ph' hp1) o1 hfv hq4
  have hcv : zcv A ph' (znw S q n) := by
    intro a b hb hz
    rw [zN_nw] at hb
    by_cases hab : a = q ∧ b = zN S q
    · obtain ⟨rfl, rfl⟩ := hab
      rw [hp1]
      exact hA _ T.2.1.1
    · have hb' : b < zN S a := by
        split at hb
        · next z =>
          subst z
          have : b ≠ zN S a := fun z => hab ⟨rfl, z⟩
          omega
        · exact hb
      rw [hp a b hb']
      refine T.2.2 a b hb' (fun z => hz ⟨z.1, ?_⟩)
      rw [zL_nw, if_neg hab]
      exact z.2
  have hS' : va_S A s.heap H1 locs := ⟨Nat.le_trans T.2.1.1 (by omega), fun a h1 h2 => (o1 a (Nat.lt_of_lt_of_le h1 T.2.1.1)).trans (T.2.1.2.1 a h1 h2), T.2.1.2.2⟩
  have hst : (st.map (zv ph')) = st.map (zv ph) := List.map_congr_left fun v hv => zv.move (F.1 v hv) hp
  have hls : (ls.map fun q => (q.1, zv ph' q.2)) = ls.map fun q => (q.1, zv ph q.2) := List.map_congr_left fun v hv => by rw [zv.move (F.2.1 v hv) hp]
  have kk := k p e R s m args below meth c H1 locs cells slots cm sm ph' A la X Rm ⟨hW', hS', hcv⟩ ⟨zsp (fun i h => by cases h; show zN S q < zN (znw S q n) q; rw [zN_nw, if_pos rfl]; omega) (fun v hv => (F.1 v hv).mono hm), fun v hv => (F.2.1 v hv).mono hm, by rw [hls]; exact F.2.2⟩
  rw [List.map_cons, hst, show zv ph' (vR q (some (zN S q))) = .ref H.size from by show Value.ref (ph' q (zN S q)) = _; rw [hp1]] at kk
  exact zW_mono (zMQ_mono fun o t h => zQc_le (S := S) (ph := ph) ⟨hm, hp⟩ h) kk
/-- pool q holds objects of C, of N slots -/
def znk (own : String) (idx q N : Nat) : Prop := ∃ (C : String) (T : u_T) (ci : Nat) (ts : List Nat) (ty : Nat → FieldType), zk q = .inl (ci, ts) ∧ ts.length = N ∧ zcl[ci]? = some (C, T, N) ∧ (∀ w ∈ u_ws C T N, w ∈ ztb) ∧ (∀ k, k < N → parseFieldDescriptor (T k).2.2.1 = some (ty k)) ∧ (∀ k, k < N → defaultValue (ty k) = match ts.getD k 0 with | 0 => .int 0 | 1 => .long 0 | _ => .null) ∧ Cond.classLink own idx C ∈ ztb ∧ Cond.instantiable C N ∈ ztb ∧ Cond.initialized C ∈ ztb
theorem zn_new {q N idx : Nat} (h : znk M.1.cls idx q N) (hd : decode M.2.1 pc = .ok (.new idx, 3)) (hS : znw S q 0 = S1) (k : zn G M D kc ks (pc + 3) ls (vR q (some (zN S q)) :: st) S1 Post) : zn G M D (kc + 1) (ks + N) pc ls st S Post := by
  intro p e R s m args below meth c H locs cells slots cm sm ph A la X Rm T F
  obtain ⟨hx, hb, hml, hret, hlk, hown, hnm, hts, hK, hA⟩ := id X
  subst hS
  obtain ⟨C, T0, ci, ts, ty, h1, h2, h3, h4, h5, h6, h7, h8, h9⟩ := h
  have hKn := hK.1.1 ci _ h3
  obtain ⟨r1, r2, r3, r4, r5, r6⟩ := Rm
  refine W.newcK hx hb hown (hts _ h7) (hts _ h8) (hts _ h9) rfl hd (by omega) (by omega) hKn.2.1 rfl fun H1 kC hkC e1 z1 o1 => ?_
  refine zn_grow k X ⟨r1, r2, by omega, by omega, r5, r6⟩ T F (zno14 (Or.inl ⟨_, h1⟩)) (fun ph' hp => ?_) z1 o1
  unfold zat
  rw [h1]
  show t_OB (ph' q (zN S q)) _ _ _ _ _
  rw [hp]
  subst h2
  refine (u_born ty hts h4 hKn hkC e1 h5).to fun j hj => ?_
  rw [h6 j hj]
  have hkd : zkd q j = ts.getD j 0 := by unfold zkd; rw [h1]
  unfold zfv
  rw [hkd]
  cases hz : ts.getD j 0 with
  | zero => simp only [zI_nw, and_self, if_true]; rfl
  | succ n =>
    cases n with
    | zero => simp only [zJ_nw, and_self, if_true]; rfl
    | succ n => simp only [zR_nw, and_self, if_true]; rfl
theorem zn_newI {q n : Nat} {x : Int32} (hk : zk q = .inr (0, 0)) (hw : Cond.arrayClass .int ∈ ztb) (hd : decode M.2.1 pc = .ok (.newarray .int, 2)) (hx0 : ¬ x < 0) (hn : x.toNatClampNeg = n) (hn2 : n ≤ 100000) (hS : znw S q n = S1) {ks0 : Nat} (hks : n ≤ ks0) (k : zn G M D kc ks (pc + 2) ls (vR q (some (zN S q)) :: st) S1 Post) : zn G M D (kc + 1) (ks + ks0) pc ls (vI x :: st) S Post := by
  intro p e R s m args below meth c H locs cells slots cm sm ph A la X Rm T F
  obtain ⟨hx, hb, hml, hret, hlk, hown, hnm, hts, hK, hA⟩ := id X
  subst hS
  obtain ⟨r1, r2, r3, r4, r5, r6⟩ := Rm
  refine va_newaK (atype := .int) hx hb (hts _ hw) rfl hd rfl hx0 hn (by show n * _ ≤ _; simp only [newarray.typeOf, componentBytes]; omega) (by omega) (by omega) rfl fun H1 cA e1 z1 o1 _ hfn => ?_
  refine zn_grow k X ⟨r1, r2, by omega, by omega, r5, r6⟩ T ⟨zs1 F.1, F.2⟩ (zno14 (Or.inr ⟨_, _, hk, by decide⟩)) (fun ph' hp => ?_) z1 o1
  have hcy : cA = G.2.2.1 0 := Option.some.inj (hfn.symm.trans (hK.1.2 0 (G.2.2.1 0, .int) rfl).2)
  unfold zat
  rw [hk]
  refine Or.inr ?_
  show H1[ph' q (zN S q)]? = _
  rw [hp, e1, hcy, zL_nw, if_pos ⟨rfl, rfl⟩]
  congr 2
  funext j
  have hkd : zkd q j = 0 := by unfold zkd; rw [hk]
  rw [zfv_0 hkd, zI_nw, if_pos ⟨rfl, rfl⟩]
  rfl
theorem zn_newJ {q n : Nat} {x : Int32} (hk : zk q = .inr (1, 1)) (hw : Cond.arrayClass .long ∈ ztb) (hd : decode M.2.1 pc = .ok (.newarray .long, 2)) (hx0 : ¬ x < 0) (hn : x.toNatClampNeg = n) (hn2 : n ≤ 100000) (hS : znw S q n = S1) {ks0 : Nat} (hks : n ≤ ks0) (k : zn G M D kc ks (pc + 2) ls (vR q (some (zN S q)) :: st) S1 Post) : zn G M D (kc + 1) (ks + ks0) pc ls (vI x :: st) S Post := by
  intro p e R s m args below meth c H locs cells slots cm sm ph A la X Rm T F
  obtain ⟨hx, hb, hml, hret, hlk, hown, hnm, hts, hK, hA⟩ := id X
  subst hS
  obtain ⟨r1, r2, r3, r4, r5, r6⟩ := Rm
  refine va_newaK (atype := .long) hx hb (hts _ hw) rfl hd rfl hx0 hn (by show n * _ ≤ _; simp only [newarray.typeOf, componentBytes]; omega) (by omega) (by omega) rfl fun H1 cA e1 z1 o1 _ hfn => ?_
  refine zn_grow k X ⟨r1, r2, by omega, by omega, r5, r6⟩ T ⟨zs1 F.1, F.2⟩ (zno14 (Or.inr ⟨_, _, hk, by decide⟩)) (fun ph' hp => ?_) z1 o1
  have hcy : cA = G.2.2.1 1 := Option.some.inj (hfn.symm.trans (hK.1.2 1 (G.2.2.1 1, .long) rfl).2)
  unfold zat
  rw [hk]
  refine Or.inr ?_
  show H1[ph' q (zN S q)]? = _
  rw [hp, e1, hcy, zL_nw, if_pos ⟨rfl, rfl⟩]
  congr 2
  funext j
  have hkd : zkd q j = 1 := by unfold zkd; rw [hk]
  rw [zfv_1 hkd, zJ_nw, if_pos ⟨rfl, rfl⟩]
  rfl
theorem zn_newZ {q n : Nat} {x : Int32} (hk : zk q = .inr (2, 0)) (hw : Cond.arrayClass .boolean ∈ ztb) (hd : decode M.2.1 pc = .ok (.newarray .boolean, 2)) (hx0 : ¬ x < 0) (hn : x.toNatClampNeg = n) (hn2 : n ≤ 100000) (hS : znw S q n = S1) {ks0 : Nat} (hks : n ≤ ks0) (k : zn G M D kc ks (pc + 2) ls (vR q (some (zN S q)) :: st) S1 Post) : zn G M D (kc + 1) (ks + ks0) pc ls (vI x :: st) S Post := by
  intro p e R s m args below meth c H locs cells slots cm sm ph A la X Rm T F
  obtain ⟨hx, hb, hml, hret, hlk, hown, hnm, hts, hK, hA⟩ := id X
  subst hS
  obtain ⟨r1, r2, r3, r4, r5, r6⟩ := Rm
  refine va_newaK (atype := .boolean) hx hb (hts _ hw) rfl hd rfl hx0 hn (by show n * _ ≤ _; simp only [newarray.typeOf, componentBytes]; omega) (by omega) (by omega) rfl fun H1 cA e1 z1 o1 _ hfn => ?_
  refine zn_grow k X ⟨r1, r2, by omega, by omega, r5, r6⟩ T ⟨zs1 F.1, F.2⟩ (zno14 (Or.inr ⟨_, _, hk, by decide⟩)) (fun ph' hp => ?_) z1 o1
  have hcy : cA = G.2.2.1 2 := Option.some.inj (hfn.symm.trans (hK.1.2 2 (G.2.2.1 2, .boolean) rfl).2)
  unfold zat
  rw [hk]
  refine Or.inr ?_
  show H1[ph' q (zN S q)]? = _
  rw [hp, e1, hcy, zL_nw, if_pos ⟨rfl, rfl⟩]
  congr 2
  funext j
  have hkd : zkd q j = 0 := by unfold zkd; rw [hk]
  rw [zfv_0 hkd, zI_nw, if_pos ⟨rfl, rfl⟩]
  rfl
theorem zn_newA {q n t a idx : Nat} {C : String} {x : Int32} (hk : zk q = .inr (a, t + 2)) (ha4 : a ≠ 4) (hty : zty[a]? = some (.object C)) (hC : C = "SwitchSeven$Bank" ∨ C = "java/lang/Object") (hw : Cond.classLink M.1.cls idx C ∈ ztb) (hd : decode M.2.1 pc = .ok (.anewarray idx, 3)) (hx0 : ¬ x < 0) (hn : x.toNatClampNeg = n) (hn2 : n ≤ 100000) (hS : znw S q n = S1) {ks0 : Nat} (hks : n ≤ ks0) (k : zn G M D kc ks (pc + 3) ls (vR q (some (zN S q)) :: st) S1 Post) : zn G M D (kc + 1) (ks + ks0) pc ls (vI x :: st) S Post := by
  intro p e R s m args below meth c H locs cells slots cm sm ph A la X Rm T F
  obtain ⟨hx, hb, hml, hret, hlk, hown, hnm, hts, hK, hA⟩ := id X
  subst hS hn
  obtain ⟨r1, r2, r3, r4, r5, r6⟩ := Rm
  have ht : (zyt G.2.2.1)[a]? = some (G.2.2.1 a, .object C) := by
    match a, hty with
    | 0, h => cases h
    | 1, h => cases h
    | 2, h => cases h
    | 3, h => cases h; rfl
    | 4, h => cases h; rfl
    | n + 5, h => cases h
  have hao : va_AO C s := by
    rcases hC with rfl | rfl
    · exact hK.2.2.1
    · exact hK.2.2.2.1
  refine W.anew hx hb hown (hts _ hw) (va_AO.use hao) rfl hd rfl hx0 (by omega) (by omega) (by omega) fun cA kA comp f1 f2 f3 f4 => ?_
  generalize hH1 : H.push ({ cls := cA, slots := Array.replicate x.toNatClampNeg .null, vm := .none } : Cell) = H1
  have z1 : H1.size = H.size + 1 := by rw [← hH1, Array.size_push]
  have e1 : H1[H.size]? = some (arrV cA x.toNatClampNeg (fun _ => .null)) := by rw [← hH1, Array.getElem?_push_size, ← arrV_new]
  have o1 : ∀ q : Nat, q < H.size → H1[q]? = H[q]? := fun q hq => by rw [← hH1, Array.getElem?_push, if_neg (Nat.ne_of_lt hq)]
  refine W.widen (k := cells + 1) (n := slots + x.toNatClampNeg) (Nat.le_refl _) (Nat.le_refl _) ?_
  refine zn_grow k X ⟨r1, r2, by omega, by omega, r5, r6⟩ T ⟨zs1 F.1, F.2⟩ (zno14 (Or.inr ⟨_, _, hk, ha4⟩)) (fun ph' hp => ?_) z1 o1
  obtain ⟨kA', comp', k1, k2, k3, k4⟩ := (hK.1.2 a _ ht).2
  have hcy : cA = G.2.2.1 a := Option.some.inj (f1.symm.trans k4)
  unfold zat
  rw [hk]
  refine Or.inr ?_
  show H1[ph' q (zN S q)]? = _
  rw [hp, e1, hcy, zL_nw, if_pos ⟨rfl, rfl⟩]
  congr 2
  funext j
  have hkd : zkd q j = t + 2 := by unfold zkd; rw [hk]
  rw [zfv_2 hkd, zR_nw, if_pos ⟨rfl, rfl⟩]
  rfl
end ZNW
