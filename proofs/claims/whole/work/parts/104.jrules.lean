/-! ===== the JDK's pieces, as functions ===== -/
def zl_size (p i : Nat) (S : zH) : Option Int32 := some (zI S p i 2)
def zl_get (p i : Nat) (x : Int32) (S : zH) : Option (Option Nat) :=
  Option.bind (zR S p i 1) (fun a => zgd (!(decide (x < 0)) && decide (x < zI S p i 2) && zib x (zL S (p + 4) a)) (some (zR S (p + 4) a x.toNatClampNeg)))
def zl_init (p i : Nat) (S : zH) : Option zH := zgd (decide (0 < zN S (p + 4))) (some (zsR (zsI S p i 0 0) p i 1 (some 0)))
/-- the first n references of row a go to row b -/
def zcpR (S : zH) (p a b n : Nat) : zH := (S.1, S.2.1, S.2.2.1, S.2.2.2.1, fun q j l => if q = p ∧ j = b ∧ l < n then S.2.2.2.2 p a l else S.2.2.2.2 q j l)
/-- the first n ints of row a of pool p go to row b of pool p' -/
def zcpI (S : zH) (p a p' b n : Nat) : zH := (S.1, S.2.1, fun q j l => if q = p' ∧ j = b ∧ l < n then S.2.2.1 p a l else S.2.2.1 q j l, S.2.2.2.1, S.2.2.2.2)
def zl_grow (L : Nat) : Nat := if L = 0 then 10 else L + L / 2
def zl_add (p i : Nat) (v : Option Nat) (S : zH) : Option zH :=
  Option.bind v (fun w => Option.bind (zR S p i 1) (fun a =>
    zlt (zsI S p i 0 (zI S p i 0 + 1)) (fun S1 =>
    if zI S p i 2 = Int32.ofNat (zL S (p + 4) a) then
      zgd (decide (zL S (p + 4) a ≤ 50 ∧ ¬ zL S (p + 4) a = 1 ∧ (a = 0 ↔ zL S (p + 4) a = 0) ∧ 0 < zN S (p + 4))) (
      zlt (zcpR (znw S1 (p + 4) (zl_grow (zL S (p + 4) a))) (p + 4) a (zN S (p + 4)) (zL S (p + 4) a)) (fun S2 =>
      zlt (zsR S2 p i 1 (some (zN S (p + 4)))) (fun S3 =>
      zlt (zsR S3 (p + 4) (zN S (p + 4)) (zL S (p + 4) a) (some w)) (fun S4 =>
      some (zsI S4 p i 2 (zI S p i 2 + 1))))))
    else zgd (zib (zI S p i 2) (zL S (p + 4) a)) (
      zlt (zsR S1 (p + 4) a (zI S p i 2).toNatClampNeg (some w)) (fun S2 => some (zsI S2 p i 2 (zI S p i 2 + 1)))))))
def za_copy (r : Option Nat) (x : Int32) (S : zH) : Option (Nat × zH) :=
  Option.bind r (fun a => zgd (zib x (zL S 29 a) && decide (zL S 29 a ≤ 60) && decide (0 < x)) (some (zN S 25, zcpI (znw S 25 x.toNatClampNeg) 29 a 25 (zN S 25) x.toNatClampNeg)))
def zix (c : Int32) : Int32 := if c = 98 then 0 else if c = 116 then 1 else if c = 115 then 2 else if c = 111 then 3 else if c = 106 then 4 else if c = 108 then 5 else if c = 110 then 6 else if c = 102 then 7 else if c = 119 then 8 else if c = 100 then 9 else -1
def zlet (x : Int32) : Int32 := zix (UInt32.toInt32 (Int32.toUInt32 x % 65536))

/-! ===== the JDK's pieces: rules ===== -/
section ZJR
variable {G : zG} {M : zM} {D kc ks pc : Nat} {ls : List (Nat × zV)} {st : List zV} {S S1 : zH} {Post : Option zV → zH → Prop}
/-- ArrayList's empty row -/
theorem zn_empty {p : Nat} (hp : 10 ≤ p ∧ p ≤ 13) (h0 : 0 < zN S (p + 4)) (hM : M.1.cls = RJx4a65c) (hd : decode M.2.1 pc = .ok (.getstatic 39, 3)) (k : zn G M D kc ks (pc + 3) ls (vR (p + 4) (some 0) :: st) S Post) : zn G M D kc ks pc ls st S Post := by
  intro p0 e R s m args below meth c H locs cells slots cm sm ph A la X Rm T F
  obtain ⟨hx, hb, hml, hret, hlk, hown, hnm, hts, hK, hA⟩ := id X
  have hw : ph (p + 4) 0 = G.2.2.2 0 := (T.1.2.2.2 (p + 4) (by omega) (by omega) h0).1
  have kk := k p0 e R s m args below meth c H locs cells slots cm sm ph A la X Rm T ⟨zsp (fun i h => by cases h; exact h0) F.1, F.2⟩
  have hl := hts _ jw39
  rw [← hM] at hl
  refine va_gets (C := "java/util/ArrayList") hx hb (hK.2.2.2.2.1) T.2.1 hown hl (fun _ h => h) hd ?_
  have hv : zv ph (vR (p + 4) (some 0)) = .ref (G.2.2.2 0) := by show Value.ref (ph (p + 4) 0) = _; rw [hw]
  rw [List.map_cons, hv] at kk
  exact kk
/-- the same reference twice -/
theorem zn_acmp_same {q : Nat} {r : Option Nat} {off : Int} {tgt : Nat} (hd : decode M.2.1 pc = .ok (.if_acmp .eq off, 3)) (ht : (pc : Int) + off = (tgt : Int)) (k : zn G M D kc ks tgt ls st S Post) : zn G M D kc ks pc ls (vR q r :: vR q r :: st) S Post := by
  intro p e R s m args below meth c H locs cells slots cm sm ph A la X Rm T F
  exact lv_acmp_eq X.1 X.2.1 hd ht (fun _ => k p e R s m args below meth c H locs cells slots cm sm ph A la X Rm T ⟨zs2 F.1, F.2⟩) (fun z => absurd rfl z)
theorem zn_dupx1 {v w : zV} (hd : decode M.2.1 pc = .ok (.dup_x1, 1)) (hv : zcat v = 1) (hw : zcat w = 1) (k : zn G M D kc ks (pc + 1) ls (v :: w :: v :: st) S Post) : zn G M D kc ks pc ls (v :: w :: st) S Post := by
  intro p e R s m args below meth c H locs cells slots cm sm ph A la X Rm T F
  exact lv_dup_x1 X.1 X.2.1 hd (by rw [zv_cat]; exact hv) (by rw [zv_cat]; exact hw) (k p e R s m args below meth c H locs cells slots cm sm ph A la X Rm T ⟨zsp (zsh F.1) (zsp (zsh (zs1 F.1)) (zsp (zsh F.1) (zs2 F.1))), F.2⟩)
/-- a row for a list -/
theorem zn_newO {q n t idx : Nat} {x : Int32} (hk : zk q = .inr (4, t + 2)) (h0 : 0 < zN S q) (hw : Cond.classLink M.1.cls idx "java/lang/Object" ∈ ztb) (hd : decode M.2.1 pc = .ok (.anewarray idx, 3)) (hx0 : ¬ x < 0) (hn : x.toNatClampNeg = n) (hn2 : n ≤ 100000) (hS : znw S q n = S1) {ks0 : Nat} (hks : n ≤ ks0) (k : zn G M D kc ks (pc + 3) ls (vR q (some (zN S q)) :: st) S1 Post) : zn G M D (kc + 1) (ks + ks0) pc ls (vI x :: st) S Post := by
  intro p e R s m args below meth c H locs cells slots cm sm ph A la X Rm T F
  obtain ⟨hx, hb, hml, hret, hlk, hown, hnm, hts, hK, hA⟩ := id X
  subst hS hn
  obtain ⟨r1, r2, r3, r4, r5, r6⟩ := Rm
  have ht : (zyt G.2.2.1)[4]? = some (G.2.2.1 4, .object "java/lang/Object") := rfl
  refine W.anew hx hb hown (hts _ hw) (va_AO.use hK.2.2.2.1) rfl hd rfl hx0 (by omega) (by omega) (by omega) fun cA kA comp f1 f2 f3 f4 => ?_
  generalize hH1 : H.push ({ cls := cA, slots := Array.replicate x.toNatClampNeg .null, vm := .none } : Cell) = H1
  have z1 : H1.size = H.size + 1 := by rw [← hH1, Array.size_push]
  have e1 : H1[H.size]? = some (arrV cA x.toNatClampNeg (fun _ => .null)) := by rw [← hH1, Array.getElem?_push_size, ← arrV_new]
  have o1 : ∀ q : Nat, q < H.size → H1[q]? = H[q]? := fun q hq => by rw [← hH1, Array.getElem?_push, if_neg (Nat.ne_of_lt hq)]
  refine W.widen (k := cells + 1) (n := slots + x.toNatClampNeg) (Nat.le_refl _) (Nat.le_refl _) ?_
  refine zn_grow k X ⟨r1, r2, by omega, by omega, r5, r6⟩ T ⟨zs1 F.1, F.2⟩ (fun _ _ => h0) (fun ph' hp => ?_) z1 o1
  obtain ⟨kA', comp', k1, k2, k3, k4⟩ := (hK.1.2 4 _ ht).2
  have hcy : cA = G.2.2.1 4 := Option.some.inj (f1.symm.trans k4)
  unfold zat
  rw [hk]
  refine Or.inr ?_
  show H1[ph' q (zN S q)]? = _
  rw [hp, e1, hcy, zL_nw, if_pos ⟨rfl, rfl⟩]
  congr 2
  funext j
  have hkd : zkd q j = t + 2 := by unfold zkd; rw [hk]
  rw [zfv_2 hkd, zR_nw, if_pos ⟨rfl, rfl⟩]
  rfl
/-- a reference is stored into a list's row -/
theorem zn_aastO {C : String} {q i t b : Nat} {j : Int32} (hk : zk q = .inr (4, t + 2)) (hC : zpc t C) (hca : Cond.castable C "java/lang/Object" ∈ ztn) (hd : decode M.2.1 pc = .ok (.aastore, 1)) (hin : vp_in j (zL S q i)) (hS : zsR S q i j.toNatClampNeg (some b) = S1) (k : zn G M D kc ks (pc + 1) ls st S1 Post) : zn G M D kc ks pc ls (vR t (some b) :: vI j :: vR q (some i) :: st) S Post := by
  intro p e R s m args below meth c H locs cells slots cm sm ph A la X Rm T F
  obtain ⟨hx, hb, hml, hret, hlk, hown, hnm, hts, hK, hA⟩ := id X
  subst hS
  have hi : i < zN S q := zsh (zs2 F.1) i rfl
  have hbn : b < zN S t := zsh F.1 b rfl
  have hlt : j.toNatClampNeg < zL S q i := Nat.not_le.mp fun z => hin (Or.inr z)
  have hc := zAR (T.1.1 q i hi) hk (by omega)
  have h0 : ¬ j < 0 := fun z => hin (Or.inl z)
  have hkd : zkd q j.toNatClampNeg = t + 2 := by unfold zkd; rw [hk]
  have ht : (zyt G.2.2.1)[4]? = some (G.2.2.1 4, .object "java/lang/Object") := rfl
  obtain ⟨T0, ci, ts, h1, h2⟩ := id hC
  obtain ⟨cellV, g1, g2, g3, g4⟩ := zrecv hK T.1 hbn hC
  have hcls := (hK.1.1 ci _ h2).2
  obtain ⟨kA, comp, k1, k2, k3, -⟩ := (hK.1.2 4 _ ht).2
  obtain ⟨kE, hkE, -⟩ := Vm.findClass_spec k3
  obtain ⟨c0, t1, f1, f2, f3⟩ := Cond.castable_spec (va_Nw.use (A := args) rfl (hK.2.1 _ hca))
  cases hcls.1.symm.trans f1
  cases k3.symm.trans f2
  have hvc : cellV.cls = G.2.1.1 ci := Option.some.inj (g3.symm.trans hcls.1)
  obtain ⟨kC, hkC, -⟩ := hcls.2
  exact W.aast hx hb hc (fun z h => by cases h) (fun h => by cases h) k1 k2 rfl hkE ⟨h0, by rw [arrV_size]; exact hlt⟩ g1 (fun z h => by rw [g4] at h; cases h) (by rw [hvc]; exact hkC) (by rw [hvc]; exact f3) rfl rfl hd fun H' e1 e2 e3 => zn_heap (fun _ => rfl) k X Rm (zarr_set (v := vR t (some b)) T hk hi hlt (fun _ => rfl) (fun _ _ => rfl) (zfv_sR hkd (some b)) (zsh F.1) e1 e2 e3) (zs3 F.1) F.2.1 F.2.2
end ZJR
theorem znn (z : Int32) (hz : ¬ z < 0) : z.toInt = (z.toNatClampNeg : Int) := by
  have hz0 : (0 : Int) ≤ z.toInt := by
    have := Int32.not_lt.mp hz
    simpa using Int32.le_iff_toInt_le.mp this
  show z.toInt = ((z.toInt.toNat : Nat) : Int)
  omega
section ZCP
variable {G : zG} {M : zM} {D kc ks pc : Nat} {ls : List (Nat × zV)} {st : List zV} {S S1 : zH} {Post : Option zV → zH → Prop}
/-- a stretch of a row is written -/
theorem zarr_cpy {G : zG} {A : Nat → Prop} {s : State} {H H' : Heap} {locs locs' : List Loc} {ph : Nat → Nat → Nat} {S S1 : zH} {q i a t : Nat} (T : zSt G A s H locs ph S) (hk : zk q = .inr (a, t)) (hi : i < zN S q) (hl : 0 < zL S q i) (hN : ∀ a, zN S1 a = zN S a) (hL : ∀ a b, zL S1 a b = zL S a b) (hv : ∀ a b c, ¬ (a = q ∧ b = i) → zfv S1 a b c = zfv S a b c) (hzo : ∀ c, zo S (zfv S1 q i c))
    (e1 : H'[ph q i]? = some (arrV (G.2.2.1 a) (zL S q i) (fun k => zv ph (zfv S1 q i k)))) (e2 : H'.size = H.size) (e3 : ∀ a, a ≠ ph q i → H'[a]? = H[a]?) (e4 : ∀ l ∈ locs', l ∈ locs ∨ l.base = ph q i) : zSt G A s H' locs' ph S1 := by
  have hzz : ¬ zz S q i := fun z => by have := z.2; omega
  have ha := T.2.2 q i hi hzz
  refine ⟨T.1.set hi hzz hN hL hv ?_ e3 hzo, ⟨by rw [e2]; exact T.2.1.1, fun z h1 h2 => ?_, fun l hl => ?_⟩, fun a b hb hz => T.2.2 a b (by rw [← hN]; exact hb) (fun z => hz ⟨z.1, by rw [hL]; exact z.2⟩)⟩
  · unfold zat
    rw [hk]
    refine Or.inr ?_
    show H'[ph q i]? = _
    rw [e1, hL]
  · rw [e3 z (fun e => h2 (by rw [e]; exact ha))]
    exact T.2.1.2.1 z h1 h2
  · rcases e4 l hl with h | h
    · exact T.2.1.2.2 l h
    · rw [h]; exact ha
theorem zn_acpI {q a q' b : Nat} {x : Int32} (hk : zk q = .inr (0, 0)) (hk' : zk q' = .inr (0, 0)) (hx0 : ¬ x < 0) (h4 : x.toNatClampNeg ≤ zL S q a) (h5 : x.toNatClampNeg ≤ zL S q' b) (h6 : 0 < zL S q' b) (h7 : 0 < zL S q a) (hM : M.1.cls = RJ7) (hd : decode M.2.1 pc = .ok (.invokestatic 150, 3)) (h8 : (st.map zcat).sum ≤ 8) (k : zn G M (D + 1) kc ks (pc + 3) ls st (zcpI S q a q' b x.toNatClampNeg) Post) : zn G M (D + 1) kc ks pc ls (vI x :: vI 0 :: vR q' (some b) :: vI 0 :: vR q (some a) :: st) S Post := by
  intro p e R s m args below meth c H locs cells slots cm sm ph A la X Rm T F
  obtain ⟨hx, hb, hml, hret, hlk, hown, hnm, hts, hK, hA⟩ := id X
  obtain ⟨r1, r2, r3, r4, r5, r6⟩ := id Rm
  have hz := F.1
  have ha : a < zN S q := zsh (zs4 hz) a rfl
  have hbn : b < zN S q' := zsh (zs2 hz) b rfl
  have hc0 := zAR (T.1.1 q a ha) hk h7
  have hc1 := zAR (T.1.1 q' b hbn) hk' h6
  have hkd : ∀ k, zkd q k = 0 := fun k => by unfold zkd; rw [hk]
  have hkd' : ∀ k, zkd q' k = 0 := fun k => by unfold zkd; rw [hk']
  have f0 : (fun k => zv ph (zfv S q a k)) = fun k => Value.int (zI S q a k) := by funext k; rw [zfv_0 (hkd k)]; rfl
  have f1 : (fun k => zv ph (zfv S q' b k)) = fun k => Value.int (zI S q' b k) := by funext k; rw [zfv_0 (hkd' k)]; rfl
  rw [f0] at hc0
  rw [f1] at hc1
  obtain ⟨-, k0, hk0, cm0, hkk0⟩ := (hK.1.2 0 (G.2.2.1 0, .int) rfl).1 (zL S q a) (fun j => .int (zI S q a j))
  obtain ⟨-, k1, hk1, cm1, hkk1⟩ := (hK.1.2 0 (G.2.2.1 0, .int) rfl).1 (zL S q' b) (fun j => .int (zI S q' b j))
  have h8' := zst8 (ph := ph) (m := m) (la := la) (pc := pc) (gst := (st.map (zv ph))) h8
  have w := ws_acp
  rw [← hM] at w
  intro T0 hT0 X0
  obtain ⟨vm', X', step⟩ := X0.arraycopy hx hown (hts _ w.1) (hts _ w.2.1) (hts _ w.2.2.1) (hts _ w.2.2.2) (src := ph q a) (dst := ph q' b) (cs := arrV (G.2.2.1 0) (zL S q a) (fun j => .int (zI S q a j))) (cd := arrV (G.2.2.1 0) (zL S q' b) (fun j => .int (zI S q' b j))) (srcPos := 0) (destPos := 0) (n := x) (by rw [hT0]; exact hc0) (by rw [hT0]; exact hc1)
    (fun _ h => by cases h) (fun _ h => by cases h) (fun h => by cases h) (fun h => by cases h) hk0 hk1 hkk0 hkk1 (by simp [refKind]) (by decide) (by decide) hx0
    (by rw [znn x hx0, arrV_size]; show ¬ (0 : Int) + _ > _; omega)
    (by rw [znn x hx0, arrV_size]; show ¬ (0 : Int) + _ > _; omega)
    (fun vm₁ _ i hi => by
      have e : (arrV (G.2.2.1 0) (zL S q a) (fun j => Value.int (zI S q a j))).slots.getD ((0 : Int32).toNatClampNeg + i) .null = .int (zI S q a ((0 : Int32).toNatClampNeg + i)) := by
        rw [Array.getD_eq_getD_getElem?, arrV_read _ _ (by rw [sb_cl0]; omega)]
        rfl
      rw [e]
      exact ⟨rfl, trivial⟩)
    (g := F0 m pc la (.int x :: .int 0 :: .ref (ph q' b) :: .int 0 :: .ref (ph q a) :: st.map (zv ph))) rfl (by rw [hml]; exact F.2.2.1) (rest := st.map (zv ph)) rfl (by rw [hb]; exact hd) (by omega) (by
      have hw : nativeFrameWords "java/lang/System" "arraycopy" 5 ≤ 20 := (by decide)
      have : 2 * (F0 m pc la (st.map (zv ph))).monitorRoom + ((st.map (zv ph)).map fun v => v.category).sum ≤ 8 := h8'
      show 2 * (F0 m pc la _).monitorRoom + _ + _ ≤ _
      have e0 : (F0 m pc la (.int x :: .int 0 :: .ref (ph q' b) :: .int 0 :: .ref (ph q a) :: st.map (zv ph))).monitorRoom = (F0 m pc la (st.map (zv ph))).monitorRoom := rfl
      rw [e0]
      omega)
  have e1 : copied (arrV (G.2.2.1 0) (zL S q a) (fun j => .int (zI S q a j))) (arrV (G.2.2.1 0) (zL S q' b) (fun j => .int (zI S q' b j))) 0 0 x = arrV (G.2.2.1 0) (zL S q' b) (fun j => .int (va_cpy (zI S q a) (zI S q' b) 0 0 x.toNatClampNeg j)) := by
    have := va_copied (fun z => Value.int z) (G.2.2.1 0) (G.2.2.1 0) (n0 := zL S q a) (n1 := zL S q' b) (sp := 0) (dp := 0) (n := x.toNatClampNeg) (zI S q a) (zI S q' b) (by omega)
    exact this
  rw [e1] at X' step
  have hl : ph q' b < H.size := (Array.getElem?_eq_some_iff.mp hc1).1
  have hcv : ∀ l, zfv (zcpI S q a q' b x.toNatClampNeg) q' b l = vI (va_cpy (zI S q a) (zI S q' b) 0 0 x.toNatClampNeg l) := by
    intro l
    rw [zfv_0 (hkd' l)]
    show vI (if q' = q' ∧ b = b ∧ l < x.toNatClampNeg then zI S q a l else zI S q' b l) = _
    unfold va_cpy
    by_cases hlt : l < x.toNatClampNeg
    · rw [if_pos ⟨rfl, rfl, hlt⟩, if_pos ⟨Nat.zero_le _, by omega⟩]
      simp
    · rw [if_neg (fun z => hlt z.2.2), if_neg (fun z => hlt (by omega))]
  refine (zn_heap (S1 := zcpI S q a q' b x.toNatClampNeg) (fun _ => rfl) k X Rm (zarr_cpy (H' := (H.setIfInBounds (ph q' b) (arrV (G.2.2.1 0) (zL S q' b) (fun j => .int (va_cpy (zI S q a) (zI S q' b) 0 0 x.toNatClampNeg j))))) T hk' hbn h6 (fun _ => rfl) (fun _ _ => rfl) ?_ ?_ ?_ ?_ ?_ ?_) (zs1 (zs4 hz)) F.2.1 F.2.2 _ (by rw [← hT0]; rfl) X').imp (fun t h => ⟨step t h.1, h.2⟩)
  · intro a1 b1 c1 hne
    unfold zfv
    have : zI (zcpI S q a q' b x.toNatClampNeg) a1 b1 c1 = zI S a1 b1 c1 := by
      show (if a1 = q' ∧ b1 = b ∧ c1 < x.toNatClampNeg then _ else _) = _
      rw [if_neg (fun z => hne ⟨z.1, z.2.1⟩)]
      rfl
    rw [this]
    rfl
  · intro l
    rw [hcv l]
    trivial
  · rw [show (fun k => zv ph (zfv (zcpI S q a q' b x.toNatClampNeg) q' b k)) = fun j => Value.int (va_cpy (zI S q a) (zI S q' b) 0 0 x.toNatClampNeg j) from by funext j; rw [hcv j]; rfl]
    simp [Array.getElem?_setIfInBounds, hl]
  · simp
  · intro z hz
    simp [Array.getElem?_setIfInBounds, Ne.symm hz]
  · intro l hl
    rcases List.mem_append.mp hl with h | h
    · exact Or.inl h
    · obtain ⟨z, -, hz⟩ := List.mem_map.mp h
      exact Or.inr (by rw [← hz])
end ZCP
