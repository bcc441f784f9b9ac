/-! ===== the law's walk ===== -/
section ZLW
variable {G : zG} {p : Program} {e : Env} {s : State} {m : MethodId} {below : List Frame} {meth : Method} {c : Code} {b L : Nat} {xs : Nat → Int32}
/-- a new object of one world -/
theorem lk_new {q N idx j pc cells slots : Nat} {ph1 ph2 : Nat → Nat → Nat} {S1 S2 : zH} {H : Heap} {locs : List Loc} {la : Array Slot} {rest : List Value} {Q : State → Prop} (X : LX G p s m meth c b L xs) (h : znk R_law idx q N) (hd : decode code pc = .ok (.new idx, 3)) (hw : WW G s.heap.size ph1 S1 ph2 S2 H) (hS : va_S (fun q => s.heap.size ≤ q) s.heap H locs) (hj : zN S1 q = j) (hok : okp q = true) (g3 : cells + 1 ≤ 20000) (g4 : slots + N ≤ 2500000)
    (k : ∀ ph1' H1, WW G s.heap.size ph1' (znw S1 q 0) ph2 S2 H1 → va_S (fun q => s.heap.size ≤ q) s.heap H1 locs → W p G.1 e room_1 s m #[Value.ref b] below meth c H1 locs (cells + 1) (slots + N) Q (F0 m (pc + 3) la (.ref (ph1' q j) :: rest))) :
    W p G.1 e room_1 s m #[Value.ref b] below meth c H locs cells slots Q (F0 m pc la rest) := by
  obtain ⟨hx, hb, hret, hml, hown, hts, hX, hbl, hlk, hK⟩ := id X
  obtain ⟨C, T0, ci, ts, ty, h1, h2, h3, h4, h5, h6, h7, h8, h9⟩ := h
  have hKn := hK.1.1 ci _ h3
  refine W.newcK hx hb hown (hts _ h7) (hts _ h8) (hts _ h9) rfl hd (Nat.le_trans g3 lw_rc) (Nat.le_trans g4 lw_rs) hKn.2.1 rfl fun H1 kC hkC e1 z1 o1 => ?_
  let ph' : Nat → Nat → Nat := fun a b => if a = q ∧ b = zN S1 q then H.size else ph1 a b
  have hp1 : ph' q (zN S1 q) = H.size := if_pos ⟨rfl, rfl⟩
  have hp : ∀ a b, b < zN S1 a → ph' a b = ph1 a b := fun a b hb => if_neg (fun z => by obtain ⟨rfl, rfl⟩ := z; omega)
  have hfv : ∀ c, zo S1 (zfv (znw S1 q 0) q (zN S1 q) c) := by
    intro c
    unfold zfv
    split
    · trivial
    · trivial
    · rw [zR_nw, if_pos ⟨rfl, rfl⟩]
      exact fun i h => (nomatch h)
  have hat : zat G ph' (znw S1 q 0) q (zN S1 q) H1 := by
    unfold zat
    rw [h1]
    show t_OB (ph' q (zN S1 q)) _ _ _ _ _
    rw [hp1]
    subst h2
    refine (u_born ty hts h4 hKn hkC e1 h5).to fun j hj => ?_
    rw [h6 j hj]
    have hkd : zkd q j = ts.getD j 0 := by unfold zkd; rw [h1]
    unfold zfv
    rw [hkd]
    cases hz : ts.getD j 0 with
    | zero => simp only [zI_nw, and_self, if_true]; rfl
    | succ n =>
      cases n with
      | zero => simp only [zJ_nw, and_self, if_true]; rfl
      | succ n => simp only [zR_nw, and_self, if_true]; rfl
  have hW' : zW G ph' (znw S1 q 0) H1 := hw.1.new hp hp1 hat o1 hfv (zno14 (Or.inl ⟨_, h1⟩))
  have hcs : ∀ a d, d < zN (znw S1 q 0) a → (a = q ∧ d = zN S1 q) ∨ (d < zN S1 a ∧ ¬ (a = q ∧ d = zN S1 q)) := by
    intro a d hd
    by_cases hab : a = q ∧ d = zN S1 q
    · exact Or.inl hab
    · refine Or.inr ⟨?_, hab⟩
      rw [zN_nw] at hd
      split at hd
      · next z =>
        subst z
        have : d ≠ zN S1 a := fun z => hab ⟨rfl, z⟩
        omega
      · exact hd
  have hzz : ∀ a d, ¬ (a = q ∧ d = zN S1 q) → ¬ zz (znw S1 q 0) a d → ¬ zz S1 a d := fun a d hab hz z => hz ⟨z.1, by rw [zL_nw, if_neg hab]; exact z.2⟩
  have hWW : WW G s.heap.size ph' (znw S1 q 0) ph2 S2 H1 := by
    refine ⟨hW', hw.2.1.keep (fun p' j' hj' => o1 _ (hw.2.1.1 p' j' hj').lt), fun a d hd hz => ?_, hw.2.2.2.1, fun a d q' j' hd hj' hn1 hn2 e3 => ?_, fun a ha => ?_, hw.2.2.2.2.2.2⟩
    · rcases hcs a d hd with ⟨rfl, rfl⟩ | ⟨g1, g2⟩
      · rw [hp1]
        exact hS.1
      · rw [hp a d g1]
        exact hw.2.2.1 a d g1 (hzz a d g2 hz)
    · rcases hcs a d hd with ⟨rfl, rfl⟩ | ⟨g1, g2⟩
      · rw [hp1] at e3
        have := (hw.2.1.1 q' j' hj').lt
        omega
      · rw [hp a d g1] at e3
        exact hw.2.2.2.2.1 a d q' j' g1 hj' (hzz a d g2 hn1) hn2 e3
    · by_cases haq : a = q
      · rw [haq]
        exact hok
      · rw [zN_nw, if_neg haq] at ha
        exact hw.2.2.2.2.2.1 a ha
  have kk := k ph' H1 hWW ⟨Nat.le_trans hS.1 (by omega), fun a h1 h2 => (o1 a (Nat.lt_of_lt_of_le h1 hS.1)).trans (hS.2.1 a h1 h2), hS.2.2⟩
  rw [← hj, hp1] at kk
  exact kk
/-- the two worlds before anything is made -/
theorem st_0 {A : Nat → Prop} (hK : zKs G A s) : WW G s.heap.size (fun _ _ => G.2.2.2 0) hC0 (fun _ _ => 0) hR0 s.heap := by
  have h3 : zwk (G.2.2.2 0) (G.2.2.1 4) s.heap := hK.2.2.2.2.2.2.1
  have hk : ∀ p, 14 ≤ p → p ≤ 17 → ∃ t, zk p = .inr (4, t) := by
    intro p h1 h2
    have : p = 14 ∨ p = 15 ∨ p = 16 ∨ p = 17 := by omega
    rcases this with rfl | rfl | rfl | rfl <;> exact ⟨_, rfl⟩
  have hN : ∀ p i, i < zN hC0 p → 14 ≤ p ∧ p ≤ 17 := by
    intro p i hi
    by_cases hp : 14 ≤ p ∧ p ≤ 17
    · exact hp
    · have : zN hC0 p = 0 := if_neg hp
      omega
  have hz : ∀ p i, i < zN hC0 p → zz hC0 p i := by
    intro p i hi
    obtain ⟨t, ht⟩ := hk p (hN p i hi).1 (hN p i hi).2
    exact ⟨by unfold zar; rw [ht]; rfl, rfl⟩
  have hR : ∀ p i, ¬ i < zN hR0 p := fun p i hi => Nat.not_lt_zero _ hi
  refine ⟨⟨fun p i hi => ?_, fun p i q j hi hj _ => Or.inr ⟨hz p i hi, hz q j hj⟩, fun p i k hi => ?_, fun p _ _ _ => ⟨rfl, rfl⟩⟩, ⟨fun p i hi => absurd hi (hR p i), fun p i q j hi => absurd hi (hR p i), fun p i k hi => absurd hi (hR p i), fun p _ _ hi => absurd hi (hR p 0)⟩, fun p i hi hn => absurd (hz p i hi) hn, fun p i hi => absurd hi (hR p i), fun p i q j _ hj => absurd hj (hR q j), fun p hp => ?_, fun p hp => absurd hp (hR p 0)⟩
  · obtain ⟨t, ht⟩ := hk p (hN p i hi).1 (hN p i hi).2
    unfold zat
    rw [ht]
    exact Or.inl ⟨rfl, h3⟩
  · unfold zfv
    split
    · trivial
    · trivial
    · exact fun i h => (nomatch h)
  · obtain ⟨t, ht⟩ := hk p (hN p 0 hp).1 (hN p 0 hp).2
    unfold okp
    rw [ht]
theorem law_end {cells slots : Nat} {H : Heap} {locs : List Loc} {la : Array Slot} (X : LX G p s m meth c b L xs) (hS : va_S (fun q => s.heap.size ≤ q) s.heap H locs) (hc : cells ≤ 10000) (hs : slots ≤ 2000000) : W p G.1 e room_1 s m #[Value.ref b] below meth c H locs cells slots (lw_Z below #[Value.ref b] s) (F0 m 1257 la []) := by
  obtain ⟨hx, hb, hret, hml, hown, hts, hX, hbl, hlk, hK⟩ := id X
  refine lv_iconst (pc := 1257) (v := 1) hx hb dl_1257 (by decide) ?_
  refine va_forget (fun q hq => hS.2.2 q hq) ?_
  exact W.widen (k := room_1.cells) (n := room_1.slots) (Nat.le_trans (Nat.le_trans hc (by decide)) lw_rc) (Nat.le_trans (Nat.le_trans hs (by decide)) lw_rs) (lw_ret hx hb hret hlk dl_1258)
theorem law_lt {i : Nat} (hiL : i ≤ L) (hL : L ≤ 3584) (h : L < i + 7) : nI L - nI 7 < nI i := by
  rw [Int32.lt_iff_toInt_lt, tI_sub (by omega) (by decide), nI_toInt (by omega)]
  omega
/-- one word of the script after another -/
theorem law_loop (X : LX G p s m meth c b L xs) (hL : L ≤ 3584) : ∀ (n i cells slots : Nat) (phC : Nat → Nat → Nat) (C : zH) (phR : Nat → Nat → Nat) (R : zH) (H : Heap) (locs : List Loc) (la : Array Slot), WW G s.heap.size phC C phR R H → va_S (fun q => s.heap.size ≤ q) s.heap H locs → Inv C R → lv_has la 4 [(0, .ref b), (1, .ref (phC 0 0)), (2, .ref (phR 40 0)), (3, .int (nI i))] → i ≤ L → L ≤ i + 7 * n + 6 → cells + 10 * n ≤ 10000 → slots + 2000 * n ≤ 2000000 →
    W p G.1 e room_1 s m #[Value.ref b] below meth c H locs cells slots (lw_Z below #[Value.ref b] s) (F0 m 18 la []) := by
  intro n
  induction n with
  | zero =>
    intro i cells slots phC C phR R H locs la hw hS I ha hiL hn hc hs
    obtain ⟨hx, hb, hret, hml, hown, hts, hX, hbl, hlk, hK⟩ := id X
    have hbA : ¬ s.heap.size ≤ b := by omega
    refine lv_iload_n (pc := 18) hx hb dl_18 rfl (lv_at ha 3 rfl) ?_
    refine lv_aload_n (pc := 19) hx hb dl_19 rfl (lv_at ha 0 rfl) ?_
    refine va_slen (pc := 20) (A := fun q => s.heap.size ≤ q) hx hb hX hbl hbA hS dl_20 ?_
    refine lv_bipush (pc := 21) (v := nI 7) hx hb dl_21 (by decide) ?_
    refine lv_isub (pc := 23) hx hb dl_23 ?_
    refine lv_icmp_gt (pc := 24) (tgt := 1257) hx hb dl_24 (by decide) (fun h => ?_) (fun h => ?_)
    · exact law_end X hS (by omega) (by omega)
    · exact absurd (law_lt hiL hL (by omega)) h
  | succ n ih =>
    intro i cells slots phC C phR R H locs la hw hS I ha hiL hn hc hs
    obtain ⟨hx, hb, hret, hml, hown, hts, hX, hbl, hlk, hK⟩ := id X
    have hbA : ¬ s.heap.size ≤ b := by omega
    refine lv_iload_n (pc := 18) hx hb dl_18 rfl (lv_at ha 3 rfl) ?_
    refine lv_aload_n (pc := 19) hx hb dl_19 rfl (lv_at ha 0 rfl) ?_
    refine va_slen (pc := 20) (A := fun q => s.heap.size ≤ q) hx hb hX hbl hbA hS dl_20 ?_
    refine lv_bipush (pc := 21) (v := nI 7) hx hb dl_21 (by decide) ?_
    refine lv_isub (pc := 23) hx hb dl_23 ?_
    refine lv_icmp_gt (pc := 24) (tgt := 1257) hx hb dl_24 (by decide) (fun h => ?_) (fun h => ?_)
    · exact law_end X hS (by omega) (by omega)
    · have hi : i + 7 ≤ L := Decidable.byContradiction fun z => h (law_lt hiL hL (by omega))
      clear h
      have K : KO G p e s m below meth c b (lw_Z below #[Value.ref b] s) la (phC 0 0) (phR 40 0) cells slots := by
        intro phC' C' phR' R' H' locs' hw' hS' I' e1 e2
        refine lv_iinc (pc := 1251) (k := 3) (v := nI (i + 7)) (lv' := [(3, .int (nI (i + 7))), (0, .ref b), (1, .ref (phC 0 0)), (2, .ref (phR 40 0))]) hx hb dl_1251 ha rfl (nI_add i 7) (by decide) rfl (fun la' ha' => ?_)
        refine lv_goto (pc := 1254) (tgt := 18) hx hb dl_1254 (by decide) ?_
        have ha2 := lv_sub ha' [1, 2, 3, 0] (l' := [(0, .ref b), (1, .ref (phC 0 0)), (2, .ref (phR 40 0)), (3, .int (nI (i + 7)))]) rfl
        rw [← e1, ← e2] at ha2
        exact ih (i + 7) (cells + 10) (slots + 2000) phC' C' phR' R' H' locs' la' hw' hS' I' ha2 (by omega) (by omega) (by omega) (by omega)
      have hcl : cells ≤ 10000 := by omega
      have hsl : slots ≤ 2000000 := by omega
      refine lv_aload_n (pc := 27) hx hb dl_27 rfl (lv_at ha 0 rfl) ?_
      refine lv_iload_n (pc := 28) hx hb dl_28 rfl (lv_at ha 3 rfl) ?_
      refine va_sld (pc := 29) (A := fun q => s.heap.size ≤ q) (L := L) hx hb hX hbl hbA hS (nI_in (by omega) (by omega)) dl_29 ?_
      refine lv_bipush (pc := 30) (v := 63) hx hb dl_30 (by decide) ?_
      refine lv_iand (pc := 32) hx hb dl_32 ?_
      generalize xs (nI i).toNatClampNeg &&& 63 = x
      by_cases hr : x.toInt < 0 ∨ 32 < x.toInt
      · refine lv_tableOut (pc := 33) (tgt := 1251) hx hb dl_33 hr (by decide) ?_
        exact W.widen (k := cells + 10) (n := slots + 2000) (by omega) (by omega) (K phC C phR R H locs hw hS I rfl rfl)
      · obtain ⟨k, hk, e1⟩ : ∃ k : Nat, k ≤ 32 ∧ x.toInt = (k : Int) := ⟨x.toInt.toNat, by omega, by omega⟩
        clear hr
        have hkk : k = 0 ∨ k = 1 ∨ k = 2 ∨ k = 3 ∨ k = 4 ∨ k = 5 ∨ k = 6 ∨ k = 7 ∨ k = 8 ∨ k = 9 ∨ k = 10 ∨ k = 11 ∨ k = 12 ∨ k = 13 ∨ k = 14 ∨ k = 15 ∨ k = 16 ∨ k = 17 ∨ k = 18 ∨ k = 19 ∨ k = 20 ∨ k = 21 ∨ k = 22 ∨ k = 23 ∨ k = 24 ∨ k = 25 ∨ k = 26 ∨ k = 27 ∨ k = 28 ∨ k = 29 ∨ k = 30 ∨ k = 31 ∨ k = 32 := by omega
        clear hk ih
        rcases hkk with rfl | rfl | rfl | rfl | rfl | rfl | rfl | rfl | rfl | rfl | rfl | rfl | rfl | rfl | rfl | rfl | rfl | rfl | rfl | rfl | rfl | rfl | rfl | rfl | rfl | rfl | rfl | rfl | rfl | rfl | rfl | rfl | rfl
        · exact lv_tableIn (pc := 33) (off := 147) (tgt := 180) hx hb dl_33 (by rw [e1]; decide) (by rw [e1]; decide) (by rw [e1]; rfl) (by decide) (lc_0 X hw hS I ha hi hL hcl hsl K)
        · exact lv_tableIn (pc := 33) (off := 170) (tgt := 203) hx hb dl_33 (by rw [e1]; decide) (by rw [e1]; decide) (by rw [e1]; rfl) (by decide) (lc_1 X hw hS I ha hi hL hcl hsl K)
        · exact lv_tableIn (pc := 33) (off := 193) (tgt := 226) hx hb dl_33 (by rw [e1]; decide) (by rw [e1]; decide) (by rw [e1]; rfl) (by decide) (lc_2 X hw hS I ha hi hL hcl hsl K)
        · exact lv_tableIn (pc := 33) (off := 216) (tgt := 249) hx hb dl_33 (by rw [e1]; decide) (by rw [e1]; decide) (by rw [e1]; rfl) (by decide) (lc_3 X hw hS I ha hi hL hcl hsl K)
        · exact lv_tableIn (pc := 33) (off := 259) (tgt := 292) hx hb dl_33 (by rw [e1]; decide) (by rw [e1]; decide) (by rw [e1]; rfl) (by decide) (lc_4 X hw hS I ha hi hL hcl hsl K)
        · exact lv_tableIn (pc := 33) (off := 292) (tgt := 325) hx hb dl_33 (by rw [e1]; decide) (by rw [e1]; decide) (by rw [e1]; rfl) (by decide) (lc_5 X hw hS I ha hi hL hcl hsl K)
        · exact lv_tableIn (pc := 33) (off := 335) (tgt := 368) hx hb dl_33 (by rw [e1]; decide) (by rw [e1]; decide) (by rw [e1]; rfl) (by decide) (lc_6 X hw hS I ha hi hL hcl hsl K)
        · exact lv_tableIn (pc := 33) (off := 369) (tgt := 402) hx hb dl_33 (by rw [e1]; decide) (by rw [e1]; decide) (by rw [e1]; rfl) (by decide) (lc_7 X hw hS I ha hi hL hcl hsl K)
        · exact lv_tableIn (pc := 33) (off := 402) (tgt := 435) hx hb dl_33 (by rw [e1]; decide) (by rw [e1]; decide) (by rw [e1]; rfl) (by decide) (lc_8 X hw hS I ha hi hL hcl hsl K)
        · exact lv_tableIn (pc := 33) (off := 425) (tgt := 458) hx hb dl_33 (by rw [e1]; decide) (by rw [e1]; decide) (by rw [e1]; rfl) (by decide) (lc_9 X hw hS I ha hi hL hcl hsl K)
        · exact lv_tableIn (pc := 33) (off := 449) (tgt := 482) hx hb dl_33 (by rw [e1]; decide) (by rw [e1]; decide) (by rw [e1]; rfl) (by decide) (lc_10 X hw hS I ha hi hL hcl hsl K)
        · exact lv_tableIn (pc := 33) (off := 483) (tgt := 516) hx hb dl_33 (by rw [e1]; decide) (by rw [e1]; decide) (by rw [e1]; rfl) (by decide) (lc_11 X hw hS I ha hi hL hcl hsl K)
        · exact lv_tableIn (pc := 33) (off := 516) (tgt := 549) hx hb dl_33 (by rw [e1]; decide) (by rw [e1]; decide) (by rw [e1]; rfl) (by decide) (lc_12 X hw hS I ha hi hL hcl hsl K)
        · exact lv_tableIn (pc := 33) (off := 549) (tgt := 582) hx hb dl_33 (by rw [e1]; decide) (by rw [e1]; decide) (by rw [e1]; rfl) (by decide) (lc_13 X hw hS I ha hi hL hcl hsl K)
        · exact lv_tableIn (pc := 33) (off := 612) (tgt := 645) hx hb dl_33 (by rw [e1]; decide) (by rw [e1]; decide) (by rw [e1]; rfl) (by decide) (lc_14 X hw hS I ha hi hL hcl hsl K)
        · exact lv_tableIn (pc := 33) (off := 645) (tgt := 678) hx hb dl_33 (by rw [e1]; decide) (by rw [e1]; decide) (by rw [e1]; rfl) (by decide) (lc_15 X hw hS I ha hi hL hcl hsl K)
        · exact lv_tableIn (pc := 33) (off := 720) (tgt := 753) hx hb dl_33 (by rw [e1]; decide) (by rw [e1]; decide) (by rw [e1]; rfl) (by decide) (lc_16 X hw hS I ha hi hL hcl hsl K)
        · exact lv_tableIn (pc := 33) (off := 743) (tgt := 776) hx hb dl_33 (by rw [e1]; decide) (by rw [e1]; decide) (by rw [e1]; rfl) (by decide) (lc_17 X hw hS I ha hi hL hcl hsl K)
        · exact lv_tableIn (pc := 33) (off := 776) (tgt := 809) hx hb dl_33 (by rw [e1]; decide) (by rw [e1]; decide) (by rw [e1]; rfl) (by decide) (lc_18 X hw hS I ha hi hL hcl hsl K)
        · exact lv_tableIn (pc := 33) (off := 835) (tgt := 868) hx hb dl_33 (by rw [e1]; decide) (by rw [e1]; decide) (by rw [e1]; rfl) (by decide) (lc_19 X hw hS I ha hi hL hcl hsl K)
        · exact lv_tableIn (pc := 33) (off := 858) (tgt := 891) hx hb dl_33 (by rw [e1]; decide) (by rw [e1]; decide) (by rw [e1]; rfl) (by decide) (lc_20 X hw hS I ha hi hL hcl hsl K)
        · exact lv_tableIn (pc := 33) (off := 881) (tgt := 914) hx hb dl_33 (by rw [e1]; decide) (by rw [e1]; decide) (by rw [e1]; rfl) (by decide) (lc_21 X hw hS I ha hi hL hcl hsl K)
        · exact lv_tableIn (pc := 33) (off := 914) (tgt := 947) hx hb dl_33 (by rw [e1]; decide) (by rw [e1]; decide) (by rw [e1]; rfl) (by decide) (lc_22 X hw hS I ha hi hL hcl hsl K)
        · exact lv_tableIn (pc := 33) (off := 937) (tgt := 970) hx hb dl_33 (by rw [e1]; decide) (by rw [e1]; decide) (by rw [e1]; rfl) (by decide) (lc_23 X hw hS I ha hi hL hcl hsl K)
        · exact lv_tableIn (pc := 33) (off := 970) (tgt := 1003) hx hb dl_33 (by rw [e1]; decide) (by rw [e1]; decide) (by rw [e1]; rfl) (by decide) (lc_24 X hw hS I ha hi hL hcl hsl K)
        · exact lv_tableIn (pc := 33) (off := 1003) (tgt := 1036) hx hb dl_33 (by rw [e1]; decide) (by rw [e1]; decide) (by rw [e1]; rfl) (by decide) (lc_25 X hw hS I ha hi hL hcl hsl K)
        · exact lv_tableIn (pc := 33) (off := 1046) (tgt := 1079) hx hb dl_33 (by rw [e1]; decide) (by rw [e1]; decide) (by rw [e1]; rfl) (by decide) (lc_26 X hw hS I ha hi hL hcl hsl K)
        · exact lv_tableIn (pc := 33) (off := 1070) (tgt := 1103) hx hb dl_33 (by rw [e1]; decide) (by rw [e1]; decide) (by rw [e1]; rfl) (by decide) (lc_27 X hw hS I ha hi hL hcl hsl K)
        · exact lv_tableIn (pc := 33) (off := 1123) (tgt := 1156) hx hb dl_33 (by rw [e1]; decide) (by rw [e1]; decide) (by rw [e1]; rfl) (by decide) (lc_28 X hw hS I ha hi hL hcl hsl K)
        · exact lv_tableIn (pc := 33) (off := 1136) (tgt := 1169) hx hb dl_33 (by rw [e1]; decide) (by rw [e1]; decide) (by rw [e1]; rfl) (by decide) (lc_29 X hw hS I ha hi hL hcl hsl K)
        · exact lv_tableIn (pc := 33) (off := 1159) (tgt := 1192) hx hb dl_33 (by rw [e1]; decide) (by rw [e1]; decide) (by rw [e1]; rfl) (by decide) (lc_30 X hw hS I ha hi hL hcl hsl K)
        · exact lv_tableIn (pc := 33) (off := 1172) (tgt := 1205) hx hb dl_33 (by rw [e1]; decide) (by rw [e1]; decide) (by rw [e1]; rfl) (by decide) (lc_31 X hw hS I ha hi hL hcl hsl K)
        · exact lv_tableIn (pc := 33) (off := 1195) (tgt := 1228) hx hb dl_33 (by rw [e1]; decide) (by rw [e1]; decide) (by rw [e1]; rfl) (by decide) (lc_32 X hw hS I ha hi hL hcl hsl K)
end ZLW
theorem whole_start {p : Program} {e : Env} {s : State} {m : MethodId} {below : List Frame} {meth : Method} {c : Code} (l : Launch) (hflags : l.flags = flags0) {b L : Nat} {xs : Nat → Int32} (hL : L ≤ 3584) (C0 : lw_At p s m meth c b L xs) : W p l e room_1 s m #[Value.ref b] below meth c s.heap [] 0 0 (lw_Z below #[Value.ref b] s) (entryFrame m ([Value.ref b] : List Value).toArray 4) := by
  obtain ⟨G, hG, hK⟩ := st_G l C0
  obtain ⟨hx, hb, hr, hml, hown, hts, hX, hbl, hlocks, hgv⟩ := id C0
  have htz : ∀ w ∈ ztb, w.before #[Value.ref b] s = true := fun w hw => hts w (ztb_tbl w hw)
  have X : LX G p s m meth c b L xs := ⟨hx, hb, hr, hml, hown, htz, hX, hbl, hlocks, hK⟩
  subst hG
  clear hflags
  rw [lg_entry_eq]
  have ha := lv_entry [Value.ref b] (n := 4) (Nat.le_of_ble_eq_true rfl)
  generalize ((lg_sl [Value.ref b] ++ List.replicate (4 - (lg_sl [Value.ref b]).length) Slot.unset).toArray) = la at ha ⊢
  have ha : lv_has la 4 [(0, Value.ref b)] := ha
  have hS : va_S (fun q => s.heap.size ≤ q) s.heap s.heap [] := ⟨Nat.le_refl _, fun _ _ _ => rfl, fun q hq => (nomatch hq)⟩
  refine lk_new (pc := 0) (j := 0) X nw_law_0 dl_0 (st_0 hK) hS rfl (by decide) (by decide) (by decide) (fun ph1 H1 w1 hS1 => ?_)
  refine lv_dup (pc := 3) hx hb dl_3 rfl ?_
  refine lk_callI (pc := 4) (As := []) (q := 0) (i := 0) (n := 0) (rest := [.ref (ph1 0 0)]) (D := 6) (kc' := 26) (ks' := 3302) (Post' := zpo none hC1) X fok_C dl_4 mk_X9_init rfl rfl ll_4 li_4 rfl (Nat.le_of_ble_eq_true rfl) (fun v hv => (nomatch hv)) (Nat.le_of_ble_eq_true rfl) (c_X9_init hC1_eq) (by decide) (by decide) (by decide) w1 hS1 ha.1 (fun r S1' ph1' H2 locs2 hP _ w2 hS2 e2 _ => ?_)
  obtain ⟨rfl, rfl⟩ := hP
  have e3 : ph1' 0 0 = ph1 0 0 := e2 0 0 (Nat.le_of_ble_eq_true rfl)
  refine lv_astore_n (pc := 7) (i := 1) (x := ph1 0 0) (lv' := [(1, .ref (ph1 0 0)), (0, .ref b)]) hx hb dl_7 rfl ha (by decide) rfl (fun la2 ha2 => ?_)
  refine lk_new (pc := 8) (j := 0) X nw_law_8 dl_8 w2.symm hS2 rfl (by decide) (by decide) (by decide) (fun ph3 H3 w3 hS3 => ?_)
  refine lv_dup (pc := 11) hx hb dl_11 rfl ?_
  refine lk_callI (pc := 12) (As := []) (q := 40) (i := 0) (n := 0) (rest := [.ref (ph3 40 0)]) (D := 1) (kc' := 48) (ks' := 63792) (Post' := zpo none hR1) X fok_R dl_12 mk_X10_init rfl rfl ll_12 li_12 rfl (Nat.le_of_ble_eq_true rfl) (fun v hv => (nomatch hv)) (Nat.le_of_ble_eq_true rfl) (c_X10_init hR1_eq) (by decide) (by decide) (by decide) w3 hS3 ha2.1 (fun r2 S2' ph4 H4 locs4 hP2 _ w4 hS4 e4 _ => ?_)
  obtain ⟨rfl, rfl⟩ := hP2
  have e5 : ph4 40 0 = ph3 40 0 := e4 40 0 (Nat.le_of_ble_eq_true rfl)
  refine lv_astore_n (pc := 15) (i := 2) (x := ph3 40 0) (lv' := [(2, .ref (ph3 40 0)), (1, .ref (ph1 0 0)), (0, .ref b)]) hx hb dl_15 rfl ha2 (by decide) rfl (fun la3 ha3 => ?_)
  refine lv_iconst (pc := 16) (v := 0) hx hb dl_16 (by decide) ?_
  refine lv_istore_n (pc := 17) (i := 3) (x := 0) (lv' := [(3, .int 0), (2, .ref (ph3 40 0)), (1, .ref (ph1 0 0)), (0, .ref b)]) hx hb dl_17 rfl ha3 (by decide) rfl (fun la4 ha4 => ?_)
  have ha5 := lv_sub ha4 [3, 2, 1, 0] (l' := [(0, .ref b), (1, .ref (ph1 0 0)), (2, .ref (ph3 40 0)), (3, .int (nI 0))]) rfl
  rw [← e3, ← e5] at ha5
  exact law_loop X hL 512 0 _ _ ph1' (zct1 hC1 fC) ph4 (zct1 hR1 fR) H4 locs4 la4 w4.symm hS4 (Inv_cut Inv_1) ha5 (Nat.zero_le _) (by omega) (by decide) (by decide)
