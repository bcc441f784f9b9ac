/-! ===== a code's worth, once for both sides ===== -/
theorem lc_le (x y : Int64) : lg_cmp x y ≤ 0 ↔ ¬ y < x := by
  unfold lg_cmp
  by_cases h : x > y
  · rw [if_pos h]
    exact ⟨fun z => absurd z (by decide), fun z => absurd h z⟩
  · rw [if_neg h]
    refine ⟨fun _ => h, fun _ => ?_⟩
    split <;> decide
theorem lc_eq (x y : Int64) : lg_cmp x y = 0 ↔ x = y := by
  unfold lg_cmp
  by_cases h : x > y
  · rw [if_pos h]
    exact ⟨fun z => absurd z (by decide), fun z => absurd h (by rw [z]; exact Int64.lt_irrefl)⟩
  · rw [if_neg h]
    by_cases e : x = y
    · rw [if_pos e]
      exact ⟨fun _ => e, fun _ => rfl⟩
    · rw [if_neg e]
      exact ⟨fun z => absurd z (by decide), fun z => absurd z e⟩
theorem lc_ge (x y : Int64) : 0 ≤ lg_cmp x y ↔ ¬ x < y := by
  unfold lg_cmp
  by_cases h : x > y
  · rw [if_pos h]
    exact ⟨fun _ z => absurd (Int64.lt_trans h z) Int64.lt_irrefl, fun _ => by decide⟩
  · rw [if_neg h]
    by_cases e : x = y
    · rw [if_pos e]
      exact ⟨fun _ => by rw [e]; exact Int64.lt_irrefl, fun _ => by decide⟩
    · rw [if_neg e]
      refine ⟨fun z => absurd z (by decide), fun z => absurd ?_ e⟩
      exact Int64.le_antisymm (Int64.not_lt.mp h) (Int64.not_lt.mp z)
def hld (x : Int64) : Int64 := if 1000000000 < x then 1000000000 else if x < -1000000000 then -1000000000 else x
theorem e_hold (x : Int64) (S : zH) : f_X5_hold x S = some (hld x) := by
  unfold f_X5_hold hld
  simp only [lc_le, lc_ge]
  by_cases h : 1000000000 < x
  · simp only [h, not_true, if_true, if_false]
  · by_cases h2 : x < -1000000000
    · simp only [h, h2, not_true, not_false_eq_true, if_true, if_false]
    · simp only [h, h2, not_false_eq_true, if_true, if_false]
theorem e_held (x : Int64) (S : zH) : f_X10_held x S = some (Int64.toInt32 (hld x)) := by
  unfold f_X10_held hld
  simp only [lc_le, lc_ge]
  by_cases h : 1000000000 < x
  · simp only [h, not_true, if_true, if_false]
  · by_cases h2 : x < -1000000000
    · simp only [h, h2, not_true, not_false_eq_true, if_true, if_false]
    · simp only [h, h2, not_false_eq_true, if_true, if_false]
theorem hld_rg (x : Int64) : -1000000000 ≤ (hld x).toInt ∧ (hld x).toInt ≤ 1000000000 := by
  unfold hld
  by_cases h : 1000000000 < x
  · rw [if_pos h]
    decide
  · rw [if_neg h]
    by_cases h2 : x < -1000000000
    · rw [if_pos h2]
      decide
    · rw [if_neg h2]
      rw [Int64.lt_iff_toInt_lt] at h h2
      have e1 : (1000000000 : Int64).toInt = 1000000000 := by decide
      have e2 : (-1000000000 : Int64).toInt = -1000000000 := by decide
      rw [e1] at h
      rw [e2] at h2
      omega
theorem lw_32 {x : Int64} (h : -1000000000 ≤ x.toInt ∧ x.toInt ≤ 1000000000) : (Int64.toInt32 x).toInt64 = x := by
  apply Int64.toInt_inj.mp
  rw [Int32.toInt_toInt64, Int64.toInt_toInt32]
  exact Int.bmod_eq_of_le (by omega) (by omega)
theorem hld_32 (x : Int64) : (Int64.toInt32 (hld x)).toInt64 = hld x := lw_32 (hld_rg x)
theorem hld_id {x : Int64} (h : -1000000000 ≤ x.toInt ∧ x.toInt ≤ 1000000000) : hld x = x := by
  unfold hld
  have e1 : (1000000000 : Int64).toInt = 1000000000 := by decide
  have e2 : (-1000000000 : Int64).toInt = -1000000000 := by decide
  rw [if_neg (fun z => by rw [Int64.lt_iff_toInt_lt, e1] at z; omega), if_neg (fun z => by rw [Int64.lt_iff_toInt_lt, e2] at z; omega)]
theorem hld_nn {x : Int32} (h : -1000000000 ≤ x.toInt ∧ x.toInt ≤ 1000000000) : hld x.toInt64 = x.toInt64 := hld_id (by rw [Int32.toInt_toInt64]; exact h)
def jn (t : Int32) (a b : Int64) : Int64 := if t = 42 then a * b else if t = 43 then a + b else if t = 45 then a - b else if t = 47 then (if b = 0 then 0 else a / b) else if t = 60 then (if a < b then 1 else 0) else if t = 61 then (if a = b then 1 else 0) else if t = 62 then (if b < a then 1 else 0) else 0
theorem e_join (t : Int32) (a b : Int64) (S : zH) : f_X5_join t a b S = some (jn t a b) := by
  unfold f_X5_join
  by_cases h42 : t = 42
  · subst h42
    rw [if_pos rfl]
    rfl
  rw [if_neg h42]
  by_cases h43 : t = 43
  · subst h43
    rw [if_pos rfl]
    rfl
  rw [if_neg h43]
  by_cases h44 : t = 44
  · subst h44
    rw [if_pos rfl]
    rfl
  rw [if_neg h44]
  by_cases h45 : t = 45
  · subst h45
    rw [if_pos rfl]
    rfl
  rw [if_neg h45]
  by_cases h46 : t = 46
  · subst h46
    rw [if_pos rfl]
    rfl
  rw [if_neg h46]
  by_cases h47 : t = 47
  · subst h47
    rw [if_pos rfl]
    show _ = some (if b = 0 then 0 else a / b)
    by_cases hb : b = 0
    · rw [if_pos ((lc_eq _ _).mpr hb), if_pos hb]
    · rw [if_neg (fun z => hb ((lc_eq _ _).mp z)), if_neg hb]
      simp [zgd, hb]
  rw [if_neg h47]
  by_cases h48 : t = 48
  · subst h48
    rw [if_pos rfl]
    rfl
  rw [if_neg h48]
  by_cases h49 : t = 49
  · subst h49
    rw [if_pos rfl]
    rfl
  rw [if_neg h49]
  by_cases h50 : t = 50
  · subst h50
    rw [if_pos rfl]
    rfl
  rw [if_neg h50]
  by_cases h51 : t = 51
  · subst h51
    rw [if_pos rfl]
    rfl
  rw [if_neg h51]
  by_cases h52 : t = 52
  · subst h52
    rw [if_pos rfl]
    rfl
  rw [if_neg h52]
  by_cases h53 : t = 53
  · subst h53
    rw [if_pos rfl]
    rfl
  rw [if_neg h53]
  by_cases h54 : t = 54
  · subst h54
    rw [if_pos rfl]
    rfl
  rw [if_neg h54]
  by_cases h55 : t = 55
  · subst h55
    rw [if_pos rfl]
    rfl
  rw [if_neg h55]
  by_cases h56 : t = 56
  · subst h56
    rw [if_pos rfl]
    rfl
  rw [if_neg h56]
  by_cases h57 : t = 57
  · subst h57
    rw [if_pos rfl]
    rfl
  rw [if_neg h57]
  by_cases h58 : t = 58
  · subst h58
    rw [if_pos rfl]
    rfl
  rw [if_neg h58]
  by_cases h59 : t = 59
  · subst h59
    rw [if_pos rfl]
    rfl
  rw [if_neg h59]
  by_cases h60 : t = 60
  · subst h60
    rw [if_pos rfl]
    show _ = some (if a < b then 1 else 0)
    by_cases hb : a < b
    · rw [if_neg (fun z => (lc_ge _ _).mp z hb), if_pos hb]
    · rw [if_pos ((lc_ge _ _).mpr hb), if_neg hb]
  rw [if_neg h60]
  by_cases h61 : t = 61
  · subst h61
    rw [if_pos rfl]
    show _ = some (if a = b then 1 else 0)
    by_cases hb : a = b
    · rw [if_pos ((lc_eq _ _).mpr hb), if_pos hb]
    · rw [if_neg (fun z => hb ((lc_eq _ _).mp z)), if_neg hb]
  rw [if_neg h61]
  by_cases h62 : t = 62
  · subst h62
    rw [if_pos rfl]
    show _ = some (if b < a then 1 else 0)
    by_cases hb : b < a
    · rw [if_neg (fun z => (lc_le _ _).mp z hb), if_pos hb]
    · rw [if_pos ((lc_le _ _).mpr hb), if_neg hb]
  rw [if_neg h62]
  unfold jn
  rw [if_neg h42, if_neg h43, if_neg h45, if_neg h47, if_neg h60, if_neg h61, if_neg h62]
/-- one sign or operand of a code -/
def ev1 (L : Nat → Int64) (t : Int32) (st : List Int64) : List Int64 :=
  if 0 ≤ t then (if t - 100000 < 0 then t.toInt64 else if 10 ≤ t - 100000 then t.toInt64 else L (t - 100000).toNatClampNeg) :: st
  else match st with
    | b :: a :: r => hld (jn (-t) a b) :: r
    | s => s
def rn (L : Nat → Int64) : List Int32 → List Int64 → List Int64
  | [], st => st
  | t :: c, st => rn L c (ev1 L t st)
theorem rn_app (L : Nat → Int64) : ∀ a b st, rn L (a ++ b) st = rn L b (rn L a st)
  | [], b, st => rfl
  | t :: a, b, st => rn_app L a b (ev1 L t st)
theorem ev1_len (L : Nat → Int64) (t : Int32) (st : List Int64) : (ev1 L t st).length ≤ st.length + 1 := by
  unfold ev1
  split
  · simp
  · split
    · simp only [List.length_cons]
      omega
    · omega
/-- two operands and their sign -/
theorem rn_bin (L : Nat → Int64) {c1 c2 : List Int32} {a b : Int64} {t : Int32} (h1 : ∀ st, rn L c1 st = a :: st) (h2 : ∀ st, rn L c2 st = b :: st) (ht : ¬ 0 ≤ -t) (st : List Int64) : rn L (c1 ++ c2 ++ [-t]) st = hld (jn t a b) :: st := by
  rw [rn_app, rn_app, h1, h2]
  show ev1 L (-t) (b :: a :: st) = _
  unfold ev1
  rw [if_neg ht]
  show hld (jn (- -t) a b) :: st = _
  rw [Int32.neg_neg]
