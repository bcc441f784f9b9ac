/-! ===== the words that the walks use, by their places ===== -/
theorem zin_of {ws : List Cond} (ps : List Nat) (h : ws = ps.filterMap (fun i => tables_1[i]?) ∧ ws.all goodWord = true) : ∀ w ∈ ws, w ∈ ztb := by
  intro w hw
  have h1 := List.all_eq_true.mp h.2 w hw
  rw [h.1] at hw
  obtain ⟨i, -, hi⟩ := List.mem_filterMap.mp hw
  exact ztb_of (List.mem_append_right _ (List.mem_of_getElem? hi)) h1
def zcsV (own : String) (idx : Nat) (M : zM) (n : Nat) (C : String) : Prop := zmk M n ∧ zln own idx M ∧ Cond.instanceMethod M.1 ∈ ztb ∧ Cond.selects C M.1 M.1 ∈ ztb
def zcsS (own : String) (idx : Nat) (M : zM) (n : Nat) : Prop := zmk M n ∧ zln own idx M ∧ Cond.static M.1 ∈ ztb
def zcsI (own : String) (idx : Nat) (M : zM) (n : Nat) : Prop := zmk M n ∧ zln own idx M ∧ Cond.instanceMethod M.1 ∈ ztb ∧ M.2.2.2 = none ∧ M.1.name = "<init>"
def zpo (r0 : Option zV) (S0 : zH) : Option zV → zH → Prop := fun r S => r = r0 ∧ S = S0
set_option maxRecDepth 20000 in
theorem zin_X0 : ∀ w ∈ u_ws RX0 TX0 13, w ∈ ztb := zin_of [506, 508, 510, 512, 514, 516, 518, 520, 522, 524, 526, 528, 530] (by decide +kernel)
set_option maxRecDepth 20000 in
theorem zin_X1 : ∀ w ∈ u_ws RX1 TX1 6, w ∈ ztb := zin_of [81, 83, 85, 87, 89, 91] (by decide +kernel)
set_option maxRecDepth 20000 in
theorem zin_X2 : ∀ w ∈ u_ws RX2 TX2 7, w ∈ ztb := zin_of [48, 50, 52, 54, 56, 58, 60] (by decide +kernel)
set_option maxRecDepth 20000 in
theorem zin_X3 : ∀ w ∈ u_ws RX3 TX3 11, w ∈ ztb := zin_of [828, 830, 832, 834, 836, 838, 840, 842, 844, 846, 848] (by decide +kernel)
set_option maxRecDepth 20000 in
theorem zin_X4 : ∀ w ∈ u_ws RX4 TX4 11, w ∈ ztb := zin_of [899, 901, 903, 905, 907, 909, 911, 913, 915, 917, 919] (by decide +kernel)
set_option maxRecDepth 20000 in
theorem zin_X5 : ∀ w ∈ u_ws RX5 TX5 3, w ∈ ztb := zin_of [790, 792, 794] (by decide +kernel)
set_option maxRecDepth 20000 in
theorem zin_X6 : ∀ w ∈ u_ws RX6 TX6 3, w ∈ ztb := zin_of [143, 145, 147] (by decide +kernel)
set_option maxRecDepth 20000 in
theorem zin_X7 : ∀ w ∈ u_ws RX7 TX7 2, w ∈ ztb := zin_of [187, 189] (by decide +kernel)
set_option maxRecDepth 20000 in
theorem zin_X8 : ∀ w ∈ u_ws RX8 TX8 6, w ∈ ztb := zin_of [165, 167, 169, 171, 173, 175] (by decide +kernel)
set_option maxRecDepth 20000 in
theorem zin_X9 : ∀ w ∈ u_ws RX9 TX9 11, w ∈ ztb := zin_of [203, 205, 207, 209, 211, 213, 215, 217, 219, 221, 223] (by decide +kernel)
set_option maxRecDepth 20000 in
theorem zin_X10 : ∀ w ∈ u_ws RX10 TX10 65, w ∈ ztb := zin_of [1103, 1105, 1107, 1109, 1111, 1113, 1115, 1117, 1119, 1121, 1123, 1125, 1127, 1129, 1131, 1133, 1135, 1137, 1139, 1141, 1143, 1145, 1147, 1149, 1151, 1153, 1155, 1157, 1159, 1161, 1163, 1165, 1167, 1169, 1171, 1173, 1175, 1177, 1179, 1181, 1183, 1185, 1187, 1189, 1191, 1193, 1195, 1197, 1199, 1201, 1203, 1205, 1207, 1209, 1211, 1213, 1215, 1217, 1219, 1221, 1223, 1225, 1227, 1229, 1231] (by decide +kernel)
set_option maxRecDepth 20000 in
theorem zin_Jx4a65c : ∀ w ∈ u_ws RJx4a65c TJx4a65c 3, w ∈ ztb := zin_of [117, 113, 115] (by decide +kernel)
theorem pc_0 : zpc 0 RX9 := ⟨_, _, _, rfl, rfl⟩
theorem pc_1 : zpc 1 RX2 := ⟨_, _, _, rfl, rfl⟩
theorem pc_2 : zpc 2 RX1 := ⟨_, _, _, rfl, rfl⟩
theorem pc_3 : zpc 3 RX0 := ⟨_, _, _, rfl, rfl⟩
theorem pc_4 : zpc 4 RX3 := ⟨_, _, _, rfl, rfl⟩
theorem pc_5 : zpc 5 RX4 := ⟨_, _, _, rfl, rfl⟩
theorem pc_6 : zpc 6 RX5 := ⟨_, _, _, rfl, rfl⟩
theorem pc_7 : zpc 7 RX6 := ⟨_, _, _, rfl, rfl⟩
theorem pc_8 : zpc 8 RX8 := ⟨_, _, _, rfl, rfl⟩
theorem pc_9 : zpc 9 RX7 := ⟨_, _, _, rfl, rfl⟩
theorem pc_10 : zpc 10 RJx4a65c := ⟨_, _, _, rfl, rfl⟩
theorem pc_11 : zpc 11 RJx4a65c := ⟨_, _, _, rfl, rfl⟩
theorem pc_12 : zpc 12 RJx4a65c := ⟨_, _, _, rfl, rfl⟩
theorem pc_13 : zpc 13 RJx4a65c := ⟨_, _, _, rfl, rfl⟩
theorem pc_40 : zpc 40 RX10 := ⟨_, _, _, rfl, rfl⟩
theorem zk_14 : zk 14 = .inr (4, 5) := rfl
theorem zk_15 : zk 15 = .inr (4, 6) := rfl
theorem zk_16 : zk 16 = .inr (4, 7) := rfl
theorem zk_17 : zk 17 = .inr (4, 8) := rfl
theorem zk_18 : zk 18 = .inr (3, 4) := rfl
theorem zk_19 : zk 19 = .inr (1, 1) := rfl
theorem zk_20 : zk 20 = .inr (0, 0) := rfl
theorem zk_21 : zk 21 = .inr (2, 0) := rfl
theorem zk_22 : zk 22 = .inr (0, 0) := rfl
theorem zk_23 : zk 23 = .inr (1, 1) := rfl
theorem zk_24 : zk 24 = .inr (0, 0) := rfl
theorem zk_25 : zk 25 = .inr (0, 0) := rfl
theorem zk_26 : zk 26 = .inr (1, 1) := rfl
theorem zk_27 : zk 27 = .inr (1, 1) := rfl
theorem zk_28 : zk 28 = .inr (0, 0) := rfl
theorem zk_29 : zk 29 = .inr (0, 0) := rfl
theorem zk_30 : zk 30 = .inr (0, 0) := rfl
theorem zk_100 : zk 100 = .inr (0, 0) := rfl
theorem zk_101 : zk 101 = .inr (0, 0) := rfl
theorem zk_102 : zk 102 = .inr (0, 0) := rfl
theorem zk_103 : zk 103 = .inr (0, 0) := rfl
theorem zk_104 : zk 104 = .inr (0, 0) := rfl
theorem zk_105 : zk 105 = .inr (0, 0) := rfl
theorem zk_106 : zk 106 = .inr (0, 0) := rfl
theorem zk_107 : zk 107 = .inr (0, 0) := rfl
theorem zk_108 : zk 108 = .inr (1, 1) := rfl
theorem zk_109 : zk 109 = .inr (1, 1) := rfl
theorem zk_110 : zk 110 = .inr (0, 0) := rfl
theorem zk_111 : zk 111 = .inr (0, 0) := rfl
theorem zk_112 : zk 112 = .inr (0, 0) := rfl
theorem zk_113 : zk 113 = .inr (0, 0) := rfl
theorem zk_114 : zk 114 = .inr (0, 0) := rfl
theorem zk_115 : zk 115 = .inr (0, 0) := rfl
theorem zk_116 : zk 116 = .inr (0, 0) := rfl
theorem zk_117 : zk 117 = .inr (0, 0) := rfl
theorem zk_118 : zk 118 = .inr (1, 1) := rfl
theorem zk_119 : zk 119 = .inr (1, 1) := rfl
theorem zk_120 : zk 120 = .inr (0, 0) := rfl
theorem zk_121 : zk 121 = .inr (0, 0) := rfl
theorem zk_122 : zk 122 = .inr (0, 0) := rfl
theorem zk_123 : zk 123 = .inr (0, 0) := rfl
theorem zk_124 : zk 124 = .inr (0, 0) := rfl
theorem zk_125 : zk 125 = .inr (0, 0) := rfl
theorem zk_126 : zk 126 = .inr (0, 0) := rfl
theorem zk_127 : zk 127 = .inr (0, 0) := rfl
theorem zk_128 : zk 128 = .inr (0, 0) := rfl
theorem zk_129 : zk 129 = .inr (0, 0) := rfl
theorem zk_130 : zk 130 = .inr (0, 0) := rfl
theorem zk_131 : zk 131 = .inr (0, 0) := rfl
theorem zk_132 : zk 132 = .inr (0, 0) := rfl
theorem zk_133 : zk 133 = .inr (0, 0) := rfl
theorem zk_134 : zk 134 = .inr (0, 0) := rfl
theorem zk_135 : zk 135 = .inr (0, 0) := rfl
theorem zk_136 : zk 136 = .inr (0, 0) := rfl
theorem zk_137 : zk 137 = .inr (0, 0) := rfl
theorem zk_138 : zk 138 = .inr (2, 0) := rfl
theorem zk_139 : zk 139 = .inr (2, 0) := rfl
theorem zk_140 : zk 140 = .inr (2, 0) := rfl
theorem zk_141 : zk 141 = .inr (0, 0) := rfl
theorem zk_142 : zk 142 = .inr (0, 0) := rfl
theorem zk_143 : zk 143 = .inr (0, 0) := rfl
theorem zk_144 : zk 144 = .inr (0, 0) := rfl
theorem zk_145 : zk 145 = .inr (0, 0) := rfl
theorem zk_157 : zk 157 = .inr (0, 0) := rfl
theorem zk_158 : zk 158 = .inr (0, 0) := rfl
theorem w_arrI : Cond.arrayClass .int ∈ ztb := (ztb_at 64 (by decide +kernel))
theorem w_arrJ : Cond.arrayClass .long ∈ ztb := (ztb_at 151 (by decide +kernel))
theorem w_arrZ : Cond.arrayClass .boolean ∈ ztb := (ztb_at 63 (by decide +kernel))
