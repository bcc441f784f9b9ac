/-! ===== the law, case by case, 4 ===== -/
section ZCA3
variable {G : zG} {p : Program} {e : Env} {s : State} {m : MethodId} {below : List Frame} {meth : Method} {c : Code} {b L i cells slots : Nat} {xs : Nat → Int32} {phC phR : Nat → Nat → Nat} {C R : zH} {H : Heap} {locs : List Loc} {la : Array Slot} {Q : State → Prop}
theorem lc_27 (X : LX G p s m meth c b L xs) (hw : WW G s.heap.size phC C phR R H) (hS : va_S (fun q => s.heap.size ≤ q) s.heap H locs) (I : Inv C R) (ha : lv_has la 4 [(0, .ref b), (1, .ref (phC 0 0)), (2, .ref (phR 40 0)), (3, .int (nI i))]) (hi : i + 7 ≤ L) (hL : L ≤ 3584) (hc : cells ≤ 10000) (hs : slots ≤ 2000000) (K : KO G p e s m below meth c b Q la (phC 0 0) (phR 40 0) cells slots) : W p G.1 e room_1 s m #[Value.ref b] below meth c H locs cells slots Q (F0 m 1103 la []) := by
  have hx := X.1
  have hb := X.2.1
  have z0 : 0 < zN C 0 := (J_al I).2.2.2.1
  have z40 : 0 < zN R 40 := (J_al I).2.2.2.2
  refine lv_aload_n hx hb dl_1103 rfl (lv_at ha 1 rfl) ?_
  refine lk_rd (k := 1) X hS ha hi hL (by decide) dl_1104 dl_1105 dl_1106 dl_1107 dl_1108 ?_
  refine lv_i2l hx hb dl_1109 rfl ?_
  refine lv_bipush (v := 32) hx hb dl_1110 (by decide) ?_
  refine lv_lshl hx hb dl_1112 rfl ?_
  refine lk_rd (k := 2) X hS ha hi hL (by decide) dl_1113 dl_1114 dl_1115 dl_1116 dl_1117 ?_
  refine lv_i2l hx hb dl_1118 rfl ?_
  refine lv_ldc2 (v := 4294967295) hx hb X.2.2.2.2.1 (X.2.2.2.2.2.1 _ w2_law) dl_1119 ?_
  refine lv_land hx hb dl_1122 ?_
  refine lv_lor hx hb dl_1123 ?_
  obtain ⟨r0, C1, R1, e1, e2, I1⟩ := t_tell I ((((xs (i + 1)).toInt64 <<< ((32 : Int32).toInt64 &&& 63)) ||| ((xs (i + 2)).toInt64 &&& (4294967295 : Int64))))
  refine lk_callV (n := 1) (q := 0) (i := 0) (D := 1) (kc' := 0) (ks' := 0) (As := [vJ ((((xs (i + 1)).toInt64 <<< ((32 : Int32).toInt64 &&& 63)) ||| ((xs (i + 2)).toInt64 &&& (4294967295 : Int64))))]) (M' := M_X9_tell) (rest := []) X fok_C dl_1124 mk_X9_tell ll_1124 li_1124 ls_1124 pc_0 rfl (by simp [Value.category]) (by simp [zo]) z0 (c_X9_tell e1) (by decide) (by omega) (by omega) hw hS ha.1 (fun r S1 ph1 H1 locs1 hP _ hw1 hS1 hl1 hn1 => ?_)
  obtain ⟨rfl, rfl⟩ := hP
  show W p G.1 e room_1 s m #[Value.ref b] below meth c H1 locs1 _ _ Q (F0 m 1127 la (.int r0 :: []))
  have q1 := hl1 0 0 z0
  clear hl1 hn1
  refine lv_aload_n hx hb dl_1127 rfl (lv_at ha 2 rfl) ?_
  refine lk_rd (k := 1) X hS1 ha hi hL (by decide) dl_1128 dl_1129 dl_1130 dl_1131 dl_1132 ?_
  refine lv_i2l hx hb dl_1133 rfl ?_
  refine lv_bipush (v := 32) hx hb dl_1134 (by decide) ?_
  refine lv_lshl hx hb dl_1136 rfl ?_
  refine lk_rd (k := 2) X hS1 ha hi hL (by decide) dl_1137 dl_1138 dl_1139 dl_1140 dl_1141 ?_
  refine lv_i2l hx hb dl_1142 rfl ?_
  refine lv_ldc2 (v := 4294967295) hx hb X.2.2.2.2.1 (X.2.2.2.2.2.1 _ w2_law) dl_1143 ?_
  refine lv_land hx hb dl_1146 ?_
  refine lv_lor hx hb dl_1147 ?_
  refine lk_callV (n := 1) (q := 40) (i := 0) (D := 1) (kc' := 0) (ks' := 0) (As := [vJ ((((xs (i + 1)).toInt64 <<< ((32 : Int32).toInt64 &&& 63)) ||| ((xs (i + 2)).toInt64 &&& (4294967295 : Int64))))]) (M' := M_X10_tell) (rest := [.int r0]) X fok_R dl_1148 mk_X10_tell ll_1148 li_1148 ls_1148 pc_40 rfl (by simp [Value.category]) (by simp [zo]) z40 (c_X10_tell e2) (by decide) (by omega) (by omega) hw1.symm hS1 ha.1 (fun r S1 ph1 H1 locs1 hP _ hw2 hS2 hl1 hn1 => ?_)
  obtain ⟨rfl, rfl⟩ := hP
  show W p G.1 e room_1 s m #[Value.ref b] below meth c H1 locs1 _ _ Q (F0 m 1151 la (.int r0 :: [.int r0]))
  have q2 := hl1 40 0 z40
  clear hl1 hn1
  refine lv_icmp_eq (tgt := 1251) hx hb dl_1151 (by decide) (fun _ => ?_) (fun h => absurd rfl h)
  refine W.widen (k := cells + 10) (n := slots + 2000) (by omega) (by omega) ?_
  exact K _ _ _ _ _ _ hw2.symm hS2 (Inv_cut I1) q1 q2
theorem lc_28 (X : LX G p s m meth c b L xs) (hw : WW G s.heap.size phC C phR R H) (hS : va_S (fun q => s.heap.size ≤ q) s.heap H locs) (I : Inv C R) (ha : lv_has la 4 [(0, .ref b), (1, .ref (phC 0 0)), (2, .ref (phR 40 0)), (3, .int (nI i))]) (hi : i + 7 ≤ L) (hL : L ≤ 3584) (hc : cells ≤ 10000) (hs : slots ≤ 2000000) (K : KO G p e s m below meth c b Q la (phC 0 0) (phR 40 0) cells slots) : W p G.1 e room_1 s m #[Value.ref b] below meth c H locs cells slots Q (F0 m 1156 la []) := by
  have hx := X.1
  have hb := X.2.1
  have z0 : 0 < zN C 0 := (J_al I).2.2.2.1
  have z40 : 0 < zN R 40 := (J_al I).2.2.2.2
  refine lv_aload_n hx hb dl_1156 rfl (lv_at ha 1 rfl) ?_
  obtain ⟨r0, C1, R1, e1, e2, I1⟩ := t_check I
  refine lk_callV (n := 0) (q := 0) (i := 0) (D := 1) (kc' := 0) (ks' := 0) (As := []) (M' := M_X9_check) (rest := []) X fok_C dl_1157 mk_X9_check ll_1157 li_1157 ls_1157 pc_0 rfl (by simp [Value.category]) (by simp [zo]) z0 (c_X9_check e1) (by decide) (by omega) (by omega) hw hS ha.1 (fun r S1 ph1 H1 locs1 hP _ hw1 hS1 hl1 hn1 => ?_)
  obtain ⟨rfl, rfl⟩ := hP
  show W p G.1 e room_1 s m #[Value.ref b] below meth c H1 locs1 _ _ Q (F0 m 1160 la (.int r0 :: []))
  have q1 := hl1 0 0 z0
  clear hl1 hn1
  refine lv_aload_n hx hb dl_1160 rfl (lv_at ha 2 rfl) ?_
  refine lk_callV (n := 0) (q := 40) (i := 0) (D := 1) (kc' := 0) (ks' := 0) (As := []) (M' := M_X10_check) (rest := [.int r0]) X fok_R dl_1161 mk_X10_check ll_1161 li_1161 ls_1161 pc_40 rfl (by simp [Value.category]) (by simp [zo]) z40 (c_X10_check e2) (by decide) (by omega) (by omega) hw1.symm hS1 ha.1 (fun r S1 ph1 H1 locs1 hP _ hw2 hS2 hl1 hn1 => ?_)
  obtain ⟨rfl, rfl⟩ := hP
  show W p G.1 e room_1 s m #[Value.ref b] below meth c H1 locs1 _ _ Q (F0 m 1164 la (.int r0 :: [.int r0]))
  have q2 := hl1 40 0 z40
  clear hl1 hn1
  refine lv_icmp_eq (tgt := 1251) hx hb dl_1164 (by decide) (fun _ => ?_) (fun h => absurd rfl h)
  refine W.widen (k := cells + 10) (n := slots + 2000) (by omega) (by omega) ?_
  exact K _ _ _ _ _ _ hw2.symm hS2 (Inv_cut I1) q1 q2
theorem lc_29 (X : LX G p s m meth c b L xs) (hw : WW G s.heap.size phC C phR R H) (hS : va_S (fun q => s.heap.size ≤ q) s.heap H locs) (I : Inv C R) (ha : lv_has la 4 [(0, .ref b), (1, .ref (phC 0 0)), (2, .ref (phR 40 0)), (3, .int (nI i))]) (hi : i + 7 ≤ L) (hL : L ≤ 3584) (hc : cells ≤ 10000) (hs : slots ≤ 2000000) (K : KO G p e s m below meth c b Q la (phC 0 0) (phR 40 0) cells slots) : W p G.1 e room_1 s m #[Value.ref b] below meth c H locs cells slots Q (F0 m 1169 la []) := by
  have hx := X.1
  have hb := X.2.1
  have z0 : 0 < zN C 0 := (J_al I).2.2.2.1
  have z40 : 0 < zN R 40 := (J_al I).2.2.2.2
  refine lv_aload_n hx hb dl_1169 rfl (lv_at ha 1 rfl) ?_
  refine lk_rd (k := 1) X hS ha hi hL (by decide) dl_1170 dl_1171 dl_1172 dl_1173 dl_1174 ?_
  obtain ⟨r0, C1, R1, e1, e2, I1⟩ := t_surge I (xs (i + 1))
  refine lk_callV (n := 1) (q := 0) (i := 0) (D := 1) (kc' := 0) (ks' := 0) (As := [vI (xs (i + 1))]) (M' := M_X9_surge) (rest := []) X fok_C dl_1175 mk_X9_surge ll_1175 li_1175 ls_1175 pc_0 rfl (by simp [Value.category]) (by simp [zo]) z0 (c_X9_surge e1) (by decide) (by omega) (by omega) hw hS ha.1 (fun r S1 ph1 H1 locs1 hP _ hw1 hS1 hl1 hn1 => ?_)
  obtain ⟨rfl, rfl⟩ := hP
  show W p G.1 e room_1 s m #[Value.ref b] below meth c H1 locs1 _ _ Q (F0 m 1178 la (.int r0 :: []))
  have q1 := hl1 0 0 z0
  clear hl1 hn1
  refine lv_aload_n hx hb dl_1178 rfl (lv_at ha 2 rfl) ?_
  refine lk_rd (k := 1) X hS1 ha hi hL (by decide) dl_1179 dl_1180 dl_1181 dl_1182 dl_1183 ?_
  refine lk_callV (n := 1) (q := 40) (i := 0) (D := 1) (kc' := 0) (ks' := 0) (As := [vI (xs (i + 1))]) (M' := M_X10_surge) (rest := [.int r0]) X fok_R dl_1184 mk_X10_surge ll_1184 li_1184 ls_1184 pc_40 rfl (by simp [Value.category]) (by simp [zo]) z40 (c_X10_surge e2) (by decide) (by omega) (by omega) hw1.symm hS1 ha.1 (fun r S1 ph1 H1 locs1 hP _ hw2 hS2 hl1 hn1 => ?_)
  obtain ⟨rfl, rfl⟩ := hP
  show W p G.1 e room_1 s m #[Value.ref b] below meth c H1 locs1 _ _ Q (F0 m 1187 la (.int r0 :: [.int r0]))
  have q2 := hl1 40 0 z40
  clear hl1 hn1
  refine lv_icmp_eq (tgt := 1251) hx hb dl_1187 (by decide) (fun _ => ?_) (fun h => absurd rfl h)
  refine W.widen (k := cells + 10) (n := slots + 2000) (by omega) (by omega) ?_
  exact K _ _ _ _ _ _ hw2.symm hS2 (Inv_cut I1) q1 q2
theorem lc_30 (X : LX G p s m meth c b L xs) (hw : WW G s.heap.size phC C phR R H) (hS : va_S (fun q => s.heap.size ≤ q) s.heap H locs) (I : Inv C R) (ha : lv_has la 4 [(0, .ref b), (1, .ref (phC 0 0)), (2, .ref (phR 40 0)), (3, .int (nI i))]) (hi : i + 7 ≤ L) (hL : L ≤ 3584) (hc : cells ≤ 10000) (hs : slots ≤ 2000000) (K : KO G p e s m below meth c b Q la (phC 0 0) (phR 40 0) cells slots) : W p G.1 e room_1 s m #[Value.ref b] below meth c H locs cells slots Q (F0 m 1192 la []) := by
  have hx := X.1
  have hb := X.2.1
  have z0 : 0 < zN C 0 := (J_al I).2.2.2.1
  have z40 : 0 < zN R 40 := (J_al I).2.2.2.2
  refine lv_aload_n hx hb dl_1192 rfl (lv_at ha 1 rfl) ?_
  obtain ⟨r0, e1, e2⟩ := t_least I
  refine lk_callV (n := 0) (q := 0) (i := 0) (D := 3) (kc' := 0) (ks' := 0) (As := []) (M' := M_X9_least) (rest := []) X fok_C dl_1193 mk_X9_least ll_1193 li_1193 ls_1193 pc_0 rfl (by simp [Value.category]) (by simp [zo]) z0 (c_X9_least e1) (by decide) (by omega) (by omega) hw hS ha.1 (fun r S1 ph1 H1 locs1 hP _ hw1 hS1 hl1 hn1 => ?_)
  obtain ⟨rfl, rfl⟩ := hP
  show W p G.1 e room_1 s m #[Value.ref b] below meth c H1 locs1 _ _ Q (F0 m 1196 la (.int r0 :: []))
  have q1 := hl1 0 0 z0
  clear hl1 hn1
  refine lv_aload_n hx hb dl_1196 rfl (lv_at ha 2 rfl) ?_
  refine lk_callV (n := 0) (q := 40) (i := 0) (D := 0) (kc' := 0) (ks' := 0) (As := []) (M' := M_X10_least) (rest := [.int r0]) X fok_R dl_1197 mk_X10_least ll_1197 li_1197 ls_1197 pc_40 rfl (by simp [Value.category]) (by simp [zo]) z40 (c_X10_least e2) (by decide) (by omega) (by omega) hw1.symm hS1 ha.1 (fun r S1 ph1 H1 locs1 hP _ hw2 hS2 hl1 hn1 => ?_)
  obtain ⟨rfl, rfl⟩ := hP
  show W p G.1 e room_1 s m #[Value.ref b] below meth c H1 locs1 _ _ Q (F0 m 1200 la (.int r0 :: [.int r0]))
  have q2 := hl1 40 0 z40
  clear hl1 hn1
  refine lv_icmp_eq (tgt := 1251) hx hb dl_1200 (by decide) (fun _ => ?_) (fun h => absurd rfl h)
  refine W.widen (k := cells + 10) (n := slots + 2000) (by omega) (by omega) ?_
  exact K _ _ _ _ _ _ hw2.symm hS2 (Inv_cut I) q1 q2
theorem lc_31 (X : LX G p s m meth c b L xs) (hw : WW G s.heap.size phC C phR R H) (hS : va_S (fun q => s.heap.size ≤ q) s.heap H locs) (I : Inv C R) (ha : lv_has la 4 [(0, .ref b), (1, .ref (phC 0 0)), (2, .ref (phR 40 0)), (3, .int (nI i))]) (hi : i + 7 ≤ L) (hL : L ≤ 3584) (hc : cells ≤ 10000) (hs : slots ≤ 2000000) (K : KO G p e s m below meth c b Q la (phC 0 0) (phR 40 0) cells slots) : W p G.1 e room_1 s m #[Value.ref b] below meth c H locs cells slots Q (F0 m 1205 la []) := by
  have hx := X.1
  have hb := X.2.1
  have z0 : 0 < zN C 0 := (J_al I).2.2.2.1
  have z40 : 0 < zN R 40 := (J_al I).2.2.2.2
  refine lv_aload_n hx hb dl_1205 rfl (lv_at ha 1 rfl) ?_
  refine lk_rd (k := 1) X hS ha hi hL (by decide) dl_1206 dl_1207 dl_1208 dl_1209 dl_1210 ?_
  obtain ⟨r0, C1, R1, e1, e2, I1⟩ := t_tooLate I (xs (i + 1))
  refine lk_callV (n := 1) (q := 0) (i := 0) (D := 2) (kc' := 0) (ks' := 0) (As := [vI (xs (i + 1))]) (M' := M_X9_tooLate) (rest := []) X fok_C dl_1211 mk_X9_tooLate ll_1211 li_1211 ls_1211 pc_0 rfl (by simp [Value.category]) (by simp [zo]) z0 (c_X9_tooLate e1) (by decide) (by omega) (by omega) hw hS ha.1 (fun r S1 ph1 H1 locs1 hP _ hw1 hS1 hl1 hn1 => ?_)
  obtain ⟨rfl, rfl⟩ := hP
  show W p G.1 e room_1 s m #[Value.ref b] below meth c H1 locs1 _ _ Q (F0 m 1214 la (.int r0 :: []))
  have q1 := hl1 0 0 z0
  clear hl1 hn1
  refine lv_aload_n hx hb dl_1214 rfl (lv_at ha 2 rfl) ?_
  refine lk_rd (k := 1) X hS1 ha hi hL (by decide) dl_1215 dl_1216 dl_1217 dl_1218 dl_1219 ?_
  refine lk_callV (n := 1) (q := 40) (i := 0) (D := 1) (kc' := 0) (ks' := 0) (As := [vI (xs (i + 1))]) (M' := M_X10_tooLate) (rest := [.int r0]) X fok_R dl_1220 mk_X10_tooLate ll_1220 li_1220 ls_1220 pc_40 rfl (by simp [Value.category]) (by simp [zo]) z40 (c_X10_tooLate e2) (by decide) (by omega) (by omega) hw1.symm hS1 ha.1 (fun r S1 ph1 H1 locs1 hP _ hw2 hS2 hl1 hn1 => ?_)
  obtain ⟨rfl, rfl⟩ := hP
  show W p G.1 e room_1 s m #[Value.ref b] below meth c H1 locs1 _ _ Q (F0 m 1223 la (.int r0 :: [.int r0]))
  have q2 := hl1 40 0 z40
  clear hl1 hn1
  refine lv_icmp_eq (tgt := 1251) hx hb dl_1223 (by decide) (fun _ => ?_) (fun h => absurd rfl h)
  refine W.widen (k := cells + 10) (n := slots + 2000) (by omega) (by omega) ?_
  exact K _ _ _ _ _ _ hw2.symm hS2 (Inv_cut I1) q1 q2
theorem lc_32 (X : LX G p s m meth c b L xs) (hw : WW G s.heap.size phC C phR R H) (hS : va_S (fun q => s.heap.size ≤ q) s.heap H locs) (I : Inv C R) (ha : lv_has la 4 [(0, .ref b), (1, .ref (phC 0 0)), (2, .ref (phR 40 0)), (3, .int (nI i))]) (hi : i + 7 ≤ L) (hL : L ≤ 3584) (hc : cells ≤ 10000) (hs : slots ≤ 2000000) (K : KO G p e s m below meth c b Q la (phC 0 0) (phR 40 0) cells slots) : W p G.1 e room_1 s m #[Value.ref b] below meth c H locs cells slots Q (F0 m 1228 la []) := by
  have hx := X.1
  have hb := X.2.1
  have z0 : 0 < zN C 0 := (J_al I).2.2.2.1
  have z40 : 0 < zN R 40 := (J_al I).2.2.2.2
  refine lv_aload_n hx hb dl_1228 rfl (lv_at ha 1 rfl) ?_
  refine lk_rd (k := 1) X hS ha hi hL (by decide) dl_1229 dl_1230 dl_1231 dl_1232 dl_1233 ?_
  obtain ⟨r0, e1, e2⟩ := t_count I (xs (i + 1))
  refine lk_callV (n := 1) (q := 0) (i := 0) (D := 5) (kc' := 0) (ks' := 0) (As := [vI (xs (i + 1))]) (M' := M_X9_count) (rest := []) X fok_C dl_1234 mk_X9_count ll_1234 li_1234 ls_1234 pc_0 rfl (by simp [Value.category]) (by simp [zo]) z0 (c_X9_count e1) (by decide) (by omega) (by omega) hw hS ha.1 (fun r S1 ph1 H1 locs1 hP _ hw1 hS1 hl1 hn1 => ?_)
  obtain ⟨rfl, rfl⟩ := hP
  show W p G.1 e room_1 s m #[Value.ref b] below meth c H1 locs1 _ _ Q (F0 m 1237 la (.int r0 :: []))
  have q1 := hl1 0 0 z0
  clear hl1 hn1
  refine lv_aload_n hx hb dl_1237 rfl (lv_at ha 2 rfl) ?_
  refine lk_rd (k := 1) X hS1 ha hi hL (by decide) dl_1238 dl_1239 dl_1240 dl_1241 dl_1242 ?_
  refine lk_callV (n := 1) (q := 40) (i := 0) (D := 0) (kc' := 0) (ks' := 0) (As := [vI (xs (i + 1))]) (M' := M_X10_count) (rest := [.int r0]) X fok_R dl_1243 mk_X10_count ll_1243 li_1243 ls_1243 pc_40 rfl (by simp [Value.category]) (by simp [zo]) z40 (c_X10_count e2) (by decide) (by omega) (by omega) hw1.symm hS1 ha.1 (fun r S1 ph1 H1 locs1 hP _ hw2 hS2 hl1 hn1 => ?_)
  obtain ⟨rfl, rfl⟩ := hP
  show W p G.1 e room_1 s m #[Value.ref b] below meth c H1 locs1 _ _ Q (F0 m 1246 la (.int r0 :: [.int r0]))
  have q2 := hl1 40 0 z40
  clear hl1 hn1
  refine lv_icmp_eq (tgt := 1251) hx hb dl_1246 (by decide) (fun _ => ?_) (fun h => absurd rfl h)
  refine W.widen (k := cells + 10) (n := slots + 2000) (by omega) (by omega) ?_
  exact K _ _ _ _ _ _ hw2.symm hS2 (Inv_cut I) q1 q2
end ZCA3
