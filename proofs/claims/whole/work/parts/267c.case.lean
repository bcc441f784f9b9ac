/-! ===== the law, case by case, 3 ===== -/
section ZCA2
variable {G : zG} {p : Program} {e : Env} {s : State} {m : MethodId} {below : List Frame} {meth : Method} {c : Code} {b L i cells slots : Nat} {xs : Nat → Int32} {phC phR : Nat → Nat → Nat} {C R : zH} {H : Heap} {locs : List Loc} {la : Array Slot} {Q : State → Prop}
theorem lc_18 (X : LX G p s m meth c b L xs) (hw : WW G s.heap.size phC C phR R H) (hS : va_S (fun q => s.heap.size ≤ q) s.heap H locs) (I : Inv C R) (ha : lv_has la 4 [(0, .ref b), (1, .ref (phC 0 0)), (2, .ref (phR 40 0)), (3, .int (nI i))]) (hi : i + 7 ≤ L) (hL : L ≤ 3584) (hc : cells ≤ 10000) (hs : slots ≤ 2000000) (K : KO G p e s m below meth c b Q la (phC 0 0) (phR 40 0) cells slots) : W p G.1 e room_1 s m #[Value.ref b] below meth c H locs cells slots Q (F0 m 809 la []) := by
  have hx := X.1
  have hb := X.2.1
  have z0 : 0 < zN C 0 := (J_al I).2.2.2.1
  have z40 : 0 < zN R 40 := (J_al I).2.2.2.2
  refine lv_aload_n hx hb dl_809 rfl (lv_at ha 1 rfl) ?_
  refine lk_rd (k := 1) X hS ha hi hL (by decide) dl_810 dl_811 dl_812 dl_813 dl_814 ?_
  refine lk_rd (k := 2) X hS ha hi hL (by decide) dl_815 dl_816 dl_817 dl_818 dl_819 ?_
  refine lk_rd (k := 3) X hS ha hi hL (by decide) dl_820 dl_821 dl_822 dl_823 dl_824 ?_
  refine lk_bool hx hb dl_825 dl_828 dl_829 dl_832 ?_
  obtain ⟨r0, C1, R1, e1, e2, I1⟩ := t_ask I (xs (i + 1)) (xs (i + 2)) (zbo_c ((xs (i + 3))))
  refine lk_callV (n := 3) (q := 0) (i := 0) (D := 11) (kc' := 5) (ks' := 1684) (As := [vI (xs (i + 1)), vI (xs (i + 2)), vI (zbo (xs (i + 3)))]) (M' := M_X9_ask) (rest := []) X fok_C dl_833 mk_X9_ask ll_833 li_833 ls_833 pc_0 rfl (by simp [Value.category]) (by simp [zo]) z0 (c_X9_ask e1) (by decide) (by omega) (by omega) hw hS ha.1 (fun r S1 ph1 H1 locs1 hP _ hw1 hS1 hl1 hn1 => ?_)
  obtain ⟨rfl, rfl⟩ := hP
  show W p G.1 e room_1 s m #[Value.ref b] below meth c H1 locs1 _ _ Q (F0 m 836 la (.int r0 :: []))
  have q1 := hl1 0 0 z0
  clear hl1 hn1
  refine lv_aload_n hx hb dl_836 rfl (lv_at ha 2 rfl) ?_
  refine lk_rd (k := 1) X hS1 ha hi hL (by decide) dl_837 dl_838 dl_839 dl_840 dl_841 ?_
  refine lk_rd (k := 2) X hS1 ha hi hL (by decide) dl_842 dl_843 dl_844 dl_845 dl_846 ?_
  refine lk_rd (k := 3) X hS1 ha hi hL (by decide) dl_847 dl_848 dl_849 dl_850 dl_851 ?_
  refine lk_bool hx hb dl_852 dl_855 dl_856 dl_859 ?_
  refine lk_callV (n := 3) (q := 40) (i := 0) (D := 63) (kc' := 0) (ks' := 0) (As := [vI (xs (i + 1)), vI (xs (i + 2)), vI (zbo (xs (i + 3)))]) (M' := M_X10_ask) (rest := [.int r0]) X fok_R dl_860 mk_X10_ask ll_860 li_860 ls_860 pc_40 rfl (by simp [Value.category]) (by simp [zo]) z40 (c_X10_ask e2) (by decide) (by omega) (by omega) hw1.symm hS1 ha.1 (fun r S1 ph1 H1 locs1 hP _ hw2 hS2 hl1 hn1 => ?_)
  obtain ⟨rfl, rfl⟩ := hP
  show W p G.1 e room_1 s m #[Value.ref b] below meth c H1 locs1 _ _ Q (F0 m 863 la (.int r0 :: [.int r0]))
  have q2 := hl1 40 0 z40
  clear hl1 hn1
  refine lv_icmp_eq (tgt := 1251) hx hb dl_863 (by decide) (fun _ => ?_) (fun h => absurd rfl h)
  refine W.widen (k := cells + 10) (n := slots + 2000) (by omega) (by omega) ?_
  exact K _ _ _ _ _ _ hw2.symm hS2 (Inv_cut I1) q1 q2
theorem lc_19 (X : LX G p s m meth c b L xs) (hw : WW G s.heap.size phC C phR R H) (hS : va_S (fun q => s.heap.size ≤ q) s.heap H locs) (I : Inv C R) (ha : lv_has la 4 [(0, .ref b), (1, .ref (phC 0 0)), (2, .ref (phR 40 0)), (3, .int (nI i))]) (hi : i + 7 ≤ L) (hL : L ≤ 3584) (hc : cells ≤ 10000) (hs : slots ≤ 2000000) (K : KO G p e s m below meth c b Q la (phC 0 0) (phR 40 0) cells slots) : W p G.1 e room_1 s m #[Value.ref b] below meth c H locs cells slots Q (F0 m 868 la []) := by
  have hx := X.1
  have hb := X.2.1
  have z0 : 0 < zN C 0 := (J_al I).2.2.2.1
  have z40 : 0 < zN R 40 := (J_al I).2.2.2.2
  refine lv_aload_n hx hb dl_868 rfl (lv_at ha 1 rfl) ?_
  refine lk_rd (k := 1) X hS ha hi hL (by decide) dl_869 dl_870 dl_871 dl_872 dl_873 ?_
  obtain ⟨r0, C1, R1, e1, e2, I1⟩ := t_agree I (xs (i + 1))
  refine lk_callV (n := 1) (q := 0) (i := 0) (D := 5) (kc' := 0) (ks' := 0) (As := [vI (xs (i + 1))]) (M' := M_X9_agree) (rest := []) X fok_C dl_874 mk_X9_agree ll_874 li_874 ls_874 pc_0 rfl (by simp [Value.category]) (by simp [zo]) z0 (c_X9_agree e1) (by decide) (by omega) (by omega) hw hS ha.1 (fun r S1 ph1 H1 locs1 hP _ hw1 hS1 hl1 hn1 => ?_)
  obtain ⟨rfl, rfl⟩ := hP
  show W p G.1 e room_1 s m #[Value.ref b] below meth c H1 locs1 _ _ Q (F0 m 877 la (.int r0 :: []))
  have q1 := hl1 0 0 z0
  clear hl1 hn1
  refine lv_aload_n hx hb dl_877 rfl (lv_at ha 2 rfl) ?_
  refine lk_rd (k := 1) X hS1 ha hi hL (by decide) dl_878 dl_879 dl_880 dl_881 dl_882 ?_
  refine lk_callV (n := 1) (q := 40) (i := 0) (D := 2) (kc' := 0) (ks' := 0) (As := [vI (xs (i + 1))]) (M' := M_X10_agree) (rest := [.int r0]) X fok_R dl_883 mk_X10_agree ll_883 li_883 ls_883 pc_40 rfl (by simp [Value.category]) (by simp [zo]) z40 (c_X10_agree e2) (by decide) (by omega) (by omega) hw1.symm hS1 ha.1 (fun r S1 ph1 H1 locs1 hP _ hw2 hS2 hl1 hn1 => ?_)
  obtain ⟨rfl, rfl⟩ := hP
  show W p G.1 e room_1 s m #[Value.ref b] below meth c H1 locs1 _ _ Q (F0 m 886 la (.int r0 :: [.int r0]))
  have q2 := hl1 40 0 z40
  clear hl1 hn1
  refine lv_icmp_eq (tgt := 1251) hx hb dl_886 (by decide) (fun _ => ?_) (fun h => absurd rfl h)
  refine W.widen (k := cells + 10) (n := slots + 2000) (by omega) (by omega) ?_
  exact K _ _ _ _ _ _ hw2.symm hS2 (Inv_cut I1) q1 q2
theorem lc_20 (X : LX G p s m meth c b L xs) (hw : WW G s.heap.size phC C phR R H) (hS : va_S (fun q => s.heap.size ≤ q) s.heap H locs) (I : Inv C R) (ha : lv_has la 4 [(0, .ref b), (1, .ref (phC 0 0)), (2, .ref (phR 40 0)), (3, .int (nI i))]) (hi : i + 7 ≤ L) (hL : L ≤ 3584) (hc : cells ≤ 10000) (hs : slots ≤ 2000000) (K : KO G p e s m below meth c b Q la (phC 0 0) (phR 40 0) cells slots) : W p G.1 e room_1 s m #[Value.ref b] below meth c H locs cells slots Q (F0 m 891 la []) := by
  have hx := X.1
  have hb := X.2.1
  have z0 : 0 < zN C 0 := (J_al I).2.2.2.1
  have z40 : 0 < zN R 40 := (J_al I).2.2.2.2
  refine lv_aload_n hx hb dl_891 rfl (lv_at ha 1 rfl) ?_
  refine lk_rd (k := 1) X hS ha hi hL (by decide) dl_892 dl_893 dl_894 dl_895 dl_896 ?_
  obtain ⟨r0, C1, R1, e1, e2, I1⟩ := t_takeBack I (xs (i + 1))
  refine lk_callV (n := 1) (q := 0) (i := 0) (D := 5) (kc' := 0) (ks' := 0) (As := [vI (xs (i + 1))]) (M' := M_X9_takeBack) (rest := []) X fok_C dl_897 mk_X9_takeBack ll_897 li_897 ls_897 pc_0 rfl (by simp [Value.category]) (by simp [zo]) z0 (c_X9_takeBack e1) (by decide) (by omega) (by omega) hw hS ha.1 (fun r S1 ph1 H1 locs1 hP _ hw1 hS1 hl1 hn1 => ?_)
  obtain ⟨rfl, rfl⟩ := hP
  show W p G.1 e room_1 s m #[Value.ref b] below meth c H1 locs1 _ _ Q (F0 m 900 la (.int r0 :: []))
  have q1 := hl1 0 0 z0
  clear hl1 hn1
  refine lv_aload_n hx hb dl_900 rfl (lv_at ha 2 rfl) ?_
  refine lk_rd (k := 1) X hS1 ha hi hL (by decide) dl_901 dl_902 dl_903 dl_904 dl_905 ?_
  refine lk_callV (n := 1) (q := 40) (i := 0) (D := 2) (kc' := 0) (ks' := 0) (As := [vI (xs (i + 1))]) (M' := M_X10_takeBack) (rest := [.int r0]) X fok_R dl_906 mk_X10_takeBack ll_906 li_906 ls_906 pc_40 rfl (by simp [Value.category]) (by simp [zo]) z40 (c_X10_takeBack e2) (by decide) (by omega) (by omega) hw1.symm hS1 ha.1 (fun r S1 ph1 H1 locs1 hP _ hw2 hS2 hl1 hn1 => ?_)
  obtain ⟨rfl, rfl⟩ := hP
  show W p G.1 e room_1 s m #[Value.ref b] below meth c H1 locs1 _ _ Q (F0 m 909 la (.int r0 :: [.int r0]))
  have q2 := hl1 40 0 z40
  clear hl1 hn1
  refine lv_icmp_eq (tgt := 1251) hx hb dl_909 (by decide) (fun _ => ?_) (fun h => absurd rfl h)
  refine W.widen (k := cells + 10) (n := slots + 2000) (by omega) (by omega) ?_
  exact K _ _ _ _ _ _ hw2.symm hS2 (Inv_cut I1) q1 q2
theorem lc_21 (X : LX G p s m meth c b L xs) (hw : WW G s.heap.size phC C phR R H) (hS : va_S (fun q => s.heap.size ≤ q) s.heap H locs) (I : Inv C R) (ha : lv_has la 4 [(0, .ref b), (1, .ref (phC 0 0)), (2, .ref (phR 40 0)), (3, .int (nI i))]) (hi : i + 7 ≤ L) (hL : L ≤ 3584) (hc : cells ≤ 10000) (hs : slots ≤ 2000000) (K : KO G p e s m below meth c b Q la (phC 0 0) (phR 40 0) cells slots) : W p G.1 e room_1 s m #[Value.ref b] below meth c H locs cells slots Q (F0 m 914 la []) := by
  have hx := X.1
  have hb := X.2.1
  have z0 : 0 < zN C 0 := (J_al I).2.2.2.1
  have z40 : 0 < zN R 40 := (J_al I).2.2.2.2
  refine lv_aload_n hx hb dl_914 rfl (lv_at ha 1 rfl) ?_
  refine lk_rd (k := 1) X hS ha hi hL (by decide) dl_915 dl_916 dl_917 dl_918 dl_919 ?_
  refine lk_rd (k := 2) X hS ha hi hL (by decide) dl_920 dl_921 dl_922 dl_923 dl_924 ?_
  obtain ⟨r0, C1, R1, e1, e2, I1⟩ := t_moveOf I (xs (i + 1)) (xs (i + 2))
  refine lk_callV (n := 2) (q := 0) (i := 0) (D := 5) (kc' := 0) (ks' := 0) (As := [vI (xs (i + 1)), vI (xs (i + 2))]) (M' := M_X9_moveOf) (rest := []) X fok_C dl_925 mk_X9_moveOf ll_925 li_925 ls_925 pc_0 rfl (by simp [Value.category]) (by simp [zo]) z0 (c_X9_moveOf e1) (by decide) (by omega) (by omega) hw hS ha.1 (fun r S1 ph1 H1 locs1 hP _ hw1 hS1 hl1 hn1 => ?_)
  obtain ⟨rfl, rfl⟩ := hP
  show W p G.1 e room_1 s m #[Value.ref b] below meth c H1 locs1 _ _ Q (F0 m 928 la (.int r0 :: []))
  have q1 := hl1 0 0 z0
  clear hl1 hn1
  refine lv_aload_n hx hb dl_928 rfl (lv_at ha 2 rfl) ?_
  refine lk_rd (k := 1) X hS1 ha hi hL (by decide) dl_929 dl_930 dl_931 dl_932 dl_933 ?_
  refine lk_rd (k := 2) X hS1 ha hi hL (by decide) dl_934 dl_935 dl_936 dl_937 dl_938 ?_
  refine lk_callV (n := 2) (q := 40) (i := 0) (D := 2) (kc' := 0) (ks' := 0) (As := [vI (xs (i + 1)), vI (xs (i + 2))]) (M' := M_X10_moveOf) (rest := [.int r0]) X fok_R dl_939 mk_X10_moveOf ll_939 li_939 ls_939 pc_40 rfl (by simp [Value.category]) (by simp [zo]) z40 (c_X10_moveOf e2) (by decide) (by omega) (by omega) hw1.symm hS1 ha.1 (fun r S1 ph1 H1 locs1 hP _ hw2 hS2 hl1 hn1 => ?_)
  obtain ⟨rfl, rfl⟩ := hP
  show W p G.1 e room_1 s m #[Value.ref b] below meth c H1 locs1 _ _ Q (F0 m 942 la (.int r0 :: [.int r0]))
  have q2 := hl1 40 0 z40
  clear hl1 hn1
  refine lv_icmp_eq (tgt := 1251) hx hb dl_942 (by decide) (fun _ => ?_) (fun h => absurd rfl h)
  refine W.widen (k := cells + 10) (n := slots + 2000) (by omega) (by omega) ?_
  exact K _ _ _ _ _ _ hw2.symm hS2 (Inv_cut I1) q1 q2
theorem lc_22 (X : LX G p s m meth c b L xs) (hw : WW G s.heap.size phC C phR R H) (hS : va_S (fun q => s.heap.size ≤ q) s.heap H locs) (I : Inv C R) (ha : lv_has la 4 [(0, .ref b), (1, .ref (phC 0 0)), (2, .ref (phR 40 0)), (3, .int (nI i))]) (hi : i + 7 ≤ L) (hL : L ≤ 3584) (hc : cells ≤ 10000) (hs : slots ≤ 2000000) (K : KO G p e s m below meth c b Q la (phC 0 0) (phR 40 0) cells slots) : W p G.1 e room_1 s m #[Value.ref b] below meth c H locs cells slots Q (F0 m 947 la []) := by
  have hx := X.1
  have hb := X.2.1
  have z0 : 0 < zN C 0 := (J_al I).2.2.2.1
  have z40 : 0 < zN R 40 := (J_al I).2.2.2.2
  refine lv_aload_n hx hb dl_947 rfl (lv_at ha 1 rfl) ?_
  refine lk_rd (k := 1) X hS ha hi hL (by decide) dl_948 dl_949 dl_950 dl_951 dl_952 ?_
  obtain ⟨r0, C1, R1, e1, e2, I1⟩ := t_owes I (xs (i + 1))
  refine lk_callV (n := 1) (q := 0) (i := 0) (D := 1) (kc' := 0) (ks' := 0) (As := [vI (xs (i + 1))]) (M' := M_X9_owes) (rest := []) X fok_C dl_953 mk_X9_owes ll_953 li_953 ls_953 pc_0 rfl (by simp [Value.category]) (by simp [zo]) z0 (c_X9_owes e1) (by decide) (by omega) (by omega) hw hS ha.1 (fun r S1 ph1 H1 locs1 hP _ hw1 hS1 hl1 hn1 => ?_)
  obtain ⟨rfl, rfl⟩ := hP
  show W p G.1 e room_1 s m #[Value.ref b] below meth c H1 locs1 _ _ Q (F0 m 956 la (.int r0 :: []))
  have q1 := hl1 0 0 z0
  clear hl1 hn1
  refine lv_aload_n hx hb dl_956 rfl (lv_at ha 2 rfl) ?_
  refine lk_rd (k := 1) X hS1 ha hi hL (by decide) dl_957 dl_958 dl_959 dl_960 dl_961 ?_
  refine lk_callV (n := 1) (q := 40) (i := 0) (D := 2) (kc' := 0) (ks' := 0) (As := [vI (xs (i + 1))]) (M' := M_X10_owes) (rest := [.int r0]) X fok_R dl_962 mk_X10_owes ll_962 li_962 ls_962 pc_40 rfl (by simp [Value.category]) (by simp [zo]) z40 (c_X10_owes e2) (by decide) (by omega) (by omega) hw1.symm hS1 ha.1 (fun r S1 ph1 H1 locs1 hP _ hw2 hS2 hl1 hn1 => ?_)
  obtain ⟨rfl, rfl⟩ := hP
  show W p G.1 e room_1 s m #[Value.ref b] below meth c H1 locs1 _ _ Q (F0 m 965 la (.int r0 :: [.int r0]))
  have q2 := hl1 40 0 z40
  clear hl1 hn1
  refine lv_icmp_eq (tgt := 1251) hx hb dl_965 (by decide) (fun _ => ?_) (fun h => absurd rfl h)
  refine W.widen (k := cells + 10) (n := slots + 2000) (by omega) (by omega) ?_
  exact K _ _ _ _ _ _ hw2.symm hS2 (Inv_cut I1) q1 q2
theorem lc_23 (X : LX G p s m meth c b L xs) (hw : WW G s.heap.size phC C phR R H) (hS : va_S (fun q => s.heap.size ≤ q) s.heap H locs) (I : Inv C R) (ha : lv_has la 4 [(0, .ref b), (1, .ref (phC 0 0)), (2, .ref (phR 40 0)), (3, .int (nI i))]) (hi : i + 7 ≤ L) (hL : L ≤ 3584) (hc : cells ≤ 10000) (hs : slots ≤ 2000000) (K : KO G p e s m below meth c b Q la (phC 0 0) (phR 40 0) cells slots) : W p G.1 e room_1 s m #[Value.ref b] below meth c H locs cells slots Q (F0 m 970 la []) := by
  have hx := X.1
  have hb := X.2.1
  have z0 : 0 < zN C 0 := (J_al I).2.2.2.1
  have z40 : 0 < zN R 40 := (J_al I).2.2.2.2
  refine lv_aload_n hx hb dl_970 rfl (lv_at ha 1 rfl) ?_
  refine lk_rd (k := 1) X hS ha hi hL (by decide) dl_971 dl_972 dl_973 dl_974 dl_975 ?_
  refine lk_rd (k := 2) X hS ha hi hL (by decide) dl_976 dl_977 dl_978 dl_979 dl_980 ?_
  obtain ⟨r0, C1, R1, e1, e2, I1⟩ := t_like I (xs (i + 1)) (xs (i + 2))
  refine lk_callV (n := 2) (q := 0) (i := 0) (D := 5) (kc' := 0) (ks' := 0) (As := [vI (xs (i + 1)), vI (xs (i + 2))]) (M' := M_X9_like) (rest := []) X fok_C dl_981 mk_X9_like ll_981 li_981 ls_981 pc_0 rfl (by simp [Value.category]) (by simp [zo]) z0 (c_X9_like e1) (by decide) (by omega) (by omega) hw hS ha.1 (fun r S1 ph1 H1 locs1 hP _ hw1 hS1 hl1 hn1 => ?_)
  obtain ⟨rfl, rfl⟩ := hP
  show W p G.1 e room_1 s m #[Value.ref b] below meth c H1 locs1 _ _ Q (F0 m 984 la (.int r0 :: []))
  have q1 := hl1 0 0 z0
  clear hl1 hn1
  refine lv_aload_n hx hb dl_984 rfl (lv_at ha 2 rfl) ?_
  refine lk_rd (k := 1) X hS1 ha hi hL (by decide) dl_985 dl_986 dl_987 dl_988 dl_989 ?_
  refine lk_rd (k := 2) X hS1 ha hi hL (by decide) dl_990 dl_991 dl_992 dl_993 dl_994 ?_
  refine lk_callV (n := 2) (q := 40) (i := 0) (D := 2) (kc' := 0) (ks' := 0) (As := [vI (xs (i + 1)), vI (xs (i + 2))]) (M' := M_X10_like) (rest := [.int r0]) X fok_R dl_995 mk_X10_like ll_995 li_995 ls_995 pc_40 rfl (by simp [Value.category]) (by simp [zo]) z40 (c_X10_like e2) (by decide) (by omega) (by omega) hw1.symm hS1 ha.1 (fun r S1 ph1 H1 locs1 hP _ hw2 hS2 hl1 hn1 => ?_)
  obtain ⟨rfl, rfl⟩ := hP
  show W p G.1 e room_1 s m #[Value.ref b] below meth c H1 locs1 _ _ Q (F0 m 998 la (.int r0 :: [.int r0]))
  have q2 := hl1 40 0 z40
  clear hl1 hn1
  refine lv_icmp_eq (tgt := 1251) hx hb dl_998 (by decide) (fun _ => ?_) (fun h => absurd rfl h)
  refine W.widen (k := cells + 10) (n := slots + 2000) (by omega) (by omega) ?_
  exact K _ _ _ _ _ _ hw2.symm hS2 (Inv_cut I1) q1 q2
theorem lc_24 (X : LX G p s m meth c b L xs) (hw : WW G s.heap.size phC C phR R H) (hS : va_S (fun q => s.heap.size ≤ q) s.heap H locs) (I : Inv C R) (ha : lv_has la 4 [(0, .ref b), (1, .ref (phC 0 0)), (2, .ref (phR 40 0)), (3, .int (nI i))]) (hi : i + 7 ≤ L) (hL : L ≤ 3584) (hc : cells ≤ 10000) (hs : slots ≤ 2000000) (K : KO G p e s m below meth c b Q la (phC 0 0) (phR 40 0) cells slots) : W p G.1 e room_1 s m #[Value.ref b] below meth c H locs cells slots Q (F0 m 1003 la []) := by
  have hx := X.1
  have hb := X.2.1
  have z0 : 0 < zN C 0 := (J_al I).2.2.2.1
  have z40 : 0 < zN R 40 := (J_al I).2.2.2.2
  refine lv_aload_n hx hb dl_1003 rfl (lv_at ha 1 rfl) ?_
  refine lk_rd (k := 1) X hS ha hi hL (by decide) dl_1004 dl_1005 dl_1006 dl_1007 dl_1008 ?_
  refine lk_rd (k := 2) X hS ha hi hL (by decide) dl_1009 dl_1010 dl_1011 dl_1012 dl_1013 ?_
  obtain ⟨r0, C1, R1, e1, e2, I1⟩ := t_rivals I (xs (i + 1)) (xs (i + 2))
  refine lk_callV (n := 2) (q := 0) (i := 0) (D := 6) (kc' := 0) (ks' := 0) (As := [vI (xs (i + 1)), vI (xs (i + 2))]) (M' := M_X9_rivals) (rest := []) X fok_C dl_1014 mk_X9_rivals ll_1014 li_1014 ls_1014 pc_0 rfl (by simp [Value.category]) (by simp [zo]) z0 (c_X9_rivals e1) (by decide) (by omega) (by omega) hw hS ha.1 (fun r S1 ph1 H1 locs1 hP _ hw1 hS1 hl1 hn1 => ?_)
  obtain ⟨rfl, rfl⟩ := hP
  show W p G.1 e room_1 s m #[Value.ref b] below meth c H1 locs1 _ _ Q (F0 m 1017 la (.int r0 :: []))
  have q1 := hl1 0 0 z0
  clear hl1 hn1
  refine lv_aload_n hx hb dl_1017 rfl (lv_at ha 2 rfl) ?_
  refine lk_rd (k := 1) X hS1 ha hi hL (by decide) dl_1018 dl_1019 dl_1020 dl_1021 dl_1022 ?_
  refine lk_rd (k := 2) X hS1 ha hi hL (by decide) dl_1023 dl_1024 dl_1025 dl_1026 dl_1027 ?_
  refine lk_callV (n := 2) (q := 40) (i := 0) (D := 3) (kc' := 0) (ks' := 0) (As := [vI (xs (i + 1)), vI (xs (i + 2))]) (M' := M_X10_rivals) (rest := [.int r0]) X fok_R dl_1028 mk_X10_rivals ll_1028 li_1028 ls_1028 pc_40 rfl (by simp [Value.category]) (by simp [zo]) z40 (c_X10_rivals e2) (by decide) (by omega) (by omega) hw1.symm hS1 ha.1 (fun r S1 ph1 H1 locs1 hP _ hw2 hS2 hl1 hn1 => ?_)
  obtain ⟨rfl, rfl⟩ := hP
  show W p G.1 e room_1 s m #[Value.ref b] below meth c H1 locs1 _ _ Q (F0 m 1031 la (.int r0 :: [.int r0]))
  have q2 := hl1 40 0 z40
  clear hl1 hn1
  refine lv_icmp_eq (tgt := 1251) hx hb dl_1031 (by decide) (fun _ => ?_) (fun h => absurd rfl h)
  refine W.widen (k := cells + 10) (n := slots + 2000) (by omega) (by omega) ?_
  exact K _ _ _ _ _ _ hw2.symm hS2 (Inv_cut I1) q1 q2
theorem lc_25 (X : LX G p s m meth c b L xs) (hw : WW G s.heap.size phC C phR R H) (hS : va_S (fun q => s.heap.size ≤ q) s.heap H locs) (I : Inv C R) (ha : lv_has la 4 [(0, .ref b), (1, .ref (phC 0 0)), (2, .ref (phR 40 0)), (3, .int (nI i))]) (hi : i + 7 ≤ L) (hL : L ≤ 3584) (hc : cells ≤ 10000) (hs : slots ≤ 2000000) (K : KO G p e s m below meth c b Q la (phC 0 0) (phR 40 0) cells slots) : W p G.1 e room_1 s m #[Value.ref b] below meth c H locs cells slots Q (F0 m 1036 la []) := by
  have hx := X.1
  have hb := X.2.1
  have z0 : 0 < zN C 0 := (J_al I).2.2.2.1
  have z40 : 0 < zN R 40 := (J_al I).2.2.2.2
  refine lv_aload_n hx hb dl_1036 rfl (lv_at ha 1 rfl) ?_
  refine lk_rd (k := 1) X hS ha hi hL (by decide) dl_1037 dl_1038 dl_1039 dl_1040 dl_1041 ?_
  refine lk_rd (k := 2) X hS ha hi hL (by decide) dl_1042 dl_1043 dl_1044 dl_1045 dl_1046 ?_
  refine lk_rd (k := 3) X hS ha hi hL (by decide) dl_1047 dl_1048 dl_1049 dl_1050 dl_1051 ?_
  obtain ⟨r0, C1, R1, e1, e2, I1⟩ := t_rival I (xs (i + 1)) (xs (i + 2)) (xs (i + 3))
  refine lk_callV (n := 3) (q := 0) (i := 0) (D := 6) (kc' := 0) (ks' := 0) (As := [vI (xs (i + 1)), vI (xs (i + 2)), vI (xs (i + 3))]) (M' := M_X9_rival) (rest := []) X fok_C dl_1052 mk_X9_rival ll_1052 li_1052 ls_1052 pc_0 rfl (by simp [Value.category]) (by simp [zo]) z0 (c_X9_rival e1) (by decide) (by omega) (by omega) hw hS ha.1 (fun r S1 ph1 H1 locs1 hP _ hw1 hS1 hl1 hn1 => ?_)
  obtain ⟨rfl, rfl⟩ := hP
  show W p G.1 e room_1 s m #[Value.ref b] below meth c H1 locs1 _ _ Q (F0 m 1055 la (.int r0 :: []))
  have q1 := hl1 0 0 z0
  clear hl1 hn1
  refine lv_aload_n hx hb dl_1055 rfl (lv_at ha 2 rfl) ?_
  refine lk_rd (k := 1) X hS1 ha hi hL (by decide) dl_1056 dl_1057 dl_1058 dl_1059 dl_1060 ?_
  refine lk_rd (k := 2) X hS1 ha hi hL (by decide) dl_1061 dl_1062 dl_1063 dl_1064 dl_1065 ?_
  refine lk_rd (k := 3) X hS1 ha hi hL (by decide) dl_1066 dl_1067 dl_1068 dl_1069 dl_1070 ?_
  refine lk_callV (n := 3) (q := 40) (i := 0) (D := 3) (kc' := 0) (ks' := 0) (As := [vI (xs (i + 1)), vI (xs (i + 2)), vI (xs (i + 3))]) (M' := M_X10_rival) (rest := [.int r0]) X fok_R dl_1071 mk_X10_rival ll_1071 li_1071 ls_1071 pc_40 rfl (by simp [Value.category]) (by simp [zo]) z40 (c_X10_rival e2) (by decide) (by omega) (by omega) hw1.symm hS1 ha.1 (fun r S1 ph1 H1 locs1 hP _ hw2 hS2 hl1 hn1 => ?_)
  obtain ⟨rfl, rfl⟩ := hP
  show W p G.1 e room_1 s m #[Value.ref b] below meth c H1 locs1 _ _ Q (F0 m 1074 la (.int r0 :: [.int r0]))
  have q2 := hl1 40 0 z40
  clear hl1 hn1
  refine lv_icmp_eq (tgt := 1251) hx hb dl_1074 (by decide) (fun _ => ?_) (fun h => absurd rfl h)
  refine W.widen (k := cells + 10) (n := slots + 2000) (by omega) (by omega) ?_
  exact K _ _ _ _ _ _ hw2.symm hS2 (Inv_cut I1) q1 q2
theorem lc_26 (X : LX G p s m meth c b L xs) (hw : WW G s.heap.size phC C phR R H) (hS : va_S (fun q => s.heap.size ≤ q) s.heap H locs) (I : Inv C R) (ha : lv_has la 4 [(0, .ref b), (1, .ref (phC 0 0)), (2, .ref (phR 40 0)), (3, .int (nI i))]) (hi : i + 7 ≤ L) (hL : L ≤ 3584) (hc : cells ≤ 10000) (hs : slots ≤ 2000000) (K : KO G p e s m below meth c b Q la (phC 0 0) (phR 40 0) cells slots) : W p G.1 e room_1 s m #[Value.ref b] below meth c H locs cells slots Q (F0 m 1079 la []) := by
  have hx := X.1
  have hb := X.2.1
  have z0 : 0 < zN C 0 := (J_al I).2.2.2.1
  have z40 : 0 < zN R 40 := (J_al I).2.2.2.2
  refine lv_aload_n hx hb dl_1079 rfl (lv_at ha 1 rfl) ?_
  refine lk_rd (k := 1) X hS ha hi hL (by decide) dl_1080 dl_1081 dl_1082 dl_1083 dl_1084 ?_
  obtain ⟨r0, C1, R1, e1, e2, I1⟩ := t_net I (xs (i + 1))
  refine lk_callV (n := 1) (q := 0) (i := 0) (D := 2) (kc' := 0) (ks' := 0) (As := [vI (xs (i + 1))]) (M' := M_X9_net) (rest := []) X fok_C dl_1085 mk_X9_net ll_1085 li_1085 ls_1085 pc_0 rfl (by simp [Value.category]) (by simp [zo]) z0 (c_X9_net e1) (by decide) (by omega) (by omega) hw hS ha.1 (fun r S1 ph1 H1 locs1 hP _ hw1 hS1 hl1 hn1 => ?_)
  obtain ⟨rfl, rfl⟩ := hP
  show W p G.1 e room_1 s m #[Value.ref b] below meth c H1 locs1 _ _ Q (F0 m 1088 la (.long r0 :: []))
  have q1 := hl1 0 0 z0
  clear hl1 hn1
  refine lv_aload_n hx hb dl_1088 rfl (lv_at ha 2 rfl) ?_
  refine lk_rd (k := 1) X hS1 ha hi hL (by decide) dl_1089 dl_1090 dl_1091 dl_1092 dl_1093 ?_
  refine lk_callV (n := 1) (q := 40) (i := 0) (D := 2) (kc' := 0) (ks' := 0) (As := [vI (xs (i + 1))]) (M' := M_X10_net) (rest := [.long r0]) X fok_R dl_1094 mk_X10_net ll_1094 li_1094 ls_1094 pc_40 rfl (by simp [Value.category]) (by simp [zo]) z40 (c_X10_net e2) (by decide) (by omega) (by omega) hw1.symm hS1 ha.1 (fun r S1 ph1 H1 locs1 hP _ hw2 hS2 hl1 hn1 => ?_)
  obtain ⟨rfl, rfl⟩ := hP
  show W p G.1 e room_1 s m #[Value.ref b] below meth c H1 locs1 _ _ Q (F0 m 1097 la (.long r0 :: [.long r0]))
  have q2 := hl1 40 0 z40
  clear hl1 hn1
  refine W.lcmp hx hb dl_1097 ?_
  refine lv_if_eq (tgt := 1251) hx hb dl_1098 (by decide) (fun _ => ?_) (fun h => absurd ((lc_eq _ _).mpr rfl) h)
  refine W.widen (k := cells + 10) (n := slots + 2000) (by omega) (by omega) ?_
  exact K _ _ _ _ _ _ hw2.symm hS2 (Inv_cut I1) q1 q2
end ZCA2
