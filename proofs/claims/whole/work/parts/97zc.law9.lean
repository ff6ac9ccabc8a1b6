/-! ===== the law: mast, wind, count, fewest, undo ===== -/
section LAW11
variable {G : GG} {h : AH} {y x kp nx la k : Nat} {o : Nat → Nat} {ps : Nat → Nat → Int32} {Q : Option Value → AH → Prop}
set_option maxRecDepth 100000 in
set_option maxHeartbeats 4000000 in
theorem ovF_ne {F : Nat → Nat → Int32} {b a : Nat} {v : Nat → Int32} (hne : a ≠ b) : ovF F b v a = F a := funext fun j => if_neg hne
set_option maxRecDepth 100000 in
set_option maxHeartbeats 4000000 in
theorem cs_20 (R : Rel h y x o kp nx la ps) (r : Ro G k h) (hk6 : 6 * k + 6 ≤ gL G) (hL : gL G ≤ 3072) (kc : Kc G y x k Q) : Rn G 10 mL_law 986 [(0, .ref (gb G)), (1, .ref y), (2, .ref x), (3, .int (nI (6 * k)))] [] h Q := by
  have ky := R.ky
  have kx := R.kx
  have hk5 : k < 512 := by omega
  have rm := r.rm hk5
  obtain ⟨⟨M, K, T⟩, C, A, ⟨I, B⟩, H⟩ := id R
  first | refine x_aload_n eL_law_986 rfl rfl ?_ | refine x_aload_nN eL_law_986 rfl rfl ?_
  first | refine x_aload_n eL_law_987 rfl rfl ?_ | refine x_aload_nN eL_law_987 rfl rfl ?_
  refine x_iload_n eL_law_988 rfl rfl ?_
  refine x_iconst (v := nI 1) eL_law_989 (by decide) ?_
  first | refine x_iaddN eL_law_990 (by with_reducible rfl) (by with_reducible rfl) ?_ | refine x_iadd eL_law_990 ?_
  refine x_scr eL_law_991 (by with_reducible rfl) (by omega) (by omega) ?_
  first | refine x_aload_n eL_law_992 rfl rfl ?_ | refine x_aload_nN eL_law_992 rfl rfl ?_
  refine x_iload_n eL_law_993 rfl rfl ?_
  refine x_iconst (v := nI 2) eL_law_994 (by decide) ?_
  first | refine x_iaddN eL_law_995 (by with_reducible rfl) (by with_reducible rfl) ?_ | refine x_iadd eL_law_995 ?_
  refine x_scr eL_law_996 (by with_reducible rfl) (by omega) (by omega) ?_
  first | refine x_callV2 eL_law_997 lk_L_102 (by assumption) (Nat.le_of_ble_eq_true rfl) (Nat.le_of_ble_eq_true rfl) ?_ | refine x_callVw2 eL_law_997 lk_L_102 (by assumption) (Nat.le_of_ble_eq_true rfl) (Nat.le_of_ble_eq_true rfl) (Nat.le_of_ble_eq_true rfl) ?_
  refine Rn.deep (c_X8_mast (d := 0) C I A (fun z _ => ?_) (fun z h2 P x1 => ?_)) (by omega)
  · first | refine x_aload_n eL_law_1000 rfl rfl ?_ | refine x_aload_nN eL_law_1000 rfl rfl ?_
    first | refine x_aload_n eL_law_1001 rfl rfl ?_ | refine x_aload_nN eL_law_1001 rfl rfl ?_
    refine x_iload_n eL_law_1002 rfl rfl ?_
    refine x_iconst (v := nI 1) eL_law_1003 (by decide) ?_
    first | refine x_iaddN eL_law_1004 (by with_reducible rfl) (by with_reducible rfl) ?_ | refine x_iadd eL_law_1004 ?_
    refine x_scr eL_law_1005 (by with_reducible rfl) (by omega) (by omega) ?_
    first | refine x_aload_n eL_law_1006 rfl rfl ?_ | refine x_aload_nN eL_law_1006 rfl rfl ?_
    refine x_iload_n eL_law_1007 rfl rfl ?_
    refine x_iconst (v := nI 2) eL_law_1008 (by decide) ?_
    first | refine x_iaddN eL_law_1009 (by with_reducible rfl) (by with_reducible rfl) ?_ | refine x_iadd eL_law_1009 ?_
    refine x_scr eL_law_1010 (by with_reducible rfl) (by omega) (by omega) ?_
    first | refine x_callV2 eL_law_1011 lk_L_105 (by assumption) (Nat.le_of_ble_eq_true rfl) (Nat.le_of_ble_eq_true rfl) ?_ | refine x_callVw2 eL_law_1011 lk_L_105 (by assumption) (Nat.le_of_ble_eq_true rfl) (Nat.le_of_ble_eq_true rfl) (Nat.le_of_ble_eq_true rfl) ?_
    refine Rn.deep (c_X9_mast (d := 0) M (fun z2 _ => ?_) (fun z2 => absurd (z2.symm.trans z) (by decide))) (by omega)
    first | refine x_icmp_eqN (tgt := 1299) eL_law_1014 (by decide) (by with_reducible rfl) (by with_reducible rfl) (by omega) (by omega) (fun cq1 => ?_) (fun cq1 => ?_) | refine x_icmp_eq (tgt := 1299) eL_law_1014 (by decide) (fun cq1 => ?_) (fun cq1 => ?_)
    · refine Rn.weak (kc _ (St.same R r hk5)) (by repeat' first | exact fun _ h => absurd h List.not_mem_nil | refine List.forall_mem_cons.mpr ⟨rfl, ?_⟩)
    · exact absurd rfl cq1
  · obtain ⟨o2, -, -, Z, -, -⟩ := id P
    obtain ⟨M2, K2, T2, E2, kx2⟩ := R.mid Z
    have e1 : hi h2 (x + 1) = hi h (x + 1) := E2 1 (by omega)
    have e3 : hi h2 (x + 3) = hi h (x + 3) := E2 3 (by omega)
    have e4 : hi h2 (x + 4) = hi h (x + 4) := E2 4 (by omega)
    first | refine x_aload_n eL_law_1000 rfl rfl ?_ | refine x_aload_nN eL_law_1000 rfl rfl ?_
    first | refine x_aload_n eL_law_1001 rfl rfl ?_ | refine x_aload_nN eL_law_1001 rfl rfl ?_
    refine x_iload_n eL_law_1002 rfl rfl ?_
    refine x_iconst (v := nI 1) eL_law_1003 (by decide) ?_
    first | refine x_iaddN eL_law_1004 (by with_reducible rfl) (by with_reducible rfl) ?_ | refine x_iadd eL_law_1004 ?_
    refine x_scr eL_law_1005 (by with_reducible rfl) (by omega) (by omega) ?_
    first | refine x_aload_n eL_law_1006 rfl rfl ?_ | refine x_aload_nN eL_law_1006 rfl rfl ?_
    refine x_iload_n eL_law_1007 rfl rfl ?_
    refine x_iconst (v := nI 2) eL_law_1008 (by decide) ?_
    first | refine x_iaddN eL_law_1009 (by with_reducible rfl) (by with_reducible rfl) ?_ | refine x_iadd eL_law_1009 ?_
    refine x_scr eL_law_1010 (by with_reducible rfl) (by omega) (by omega) ?_
    first | refine x_callV2 eL_law_1011 lk_L_105 (by assumption) (Nat.le_of_ble_eq_true rfl) (Nat.le_of_ble_eq_true rfl) ?_ | refine x_callVw2 eL_law_1011 lk_L_105 (by assumption) (Nat.le_of_ble_eq_true rfl) (Nat.le_of_ble_eq_true rfl) (Nat.le_of_ble_eq_true rfl) ?_
    refine Rn.deep (c_X9_mast (d := 0) M2 (fun z2 => absurd (z2.symm.trans z) (by decide)) (fun z2 _ => ?_)) (by omega)
    first | refine x_icmp_eqN (tgt := 1299) eL_law_1014 (by decide) (by with_reducible rfl) (by with_reducible rfl) (by omega) (by omega) (fun cq2 => ?_) (fun cq2 => ?_) | refine x_icmp_eq (tgt := 1299) eL_law_1014 (by decide) (fun cq2 => ?_) (fun cq2 => ?_)
    · refine Rn.weak (kc _ (St.mast R r hk5 x1 P)) (by repeat' first | exact fun _ h => absurd h List.not_mem_nil | refine List.forall_mem_cons.mpr ⟨rfl, ?_⟩)
    · exact absurd rfl cq2
set_option maxRecDepth 100000 in
set_option maxHeartbeats 4000000 in
theorem cs_21 (R : Rel h y x o kp nx la ps) (r : Ro G k h) (hk6 : 6 * k + 6 ≤ gL G) (hL : gL G ≤ 3072) (kc : Kc G y x k Q) : Rn G 10 mL_law 1019 [(0, .ref (gb G)), (1, .ref y), (2, .ref x), (3, .int (nI (6 * k)))] [] h Q := by
  have ky := R.ky
  have kx := R.kx
  have hk5 : k < 512 := by omega
  have rm := r.rm hk5
  obtain ⟨⟨M, K, T⟩, C, A, ⟨I, B⟩, H⟩ := id R
  first | refine x_aload_n eL_law_1019 rfl rfl ?_ | refine x_aload_nN eL_law_1019 rfl rfl ?_
  first | refine x_aload_n eL_law_1020 rfl rfl ?_ | refine x_aload_nN eL_law_1020 rfl rfl ?_
  refine x_iload_n eL_law_1021 rfl rfl ?_
  refine x_iconst (v := nI 1) eL_law_1022 (by decide) ?_
  first | refine x_iaddN eL_law_1023 (by with_reducible rfl) (by with_reducible rfl) ?_ | refine x_iadd eL_law_1023 ?_
  refine x_scr eL_law_1024 (by with_reducible rfl) (by omega) (by omega) ?_
  first | refine x_aload_n eL_law_1025 rfl rfl ?_ | refine x_aload_nN eL_law_1025 rfl rfl ?_
  refine x_iload_n eL_law_1026 rfl rfl ?_
  refine x_iconst (v := nI 2) eL_law_1027 (by decide) ?_
  first | refine x_iaddN eL_law_1028 (by with_reducible rfl) (by with_reducible rfl) ?_ | refine x_iadd eL_law_1028 ?_
  refine x_scr eL_law_1029 (by with_reducible rfl) (by omega) (by omega) ?_
  first | refine x_callV2 eL_law_1030 lk_L_106 (by assumption) (Nat.le_of_ble_eq_true rfl) (Nat.le_of_ble_eq_true rfl) ?_ | refine x_callVw2 eL_law_1030 lk_L_106 (by assumption) (Nat.le_of_ble_eq_true rfl) (Nat.le_of_ble_eq_true rfl) (Nat.le_of_ble_eq_true rfl) ?_
  refine Rn.deep (c_X8_wind (d := 0) C I A (fun z _ => ?_) (fun z h2 P x1 => ?_)) (by omega)
  · first | refine x_aload_n eL_law_1033 rfl rfl ?_ | refine x_aload_nN eL_law_1033 rfl rfl ?_
    first | refine x_aload_n eL_law_1034 rfl rfl ?_ | refine x_aload_nN eL_law_1034 rfl rfl ?_
    refine x_iload_n eL_law_1035 rfl rfl ?_
    refine x_iconst (v := nI 1) eL_law_1036 (by decide) ?_
    first | refine x_iaddN eL_law_1037 (by with_reducible rfl) (by with_reducible rfl) ?_ | refine x_iadd eL_law_1037 ?_
    refine x_scr eL_law_1038 (by with_reducible rfl) (by omega) (by omega) ?_
    first | refine x_aload_n eL_law_1039 rfl rfl ?_ | refine x_aload_nN eL_law_1039 rfl rfl ?_
    refine x_iload_n eL_law_1040 rfl rfl ?_
    refine x_iconst (v := nI 2) eL_law_1041 (by decide) ?_
    first | refine x_iaddN eL_law_1042 (by with_reducible rfl) (by with_reducible rfl) ?_ | refine x_iadd eL_law_1042 ?_
    refine x_scr eL_law_1043 (by with_reducible rfl) (by omega) (by omega) ?_
    first | refine x_callV2 eL_law_1044 lk_L_109 (by assumption) (Nat.le_of_ble_eq_true rfl) (Nat.le_of_ble_eq_true rfl) ?_ | refine x_callVw2 eL_law_1044 lk_L_109 (by assumption) (Nat.le_of_ble_eq_true rfl) (Nat.le_of_ble_eq_true rfl) (Nat.le_of_ble_eq_true rfl) ?_
    refine Rn.deep (c_X9_wind (d := 0) M (fun z2 _ => ?_) (fun z2 => absurd (z2.symm.trans z) (by decide))) (by omega)
    first | refine x_icmp_eqN (tgt := 1299) eL_law_1047 (by decide) (by with_reducible rfl) (by with_reducible rfl) (by omega) (by omega) (fun cq1 => ?_) (fun cq1 => ?_) | refine x_icmp_eq (tgt := 1299) eL_law_1047 (by decide) (fun cq1 => ?_) (fun cq1 => ?_)
    · refine Rn.weak (kc _ (St.same R r hk5)) (by repeat' first | exact fun _ h => absurd h List.not_mem_nil | refine List.forall_mem_cons.mpr ⟨rfl, ?_⟩)
    · exact absurd rfl cq1
  · obtain ⟨o2, -, -, Z, -, -⟩ := id P
    obtain ⟨M2, K2, T2, E2, kx2⟩ := R.mid Z
    have e1 : hi h2 (x + 1) = hi h (x + 1) := E2 1 (by omega)
    have e3 : hi h2 (x + 3) = hi h (x + 3) := E2 3 (by omega)
    have e4 : hi h2 (x + 4) = hi h (x + 4) := E2 4 (by omega)
    first | refine x_aload_n eL_law_1033 rfl rfl ?_ | refine x_aload_nN eL_law_1033 rfl rfl ?_
    first | refine x_aload_n eL_law_1034 rfl rfl ?_ | refine x_aload_nN eL_law_1034 rfl rfl ?_
    refine x_iload_n eL_law_1035 rfl rfl ?_
    refine x_iconst (v := nI 1) eL_law_1036 (by decide) ?_
    first | refine x_iaddN eL_law_1037 (by with_reducible rfl) (by with_reducible rfl) ?_ | refine x_iadd eL_law_1037 ?_
    refine x_scr eL_law_1038 (by with_reducible rfl) (by omega) (by omega) ?_
    first | refine x_aload_n eL_law_1039 rfl rfl ?_ | refine x_aload_nN eL_law_1039 rfl rfl ?_
    refine x_iload_n eL_law_1040 rfl rfl ?_
    refine x_iconst (v := nI 2) eL_law_1041 (by decide) ?_
    first | refine x_iaddN eL_law_1042 (by with_reducible rfl) (by with_reducible rfl) ?_ | refine x_iadd eL_law_1042 ?_
    refine x_scr eL_law_1043 (by with_reducible rfl) (by omega) (by omega) ?_
    first | refine x_callV2 eL_law_1044 lk_L_109 (by assumption) (Nat.le_of_ble_eq_true rfl) (Nat.le_of_ble_eq_true rfl) ?_ | refine x_callVw2 eL_law_1044 lk_L_109 (by assumption) (Nat.le_of_ble_eq_true rfl) (Nat.le_of_ble_eq_true rfl) (Nat.le_of_ble_eq_true rfl) ?_
    refine Rn.deep (c_X9_wind (d := 0) M2 (fun z2 => absurd (z2.symm.trans z) (by decide)) (fun z2 _ => ?_)) (by omega)
    first | refine x_icmp_eqN (tgt := 1299) eL_law_1047 (by decide) (by with_reducible rfl) (by with_reducible rfl) (by omega) (by omega) (fun cq2 => ?_) (fun cq2 => ?_) | refine x_icmp_eq (tgt := 1299) eL_law_1047 (by decide) (fun cq2 => ?_) (fun cq2 => ?_)
    · refine Rn.weak (kc _ (St.wind R r hk5 x1 P)) (by repeat' first | exact fun _ h => absurd h List.not_mem_nil | refine List.forall_mem_cons.mpr ⟨rfl, ?_⟩)
    · exact absurd rfl cq2
set_option maxRecDepth 100000 in
set_option maxHeartbeats 4000000 in
theorem cs_31 (R : Rel h y x o kp nx la ps) (r : Ro G k h) (hk6 : 6 * k + 6 ≤ gL G) (hL : gL G ≤ 3072) (kc : Kc G y x k Q) : Rn G 10 mL_law 1276 [(0, .ref (gb G)), (1, .ref y), (2, .ref x), (3, .int (nI (6 * k)))] [] h Q := by
  have ky := R.ky
  have kx := R.kx
  have hk5 : k < 512 := by omega
  have rm := r.rm hk5
  obtain ⟨⟨M, K, T⟩, C, A, ⟨I, B⟩, H⟩ := id R
  first | refine x_aload_n eL_law_1276 rfl rfl ?_ | refine x_aload_nN eL_law_1276 rfl rfl ?_
  first | refine x_aload_n eL_law_1277 rfl rfl ?_ | refine x_aload_nN eL_law_1277 rfl rfl ?_
  refine x_iload_n eL_law_1278 rfl rfl ?_
  refine x_iconst (v := nI 1) eL_law_1279 (by decide) ?_
  first | refine x_iaddN eL_law_1280 (by with_reducible rfl) (by with_reducible rfl) ?_ | refine x_iadd eL_law_1280 ?_
  refine x_scr eL_law_1281 (by with_reducible rfl) (by omega) (by omega) ?_
  refine x_callV1 eL_law_1282 lk_L_150 (by assumption) (Nat.le_of_ble_eq_true rfl) (Nat.le_of_ble_eq_true rfl) ?_
  refine c_X8_count C A (fun _ => ?_)
  first | refine x_aload_n eL_law_1285 rfl rfl ?_ | refine x_aload_nN eL_law_1285 rfl rfl ?_
  first | refine x_aload_n eL_law_1286 rfl rfl ?_ | refine x_aload_nN eL_law_1286 rfl rfl ?_
  refine x_iload_n eL_law_1287 rfl rfl ?_
  refine x_iconst (v := nI 1) eL_law_1288 (by decide) ?_
  first | refine x_iaddN eL_law_1289 (by with_reducible rfl) (by with_reducible rfl) ?_ | refine x_iadd eL_law_1289 ?_
  refine x_scr eL_law_1290 (by with_reducible rfl) (by omega) (by omega) ?_
  refine x_callV1 eL_law_1291 lk_L_153 (by assumption) (Nat.le_of_ble_eq_true rfl) (Nat.le_of_ble_eq_true rfl) ?_
  refine c_X9_count M (fun _ => ?_)
  rw [K.1]
  first | refine x_icmp_eqN (tgt := 1299) eL_law_1294 (by decide) (by with_reducible rfl) (by with_reducible rfl) (by omega) (by omega) (fun cq1 => ?_) (fun cq1 => ?_) | refine x_icmp_eq (tgt := 1299) eL_law_1294 (by decide) (fun cq1 => ?_) (fun cq1 => ?_)
  · refine Rn.weak (kc _ (St.same R r hk5)) (by repeat' first | exact fun _ h => absurd h List.not_mem_nil | refine List.forall_mem_cons.mpr ⟨rfl, ?_⟩)
  · exact absurd rfl cq1
set_option maxRecDepth 100000 in
set_option maxHeartbeats 4000000 in
theorem cs_19 (R : Rel h y x o kp nx la ps) (r : Ro G k h) (hk6 : 6 * k + 6 ≤ gL G) (hL : gL G ≤ 3072) (kc : Kc G y x k Q) : Rn G 10 mL_law 953 [(0, .ref (gb G)), (1, .ref y), (2, .ref x), (3, .int (nI (6 * k)))] [] h Q := by
  have ky := R.ky
  have kx := R.kx
  have hk5 : k < 512 := by omega
  have rm := r.rm hk5
  obtain ⟨⟨M, K, T⟩, C, A, ⟨I, B⟩, H⟩ := id R
  first | refine x_aload_n eL_law_953 rfl rfl ?_ | refine x_aload_nN eL_law_953 rfl rfl ?_
  first | refine x_aload_n eL_law_954 rfl rfl ?_ | refine x_aload_nN eL_law_954 rfl rfl ?_
  refine x_iload_n eL_law_955 rfl rfl ?_
  refine x_iconst (v := nI 1) eL_law_956 (by decide) ?_
  first | refine x_iaddN eL_law_957 (by with_reducible rfl) (by with_reducible rfl) ?_ | refine x_iadd eL_law_957 ?_
  refine x_scr eL_law_958 (by with_reducible rfl) (by omega) (by omega) ?_
  first | refine x_aload_n eL_law_959 rfl rfl ?_ | refine x_aload_nN eL_law_959 rfl rfl ?_
  refine x_iload_n eL_law_960 rfl rfl ?_
  refine x_iconst (v := nI 2) eL_law_961 (by decide) ?_
  first | refine x_iaddN eL_law_962 (by with_reducible rfl) (by with_reducible rfl) ?_ | refine x_iadd eL_law_962 ?_
  refine x_scr eL_law_963 (by with_reducible rfl) (by omega) (by omega) ?_
  first | refine x_callV2 eL_law_964 lk_L_98 (by assumption) (Nat.le_of_ble_eq_true rfl) (Nat.le_of_ble_eq_true rfl) ?_ | refine x_callVw2 eL_law_964 lk_L_98 (by assumption) (Nat.le_of_ble_eq_true rfl) (Nat.le_of_ble_eq_true rfl) (Nat.le_of_ble_eq_true rfl) ?_
  refine Rn.deep (c_X8_fewest (d := 0) C A I rm (fun h2 P x1 => ?_)) (by omega)
  obtain ⟨o2, -, -, Z, -, -⟩ := id P
  obtain ⟨M2, K2, T2, E2, kx2⟩ := R.mid Z
  have e1 : hi h2 (x + 1) = hi h (x + 1) := E2 1 (by omega)
  have e3 : hi h2 (x + 3) = hi h (x + 3) := E2 3 (by omega)
  have e4 : hi h2 (x + 4) = hi h (x + 4) := E2 4 (by omega)
  first | refine x_aload_n eL_law_967 rfl rfl ?_ | refine x_aload_nN eL_law_967 rfl rfl ?_
  first | refine x_aload_n eL_law_968 rfl rfl ?_ | refine x_aload_nN eL_law_968 rfl rfl ?_
  refine x_iload_n eL_law_969 rfl rfl ?_
  refine x_iconst (v := nI 1) eL_law_970 (by decide) ?_
  first | refine x_iaddN eL_law_971 (by with_reducible rfl) (by with_reducible rfl) ?_ | refine x_iadd eL_law_971 ?_
  refine x_scr eL_law_972 (by with_reducible rfl) (by omega) (by omega) ?_
  first | refine x_aload_n eL_law_973 rfl rfl ?_ | refine x_aload_nN eL_law_973 rfl rfl ?_
  refine x_iload_n eL_law_974 rfl rfl ?_
  refine x_iconst (v := nI 2) eL_law_975 (by decide) ?_
  first | refine x_iaddN eL_law_976 (by with_reducible rfl) (by with_reducible rfl) ?_ | refine x_iadd eL_law_976 ?_
  refine x_scr eL_law_977 (by with_reducible rfl) (by omega) (by omega) ?_
  first | refine x_callV2 eL_law_978 lk_L_101 (by assumption) (Nat.le_of_ble_eq_true rfl) (Nat.le_of_ble_eq_true rfl) ?_ | refine x_callVw2 eL_law_978 lk_L_101 (by assumption) (Nat.le_of_ble_eq_true rfl) (Nat.le_of_ble_eq_true rfl) (Nat.le_of_ble_eq_true rfl) ?_
  refine Rn.deep (c_X9_fewest (d := 0) M2 (by rw [e1]; exact I.gw) (fun v m b _ => ?_)) (by omega)
  rw [e1]
  first | refine x_icmp_eqN (tgt := 1299) eL_law_981 (by decide) (by with_reducible rfl) (by with_reducible rfl) (by omega) (by omega) (fun cq1 => ?_) (fun cq1 => ?_) | refine x_icmp_eq (tgt := 1299) eL_law_981 (by decide) (fun cq1 => ?_) (fun cq1 => ?_)
  · refine Rn.weak (kc (setI h2 (ovF (ovF (ovF (hi h2) (x + 6) v) (x + 7) m) (x + 8) b)) (St.still (h2 := h2) (F := ovF (ovF (ovF (hi h2) (x + 6) v) (x + 7) m) (x + 8) b) R r hk5 x1 P (fun a ha => (ovF_ne (by omega)).trans ((ovF_ne (by omega)).trans (ovF_ne (by omega)))))) (by repeat' first | exact fun _ h => absurd h List.not_mem_nil | refine List.forall_mem_cons.mpr ⟨rfl, ?_⟩)
  · exact absurd rfl cq1
set_option maxRecDepth 100000 in
set_option maxHeartbeats 4000000 in
theorem cs_30 (R : Rel h y x o kp nx la ps) (r : Ro G k h) (hk6 : 6 * k + 6 ≤ gL G) (hL : gL G ≤ 3072) (kc : Kc G y x k Q) : Rn G 10 mL_law 1263 [(0, .ref (gb G)), (1, .ref y), (2, .ref x), (3, .int (nI (6 * k)))] [] h Q := by
  have ky := R.ky
  have kx := R.kx
  have hk5 : k < 512 := by omega
  have rm := r.rm hk5
  obtain ⟨⟨M, K, T⟩, C, A, ⟨I, B⟩, H⟩ := id R
  first | refine x_aload_n eL_law_1263 rfl rfl ?_ | refine x_aload_nN eL_law_1263 rfl rfl ?_
  refine x_callV0 eL_law_1264 lk_L_145 (by assumption) (Nat.le_of_ble_eq_true rfl) (Nat.le_of_ble_eq_true rfl) ?_
  refine Rn.deep (c_X8_undo (d := 0) C A I (fun j hj => (H j hj).1) (fun z _ => ?_) (fun z h2 P x1 => ?_)) (by omega)
  · first | refine x_aload_n eL_law_1267 rfl rfl ?_ | refine x_aload_nN eL_law_1267 rfl rfl ?_
    refine x_callV0 eL_law_1268 lk_L_149 (by assumption) (Nat.le_of_ble_eq_true rfl) (Nat.le_of_ble_eq_true rfl) ?_
    refine Rn.deep (c_X9_undo (d := 0) M K (fun z2 _ => ?_) (fun z2 => absurd z2 (by omega))) (by omega)
    first | refine x_icmp_eqN (tgt := 1299) eL_law_1271 (by decide) (by with_reducible rfl) (by with_reducible rfl) (by omega) (by omega) (fun cq1 => ?_) (fun cq1 => ?_) | refine x_icmp_eq (tgt := 1299) eL_law_1271 (by decide) (fun cq1 => ?_) (fun cq1 => ?_)
    · refine Rn.weak (kc _ (St.same R r hk5)) (by repeat' first | exact fun _ h => absurd h List.not_mem_nil | refine List.forall_mem_cons.mpr ⟨rfl, ?_⟩)
    · exact absurd rfl cq1
  · obtain ⟨o2, -, -, Z, -, -⟩ := id P
    obtain ⟨M2, K2, T2, E2, kx2⟩ := R.mid Z
    have e1 : hi h2 (x + 1) = hi h (x + 1) := E2 1 (by omega)
    have e3 : hi h2 (x + 3) = hi h (x + 3) := E2 3 (by omega)
    have e4 : hi h2 (x + 4) = hi h (x + 4) := E2 4 (by omega)
    first | refine x_aload_n eL_law_1267 rfl rfl ?_ | refine x_aload_nN eL_law_1267 rfl rfl ?_
    refine x_callV0 eL_law_1268 lk_L_149 (by assumption) (Nat.le_of_ble_eq_true rfl) (Nat.le_of_ble_eq_true rfl) ?_
    refine Rn.deep (c_X9_undo (d := 0) M2 K2 (fun z2 => absurd z (by omega)) (fun z2 _ => ?_)) (by omega)
    first | refine x_icmp_eqN (tgt := 1299) eL_law_1271 (by decide) (by with_reducible rfl) (by with_reducible rfl) (by omega) (by omega) (fun cq2 => ?_) (fun cq2 => ?_) | refine x_icmp_eq (tgt := 1299) eL_law_1271 (by decide) (fun cq2 => ?_) (fun cq2 => ?_)
    · refine Rn.weak (kc _ (St.undo R r hk5 x1 z P)) (by repeat' first | exact fun _ h => absurd h List.not_mem_nil | refine List.forall_mem_cons.mpr ⟨rfl, ?_⟩)
    · exact absurd rfl cq2
end LAW11

