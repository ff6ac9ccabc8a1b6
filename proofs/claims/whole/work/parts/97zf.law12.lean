/-! ===== the law: set ===== -/
section LAW14
variable {G : GG} {h : AH} {y x kp nx la k : Nat} {o : Nat → Nat} {ps : Nat → Nat → Int32} {Q : Option Value → AH → Prop}
set_option maxRecDepth 100000 in
set_option maxHeartbeats 4000000 in
theorem st_cls {z : Int32} (hk6 : 6 * k + 6 ≤ gL G) (hL : gL G ≤ 3072) (hzz : ((gx G (6 * k + 2) = 0 ∧ z = nI 0) ∨ (¬ gx G (6 * k + 2) = 0 ∧ z = nI 1))) (w : Rn G 10 mL_law 1071 [(0, .ref (gb G)), (1, .ref y), (2, .ref x), (3, .int (nI (6 * k)))] [.int z, .int (gx G (6 * k + 1)), .ref y] h Q) : Rn G 10 mL_law 1052 [(0, .ref (gb G)), (1, .ref y), (2, .ref x), (3, .int (nI (6 * k)))] [] h Q := by
  first | refine x_aload_n eL_law_1052 rfl rfl ?_ | refine x_aload_nN eL_law_1052 rfl rfl ?_
  first | refine x_aload_n eL_law_1053 rfl rfl ?_ | refine x_aload_nN eL_law_1053 rfl rfl ?_
  refine x_iload_n eL_law_1054 rfl rfl ?_
  refine x_iconst (v := nI 1) eL_law_1055 (by decide) ?_
  first | refine x_iaddN eL_law_1056 (by with_reducible rfl) (by with_reducible rfl) ?_ | refine x_iadd eL_law_1056 ?_
  refine x_scr eL_law_1057 (by with_reducible rfl) (by omega) (by omega) ?_
  first | refine x_aload_n eL_law_1058 rfl rfl ?_ | refine x_aload_nN eL_law_1058 rfl rfl ?_
  refine x_iload_n eL_law_1059 rfl rfl ?_
  refine x_iconst (v := nI 2) eL_law_1060 (by decide) ?_
  first | refine x_iaddN eL_law_1061 (by with_reducible rfl) (by with_reducible rfl) ?_ | refine x_iadd eL_law_1061 ?_
  refine x_scr eL_law_1062 (by with_reducible rfl) (by omega) (by omega) ?_
  first | refine x_if_eqB (tgt := 1070) eL_law_1063 (by decide) (by with_reducible rfl) (fun cq1 => ?_) (fun cq1 => ?_) | refine x_if_eq (tgt := 1070) eL_law_1063 (by decide) (fun cq1 => ?_) (fun cq1 => ?_)
  · rcases hzz with ⟨-, rfl⟩ | ⟨e, -⟩
    · refine x_iconst (v := nI 0) eL_law_1070 (by decide) ?_
      exact w
    · exact absurd cq1 e
  · rcases hzz with ⟨e, -⟩ | ⟨-, rfl⟩
    · exact absurd e cq1
    · refine x_iconst (v := nI 1) eL_law_1066 (by decide) ?_
      refine x_goto (tgt := 1071) eL_law_1067 (by decide) ?_
      exact w
set_option maxRecDepth 100000 in
set_option maxHeartbeats 4000000 in
theorem st_ref {z rv : Int32} (hk6 : 6 * k + 6 ≤ gL G) (hL : gL G ≤ 3072) (hzz : ((gx G (6 * k + 2) = 0 ∧ z = nI 0) ∨ (¬ gx G (6 * k + 2) = 0 ∧ z = nI 1))) (w : Rn G 10 mL_law 1093 [(0, .ref (gb G)), (1, .ref y), (2, .ref x), (3, .int (nI (6 * k)))] [.int z, .int (gx G (6 * k + 1)), .ref x, .int rv] h Q) : Rn G 10 mL_law 1074 [(0, .ref (gb G)), (1, .ref y), (2, .ref x), (3, .int (nI (6 * k)))] [.int rv] h Q := by
  first | refine x_aload_n eL_law_1074 rfl rfl ?_ | refine x_aload_nN eL_law_1074 rfl rfl ?_
  first | refine x_aload_n eL_law_1075 rfl rfl ?_ | refine x_aload_nN eL_law_1075 rfl rfl ?_
  refine x_iload_n eL_law_1076 rfl rfl ?_
  refine x_iconst (v := nI 1) eL_law_1077 (by decide) ?_
  first | refine x_iaddN eL_law_1078 (by with_reducible rfl) (by with_reducible rfl) ?_ | refine x_iadd eL_law_1078 ?_
  refine x_scr eL_law_1079 (by with_reducible rfl) (by omega) (by omega) ?_
  first | refine x_aload_n eL_law_1080 rfl rfl ?_ | refine x_aload_nN eL_law_1080 rfl rfl ?_
  refine x_iload_n eL_law_1081 rfl rfl ?_
  refine x_iconst (v := nI 2) eL_law_1082 (by decide) ?_
  first | refine x_iaddN eL_law_1083 (by with_reducible rfl) (by with_reducible rfl) ?_ | refine x_iadd eL_law_1083 ?_
  refine x_scr eL_law_1084 (by with_reducible rfl) (by omega) (by omega) ?_
  first | refine x_if_eqB (tgt := 1092) eL_law_1085 (by decide) (by with_reducible rfl) (fun cq1 => ?_) (fun cq1 => ?_) | refine x_if_eq (tgt := 1092) eL_law_1085 (by decide) (fun cq1 => ?_) (fun cq1 => ?_)
  · rcases hzz with ⟨-, rfl⟩ | ⟨e, -⟩
    · refine x_iconst (v := nI 0) eL_law_1092 (by decide) ?_
      exact w
    · exact absurd cq1 e
  · rcases hzz with ⟨e, -⟩ | ⟨-, rfl⟩
    · exact absurd e cq1
    · refine x_iconst (v := nI 1) eL_law_1088 (by decide) ?_
      refine x_goto (tgt := 1093) eL_law_1089 (by decide) ?_
      exact w
set_option maxRecDepth 100000 in
set_option maxHeartbeats 4000000 in
theorem st_set {z : Int32} (R : Rel h y x o kp nx la ps) (r : Ro G k h) (hk6 : 6 * k + 6 ≤ gL G) (hL : gL G ≤ 3072) (hzz : ((gx G (6 * k + 2) = 0 ∧ z = nI 0) ∨ (¬ gx G (6 * k + 2) = 0 ∧ z = nI 1))) (kc : Kc G y x k Q) : Rn G 10 mL_law 1071 [(0, .ref (gb G)), (1, .ref y), (2, .ref x), (3, .int (nI (6 * k)))] [.int z, .int (gx G (6 * k + 1)), .ref y] h Q := by
  have ky := R.ky
  have kx := R.kx
  have hk5 : k < 512 := by omega
  have rm := r.rm hk5
  obtain ⟨⟨M, K, T⟩, C, A, ⟨I, B⟩, H⟩ := id R
  have z01 : z = 0 ∨ z = 1 := by
    rcases hzz with ⟨-, rfl⟩ | ⟨-, rfl⟩
    · exact Or.inl rfl
    · exact Or.inr rfl
  first | refine x_callV2 eL_law_1071 lk_L_110 (by assumption) (Nat.le_of_ble_eq_true rfl) (Nat.le_of_ble_eq_true rfl) ?_ | refine x_callVw2 eL_law_1071 lk_L_110 (by assumption) (Nat.le_of_ble_eq_true rfl) (Nat.le_of_ble_eq_true rfl) (Nat.le_of_ble_eq_true rfl) ?_
  refine Rn.deep (c_X8_set (d := 0) C A I rm z01 (fun z _ => ?_) (fun z h2 P x1 => ?_)) (by omega)
  · refine st_ref hk6 hL hzz ?_
    first | refine x_callV2 eL_law_1093 lk_L_114 (by assumption) (Nat.le_of_ble_eq_true rfl) (Nat.le_of_ble_eq_true rfl) ?_ | refine x_callVw2 eL_law_1093 lk_L_114 (by assumption) (Nat.le_of_ble_eq_true rfl) (Nat.le_of_ble_eq_true rfl) (Nat.le_of_ble_eq_true rfl) ?_
    refine Rn.deep (c_X9_set (d := 0) M K I.gw (fun z2 _ => ?_) (fun z2 => absurd (z2.symm.trans z) (by decide))) (by omega)
    first | refine x_icmp_eqN (tgt := 1299) eL_law_1096 (by decide) (by with_reducible rfl) (by with_reducible rfl) (by omega) (by omega) (fun cq1 => ?_) (fun cq1 => ?_) | refine x_icmp_eq (tgt := 1299) eL_law_1096 (by decide) (fun cq1 => ?_) (fun cq1 => ?_)
    · refine Rn.weak (kc _ (St.same R r hk5)) (by repeat' first | exact fun _ h => absurd h List.not_mem_nil | refine List.forall_mem_cons.mpr ⟨rfl, ?_⟩)
    · exact absurd rfl cq1
  · obtain ⟨o2, -, -, Z, -, -⟩ := id P
    obtain ⟨M2, K2, T2, E2, kx2⟩ := R.mid Z
    have e1 : hi h2 (x + 1) = hi h (x + 1) := E2 1 (by omega)
    refine st_ref hk6 hL hzz ?_
    first | refine x_callV2 eL_law_1093 lk_L_114 (by assumption) (Nat.le_of_ble_eq_true rfl) (Nat.le_of_ble_eq_true rfl) ?_ | refine x_callVw2 eL_law_1093 lk_L_114 (by assumption) (Nat.le_of_ble_eq_true rfl) (Nat.le_of_ble_eq_true rfl) (Nat.le_of_ble_eq_true rfl) ?_
    refine Rn.deep (c_X9_set (d := 0) M2 K2 (by rw [e1]; exact I.gw) (fun z2 => by rw [e1, z] at z2; cases z2) (fun z2 _ => ?_)) (by omega)
    rw [e1]
    first | refine x_icmp_eqN (tgt := 1299) eL_law_1096 (by decide) (by with_reducible rfl) (by with_reducible rfl) (by omega) (by omega) (fun cq1 => ?_) (fun cq1 => ?_) | refine x_icmp_eq (tgt := 1299) eL_law_1096 (by decide) (fun cq1 => ?_) (fun cq1 => ?_)
    · refine Rn.weak (kc _ (St.act R r hk5 x1 P (GO_set I B z))) (by repeat' first | exact fun _ h => absurd h List.not_mem_nil | refine List.forall_mem_cons.mpr ⟨rfl, ?_⟩)
    · exact absurd rfl cq1
set_option maxRecDepth 100000 in
set_option maxHeartbeats 4000000 in
theorem cs_22 (R : Rel h y x o kp nx la ps) (r : Ro G k h) (hk6 : 6 * k + 6 ≤ gL G) (hL : gL G ≤ 3072) (kc : Kc G y x k Q) : Rn G 10 mL_law 1052 [(0, .ref (gb G)), (1, .ref y), (2, .ref x), (3, .int (nI (6 * k)))] [] h Q := by
  by_cases e : gx G (6 * k + 2) = 0
  · exact st_cls hk6 hL (Or.inl ⟨e, rfl⟩) (st_set R r hk6 hL (Or.inl ⟨e, rfl⟩) kc)
  · exact st_cls hk6 hL (Or.inr ⟨e, rfl⟩) (st_set R r hk6 hL (Or.inr ⟨e, rfl⟩) kc)
end LAW14

