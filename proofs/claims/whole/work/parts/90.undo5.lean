/-! ===== undo: sailing, laying ===== -/
section UNDO5
variable {G : GG} {d : Nat} {h h2 : AH} {Q : Option Value → AH → Prop} {ow o2 : Nat → Nat} {y : Nat} {g gp ld wd : Nat → Int32} {nx s a q i : Nat}
set_option maxRecDepth 100000 in
set_option maxHeartbeats 4000000 in
theorem c_rvSet {v : Nat} (kq : hk h q = 0) (e0 : hi h q 0 = nI 12) (e3 : hi h q 3 = nI v) (hv : v < 2) (ka : hk h a = 4) (hq : Q none (wi h a 9 (nI v))) : Rn G d mX8_reverseSailing 0 [(0, .ref y), (1, .ref q), (2, .ref a)] [] h Q := by
  rcases (show v = 0 ∨ v = 1 by omega) with z | z
  · subst z
    first | refine x_aload_n eX8_reverseSailing_0 rfl rfl ?_ | refine x_aload_nN eX8_reverseSailing_0 rfl rfl ?_
    refine x_ifnonnullR (tgt := 5) eX8_reverseSailing_1 (by decide) ?_
    first | refine x_aload_n eX8_reverseSailing_5 rfl rfl ?_ | refine x_aload_nN eX8_reverseSailing_5 rfl rfl ?_
    first | refine x_getIe eX8_reverseSailing_6 fk_X8_327 (by decide) (by assumption) (by assumption) ?_ | refine x_getI eX8_reverseSailing_6 fk_X8_327 (by decide) (by assumption) ?_
    refine x_bipush (v := nI 12) eX8_reverseSailing_9 (by decide) ?_
    first | refine x_icmp_neN (tgt := 34) eX8_reverseSailing_11 (by decide) (by with_reducible rfl) (by with_reducible rfl) (by omega) (by omega) (fun cq1 => ?_) (fun cq1 => ?_) | refine x_icmp_ne (tgt := 34) eX8_reverseSailing_11 (by decide) (fun cq1 => ?_) (fun cq1 => ?_)
    · exact absurd rfl cq1
    · first | refine x_aload_n eX8_reverseSailing_14 rfl rfl ?_ | refine x_aload_nN eX8_reverseSailing_14 rfl rfl ?_
      first | refine x_aload_n eX8_reverseSailing_15 rfl rfl ?_ | refine x_aload_nN eX8_reverseSailing_15 rfl rfl ?_
      first | refine x_getIe eX8_reverseSailing_16 fk_X8_347 (by decide) (by assumption) (by assumption) ?_ | refine x_getI eX8_reverseSailing_16 fk_X8_347 (by decide) (by assumption) ?_
      refine x_iconst (v := nI 1) eX8_reverseSailing_19 (by decide) ?_
      first | refine x_icmp_neN (tgt := 27) eX8_reverseSailing_20 (by decide) (by with_reducible rfl) (by with_reducible rfl) (by omega) (by omega) (fun cq2 => ?_) (fun cq2 => ?_) | refine x_icmp_ne (tgt := 27) eX8_reverseSailing_20 (by decide) (fun cq2 => ?_) (fun cq2 => ?_)
      · refine x_iconst (v := nI 0) eX8_reverseSailing_27 (by decide) ?_
        refine x_putZ eX8_reverseSailing_28 fk_X8_195 (by decide) rfl ⟨_, rfl, Or.inl rfl⟩ (by assumption) (by first | exact Or.inl rfl | exact Or.inr rfl | assumption) ?_
        refine x_goto (tgt := 109) eX8_reverseSailing_31 (by decide) ?_
        refine x_ret (rt := none) eX8_reverseSailing_109 rfl ?_
        exact hq
      · exact absurd cq2 (by decide)
  · subst z
    first | refine x_aload_n eX8_reverseSailing_0 rfl rfl ?_ | refine x_aload_nN eX8_reverseSailing_0 rfl rfl ?_
    refine x_ifnonnullR (tgt := 5) eX8_reverseSailing_1 (by decide) ?_
    first | refine x_aload_n eX8_reverseSailing_5 rfl rfl ?_ | refine x_aload_nN eX8_reverseSailing_5 rfl rfl ?_
    first | refine x_getIe eX8_reverseSailing_6 fk_X8_327 (by decide) (by assumption) (by assumption) ?_ | refine x_getI eX8_reverseSailing_6 fk_X8_327 (by decide) (by assumption) ?_
    refine x_bipush (v := nI 12) eX8_reverseSailing_9 (by decide) ?_
    first | refine x_icmp_neN (tgt := 34) eX8_reverseSailing_11 (by decide) (by with_reducible rfl) (by with_reducible rfl) (by omega) (by omega) (fun cq1 => ?_) (fun cq1 => ?_) | refine x_icmp_ne (tgt := 34) eX8_reverseSailing_11 (by decide) (fun cq1 => ?_) (fun cq1 => ?_)
    · exact absurd rfl cq1
    · first | refine x_aload_n eX8_reverseSailing_14 rfl rfl ?_ | refine x_aload_nN eX8_reverseSailing_14 rfl rfl ?_
      first | refine x_aload_n eX8_reverseSailing_15 rfl rfl ?_ | refine x_aload_nN eX8_reverseSailing_15 rfl rfl ?_
      first | refine x_getIe eX8_reverseSailing_16 fk_X8_347 (by decide) (by assumption) (by assumption) ?_ | refine x_getI eX8_reverseSailing_16 fk_X8_347 (by decide) (by assumption) ?_
      refine x_iconst (v := nI 1) eX8_reverseSailing_19 (by decide) ?_
      first | refine x_icmp_neN (tgt := 27) eX8_reverseSailing_20 (by decide) (by with_reducible rfl) (by with_reducible rfl) (by omega) (by omega) (fun cq2 => ?_) (fun cq2 => ?_) | refine x_icmp_ne (tgt := 27) eX8_reverseSailing_20 (by decide) (fun cq2 => ?_) (fun cq2 => ?_)
      · exact absurd rfl cq2
      · refine x_iconst (v := nI 1) eX8_reverseSailing_23 (by decide) ?_
        refine x_goto (tgt := 28) eX8_reverseSailing_24 (by decide) ?_
        refine x_putZ eX8_reverseSailing_28 fk_X8_195 (by decide) rfl ⟨_, rfl, Or.inl rfl⟩ (by assumption) (by first | exact Or.inl rfl | exact Or.inr rfl | assumption) ?_
        refine x_goto (tgt := 109) eX8_reverseSailing_31 (by decide) ?_
        refine x_ret (rt := none) eX8_reverseSailing_109 rfl ?_
        exact hq
set_option maxRecDepth 100000 in
set_option maxHeartbeats 4000000 in
theorem c_rvReef {v : Int32} (kq : hk h q = 0) (e0 : hi h q 0 = nI 13) (e3 : hi h q 3 = v) (ka : hk h a = 4) (hq : Q none (wi h a 8 v)) : Rn G d mX8_reverseSailing 0 [(0, .ref y), (1, .ref q), (2, .ref a)] [] h Q := by
  first | refine x_aload_n eX8_reverseSailing_0 rfl rfl ?_ | refine x_aload_nN eX8_reverseSailing_0 rfl rfl ?_
  refine x_ifnonnullR (tgt := 5) eX8_reverseSailing_1 (by decide) ?_
  first | refine x_aload_n eX8_reverseSailing_5 rfl rfl ?_ | refine x_aload_nN eX8_reverseSailing_5 rfl rfl ?_
  first | refine x_getIe eX8_reverseSailing_6 fk_X8_327 (by decide) (by assumption) (by assumption) ?_ | refine x_getI eX8_reverseSailing_6 fk_X8_327 (by decide) (by assumption) ?_
  refine x_bipush (v := nI 12) eX8_reverseSailing_9 (by decide) ?_
  first | refine x_icmp_neN (tgt := 34) eX8_reverseSailing_11 (by decide) (by with_reducible rfl) (by with_reducible rfl) (by omega) (by omega) (fun cq1 => ?_) (fun cq1 => ?_) | refine x_icmp_ne (tgt := 34) eX8_reverseSailing_11 (by decide) (fun cq1 => ?_) (fun cq1 => ?_)
  · first | refine x_aload_n eX8_reverseSailing_34 rfl rfl ?_ | refine x_aload_nN eX8_reverseSailing_34 rfl rfl ?_
    first | refine x_getIe eX8_reverseSailing_35 fk_X8_327 (by decide) (by assumption) (by assumption) ?_ | refine x_getI eX8_reverseSailing_35 fk_X8_327 (by decide) (by assumption) ?_
    refine x_bipush (v := nI 13) eX8_reverseSailing_38 (by decide) ?_
    first | refine x_icmp_neN (tgt := 54) eX8_reverseSailing_40 (by decide) (by with_reducible rfl) (by with_reducible rfl) (by omega) (by omega) (fun cq2 => ?_) (fun cq2 => ?_) | refine x_icmp_ne (tgt := 54) eX8_reverseSailing_40 (by decide) (fun cq2 => ?_) (fun cq2 => ?_)
    · exact absurd rfl cq2
    · first | refine x_aload_n eX8_reverseSailing_43 rfl rfl ?_ | refine x_aload_nN eX8_reverseSailing_43 rfl rfl ?_
      first | refine x_aload_n eX8_reverseSailing_44 rfl rfl ?_ | refine x_aload_nN eX8_reverseSailing_44 rfl rfl ?_
      first | refine x_getIe eX8_reverseSailing_45 fk_X8_347 (by decide) (by assumption) (by assumption) ?_ | refine x_getI eX8_reverseSailing_45 fk_X8_347 (by decide) (by assumption) ?_
      refine x_putI eX8_reverseSailing_48 fk_X8_192 (by decide) rfl ⟨_, rfl, Or.inl rfl⟩ (by assumption) ?_
      refine x_goto (tgt := 109) eX8_reverseSailing_51 (by decide) ?_
      refine x_ret (rt := none) eX8_reverseSailing_109 rfl ?_
      exact hq
  · exact absurd cq1 (by decide)
set_option maxRecDepth 100000 in
set_option maxHeartbeats 4000000 in
theorem c_rvLine {n : Nat} (kq : hk h q = 0) (e0 : hi h q 0 = nI 14) (ka : hk h a = 4) (e11 : hi h a 11 = nI (n + 1)) (hn3 : n < 3) (hq : Q none (wi h a 11 (nI n))) : Rn G (d + 1) mX8_reverseSailing 0 [(0, .ref y), (1, .ref q), (2, .ref a)] [] h Q := by
  first | refine x_aload_n eX8_reverseSailing_0 rfl rfl ?_ | refine x_aload_nN eX8_reverseSailing_0 rfl rfl ?_
  refine x_ifnonnullR (tgt := 5) eX8_reverseSailing_1 (by decide) ?_
  first | refine x_aload_n eX8_reverseSailing_5 rfl rfl ?_ | refine x_aload_nN eX8_reverseSailing_5 rfl rfl ?_
  first | refine x_getIe eX8_reverseSailing_6 fk_X8_327 (by decide) (by assumption) (by assumption) ?_ | refine x_getI eX8_reverseSailing_6 fk_X8_327 (by decide) (by assumption) ?_
  refine x_bipush (v := nI 12) eX8_reverseSailing_9 (by decide) ?_
  first | refine x_icmp_neN (tgt := 34) eX8_reverseSailing_11 (by decide) (by with_reducible rfl) (by with_reducible rfl) (by omega) (by omega) (fun cq1 => ?_) (fun cq1 => ?_) | refine x_icmp_ne (tgt := 34) eX8_reverseSailing_11 (by decide) (fun cq1 => ?_) (fun cq1 => ?_)
  · first | refine x_aload_n eX8_reverseSailing_34 rfl rfl ?_ | refine x_aload_nN eX8_reverseSailing_34 rfl rfl ?_
    first | refine x_getIe eX8_reverseSailing_35 fk_X8_327 (by decide) (by assumption) (by assumption) ?_ | refine x_getI eX8_reverseSailing_35 fk_X8_327 (by decide) (by assumption) ?_
    refine x_bipush (v := nI 13) eX8_reverseSailing_38 (by decide) ?_
    first | refine x_icmp_neN (tgt := 54) eX8_reverseSailing_40 (by decide) (by with_reducible rfl) (by with_reducible rfl) (by omega) (by omega) (fun cq2 => ?_) (fun cq2 => ?_) | refine x_icmp_ne (tgt := 54) eX8_reverseSailing_40 (by decide) (fun cq2 => ?_) (fun cq2 => ?_)
    · first | refine x_aload_n eX8_reverseSailing_54 rfl rfl ?_ | refine x_aload_nN eX8_reverseSailing_54 rfl rfl ?_
      first | refine x_getIe eX8_reverseSailing_55 fk_X8_327 (by decide) (by assumption) (by assumption) ?_ | refine x_getI eX8_reverseSailing_55 fk_X8_327 (by decide) (by assumption) ?_
      refine x_bipush (v := nI 14) eX8_reverseSailing_58 (by decide) ?_
      first | refine x_icmp_neN (tgt := 70) eX8_reverseSailing_60 (by decide) (by with_reducible rfl) (by with_reducible rfl) (by omega) (by omega) (fun cq3 => ?_) (fun cq3 => ?_) | refine x_icmp_ne (tgt := 70) eX8_reverseSailing_60 (by decide) (fun cq3 => ?_) (fun cq3 => ?_)
      · exact absurd rfl cq3
      · first | refine x_aload_n eX8_reverseSailing_63 rfl rfl ?_ | refine x_aload_nN eX8_reverseSailing_63 rfl rfl ?_
        refine x_callV0 eX8_reverseSailing_64 lk_X8_366 (by assumption) (Nat.le_of_ble_eq_true rfl) (Nat.le_of_ble_eq_true rfl) ?_
        refine Rn.deep (c_X5_dropLine (d := d) ka e11 (by omega) (by omega) (fun _ => ?_)) (by omega)
        refine x_goto (tgt := 109) eX8_reverseSailing_67 (by decide) ?_
        refine x_ret (rt := none) eX8_reverseSailing_109 rfl ?_
        exact hq
    · exact absurd cq2 (by decide)
  · exact absurd cq1 (by decide)
set_option maxRecDepth 100000 in
set_option maxHeartbeats 4000000 in
theorem c_rvTake {v n k : Nat} (kq : hk h q = 0) (e0 : hi h q 0 = nI 15) (e3 : hi h q 3 = nI v) (hv : v < 2) (e2 : hi h q 2 = nI k) (ka : hk h a = 4) (ky : hk h y = 7) (nyq : q ≠ y) (naq : q ≠ a) (e1 : hi h y 1 = nI (n + k)) (hn24 : n + k ≤ 24) (hq : Q none (wi (wi (wi h y 1 (nI n)) a 3 1) a 9 (nI v))) : Rn G (d + 2) mX8_reverseSailing 0 [(0, .ref y), (1, .ref q), (2, .ref a)] [] h Q := by
  have e3' : hi (wi (wi h y 1 (nI n)) a 3 1) q 3 = nI v := by
    show up2 (up2 (hi h) y 1 _) a 3 _ q 3 = _
    rw [up2_a naq, up2_a nyq]
    exact e3
  have kq' : hk (wi (wi h y 1 (nI n)) a 3 1) q = 0 := kq
  have ka' : hk (wi (wi h y 1 (nI n)) a 3 1) a = 4 := ka
  have ka2 : hk (wi h y 1 (nI n)) a = 4 := ka
  have w87 : Rn G (d + 2) mX8_reverseSailing 87 [(0, .ref y), (1, .ref q), (2, .ref a)] [] (wi h y 1 (nI n)) Q := by
    rcases (show v = 0 ∨ v = 1 by omega) with z | z
    · subst z
      first | refine x_aload_n eX8_reverseSailing_87 rfl rfl ?_ | refine x_aload_nN eX8_reverseSailing_87 rfl rfl ?_
      refine x_iconst (v := nI 1) eX8_reverseSailing_88 (by decide) ?_
      refine x_putI eX8_reverseSailing_89 fk_X8_186 (by decide) rfl ⟨_, rfl, Or.inl rfl⟩ (by assumption) ?_
      first | refine x_aload_n eX8_reverseSailing_92 rfl rfl ?_ | refine x_aload_nN eX8_reverseSailing_92 rfl rfl ?_
      first | refine x_aload_n eX8_reverseSailing_93 rfl rfl ?_ | refine x_aload_nN eX8_reverseSailing_93 rfl rfl ?_
      first | refine x_getIe eX8_reverseSailing_94 fk_X8_347 (by decide) (by assumption) (by assumption) ?_ | refine x_getI eX8_reverseSailing_94 fk_X8_347 (by decide) (by assumption) ?_
      refine x_iconst (v := nI 1) eX8_reverseSailing_97 (by decide) ?_
      first | refine x_icmp_neN (tgt := 105) eX8_reverseSailing_98 (by decide) (by with_reducible rfl) (by with_reducible rfl) (by omega) (by omega) (fun cq1 => ?_) (fun cq1 => ?_) | refine x_icmp_ne (tgt := 105) eX8_reverseSailing_98 (by decide) (fun cq1 => ?_) (fun cq1 => ?_)
      · refine x_iconst (v := nI 0) eX8_reverseSailing_105 (by decide) ?_
        refine x_putZ eX8_reverseSailing_106 fk_X8_195 (by decide) rfl ⟨_, rfl, Or.inl rfl⟩ (by assumption) (by first | exact Or.inl rfl | exact Or.inr rfl | assumption) ?_
        refine x_ret (rt := none) eX8_reverseSailing_109 rfl ?_
        exact hq
      · exact absurd cq1 (by decide)
    · subst z
      first | refine x_aload_n eX8_reverseSailing_87 rfl rfl ?_ | refine x_aload_nN eX8_reverseSailing_87 rfl rfl ?_
      refine x_iconst (v := nI 1) eX8_reverseSailing_88 (by decide) ?_
      refine x_putI eX8_reverseSailing_89 fk_X8_186 (by decide) rfl ⟨_, rfl, Or.inl rfl⟩ (by assumption) ?_
      first | refine x_aload_n eX8_reverseSailing_92 rfl rfl ?_ | refine x_aload_nN eX8_reverseSailing_92 rfl rfl ?_
      first | refine x_aload_n eX8_reverseSailing_93 rfl rfl ?_ | refine x_aload_nN eX8_reverseSailing_93 rfl rfl ?_
      first | refine x_getIe eX8_reverseSailing_94 fk_X8_347 (by decide) (by assumption) (by assumption) ?_ | refine x_getI eX8_reverseSailing_94 fk_X8_347 (by decide) (by assumption) ?_
      refine x_iconst (v := nI 1) eX8_reverseSailing_97 (by decide) ?_
      first | refine x_icmp_neN (tgt := 105) eX8_reverseSailing_98 (by decide) (by with_reducible rfl) (by with_reducible rfl) (by omega) (by omega) (fun cq1 => ?_) (fun cq1 => ?_) | refine x_icmp_ne (tgt := 105) eX8_reverseSailing_98 (by decide) (fun cq1 => ?_) (fun cq1 => ?_)
      · exact absurd rfl cq1
      · refine x_iconst (v := nI 1) eX8_reverseSailing_101 (by decide) ?_
        refine x_goto (tgt := 106) eX8_reverseSailing_102 (by decide) ?_
        refine x_putZ eX8_reverseSailing_106 fk_X8_195 (by decide) rfl ⟨_, rfl, Or.inl rfl⟩ (by assumption) (by first | exact Or.inl rfl | exact Or.inr rfl | assumption) ?_
        refine x_ret (rt := none) eX8_reverseSailing_109 rfl ?_
        exact hq
  first | refine x_aload_n eX8_reverseSailing_0 rfl rfl ?_ | refine x_aload_nN eX8_reverseSailing_0 rfl rfl ?_
  refine x_ifnonnullR (tgt := 5) eX8_reverseSailing_1 (by decide) ?_
  first | refine x_aload_n eX8_reverseSailing_5 rfl rfl ?_ | refine x_aload_nN eX8_reverseSailing_5 rfl rfl ?_
  first | refine x_getIe eX8_reverseSailing_6 fk_X8_327 (by decide) (by assumption) (by assumption) ?_ | refine x_getI eX8_reverseSailing_6 fk_X8_327 (by decide) (by assumption) ?_
  refine x_bipush (v := nI 12) eX8_reverseSailing_9 (by decide) ?_
  first | refine x_icmp_neN (tgt := 34) eX8_reverseSailing_11 (by decide) (by with_reducible rfl) (by with_reducible rfl) (by omega) (by omega) (fun cq1 => ?_) (fun cq1 => ?_) | refine x_icmp_ne (tgt := 34) eX8_reverseSailing_11 (by decide) (fun cq1 => ?_) (fun cq1 => ?_)
  · first | refine x_aload_n eX8_reverseSailing_34 rfl rfl ?_ | refine x_aload_nN eX8_reverseSailing_34 rfl rfl ?_
    first | refine x_getIe eX8_reverseSailing_35 fk_X8_327 (by decide) (by assumption) (by assumption) ?_ | refine x_getI eX8_reverseSailing_35 fk_X8_327 (by decide) (by assumption) ?_
    refine x_bipush (v := nI 13) eX8_reverseSailing_38 (by decide) ?_
    first | refine x_icmp_neN (tgt := 54) eX8_reverseSailing_40 (by decide) (by with_reducible rfl) (by with_reducible rfl) (by omega) (by omega) (fun cq2 => ?_) (fun cq2 => ?_) | refine x_icmp_ne (tgt := 54) eX8_reverseSailing_40 (by decide) (fun cq2 => ?_) (fun cq2 => ?_)
    · first | refine x_aload_n eX8_reverseSailing_54 rfl rfl ?_ | refine x_aload_nN eX8_reverseSailing_54 rfl rfl ?_
      first | refine x_getIe eX8_reverseSailing_55 fk_X8_327 (by decide) (by assumption) (by assumption) ?_ | refine x_getI eX8_reverseSailing_55 fk_X8_327 (by decide) (by assumption) ?_
      refine x_bipush (v := nI 14) eX8_reverseSailing_58 (by decide) ?_
      first | refine x_icmp_neN (tgt := 70) eX8_reverseSailing_60 (by decide) (by with_reducible rfl) (by with_reducible rfl) (by omega) (by omega) (fun cq3 => ?_) (fun cq3 => ?_) | refine x_icmp_ne (tgt := 70) eX8_reverseSailing_60 (by decide) (fun cq3 => ?_) (fun cq3 => ?_)
      · first | refine x_aload_n eX8_reverseSailing_70 rfl rfl ?_ | refine x_aload_nN eX8_reverseSailing_70 rfl rfl ?_
        first | refine x_getIe eX8_reverseSailing_71 fk_X8_327 (by decide) (by assumption) (by assumption) ?_ | refine x_getI eX8_reverseSailing_71 fk_X8_327 (by decide) (by assumption) ?_
        refine x_bipush (v := nI 15) eX8_reverseSailing_74 (by decide) ?_
        first | refine x_icmp_neN (tgt := 109) eX8_reverseSailing_76 (by decide) (by with_reducible rfl) (by with_reducible rfl) (by omega) (by omega) (fun cq4 => ?_) (fun cq4 => ?_) | refine x_icmp_ne (tgt := 109) eX8_reverseSailing_76 (by decide) (fun cq4 => ?_) (fun cq4 => ?_)
        · exact absurd rfl cq4
        · first | refine x_aload_n eX8_reverseSailing_79 rfl rfl ?_ | refine x_aload_nN eX8_reverseSailing_79 rfl rfl ?_
          first | refine x_aload_n eX8_reverseSailing_80 rfl rfl ?_ | refine x_aload_nN eX8_reverseSailing_80 rfl rfl ?_
          first | refine x_getIe eX8_reverseSailing_81 fk_X8_344 (by decide) (by assumption) (by assumption) ?_ | refine x_getI eX8_reverseSailing_81 fk_X8_344 (by decide) (by assumption) ?_
          refine x_callV1 eX8_reverseSailing_84 lk_X8_330 (by assumption) (Nat.le_of_ble_eq_true rfl) (Nat.le_of_ble_eq_true rfl) ?_
          refine Rn.deep (c_X8_dropBolts (d := d) (n := n + k) (k := k) ky e1 (by omega) hn24 (fun _ => ?_)) (by omega)
          rw [show n + k - k = n by omega]
          exact w87
      · exact absurd cq3 (by decide)
    · exact absurd cq2 (by decide)
  · exact absurd cq1 (by decide)
set_option maxRecDepth 100000 in
set_option maxHeartbeats 4000000 in
theorem c_X8_pickUp0 (C : Core ow h y g ld wd) (I : GI g) (hs : s < nt (g 1)) (hi4 : i < np g s) (hon : sl g s (300 + i) = -1) (hq : Q none h) : Rn G (d + 3) mX8_pickUp 0 [(0, .ref y), (1, .int (nI s)), (2, .int (nI i))] [] h Q := by
  have W := I.gw
  have h24 := W.1.2.2
  have h10 := W.2.1.2.2
  have ky := C.2.1.1.1
  obtain ⟨sw, sx⟩ := I.2.2.1 s hs
  have h40 : np g s ≤ 40 := sw.2.2.2.2.1
  first | refine x_aload_n eX8_pickUp_0 rfl rfl ?_ | refine x_aload_nN eX8_pickUp_0 rfl rfl ?_
  refine x_iload_n eX8_pickUp_1 rfl rfl ?_
  refine x_callV1 eX8_pickUp_2 lk_X8_149 (by assumption) (Nat.le_of_ble_eq_true rfl) (Nat.le_of_ble_eq_true rfl) ?_
  refine Rn.deep (c_X8_sailNumbered (d := d) C W (fun z _ => ?_) (fun s' sa es hs' hsa S _ => ?_)) (by omega)
  · rw [isS_of W hs] at z
    cases z
  · have ess : s = s' := (nI_eq (by omega) (by omega)).mp es
    subst ess
    refine x_iload_n eX8_pickUp_5 rfl rfl ?_
    refine x_callS2 eX8_pickUp_6 lk_X8_206 (Nat.le_of_ble_eq_true rfl) (Nat.le_of_ble_eq_true rfl) ?_
    refine Rn.deep (c_X8_pieceOf2 (d := d) S sw sx (fun z _ => ?_) (fun i' p ei hi' hpa P _ => ?_)) (by omega)
    · rw [hpV_nI (by omega) (by omega), decide_eq_true hi4] at z
      cases z
    · have eii : i = i' := (nI_eq (by omega) (by omega)).mp ei
      subst eii
      obtain ⟨op, kpp, p0, p1, p2, p3, p4, p5, p6, p7, p8⟩ := id P
      have p7' : hi h p 7 = -1 := p7.trans hon
      clear p7
      first | refine x_astore_n eX8_pickUp_9 rfl (by decide) rfl rfl ?_ | refine x_astore_nN eX8_pickUp_9 rfl (by decide) rfl rfl ?_
      first | refine x_aload_n eX8_pickUp_10 rfl rfl ?_ | refine x_aload_nN eX8_pickUp_10 rfl rfl ?_
      refine x_ifnonnullR (tgt := 15) eX8_pickUp_11 (by decide) ?_
      first | refine x_aload_n eX8_pickUp_15 rfl rfl ?_ | refine x_aload_nN eX8_pickUp_15 rfl rfl ?_
      first | refine x_aload_n eX8_pickUp_16 rfl rfl ?_ | refine x_aload_nN eX8_pickUp_16 rfl rfl ?_
      first | refine x_getIe eX8_pickUp_17 fk_X8_227 (by decide) (by assumption) (by assumption) ?_ | refine x_getI eX8_pickUp_17 fk_X8_227 (by decide) (by assumption) ?_
      refine x_callV1 eX8_pickUp_20 lk_X8_76 (by assumption) (Nat.le_of_ble_eq_true rfl) (Nat.le_of_ble_eq_true rfl) ?_
      refine Rn.deep (c_X8_boltNumbered (d := d) C W (fun z _ => ?_) (fun b' a eb hb' hba B _ => ?_)) (by omega)
      · first | refine x_astore eX8_pickUp_23 (by decide) rfl rfl ?_ | refine x_astoreN eX8_pickUp_23 (by decide) rfl rfl ?_
        first | refine x_aload eX8_pickUp_25 rfl ?_ | refine x_aloadN eX8_pickUp_25 rfl ?_
        refine x_ifnonnullN eX8_pickUp_27 ?_
        refine x_ret (rt := none) eX8_pickUp_30 rfl ?_
        exact hq
      · exact absurd eb.symm (nI_m1 (by omega))
set_option maxRecDepth 100000 in
set_option maxHeartbeats 4000000 in
theorem gPut_id {b p : Int32} (e1 : sl g s (300 + i) = b) (e2 : sl g s (340 + i) = p) : gPut g s i b p = g := by
  funext j
  unfold gPut
  by_cases z : j = 5050 + 390 * s + (340 + i)
  · rw [z, upd0_same]
    exact e2.symm
  · rw [upd0_ne z]
    by_cases z2 : j = 5050 + 390 * s + (300 + i)
    · rw [z2, upd0_same]
      exact e1.symm
    · rw [upd0_ne z2]
set_option maxRecDepth 100000 in
set_option maxHeartbeats 4000000 in
theorem gPut_gPut {b p b2 p2 : Int32} : gPut (gPut g s i b p) s i b2 p2 = gPut g s i b2 p2 := by
  funext j
  unfold gPut
  by_cases z : j = 5050 + 390 * s + (340 + i)
  · rw [z, upd0_same, upd0_same]
  · rw [upd0_ne z, upd0_ne z]
    by_cases z2 : j = 5050 + 390 * s + (300 + i)
    · rw [z2, upd0_same, upd0_same]
    · rw [upd0_ne z2, upd0_ne z2, upd0_ne z, upd0_ne z2]
def puT (t : Nat) : Prop := 100 ≤ t ∧ t < 2000
set_option maxRecDepth 100000 in
set_option maxHeartbeats 4000000 in
/-- a piece is picked up, where it lies -/
theorem c_X8_pickUpA (C : Core ow h y g ld wd) (I : GI g) (hs : s < nt (g 1)) (hi4 : i < np g s) (hq : ∀ h2, PuB G ow h y (gPut g s i (-1) (-1)) ld wd puT h2 → Q none h2) : Rn G (d + 3) mX8_pickUp 0 [(0, .ref y), (1, .int (nI s)), (2, .int (nI i))] [] h Q := by
  have W := I.gw
  have h24 := W.1.2.2
  have h10 := W.2.1.2.2
  obtain ⟨sw, sx⟩ := I.2.2.1 s hs
  have h40 : np g s ≤ 40 := sw.2.2.2.2.1
  by_cases hon : sl g s (300 + i) = -1
  · refine c_X8_pickUp0 C I hs hi4 hon (hq h ?_)
    rw [gPut_id hon (sx.2.2.2.2.1 i hi4 hon)]
    exact ⟨C, Fr.rf, Ext.rf _, rfl, rfl⟩
  · obtain ⟨z, z0⟩ := (sw.2.2.2.2.2.2.2.2.2.2.2.2.2 i hi4).resolve_left hon
    refine c_X8_pickUp C I hs hi4 z.1 (by have := z.2.2; omega) (fun h2 P => hq h2 ⟨P.1, P.2.1.mono (fun t ht => ?_), P.2.2⟩)
    have := z.2.2
    unfold puT
    rcases ht with e | e | e <;> omega
set_option maxRecDepth 100000 in
set_option maxHeartbeats 4000000 in
theorem Rv.pu (C : Core ow h y g ld wd) (P : PuB G ow h y gp ld wd puT h2) : Rv G ow h y gp ld wd nx h2 := by
  obtain ⟨p1, F, x, p2, p3⟩ := P
  have q1 := F.at_ C.2.1.1.2.2.2.2.2 (by decide) (fun z => by unfold puT at z; omega)
  have q7 := F.at_ C.2.1.2.2.2.2.2.2.2.2.2 (by decide) (fun z => by unfold puT at z; omega)
  exact ⟨ow, p1, F.mono (fun t ht => Or.inl (by unfold puT at ht; omega)), ⟨by rw [q1.2.2.2.1], by rw [q1.2.2.2.1]⟩, q7.2.2.2.2.1, p2, p3⟩
set_option maxRecDepth 100000 in
set_option maxHeartbeats 4000000 in
theorem PuB.tr {g2 g3 : Nat → Int32} {h3 : AH} {T : Nat → Prop} (a : PuB G ow h y g2 ld wd T h2) (b : PuB G ow h2 y g3 ld wd T h3) : PuB G ow h y g3 ld wd T h3 := ⟨b.1, a.2.1.tr b.2.1, a.2.2.1.tr b.2.2.1, b.2.2.2.1.trans a.2.2.2.1, b.2.2.2.2.trans a.2.2.2.2⟩
set_option maxRecDepth 100000 in
set_option maxHeartbeats 4000000 in
theorem GI_up {sq iq : Nat → Nat} {n : Nat} (I : GI g) (hh : ∀ j, j < n → sq j < nt (g 1) ∧ iq j < np g (sq j)) : ∀ k, k ≤ n → GI (upN sq iq g k) ∧ upN sq iq g k 1 = g 1 ∧ ∀ t, np (upN sq iq g k) t = np g t
  | 0, _ => ⟨I, rfl, fun _ => rfl⟩
  | k + 1, hk => by
    obtain ⟨z1, z2, z3⟩ := GI_up I hh k (by omega)
    obtain ⟨j1, j2⟩ := hh k (by omega)
    have i40 : iq k < 40 := Nat.lt_of_lt_of_le j2 ((I.2.2.1 (sq k) j1).1.2.2.2.2.1)
    refine ⟨GI_put z1 (by rw [z2]; exact j1) (by rw [z3]; exact j2) (Or.inl ⟨rfl, rfl⟩), ?_, fun t => ?_⟩
    · show gPut _ _ _ _ _ 1 = _
      rw [gPut_lo _ _ _ _ _ (by omega), z2]
    · show np (gPut _ _ _ _ _) t = _
      rw [np_lo (gPut_SE _ _ _ i40 t), z3]
set_option maxRecDepth 100000 in
set_option maxHeartbeats 4000000 in
theorem c_rvPlan {n m la : Nat} {sq iq : Nat → Nat} (C : Core ow h y g ld wd) (I : GI g) (oq : ow q = 2000 + nx) (hnx : nx < 16) (kq : hk h q = 0) (e2 : hi h q 2 = nI n) (e7 : hr h q 7 = some la) (ol : ow la = 2300 + nx) (kl : hk h la = 20) (nl : hn h la = m) (hnm : n ≤ m) (hm : m ≤ 400) (hh : ∀ j, j < n → hi h la j = nI (100 * sq j + iq j) ∧ sq j < nt (g 1) ∧ iq j < np g (sq j)) (hq : ∀ h2, PuB G ow h y (upN sq iq g n) ld wd puT h2 → Q none h2) : Rn G (d + 4) mX8_reversePlan 0 [(0, .ref y), (1, .ref q)] [] h Q := by
  have loop : ∀ r k, n - k = r → k ≤ n → ∀ h1, PuB G ow h y (upN sq iq g k) ld wd puT h1 → Rn G (d + 4) mX8_reversePlan 10 [(0, .ref y), (1, .ref q), (2, .int (nI k))] [] h1 Q := by
    intro r
    induction r with
    | zero =>
      intro k hr0 hkn h1 P
      obtain ⟨-, F, -⟩ := id P
      have q1 := F.at_ oq (by omega) (fun z => by unfold puT at z; omega)
      have kq1 : hk h1 q = 0 := q1.2.1.trans kq
      have e21 : hi h1 q 2 = nI n := by rw [q1.2.2.2.1]; exact e2
      have ekn : k = n := by omega
      subst ekn
      refine x_iload_n eX8_reversePlan_10 rfl rfl ?_
      first | refine x_aload_n eX8_reversePlan_11 rfl rfl ?_ | refine x_aload_nN eX8_reversePlan_11 rfl rfl ?_
      first | refine x_getIe eX8_reversePlan_12 fk_X8_344 (by decide) (by assumption) (by assumption) ?_ | refine x_getI eX8_reversePlan_12 fk_X8_344 (by decide) (by assumption) ?_
      first | refine x_icmp_geN (tgt := 55) eX8_reversePlan_15 (by decide) (by with_reducible rfl) (by with_reducible rfl) (by omega) (by omega) (fun cq1 => ?_) (fun cq1 => ?_) | refine x_icmp_ge (tgt := 55) eX8_reversePlan_15 (by decide) (fun cq1 => ?_) (fun cq1 => ?_)
      · refine x_ret (rt := none) eX8_reversePlan_55 rfl ?_
        exact hq h1 P
      · omega
    | succ r ih =>
      intro k hr0 hkn h1 P
      obtain ⟨C1, F, -⟩ := id P
      have q1 := F.at_ oq (by omega) (fun z => by unfold puT at z; omega)
      have ql := F.at_ ol (by omega) (fun z => by unfold puT at z; omega)
      have kq1 : hk h1 q = 0 := q1.2.1.trans kq
      have e21 : hi h1 q 2 = nI n := by rw [q1.2.2.2.1]; exact e2
      have e71 : hr h1 q 7 = some la := by rw [q1.2.2.2.2.1]; exact e7
      have kl1 : hk h1 la = 20 := ql.2.1.trans kl
      have nl1 : hn h1 la = m := ql.2.2.1.trans nl
      have ky1 : hk h1 y = 7 := C1.2.1.1.1
      obtain ⟨j1, j2, j3⟩ := hh k (by omega)
      have el : hi h1 la k = nI (100 * sq k + iq k) := by rw [ql.2.2.2.1]; exact j1
      obtain ⟨z1, z2, z3⟩ := GI_up I (fun j hj => (hh j hj).2) k hkn
      have h10 := I.1.2.2.2
      have i40 : iq k < 40 := Nat.lt_of_lt_of_le j3 ((I.2.2.1 (sq k) j2).1.2.2.2.2.1)
      have d1 : (100 * sq k + iq k) / 100 = sq k := by omega
      have d2 : (100 * sq k + iq k) % 100 = iq k := by omega
      refine x_iload_n eX8_reversePlan_10 rfl rfl ?_
      first | refine x_aload_n eX8_reversePlan_11 rfl rfl ?_ | refine x_aload_nN eX8_reversePlan_11 rfl rfl ?_
      first | refine x_getIe eX8_reversePlan_12 fk_X8_344 (by decide) (by assumption) (by assumption) ?_ | refine x_getI eX8_reversePlan_12 fk_X8_344 (by decide) (by assumption) ?_
      first | refine x_icmp_geN (tgt := 55) eX8_reversePlan_15 (by decide) (by with_reducible rfl) (by with_reducible rfl) (by omega) (by omega) (fun cq1 => ?_) (fun cq1 => ?_) | refine x_icmp_ge (tgt := 55) eX8_reversePlan_15 (by decide) (fun cq1 => ?_) (fun cq1 => ?_)
      · omega
      · refine x_iload_n eX8_reversePlan_18 rfl rfl ?_
        first | refine x_aload_n eX8_reversePlan_19 rfl rfl ?_ | refine x_aload_nN eX8_reversePlan_19 rfl rfl ?_
        first | refine x_getR eX8_reversePlan_20 fk_X8_264 rfl (by assumption) (by assumption) ?_ | refine x_getN eX8_reversePlan_20 fk_X8_264 rfl (by assumption) (by assumption) ?_
        first | refine x_alenN eX8_reversePlan_23 (by assumption) (by decide) (by assumption) ?_ | refine x_slenN eX8_reversePlan_23 (by assumption) (by assumption) ?_ | refine x_alen eX8_reversePlan_23 (by assumption) (by decide) ?_
        first | refine x_icmp_geN (tgt := 55) eX8_reversePlan_24 (by decide) (by with_reducible rfl) (by with_reducible rfl) (by omega) (by omega) (fun cq2 => ?_) (fun cq2 => ?_) | refine x_icmp_ge (tgt := 55) eX8_reversePlan_24 (by decide) (fun cq2 => ?_) (fun cq2 => ?_)
        · omega
        · first | refine x_aload_n eX8_reversePlan_27 rfl rfl ?_ | refine x_aload_nN eX8_reversePlan_27 rfl rfl ?_
          first | refine x_aload_n eX8_reversePlan_28 rfl rfl ?_ | refine x_aload_nN eX8_reversePlan_28 rfl rfl ?_
          first | refine x_getR eX8_reversePlan_29 fk_X8_264 rfl (by assumption) (by assumption) ?_ | refine x_getN eX8_reversePlan_29 fk_X8_264 rfl (by assumption) (by assumption) ?_
          refine x_iload_n eX8_reversePlan_32 rfl rfl ?_
          first | refine x_ialdN eX8_reversePlan_33 (by with_reducible rfl) (by assumption) (by assumption) (by omega) (by omega) ?_ | refine x_sldN eX8_reversePlan_33 (by with_reducible rfl) (by assumption) (by assumption) (by omega) (by omega) ?_ | refine x_iald eX8_reversePlan_33 (by assumption) (by assumption) ?_
          rw [el]
          refine x_bipush (v := nI 100) eX8_reversePlan_34 (by decide) ?_
          first | refine x_idivN eX8_reversePlan_36 (by with_reducible rfl) (by with_reducible rfl) (by omega) (by omega) (by omega) ?_ | refine x_idiv eX8_reversePlan_36 (by first | assumption | decide) ?_
          first | refine x_aload_n eX8_reversePlan_37 rfl rfl ?_ | refine x_aload_nN eX8_reversePlan_37 rfl rfl ?_
          first | refine x_getR eX8_reversePlan_38 fk_X8_264 rfl (by assumption) (by assumption) ?_ | refine x_getN eX8_reversePlan_38 fk_X8_264 rfl (by assumption) (by assumption) ?_
          refine x_iload_n eX8_reversePlan_41 rfl rfl ?_
          first | refine x_ialdN eX8_reversePlan_42 (by with_reducible rfl) (by assumption) (by assumption) (by omega) (by omega) ?_ | refine x_sldN eX8_reversePlan_42 (by with_reducible rfl) (by assumption) (by assumption) (by omega) (by omega) ?_ | refine x_iald eX8_reversePlan_42 (by assumption) (by assumption) ?_
          rw [el]
          refine x_bipush (v := nI 100) eX8_reversePlan_43 (by decide) ?_
          first | refine x_iremN eX8_reversePlan_45 (by with_reducible rfl) (by with_reducible rfl) (by omega) (by omega) (by omega) ?_ | refine x_irem eX8_reversePlan_45 (by first | assumption | decide) ?_
          first | refine x_callV2 eX8_reversePlan_46 lk_X8_244 (by assumption) (Nat.le_of_ble_eq_true rfl) (Nat.le_of_ble_eq_true rfl) ?_ | refine x_callVw2 eX8_reversePlan_46 lk_X8_244 (by assumption) (Nat.le_of_ble_eq_true rfl) (Nat.le_of_ble_eq_true rfl) (Nat.le_of_ble_eq_true rfl) ?_
          rw [d1, d2]
          refine Rn.deep (c_X8_pickUpA (d := d) C1 z1 (by rw [z2]; exact j2) (by rw [z3]; exact j3) (fun h3 P3 _ => ?_)) (by omega)
          have w := ih (k + 1) (by omega) (by omega) h3 (P.tr P3)
          first | refine x_iincN eX8_reversePlan_49 rfl (by with_reducible rfl) (by decide) rfl rfl ?_ | refine x_iinc eX8_reversePlan_49 rfl rfl (by decide) rfl rfl ?_
          refine x_goto (tgt := 10) eX8_reversePlan_52 (by decide) ?_
          refine Rn.weak (w) (by repeat' first | exact fun _ h => absurd h List.not_mem_nil | refine List.forall_mem_cons.mpr ⟨rfl, ?_⟩)
  have w0 := loop n 0 rfl (Nat.zero_le _) h ⟨C, Fr.rf, Ext.rf _, rfl, rfl⟩
  first | refine x_aload_n eX8_reversePlan_0 rfl rfl ?_ | refine x_aload_nN eX8_reversePlan_0 rfl rfl ?_
  first | refine x_getR eX8_reversePlan_1 fk_X8_264 rfl (by assumption) (by assumption) ?_ | refine x_getN eX8_reversePlan_1 fk_X8_264 rfl (by assumption) (by assumption) ?_
  refine x_ifnonnullR (tgt := 8) eX8_reversePlan_4 (by decide) ?_
  refine x_iconst (v := nI 0) eX8_reversePlan_8 (by decide) ?_
  refine x_istore_n eX8_reversePlan_9 rfl (by decide) rfl rfl ?_
  refine Rn.weak (w0) (by repeat' first | exact fun _ h => absurd h List.not_mem_nil | refine List.forall_mem_cons.mpr ⟨rfl, ?_⟩)
end UNDO5

