/-! ===== the class: sails, lines and patches ===== -/
section SAIL2
variable {G : GG} {d : Nat} {h : AH} {Q : Option Value → AH → Prop} {ow : Nat → Nat} {a s : Nat} {g : Nat → Int32}
set_option maxRecDepth 100000 in
set_option maxHeartbeats 4000000 in
theorem c_X5_lastLine {n q : Nat} (ka : hk h a = 4) (e11 : hi h a 11 = nI n) (hn3 : n ≤ 3) (hq0 : hr h a 10 = some q) (kq : hk h q = 20) (nq : hn h q = 3) (hq : Q (some (.int (if n = 0 then 0 else hi h q (n - 1)))) h) : Rn G d mX5_lastLine 0 [(0, .ref a)] [] h Q := by
  rcases Nat.eq_zero_or_pos n with z | z
  · subst z
    first | refine x_aload_n eX5_lastLine_0 rfl rfl ?_ | refine x_aload_nN eX5_lastLine_0 rfl rfl ?_
    first | refine x_getIe eX5_lastLine_1 fk_X5_39 (by decide) (by assumption) (by assumption) ?_ | refine x_getI eX5_lastLine_1 fk_X5_39 (by decide) (by assumption) ?_
    refine x_iconst (v := nI 1) eX5_lastLine_4 (by decide) ?_
    first | refine x_isubN eX5_lastLine_5 (by with_reducible rfl) (by with_reducible rfl) (by omega) ?_ | refine x_isub eX5_lastLine_5 ?_
    refine x_istore_n eX5_lastLine_6 rfl (by decide) rfl rfl ?_
    refine x_iload_n eX5_lastLine_7 rfl rfl ?_
    refine x_if_lt (tgt := 29) eX5_lastLine_8 (by decide) (fun cq1 => ?_) (fun cq1 => ?_)
    · refine x_iconst (v := nI 0) eX5_lastLine_29 (by decide) ?_
      refine x_iret eX5_lastLine_30 rfl ?_
      exact hq
    · exact absurd (show (nI 0 - nI 1 : Int32) < 0 by decide) cq1
  · rw [if_neg (by omega)] at hq
    first | refine x_aload_n eX5_lastLine_0 rfl rfl ?_ | refine x_aload_nN eX5_lastLine_0 rfl rfl ?_
    first | refine x_getIe eX5_lastLine_1 fk_X5_39 (by decide) (by assumption) (by assumption) ?_ | refine x_getI eX5_lastLine_1 fk_X5_39 (by decide) (by assumption) ?_
    refine x_iconst (v := nI 1) eX5_lastLine_4 (by decide) ?_
    first | refine x_isubN eX5_lastLine_5 (by with_reducible rfl) (by with_reducible rfl) (by omega) ?_ | refine x_isub eX5_lastLine_5 ?_
    refine x_istore_n eX5_lastLine_6 rfl (by decide) rfl rfl ?_
    refine x_iload_n eX5_lastLine_7 rfl rfl ?_
    refine x_if_lt (tgt := 29) eX5_lastLine_8 (by decide) (fun cq1 => ?_) (fun cq1 => ?_)
    · exact absurd cq1 (nI_pos (by omega))
    · refine x_iload_n eX5_lastLine_11 rfl rfl ?_
      first | refine x_aload_n eX5_lastLine_12 rfl rfl ?_ | refine x_aload_nN eX5_lastLine_12 rfl rfl ?_
      first | refine x_getR eX5_lastLine_13 fk_X5_36 rfl (by assumption) (by assumption) ?_ | refine x_getN eX5_lastLine_13 fk_X5_36 rfl (by assumption) (by assumption) ?_
      first | refine x_alenN eX5_lastLine_16 (by assumption) (by decide) (by assumption) ?_ | refine x_slenN eX5_lastLine_16 (by assumption) (by assumption) ?_ | refine x_alen eX5_lastLine_16 (by assumption) (by decide) ?_
      first | refine x_icmp_geN (tgt := 29) eX5_lastLine_17 (by decide) (by with_reducible rfl) (by with_reducible rfl) (by omega) (by omega) (fun cq2 => ?_) (fun cq2 => ?_) | refine x_icmp_ge (tgt := 29) eX5_lastLine_17 (by decide) (fun cq2 => ?_) (fun cq2 => ?_)
      · exact absurd cq2 (by omega)
      · first | refine x_aload_n eX5_lastLine_20 rfl rfl ?_ | refine x_aload_nN eX5_lastLine_20 rfl rfl ?_
        first | refine x_getR eX5_lastLine_21 fk_X5_36 rfl (by assumption) (by assumption) ?_ | refine x_getN eX5_lastLine_21 fk_X5_36 rfl (by assumption) (by assumption) ?_
        refine x_iload_n eX5_lastLine_24 rfl rfl ?_
        first | refine x_ialdN eX5_lastLine_25 (by with_reducible rfl) (by assumption) (by assumption) (by omega) (by omega) ?_ | refine x_sldN eX5_lastLine_25 (by with_reducible rfl) (by assumption) (by assumption) (by omega) (by omega) ?_ | refine x_iald eX5_lastLine_25 (by assumption) (by assumption) ?_
        refine x_goto (tgt := 30) eX5_lastLine_26 (by decide) ?_
        refine x_iret eX5_lastLine_30 rfl ?_
        exact hq
set_option maxRecDepth 100000 in
set_option maxHeartbeats 4000000 in
theorem c_X5_addLine {n q : Nat} {y : Int32} (ka : hk h a = 4) (e11 : hi h a 11 = nI n) (hn3 : n ≤ 3) (hq0 : hr h a 10 = some q) (kq : hk h q = 20) (nq : hn h q = 3) (hf : (n = 3 ∨ y ≤ (if n = 0 then 0 else hi h q (n - 1))) → Q (some (.int 0)) h) (ht : n < 3 → (if n = 0 then 0 else hi h q (n - 1)) < y → Q (some (.int 1)) (wi (wi h q n y) a 11 (nI (n + 1)))) : Rn G (d + 1) mX5_addLine 0 [(0, .ref a), (1, .int y)] [] h Q := by
  have haq : a ≠ q := fun z => by rw [z, kq] at ka; cases ka
  have e12 : hi (wi h q n y) a 11 = nI n := by
    show up2 (hi h) q n y a 11 = _
    rw [up2_a haq]
    exact e11
  first | refine x_aload_n eX5_addLine_0 rfl rfl ?_ | refine x_aload_nN eX5_addLine_0 rfl rfl ?_
  first | refine x_getIe eX5_addLine_1 fk_X5_39 (by decide) (by assumption) (by assumption) ?_ | refine x_getI eX5_addLine_1 fk_X5_39 (by decide) (by assumption) ?_
  refine x_if_lt (tgt := 27) eX5_addLine_4 (by decide) (fun cq1 => ?_) (fun cq1 => ?_)
  · exact absurd cq1 (nI_pos (by omega))
  · first | refine x_aload_n eX5_addLine_7 rfl rfl ?_ | refine x_aload_nN eX5_addLine_7 rfl rfl ?_
    first | refine x_getIe eX5_addLine_8 fk_X5_39 (by decide) (by assumption) (by assumption) ?_ | refine x_getI eX5_addLine_8 fk_X5_39 (by decide) (by assumption) ?_
    first | refine x_aload_n eX5_addLine_11 rfl rfl ?_ | refine x_aload_nN eX5_addLine_11 rfl rfl ?_
    first | refine x_getR eX5_addLine_12 fk_X5_36 rfl (by assumption) (by assumption) ?_ | refine x_getN eX5_addLine_12 fk_X5_36 rfl (by assumption) (by assumption) ?_
    first | refine x_alenN eX5_addLine_15 (by assumption) (by decide) (by assumption) ?_ | refine x_slenN eX5_addLine_15 (by assumption) (by assumption) ?_ | refine x_alen eX5_addLine_15 (by assumption) (by decide) ?_
    first | refine x_icmp_geN (tgt := 27) eX5_addLine_16 (by decide) (by with_reducible rfl) (by with_reducible rfl) (by omega) (by omega) (fun cq2 => ?_) (fun cq2 => ?_) | refine x_icmp_ge (tgt := 27) eX5_addLine_16 (by decide) (fun cq2 => ?_) (fun cq2 => ?_)
    · refine x_iconst (v := nI 0) eX5_addLine_27 (by decide) ?_
      refine x_zret eX5_addLine_28 rfl (by first | exact Or.inl rfl | exact Or.inr rfl | exact bI_or _ | assumption) ?_
      exact hf (Or.inl (by omega))
    · refine x_iload_n eX5_addLine_19 rfl rfl ?_
      first | refine x_aload_n eX5_addLine_20 rfl rfl ?_ | refine x_aload_nN eX5_addLine_20 rfl rfl ?_
      refine x_callV0 eX5_addLine_21 lk_X5_100 (by assumption) (Nat.le_of_ble_eq_true rfl) (Nat.le_of_ble_eq_true rfl) ?_
      refine c_X5_lastLine ka e11 hn3 hq0 kq nq (fun _ => ?_)
      first | refine x_icmp_gtN (tgt := 29) eX5_addLine_24 (by decide) (by with_reducible rfl) (by with_reducible rfl) (by omega) (by omega) (fun cq3 => ?_) (fun cq3 => ?_) | refine x_icmp_gt (tgt := 29) eX5_addLine_24 (by decide) (fun cq3 => ?_) (fun cq3 => ?_)
      · first | refine x_aload_n eX5_addLine_29 rfl rfl ?_ | refine x_aload_nN eX5_addLine_29 rfl rfl ?_
        first | refine x_getR eX5_addLine_30 fk_X5_36 rfl (by assumption) (by assumption) ?_ | refine x_getN eX5_addLine_30 fk_X5_36 rfl (by assumption) (by assumption) ?_
        first | refine x_aload_n eX5_addLine_33 rfl rfl ?_ | refine x_aload_nN eX5_addLine_33 rfl rfl ?_
        first | refine x_getIe eX5_addLine_34 fk_X5_39 (by decide) (by assumption) (by assumption) ?_ | refine x_getI eX5_addLine_34 fk_X5_39 (by decide) (by assumption) ?_
        refine x_iload_n eX5_addLine_37 rfl rfl ?_
        first | refine x_iastN eX5_addLine_38 (by with_reducible rfl) (by assumption) (by assumption) (by omega) (by omega) ?_ | refine x_iast eX5_addLine_38 (by assumption) (by assumption) ?_
        first | refine x_aload_n eX5_addLine_39 rfl rfl ?_ | refine x_aload_nN eX5_addLine_39 rfl rfl ?_
        refine x_dup eX5_addLine_40 rfl ?_
        first | refine x_getIe eX5_addLine_41 fk_X5_39 (by decide) (by assumption) (by assumption) ?_ | refine x_getI eX5_addLine_41 fk_X5_39 (by decide) (by assumption) ?_
        refine x_iconst (v := nI 1) eX5_addLine_44 (by decide) ?_
        first | refine x_iaddN eX5_addLine_45 (by with_reducible rfl) (by with_reducible rfl) ?_ | refine x_iadd eX5_addLine_45 ?_
        refine x_putI eX5_addLine_46 fk_X5_39 (by decide) rfl ⟨_, rfl, Or.inl rfl⟩ (by assumption) ?_
        refine x_iconst (v := nI 1) eX5_addLine_49 (by decide) ?_
        refine x_zret eX5_addLine_50 rfl (by first | exact Or.inl rfl | exact Or.inr rfl | exact bI_or _ | assumption) ?_
        exact ht (by omega) cq3
      · refine x_iconst (v := nI 0) eX5_addLine_27 (by decide) ?_
        refine x_zret eX5_addLine_28 rfl (by first | exact Or.inl rfl | exact Or.inr rfl | exact bI_or _ | assumption) ?_
        exact hf (Or.inr (Int32.not_lt.mp cq3))
set_option maxRecDepth 100000 in
set_option maxHeartbeats 4000000 in
theorem c_X5_dropLine {n : Nat} (ka : hk h a = 4) (e11 : hi h a 11 = nI n) (h0 : 0 < n) (hn3 : n ≤ 3) (hq : Q none (wi h a 11 (nI (n - 1)))) : Rn G d mX5_dropLine 0 [(0, .ref a)] [] h Q := by
  first | refine x_aload_n eX5_dropLine_0 rfl rfl ?_ | refine x_aload_nN eX5_dropLine_0 rfl rfl ?_
  first | refine x_getIe eX5_dropLine_1 fk_X5_39 (by decide) (by assumption) (by assumption) ?_ | refine x_getI eX5_dropLine_1 fk_X5_39 (by decide) (by assumption) ?_
  refine x_if_le (tgt := 17) eX5_dropLine_4 (by decide) (fun cq1 => ?_) (fun cq1 => ?_)
  · exact absurd cq1 (nI_nle (by omega) (by omega))
  · first | refine x_aload_n eX5_dropLine_7 rfl rfl ?_ | refine x_aload_nN eX5_dropLine_7 rfl rfl ?_
    refine x_dup eX5_dropLine_8 rfl ?_
    first | refine x_getIe eX5_dropLine_9 fk_X5_39 (by decide) (by assumption) (by assumption) ?_ | refine x_getI eX5_dropLine_9 fk_X5_39 (by decide) (by assumption) ?_
    refine x_iconst (v := nI 1) eX5_dropLine_12 (by decide) ?_
    first | refine x_isubN eX5_dropLine_13 (by with_reducible rfl) (by with_reducible rfl) (by omega) ?_ | refine x_isub eX5_dropLine_13 ?_
    refine x_putI eX5_dropLine_14 fk_X5_39 (by decide) rfl ⟨_, rfl, Or.inl rfl⟩ (by assumption) ?_
    refine x_ret (rt := none) eX5_dropLine_17 rfl ?_
    exact hq
set_option maxRecDepth 100000 in
set_option maxHeartbeats 4000000 in
theorem l_X5_firstLineAbove {n q : Nat} {r : Int32} (ka : hk h a = 4) (e11 : hi h a 11 = nI n) (hn3 : n ≤ 3) (hq0 : hr h a 10 = some q) (kq : hk h q = 20) (nq : hn h q = 3) (hq : Q (some (.int (match fstN (fun j => decide (r < hi h q j)) n with | none => -1 | some j => hi h q j))) h) : ∀ m k, k + m = n → (∀ j, j < k → decide (r < hi h q j) = false) → Rn G d mX5_firstLineAbove 2 [(0, .ref a), (1, .int r), (2, .int (nI k))] [] h Q := by
  intro m
  induction m with
  | zero =>
    intro k hk0 hall
    rw [fstN_none (fun j hj => hall j (by omega))] at hq
    refine x_iload_n eX5_firstLineAbove_2 rfl rfl ?_
    first | refine x_aload_n eX5_firstLineAbove_3 rfl rfl ?_ | refine x_aload_nN eX5_firstLineAbove_3 rfl rfl ?_
    first | refine x_getIe eX5_firstLineAbove_4 fk_X5_39 (by decide) (by assumption) (by assumption) ?_ | refine x_getI eX5_firstLineAbove_4 fk_X5_39 (by decide) (by assumption) ?_
    first | refine x_icmp_geN (tgt := 42) eX5_firstLineAbove_7 (by decide) (by with_reducible rfl) (by with_reducible rfl) (by omega) (by omega) (fun cq1 => ?_) (fun cq1 => ?_) | refine x_icmp_ge (tgt := 42) eX5_firstLineAbove_7 (by decide) (fun cq1 => ?_) (fun cq1 => ?_)
    · refine x_iconst (v := (-1)) eX5_firstLineAbove_42 (by decide) ?_
      refine x_iret eX5_firstLineAbove_43 rfl ?_
      exact hq
    · exact absurd cq1 (by omega)
  | succ m ih =>
    intro k hk0 hall
    refine x_iload_n eX5_firstLineAbove_2 rfl rfl ?_
    first | refine x_aload_n eX5_firstLineAbove_3 rfl rfl ?_ | refine x_aload_nN eX5_firstLineAbove_3 rfl rfl ?_
    first | refine x_getIe eX5_firstLineAbove_4 fk_X5_39 (by decide) (by assumption) (by assumption) ?_ | refine x_getI eX5_firstLineAbove_4 fk_X5_39 (by decide) (by assumption) ?_
    first | refine x_icmp_geN (tgt := 42) eX5_firstLineAbove_7 (by decide) (by with_reducible rfl) (by with_reducible rfl) (by omega) (by omega) (fun cq1 => ?_) (fun cq1 => ?_) | refine x_icmp_ge (tgt := 42) eX5_firstLineAbove_7 (by decide) (fun cq1 => ?_) (fun cq1 => ?_)
    · exact absurd cq1 (by omega)
    · refine x_iload_n eX5_firstLineAbove_10 rfl rfl ?_
      first | refine x_aload_n eX5_firstLineAbove_11 rfl rfl ?_ | refine x_aload_nN eX5_firstLineAbove_11 rfl rfl ?_
      first | refine x_getR eX5_firstLineAbove_12 fk_X5_36 rfl (by assumption) (by assumption) ?_ | refine x_getN eX5_firstLineAbove_12 fk_X5_36 rfl (by assumption) (by assumption) ?_
      first | refine x_alenN eX5_firstLineAbove_15 (by assumption) (by decide) (by assumption) ?_ | refine x_slenN eX5_firstLineAbove_15 (by assumption) (by assumption) ?_ | refine x_alen eX5_firstLineAbove_15 (by assumption) (by decide) ?_
      first | refine x_icmp_geN (tgt := 42) eX5_firstLineAbove_16 (by decide) (by with_reducible rfl) (by with_reducible rfl) (by omega) (by omega) (fun cq2 => ?_) (fun cq2 => ?_) | refine x_icmp_ge (tgt := 42) eX5_firstLineAbove_16 (by decide) (fun cq2 => ?_) (fun cq2 => ?_)
      · exact absurd cq2 (by omega)
      · first | refine x_aload_n eX5_firstLineAbove_19 rfl rfl ?_ | refine x_aload_nN eX5_firstLineAbove_19 rfl rfl ?_
        first | refine x_getR eX5_firstLineAbove_20 fk_X5_36 rfl (by assumption) (by assumption) ?_ | refine x_getN eX5_firstLineAbove_20 fk_X5_36 rfl (by assumption) (by assumption) ?_
        refine x_iload_n eX5_firstLineAbove_23 rfl rfl ?_
        first | refine x_ialdN eX5_firstLineAbove_24 (by with_reducible rfl) (by assumption) (by assumption) (by omega) (by omega) ?_ | refine x_sldN eX5_firstLineAbove_24 (by with_reducible rfl) (by assumption) (by assumption) (by omega) (by omega) ?_ | refine x_iald eX5_firstLineAbove_24 (by assumption) (by assumption) ?_
        refine x_iload_n eX5_firstLineAbove_25 rfl rfl ?_
        first | refine x_icmp_leN (tgt := 36) eX5_firstLineAbove_26 (by decide) (by with_reducible rfl) (by with_reducible rfl) (by omega) (by omega) (fun cq3 => ?_) (fun cq3 => ?_) | refine x_icmp_le (tgt := 36) eX5_firstLineAbove_26 (by decide) (fun cq3 => ?_) (fun cq3 => ?_)
        · first | refine x_iincN eX5_firstLineAbove_36 rfl (by with_reducible rfl) (by decide) rfl rfl ?_ | refine x_iinc eX5_firstLineAbove_36 rfl rfl (by decide) rfl rfl ?_
          refine x_goto (tgt := 2) eX5_firstLineAbove_39 (by decide) ?_
          refine Rn.weak (ih (k + 1) (by omega) (fun j hj => by by_cases z : j < k; exact hall j z; rw [show j = k by omega]; exact decide_eq_false (Int32.not_lt.mpr cq3))) (by repeat' first | exact fun _ h => absurd h List.not_mem_nil | refine List.forall_mem_cons.mpr ⟨rfl, ?_⟩)
        · rw [fstN_some (i := k) (decide_eq_true (Int32.not_le.mp cq3)) hall (by omega)] at hq
          first | refine x_aload_n eX5_firstLineAbove_29 rfl rfl ?_ | refine x_aload_nN eX5_firstLineAbove_29 rfl rfl ?_
          first | refine x_getR eX5_firstLineAbove_30 fk_X5_36 rfl (by assumption) (by assumption) ?_ | refine x_getN eX5_firstLineAbove_30 fk_X5_36 rfl (by assumption) (by assumption) ?_
          refine x_iload_n eX5_firstLineAbove_33 rfl rfl ?_
          first | refine x_ialdN eX5_firstLineAbove_34 (by with_reducible rfl) (by assumption) (by assumption) (by omega) (by omega) ?_ | refine x_sldN eX5_firstLineAbove_34 (by with_reducible rfl) (by assumption) (by assumption) (by omega) (by omega) ?_ | refine x_iald eX5_firstLineAbove_34 (by assumption) (by assumption) ?_
          refine x_iret eX5_firstLineAbove_35 rfl ?_
          exact hq
set_option maxRecDepth 100000 in
set_option maxHeartbeats 4000000 in
theorem c_X5_firstLineAbove {n q : Nat} {r : Int32} (ka : hk h a = 4) (e11 : hi h a 11 = nI n) (hn3 : n ≤ 3) (hq0 : hr h a 10 = some q) (kq : hk h q = 20) (nq : hn h q = 3) (hq : Q (some (.int (match fstN (fun j => decide (r < hi h q j)) n with | none => -1 | some j => hi h q j))) h) : Rn G d mX5_firstLineAbove 0 [(0, .ref a), (1, .int r)] [] h Q := by
  refine x_iconst (v := nI 0) eX5_firstLineAbove_0 (by decide) ?_
  refine x_istore_n eX5_firstLineAbove_1 rfl (by decide) rfl rfl ?_
  refine Rn.weak (l_X5_firstLineAbove ka e11 hn3 hq0 kq nq hq n 0 (by omega) (fun j hj => by omega)) (by repeat' first | exact fun _ h => absurd h List.not_mem_nil | refine List.forall_mem_cons.mpr ⟨rfl, ?_⟩)
/-- a sail that is open again -/
def opH (h : AH) (a : Nat) : AH := wi (wq (wi (wi (wq h a 4 none) a 5 0) a 6 0) a 7 none) a 3 0
set_option maxRecDepth 100000 in
set_option maxHeartbeats 4000000 in
theorem c_X5_openAgain (ka : hk h a = 4) (hq : Q none (opH h a)) : Rn G d mX5_openAgain 0 [(0, .ref a)] [] h Q := by
  first | refine x_aload_n eX5_openAgain_0 rfl rfl ?_ | refine x_aload_nN eX5_openAgain_0 rfl rfl ?_
  refine x_null eX5_openAgain_1 ?_
  first | refine x_putR eX5_openAgain_2 fk_X5_15 (by decide) rfl ⟨_, rfl, Or.inl rfl⟩ (by assumption) ?_ | refine x_putN eX5_openAgain_2 fk_X5_15 (by decide) rfl ⟨_, rfl, Or.inl rfl⟩ (by assumption) ?_
  first | refine x_aload_n eX5_openAgain_5 rfl rfl ?_ | refine x_aload_nN eX5_openAgain_5 rfl rfl ?_
  refine x_iconst (v := nI 0) eX5_openAgain_6 (by decide) ?_
  refine x_putI eX5_openAgain_7 fk_X5_19 (by decide) rfl ⟨_, rfl, Or.inl rfl⟩ (by assumption) ?_
  first | refine x_aload_n eX5_openAgain_10 rfl rfl ?_ | refine x_aload_nN eX5_openAgain_10 rfl rfl ?_
  refine x_iconst (v := nI 0) eX5_openAgain_11 (by decide) ?_
  refine x_putI eX5_openAgain_12 fk_X5_22 (by decide) rfl ⟨_, rfl, Or.inl rfl⟩ (by assumption) ?_
  first | refine x_aload_n eX5_openAgain_15 rfl rfl ?_ | refine x_aload_nN eX5_openAgain_15 rfl rfl ?_
  refine x_null eX5_openAgain_16 ?_
  first | refine x_putR eX5_openAgain_17 fk_X5_25 (by decide) rfl ⟨_, rfl, Or.inl rfl⟩ (by assumption) ?_ | refine x_putN eX5_openAgain_17 fk_X5_25 (by decide) rfl ⟨_, rfl, Or.inl rfl⟩ (by assumption) ?_
  first | refine x_aload_n eX5_openAgain_20 rfl rfl ?_ | refine x_aload_nN eX5_openAgain_20 rfl rfl ?_
  refine x_iconst (v := nI 0) eX5_openAgain_21 (by decide) ?_
  refine x_putI eX5_openAgain_22 fk_X5_9 (by decide) rfl ⟨_, rfl, Or.inl rfl⟩ (by assumption) ?_
  refine x_ret (rt := none) eX5_openAgain_25 rfl ?_
  exact hq
set_option maxRecDepth 100000 in
set_option maxHeartbeats 4000000 in
theorem c_X5_dropPatch {n m : Nat} (ka : hk h a = 4) (e5 : hi h a 5 = nI m) (e6 : hi h a 6 = nI n) (hmn : m < n) (hn40 : n ≤ 40) (hq : Q none (wi h a 6 (nI (n - 1)))) : Rn G d mX5_dropPatch 0 [(0, .ref a)] [] h Q := by
  first | refine x_aload_n eX5_dropPatch_0 rfl rfl ?_ | refine x_aload_nN eX5_dropPatch_0 rfl rfl ?_
  first | refine x_getIe eX5_dropPatch_1 fk_X5_22 (by decide) (by assumption) (by assumption) ?_ | refine x_getI eX5_dropPatch_1 fk_X5_22 (by decide) (by assumption) ?_
  first | refine x_aload_n eX5_dropPatch_4 rfl rfl ?_ | refine x_aload_nN eX5_dropPatch_4 rfl rfl ?_
  first | refine x_getIe eX5_dropPatch_5 fk_X5_19 (by decide) (by assumption) (by assumption) ?_ | refine x_getI eX5_dropPatch_5 fk_X5_19 (by decide) (by assumption) ?_
  first | refine x_icmp_leN (tgt := 21) eX5_dropPatch_8 (by decide) (by with_reducible rfl) (by with_reducible rfl) (by omega) (by omega) (fun cq1 => ?_) (fun cq1 => ?_) | refine x_icmp_le (tgt := 21) eX5_dropPatch_8 (by decide) (fun cq1 => ?_) (fun cq1 => ?_)
  · exact absurd cq1 (by omega)
  · first | refine x_aload_n eX5_dropPatch_11 rfl rfl ?_ | refine x_aload_nN eX5_dropPatch_11 rfl rfl ?_
    refine x_dup eX5_dropPatch_12 rfl ?_
    first | refine x_getIe eX5_dropPatch_13 fk_X5_22 (by decide) (by assumption) (by assumption) ?_ | refine x_getI eX5_dropPatch_13 fk_X5_22 (by decide) (by assumption) ?_
    refine x_iconst (v := nI 1) eX5_dropPatch_16 (by decide) ?_
    first | refine x_isubN eX5_dropPatch_17 (by with_reducible rfl) (by with_reducible rfl) (by omega) ?_ | refine x_isub eX5_dropPatch_17 ?_
    refine x_putI eX5_dropPatch_18 fk_X5_22 (by decide) rfl ⟨_, rfl, Or.inl rfl⟩ (by assumption) ?_
    refine x_ret (rt := none) eX5_dropPatch_21 rfl ?_
    exact hq
/-- a new piece at p -/
def pcI (h : AH) (p : Nat) (z lo up ln br tw : Int32) : AH := wi (wi (wi (wi (wi (wi (wi (wi (wi h p 6 0) p 7 (-1)) p 8 (-1)) p 0 z) p 1 lo) p 2 up) p 3 ln) p 4 br) p 5 tw
set_option maxRecDepth 100000 in
set_option maxHeartbeats 4000000 in
theorem c_X4_init {p : Nat} {z lo up ln br tw : Int32} (kp : hk h p = 3) (hz1 : z = 0 ∨ z = 1) (hq : Q none (pcI h p z lo up ln br tw)) : Rn G (d + 1) mX4_init 0 [(0, .ref p), (1, .int z), (2, .int lo), (3, .int up), (4, .int ln), (5, .int br), (6, .int tw)] [] h Q := by
  first | refine x_aload_n eX4_init_0 rfl rfl ?_ | refine x_aload_nN eX4_init_0 rfl rfl ?_
  refine x_obj eX4_init_1 lk_X4_3 (Nat.le_of_ble_eq_true rfl) ?_
  first | refine x_aload_n eX4_init_4 rfl rfl ?_ | refine x_aload_nN eX4_init_4 rfl rfl ?_
  refine x_iconst (v := nI 0) eX4_init_5 (by decide) ?_
  refine x_putI eX4_init_6 fk_X4_9 (by decide) rfl ⟨_, rfl, Or.inl rfl⟩ (by assumption) ?_
  first | refine x_aload_n eX4_init_9 rfl rfl ?_ | refine x_aload_nN eX4_init_9 rfl rfl ?_
  refine x_iconst (v := (-1)) eX4_init_10 (by decide) ?_
  refine x_putI eX4_init_11 fk_X4_15 (by decide) rfl ⟨_, rfl, Or.inl rfl⟩ (by assumption) ?_
  first | refine x_aload_n eX4_init_14 rfl rfl ?_ | refine x_aload_nN eX4_init_14 rfl rfl ?_
  refine x_iconst (v := (-1)) eX4_init_15 (by decide) ?_
  refine x_putI eX4_init_16 fk_X4_18 (by decide) rfl ⟨_, rfl, Or.inl rfl⟩ (by assumption) ?_
  first | refine x_aload_n eX4_init_19 rfl rfl ?_ | refine x_aload_nN eX4_init_19 rfl rfl ?_
  refine x_iload_n eX4_init_20 rfl rfl ?_
  refine x_putZ eX4_init_21 fk_X4_21 (by decide) rfl ⟨_, rfl, Or.inr ⟨rfl, rfl, rfl⟩⟩ (by assumption) (by first | exact Or.inl rfl | exact Or.inr rfl | assumption) ?_
  first | refine x_aload_n eX4_init_24 rfl rfl ?_ | refine x_aload_nN eX4_init_24 rfl rfl ?_
  refine x_iload_n eX4_init_25 rfl rfl ?_
  refine x_putI eX4_init_26 fk_X4_25 (by decide) rfl ⟨_, rfl, Or.inr ⟨rfl, rfl, rfl⟩⟩ (by assumption) ?_
  first | refine x_aload_n eX4_init_29 rfl rfl ?_ | refine x_aload_nN eX4_init_29 rfl rfl ?_
  refine x_iload_n eX4_init_30 rfl rfl ?_
  refine x_putI eX4_init_31 fk_X4_28 (by decide) rfl ⟨_, rfl, Or.inr ⟨rfl, rfl, rfl⟩⟩ (by assumption) ?_
  first | refine x_aload_n eX4_init_34 rfl rfl ?_ | refine x_aload_nN eX4_init_34 rfl rfl ?_
  refine x_iload eX4_init_35 rfl ?_
  refine x_putI eX4_init_37 fk_X4_31 (by decide) rfl ⟨_, rfl, Or.inr ⟨rfl, rfl, rfl⟩⟩ (by assumption) ?_
  first | refine x_aload_n eX4_init_40 rfl rfl ?_ | refine x_aload_nN eX4_init_40 rfl rfl ?_
  refine x_iload eX4_init_41 rfl ?_
  refine x_putI eX4_init_43 fk_X4_34 (by decide) rfl ⟨_, rfl, Or.inr ⟨rfl, rfl, rfl⟩⟩ (by assumption) ?_
  first | refine x_aload_n eX4_init_46 rfl rfl ?_ | refine x_aload_nN eX4_init_46 rfl rfl ?_
  refine x_iload eX4_init_47 rfl ?_
  refine x_putI eX4_init_49 fk_X4_37 (by decide) rfl ⟨_, rfl, Or.inr ⟨rfl, rfl, rfl⟩⟩ (by assumption) ?_
  refine x_ret (rt := none) eX4_init_52 rfl ?_
  exact hq
set_option maxRecDepth 100000 in
set_option maxHeartbeats 4000000 in
theorem pcI_v {p : Nat} {z lo up ln br tw : Int32} : hi (pcI h p z lo up ln br tw) p 0 = z ∧ hi (pcI h p z lo up ln br tw) p 1 = lo ∧ hi (pcI h p z lo up ln br tw) p 2 = up ∧ hi (pcI h p z lo up ln br tw) p 3 = ln ∧ hi (pcI h p z lo up ln br tw) p 4 = br ∧ hi (pcI h p z lo up ln br tw) p 5 = tw ∧ hi (pcI h p z lo up ln br tw) p 6 = 0 ∧ hi (pcI h p z lo up ln br tw) p 7 = -1 ∧ hi (pcI h p z lo up ln br tw) p 8 = -1 := by
  simp only [pcI, hi_wi, up2_at]
  refine ⟨?_, ?_, ?_, ?_, ?_, ?_, ?_, ?_, ?_⟩ <;> simp [upd0]
set_option maxRecDepth 100000 in
set_option maxHeartbeats 4000000 in
theorem pcI_ne {p b : Nat} {z lo up ln br tw : Int32} (hb : b ≠ p) : hi (pcI h p z lo up ln br tw) b = hi h b := by
  simp only [pcI, hi_wi]
  rw [up2_a hb, up2_a hb, up2_a hb, up2_a hb, up2_a hb, up2_a hb, up2_a hb, up2_a hb, up2_a hb]
/-- a patch more -/
def apH (h : AH) (a pa n : Nat) (y b l : Int32) : AH := wi (wq (pcI (nw h 3 9) (hz h) 1 y (y + 1) l b (2 * b * l)) pa n (some (hz h))) a 6 (nI (n + 1))
set_option maxRecDepth 100000 in
set_option maxHeartbeats 4000000 in
theorem c_X5_addPatch {pa n : Nat} {y b l : Int32} (ka : hk h a = 4) (hp : hr h a 4 = some pa) (kp : hk h pa = 33) (npa : hn h pa = 40) (e6 : hi h a 6 = nI n) (hn40 : n < 40) (hla : a < hz h) (hlp : pa < hz h) (hroom : hz h < gB G + 600000 ∧ us G h + 9 ≤ 7302250) (hq : Q none (apH h a pa n y b l)) : Rn G (d + 2) mX5_addPatch 0 [(0, .ref a), (1, .int y), (2, .int b), (3, .int l)] [] h Q := by
  have ka2 : hk (nw h 3 9) a = 4 := by rw [hk_nw (by omega)]; exact ka
  have kp2 : hk (nw h 3 9) pa = 33 := by rw [hk_nw (by omega)]; exact kp
  have np2 : hn (nw h 3 9) pa = 40 := by rw [hn_nw hlp]; exact npa
  have kn : hk (nw h 3 9) (hz h) = 3 := hk_nw'
  have e62 : hi (wq (pcI (nw h 3 9) (hz h) 1 y (y + 1) l b (2 * b * l)) pa n (some (hz h))) a 6 = nI n := by
    show hi (pcI (nw h 3 9) (hz h) 1 y (y + 1) l b (2 * b * l)) a 6 = _
    rw [pcI_ne (by omega), (nw_ne (by omega)).2.1]
    exact e6
  first | refine x_aload_n eX5_addPatch_0 rfl rfl ?_ | refine x_aload_nN eX5_addPatch_0 rfl rfl ?_
  first | refine x_getR eX5_addPatch_1 fk_X5_15 rfl (by assumption) (by assumption) ?_ | refine x_getN eX5_addPatch_1 fk_X5_15 rfl (by assumption) (by assumption) ?_
  refine x_ifnullR eX5_addPatch_4 ?_
  first | refine x_aload_n eX5_addPatch_7 rfl rfl ?_ | refine x_aload_nN eX5_addPatch_7 rfl rfl ?_
  first | refine x_getIe eX5_addPatch_8 fk_X5_22 (by decide) (by assumption) (by assumption) ?_ | refine x_getI eX5_addPatch_8 fk_X5_22 (by decide) (by assumption) ?_
  refine x_if_lt (tgt := 64) eX5_addPatch_11 (by decide) (fun cq1 => ?_) (fun cq1 => ?_)
  · exact absurd cq1 (nI_pos (by omega))
  · first | refine x_aload_n eX5_addPatch_14 rfl rfl ?_ | refine x_aload_nN eX5_addPatch_14 rfl rfl ?_
    first | refine x_getIe eX5_addPatch_15 fk_X5_22 (by decide) (by assumption) (by assumption) ?_ | refine x_getI eX5_addPatch_15 fk_X5_22 (by decide) (by assumption) ?_
    first | refine x_aload_n eX5_addPatch_18 rfl rfl ?_ | refine x_aload_nN eX5_addPatch_18 rfl rfl ?_
    first | refine x_getR eX5_addPatch_19 fk_X5_15 rfl (by assumption) (by assumption) ?_ | refine x_getN eX5_addPatch_19 fk_X5_15 rfl (by assumption) (by assumption) ?_
    first | refine x_alenN eX5_addPatch_22 (by assumption) (by decide) (by assumption) ?_ | refine x_slenN eX5_addPatch_22 (by assumption) (by assumption) ?_ | refine x_alen eX5_addPatch_22 (by assumption) (by decide) ?_
    first | refine x_icmp_geN (tgt := 64) eX5_addPatch_23 (by decide) (by with_reducible rfl) (by with_reducible rfl) (by omega) (by omega) (fun cq2 => ?_) (fun cq2 => ?_) | refine x_icmp_ge (tgt := 64) eX5_addPatch_23 (by decide) (fun cq2 => ?_) (fun cq2 => ?_)
    · exact absurd cq2 (by omega)
    · first | refine x_aload_n eX5_addPatch_26 rfl rfl ?_ | refine x_aload_nN eX5_addPatch_26 rfl rfl ?_
      first | refine x_getR eX5_addPatch_27 fk_X5_15 rfl (by assumption) (by assumption) ?_ | refine x_getN eX5_addPatch_27 fk_X5_15 rfl (by assumption) (by assumption) ?_
      first | refine x_aload_n eX5_addPatch_30 rfl rfl ?_ | refine x_aload_nN eX5_addPatch_30 rfl rfl ?_
      first | refine x_getIe eX5_addPatch_31 fk_X5_22 (by decide) (by assumption) (by assumption) ?_ | refine x_getI eX5_addPatch_31 fk_X5_22 (by decide) (by assumption) ?_
      refine x_new (ci := 3) eX5_addPatch_34 rfl ck_X5_73 (by first | assumption | omega) ?_
      refine x_dup eX5_addPatch_37 rfl ?_
      refine x_iconst (v := nI 1) eX5_addPatch_38 (by decide) ?_
      refine x_iload_n eX5_addPatch_39 rfl rfl ?_
      refine x_iload_n eX5_addPatch_40 rfl rfl ?_
      refine x_iconst (v := nI 1) eX5_addPatch_41 (by decide) ?_
      first | refine x_iaddN eX5_addPatch_42 (by with_reducible rfl) (by with_reducible rfl) ?_ | refine x_iadd eX5_addPatch_42 ?_
      refine x_iload_n eX5_addPatch_43 rfl rfl ?_
      refine x_iload_n eX5_addPatch_44 rfl rfl ?_
      refine x_iconst (v := nI 2) eX5_addPatch_45 (by decide) ?_
      refine x_iload_n eX5_addPatch_46 rfl rfl ?_
      first | refine x_imulN eX5_addPatch_47 (by with_reducible rfl) (by with_reducible rfl) ?_ | refine x_imul eX5_addPatch_47 ?_
      refine x_iload_n eX5_addPatch_48 rfl rfl ?_
      first | refine x_imulN eX5_addPatch_49 (by with_reducible rfl) (by with_reducible rfl) ?_ | refine x_imul eX5_addPatch_49 ?_
      refine x_callI6 eX5_addPatch_50 lk_X5_84 (Nat.le_of_ble_eq_true rfl) (Nat.le_of_ble_eq_true rfl) ?_
      refine c_X4_init kn (Or.inr rfl) (fun _ => ?_)
      first | refine x_aastRN eX5_addPatch_53 (by with_reducible rfl) (by assumption) (by decide) rfl rfl (by assumption) (by assumption) (by omega) (by omega) ?_ | refine x_aastNN eX5_addPatch_53 (by with_reducible rfl) (by assumption) (by decide) (by assumption) (by omega) (by omega) ?_
      first | refine x_aload_n eX5_addPatch_54 rfl rfl ?_ | refine x_aload_nN eX5_addPatch_54 rfl rfl ?_
      refine x_dup eX5_addPatch_55 rfl ?_
      first | refine x_getIe eX5_addPatch_56 fk_X5_22 (by decide) (by assumption) (by assumption) ?_ | refine x_getI eX5_addPatch_56 fk_X5_22 (by decide) (by assumption) ?_
      refine x_iconst (v := nI 1) eX5_addPatch_59 (by decide) ?_
      first | refine x_iaddN eX5_addPatch_60 (by with_reducible rfl) (by with_reducible rfl) ?_ | refine x_iadd eX5_addPatch_60 ?_
      refine x_putI eX5_addPatch_61 fk_X5_22 (by decide) rfl ⟨_, rfl, Or.inl rfl⟩ (by assumption) ?_
      refine x_ret (rt := none) eX5_addPatch_64 rfl ?_
      exact hq
/-- a new sail -/
def inS (h : AH) (a l r : Nat) (ht : Int32) : AH := wi (wq (wq (wi (wi (wq (nw (wi (wi (wq (wi (wi (wq (wi h a 3 0) a 4 none) a 5 0) a 6 0) a 7 none) a 8 0) a 9 0) 20 3) a 10 (some (hz h))) a 11 0) a 12 0) a 0 (some l)) a 1 (some r)) a 2 ht
set_option maxRecDepth 100000 in
set_option maxHeartbeats 4000000 in
theorem c_X5_init {l r : Nat} {ht : Int32} (ka : hk h a = 4) (hla : a < hz h) (hroom : hz h < gB G + 600000 ∧ us G h + 3 ≤ 7302250) (hq : Q none (inS h a l r ht)) : Rn G (d + 1) mX5_init 0 [(0, .ref a), (1, .ref l), (2, .ref r), (3, .int ht)] [] h Q := by
  have ka2 : hk (nw (wi (wi (wq (wi (wi (wq (wi h a 3 0) a 4 none) a 5 0) a 6 0) a 7 none) a 8 0) a 9 0) 20 3) a = 4 := by
    rw [hk_nw (by show a ≠ hz h; omega)]
    exact ka
  first | refine x_aload_n eX5_init_0 rfl rfl ?_ | refine x_aload_nN eX5_init_0 rfl rfl ?_
  refine x_obj eX5_init_1 lk_X5_3 (Nat.le_of_ble_eq_true rfl) ?_
  first | refine x_aload_n eX5_init_4 rfl rfl ?_ | refine x_aload_nN eX5_init_4 rfl rfl ?_
  refine x_iconst (v := nI 0) eX5_init_5 (by decide) ?_
  refine x_putI eX5_init_6 fk_X5_9 (by decide) rfl ⟨_, rfl, Or.inl rfl⟩ (by assumption) ?_
  first | refine x_aload_n eX5_init_9 rfl rfl ?_ | refine x_aload_nN eX5_init_9 rfl rfl ?_
  refine x_null eX5_init_10 ?_
  first | refine x_putR eX5_init_11 fk_X5_15 (by decide) rfl ⟨_, rfl, Or.inl rfl⟩ (by assumption) ?_ | refine x_putN eX5_init_11 fk_X5_15 (by decide) rfl ⟨_, rfl, Or.inl rfl⟩ (by assumption) ?_
  first | refine x_aload_n eX5_init_14 rfl rfl ?_ | refine x_aload_nN eX5_init_14 rfl rfl ?_
  refine x_iconst (v := nI 0) eX5_init_15 (by decide) ?_
  refine x_putI eX5_init_16 fk_X5_19 (by decide) rfl ⟨_, rfl, Or.inl rfl⟩ (by assumption) ?_
  first | refine x_aload_n eX5_init_19 rfl rfl ?_ | refine x_aload_nN eX5_init_19 rfl rfl ?_
  refine x_iconst (v := nI 0) eX5_init_20 (by decide) ?_
  refine x_putI eX5_init_21 fk_X5_22 (by decide) rfl ⟨_, rfl, Or.inl rfl⟩ (by assumption) ?_
  first | refine x_aload_n eX5_init_24 rfl rfl ?_ | refine x_aload_nN eX5_init_24 rfl rfl ?_
  refine x_null eX5_init_25 ?_
  first | refine x_putR eX5_init_26 fk_X5_25 (by decide) rfl ⟨_, rfl, Or.inl rfl⟩ (by assumption) ?_ | refine x_putN eX5_init_26 fk_X5_25 (by decide) rfl ⟨_, rfl, Or.inl rfl⟩ (by assumption) ?_
  first | refine x_aload_n eX5_init_29 rfl rfl ?_ | refine x_aload_nN eX5_init_29 rfl rfl ?_
  refine x_iconst (v := nI 0) eX5_init_30 (by decide) ?_
  refine x_putI eX5_init_31 fk_X5_29 (by decide) rfl ⟨_, rfl, Or.inl rfl⟩ (by assumption) ?_
  first | refine x_aload_n eX5_init_34 rfl rfl ?_ | refine x_aload_nN eX5_init_34 rfl rfl ?_
  refine x_iconst (v := nI 0) eX5_init_35 (by decide) ?_
  refine x_putZ eX5_init_36 fk_X5_32 (by decide) rfl ⟨_, rfl, Or.inl rfl⟩ (by assumption) (by first | exact Or.inl rfl | exact Or.inr rfl | assumption) ?_
  first | refine x_aload_n eX5_init_39 rfl rfl ?_ | refine x_aload_nN eX5_init_39 rfl rfl ?_
  refine x_iconst (v := nI 3) eX5_init_40 (by decide) ?_
  refine x_newaN (kd := 20) eX5_init_41 (by decide) rfl ak_20 (by with_reducible rfl) (by omega) (by first | assumption | omega) ?_
  first | refine x_putR eX5_init_43 fk_X5_36 (by decide) rfl ⟨_, rfl, Or.inr ⟨rfl, rfl, rfl⟩⟩ (by assumption) ?_ | refine x_putN eX5_init_43 fk_X5_36 (by decide) rfl ⟨_, rfl, Or.inr ⟨rfl, rfl, rfl⟩⟩ (by assumption) ?_
  first | refine x_aload_n eX5_init_46 rfl rfl ?_ | refine x_aload_nN eX5_init_46 rfl rfl ?_
  refine x_iconst (v := nI 0) eX5_init_47 (by decide) ?_
  refine x_putI eX5_init_48 fk_X5_39 (by decide) rfl ⟨_, rfl, Or.inl rfl⟩ (by assumption) ?_
  first | refine x_aload_n eX5_init_51 rfl rfl ?_ | refine x_aload_nN eX5_init_51 rfl rfl ?_
  refine x_iconst (v := nI 0) eX5_init_52 (by decide) ?_
  refine x_putI eX5_init_53 fk_X5_42 (by decide) rfl ⟨_, rfl, Or.inl rfl⟩ (by assumption) ?_
  first | refine x_aload_n eX5_init_56 rfl rfl ?_ | refine x_aload_nN eX5_init_56 rfl rfl ?_
  first | refine x_aload_n eX5_init_57 rfl rfl ?_ | refine x_aload_nN eX5_init_57 rfl rfl ?_
  first | refine x_putR eX5_init_58 fk_X5_45 (by decide) rfl ⟨_, rfl, Or.inr ⟨rfl, rfl, rfl⟩⟩ (by assumption) ?_ | refine x_putN eX5_init_58 fk_X5_45 (by decide) rfl ⟨_, rfl, Or.inr ⟨rfl, rfl, rfl⟩⟩ (by assumption) ?_
  first | refine x_aload_n eX5_init_61 rfl rfl ?_ | refine x_aload_nN eX5_init_61 rfl rfl ?_
  first | refine x_aload_n eX5_init_62 rfl rfl ?_ | refine x_aload_nN eX5_init_62 rfl rfl ?_
  first | refine x_putR eX5_init_63 fk_X5_49 (by decide) rfl ⟨_, rfl, Or.inr ⟨rfl, rfl, rfl⟩⟩ (by assumption) ?_ | refine x_putN eX5_init_63 fk_X5_49 (by decide) rfl ⟨_, rfl, Or.inr ⟨rfl, rfl, rfl⟩⟩ (by assumption) ?_
  first | refine x_aload_n eX5_init_66 rfl rfl ?_ | refine x_aload_nN eX5_init_66 rfl rfl ?_
  refine x_iload_n eX5_init_67 rfl rfl ?_
  refine x_putI eX5_init_68 fk_X5_52 (by decide) rfl ⟨_, rfl, Or.inr ⟨rfl, rfl, rfl⟩⟩ (by assumption) ?_
  refine x_ret (rt := none) eX5_init_71 rfl ?_
  exact hq
/-- a new act -/
def acI (h : AH) (a : Nat) (k o i b : Int32) : AH := wi (wi (wi (wi (wq (wq (wq (wi h a 4 0) a 5 none) a 6 none) a 7 none) a 0 k) a 1 o) a 2 i) a 3 b
set_option maxRecDepth 100000 in
set_option maxHeartbeats 4000000 in
theorem c_X0_init {k o i b : Int32} (ka : hk h a = 0) (hq : Q none (acI h a k o i b)) : Rn G (d + 1) mX0_init 0 [(0, .ref a), (1, .int k), (2, .int o), (3, .int i), (4, .int b)] [] h Q := by
  first | refine x_aload_n eX0_init_0 rfl rfl ?_ | refine x_aload_nN eX0_init_0 rfl rfl ?_
  refine x_obj eX0_init_1 lk_X0_1 (Nat.le_of_ble_eq_true rfl) ?_
  first | refine x_aload_n eX0_init_4 rfl rfl ?_ | refine x_aload_nN eX0_init_4 rfl rfl ?_
  refine x_iconst (v := nI 0) eX0_init_5 (by decide) ?_
  refine x_putI eX0_init_6 fk_X0_7 (by decide) rfl ⟨_, rfl, Or.inl rfl⟩ (by assumption) ?_
  first | refine x_aload_n eX0_init_9 rfl rfl ?_ | refine x_aload_nN eX0_init_9 rfl rfl ?_
  refine x_null eX0_init_10 ?_
  first | refine x_putR eX0_init_11 fk_X0_13 (by decide) rfl ⟨_, rfl, Or.inl rfl⟩ (by assumption) ?_ | refine x_putN eX0_init_11 fk_X0_13 (by decide) rfl ⟨_, rfl, Or.inl rfl⟩ (by assumption) ?_
  first | refine x_aload_n eX0_init_14 rfl rfl ?_ | refine x_aload_nN eX0_init_14 rfl rfl ?_
  refine x_null eX0_init_15 ?_
  first | refine x_putR eX0_init_16 fk_X0_17 (by decide) rfl ⟨_, rfl, Or.inl rfl⟩ (by assumption) ?_ | refine x_putN eX0_init_16 fk_X0_17 (by decide) rfl ⟨_, rfl, Or.inl rfl⟩ (by assumption) ?_
  first | refine x_aload_n eX0_init_19 rfl rfl ?_ | refine x_aload_nN eX0_init_19 rfl rfl ?_
  refine x_null eX0_init_20 ?_
  first | refine x_putR eX0_init_21 fk_X0_21 (by decide) rfl ⟨_, rfl, Or.inl rfl⟩ (by assumption) ?_ | refine x_putN eX0_init_21 fk_X0_21 (by decide) rfl ⟨_, rfl, Or.inl rfl⟩ (by assumption) ?_
  first | refine x_aload_n eX0_init_24 rfl rfl ?_ | refine x_aload_nN eX0_init_24 rfl rfl ?_
  refine x_iload_n eX0_init_25 rfl rfl ?_
  refine x_putI eX0_init_26 fk_X0_25 (by decide) rfl ⟨_, rfl, Or.inr ⟨rfl, rfl, rfl⟩⟩ (by assumption) ?_
  first | refine x_aload_n eX0_init_29 rfl rfl ?_ | refine x_aload_nN eX0_init_29 rfl rfl ?_
  refine x_iload_n eX0_init_30 rfl rfl ?_
  refine x_putI eX0_init_31 fk_X0_28 (by decide) rfl ⟨_, rfl, Or.inr ⟨rfl, rfl, rfl⟩⟩ (by assumption) ?_
  first | refine x_aload_n eX0_init_34 rfl rfl ?_ | refine x_aload_nN eX0_init_34 rfl rfl ?_
  refine x_iload_n eX0_init_35 rfl rfl ?_
  refine x_putI eX0_init_36 fk_X0_31 (by decide) rfl ⟨_, rfl, Or.inr ⟨rfl, rfl, rfl⟩⟩ (by assumption) ?_
  first | refine x_aload_n eX0_init_39 rfl rfl ?_ | refine x_aload_nN eX0_init_39 rfl rfl ?_
  refine x_iload eX0_init_40 rfl ?_
  refine x_putI eX0_init_42 fk_X0_34 (by decide) rfl ⟨_, rfl, Or.inr ⟨rfl, rfl, rfl⟩⟩ (by assumption) ?_
  refine x_ret (rt := none) eX0_init_45 rfl ?_
  exact hq
end SAIL2

