/-! ===== the reference: full, left, new bolts, new sails, cut, take ===== -/
set_option maxRecDepth 100000 in
set_option maxHeartbeats 4000000 in
theorem filG_upd (g : Nat → Int32) (lo n k : Nat) (v : Int32) : upd0 (filG g lo n v) k v = filG (upd0 g k v) lo n v := by
  funext j
  unfold upd0 filG
  by_cases z : j = k <;> by_cases y : lo ≤ j ∧ j < lo + n <;> simp [z, y]
section REF10
variable {G : GG} {d : Nat} {h : AH} {Q : Option Value → AH → Prop} {x la kp : Nat}
set_option maxRecDepth 100000 in
set_option maxHeartbeats 4000000 in
theorem l_X9_full {s m : Nat} {y : Int32} (M : MD h x) (hs : s < 10) (w : SW (hi h (x + 1)) s) (hm : nt (sl (hi h (x + 1)) s 8) = m + 1) (hq : Q (some (.int (sumN (fun i => if y < highV (hi h (x + 1)) s i then 0 else sl (hi h (x + 1)) s (140 + i)) 0 m))) h) : ∀ n k, k + n = m → Rn G (d + 3) mX9_full 29 [(0, .ref x), (1, .int (nI s)), (2, .int y), (3, .int (sumN (fun i => if y < highV (hi h (x + 1)) s i then 0 else sl (hi h (x + 1)) s (140 + i)) 0 k)), (4, .int (nI k))] [] h Q := by
  obtain ⟨⟨hx, hS, kS, nS⟩, -⟩ := id M
  have e8 := w.2.2.1.1
  have u8 := w.2.2.1.2.2
  rw [hm] at e8
  intro n
  induction n with
  | zero =>
    intro k hk0
    have e : k = m := by omega
    subst e
    refine x_iload eX9_full_29 rfl ?_
    first | refine x_aload_n eX9_full_31 rfl rfl ?_ | refine x_aload_nN eX9_full_31 rfl rfl ?_
    refine x_iload_n eX9_full_32 rfl rfl ?_
    refine x_bipush (v := nI 8) eX9_full_33 (by decide) ?_
    refine x_callV2 eX9_full_35 lk_X9_57 (by assumption) (Nat.le_of_ble_eq_true rfl) (Nat.le_of_ble_eq_true rfl) ?_
    refine Rn.deep (c_X9_sail (d := d) M.md (by omega) (fun _ => ?_)) (by omega)
    rw [e8]
    refine x_iconst (v := nI 1) eX9_full_38 (by decide) ?_
    first | refine x_isubN eX9_full_39 (by with_reducible rfl) (by with_reducible rfl) (by omega) ?_ | refine x_isub eX9_full_39 ?_
    first | refine x_icmp_geN (tgt := 74) eX9_full_40 (by decide) (by with_reducible rfl) (by with_reducible rfl) (by omega) (by omega) (fun cq1 => ?_) (fun cq1 => ?_) | refine x_icmp_ge (tgt := 74) eX9_full_40 (by decide) (fun cq1 => ?_) (fun cq1 => ?_)
    · refine x_iload_n eX9_full_74 rfl rfl ?_
      refine x_iret eX9_full_75 rfl ?_
      exact hq
    · exact absurd cq1 (by omega)
  | succ n ih =>
    intro k hk0
    refine x_iload eX9_full_29 rfl ?_
    first | refine x_aload_n eX9_full_31 rfl rfl ?_ | refine x_aload_nN eX9_full_31 rfl rfl ?_
    refine x_iload_n eX9_full_32 rfl rfl ?_
    refine x_bipush (v := nI 8) eX9_full_33 (by decide) ?_
    refine x_callV2 eX9_full_35 lk_X9_57 (by assumption) (Nat.le_of_ble_eq_true rfl) (Nat.le_of_ble_eq_true rfl) ?_
    refine Rn.deep (c_X9_sail (d := d) M.md (by omega) (fun _ => ?_)) (by omega)
    rw [e8]
    refine x_iconst (v := nI 1) eX9_full_38 (by decide) ?_
    first | refine x_isubN eX9_full_39 (by with_reducible rfl) (by with_reducible rfl) (by omega) ?_ | refine x_isub eX9_full_39 ?_
    first | refine x_icmp_geN (tgt := 74) eX9_full_40 (by decide) (by with_reducible rfl) (by with_reducible rfl) (by omega) (by omega) (fun cq1 => ?_) (fun cq1 => ?_) | refine x_icmp_ge (tgt := 74) eX9_full_40 (by decide) (fun cq1 => ?_) (fun cq1 => ?_)
    · exact absurd cq1 (by omega)
    · first | refine x_aload_n eX9_full_43 rfl rfl ?_ | refine x_aload_nN eX9_full_43 rfl rfl ?_
      refine x_iload_n eX9_full_44 rfl rfl ?_
      refine x_iload eX9_full_45 rfl ?_
      refine x_callV2 eX9_full_47 lk_X9_121 (by assumption) (Nat.le_of_ble_eq_true rfl) (Nat.le_of_ble_eq_true rfl) ?_
      refine c_X9_high M.md hs (by omega) w (fun _ => ?_)
      refine x_iload_n eX9_full_50 rfl rfl ?_
      first | refine x_icmp_gtN (tgt := 68) eX9_full_51 (by decide) (by with_reducible rfl) (by with_reducible rfl) (by omega) (by omega) (fun cq2 => ?_) (fun cq2 => ?_) | refine x_icmp_gt (tgt := 68) eX9_full_51 (by decide) (fun cq2 => ?_) (fun cq2 => ?_)
      · first | refine x_iincN eX9_full_68 rfl (by with_reducible rfl) (by decide) rfl rfl ?_ | refine x_iinc eX9_full_68 rfl rfl (by decide) rfl rfl ?_
        refine x_goto (tgt := 29) eX9_full_71 (by decide) ?_
        have z : y < highV (hi h (x + 1)) s k := cq2
        have iw := ih (k + 1) (by omega)
        rw [sumN, Nat.zero_add, if_pos z, Int32.add_zero] at iw
        refine Rn.weak (iw) (by repeat' first | exact fun _ h => absurd h List.not_mem_nil | refine List.forall_mem_cons.mpr ⟨rfl, ?_⟩)
      · refine x_iload_n eX9_full_54 rfl rfl ?_
        first | refine x_aload_n eX9_full_55 rfl rfl ?_ | refine x_aload_nN eX9_full_55 rfl rfl ?_
        refine x_iload_n eX9_full_56 rfl rfl ?_
        refine x_sipush (v := nI 140) eX9_full_57 (by decide) ?_
        refine x_iload eX9_full_60 rfl ?_
        first | refine x_iaddN eX9_full_62 (by with_reducible rfl) (by with_reducible rfl) ?_ | refine x_iadd eX9_full_62 ?_
        refine x_callV2 eX9_full_63 lk_X9_57 (by assumption) (Nat.le_of_ble_eq_true rfl) (Nat.le_of_ble_eq_true rfl) ?_
        refine Rn.deep (c_X9_sail (d := d) M.md (by omega) (fun _ => ?_)) (by omega)
        first | refine x_iaddN eX9_full_66 (by with_reducible rfl) (by with_reducible rfl) ?_ | refine x_iadd eX9_full_66 ?_
        refine x_istore_n eX9_full_67 rfl (by decide) rfl rfl ?_
        first | refine x_iincN eX9_full_68 rfl (by with_reducible rfl) (by decide) rfl rfl ?_ | refine x_iinc eX9_full_68 rfl rfl (by decide) rfl rfl ?_
        refine x_goto (tgt := 29) eX9_full_71 (by decide) ?_
        have z : ¬ y < highV (hi h (x + 1)) s k := cq2
        have iw := ih (k + 1) (by omega)
        rw [sumN, Nat.zero_add, if_neg z] at iw
        refine Rn.weak (iw) (by repeat' first | exact fun _ h => absurd h List.not_mem_nil | refine List.forall_mem_cons.mpr ⟨rfl, ?_⟩)
set_option maxRecDepth 100000 in
set_option maxHeartbeats 4000000 in
theorem c_X9_full {s y : Int32} (M : MD h x) (W : GW (hi h (x + 1))) (h8 : ∀ j, j < nt (hi h (x + 1) 1) → sl (hi h (x + 1)) j 0 = 1 → 1 ≤ nt (sl (hi h (x + 1)) j 8)) (hq : Q (some (.int (fullV (hi h (x + 1)) s y))) h) : Rn G (d + 3) mX9_full 0 [(0, .ref x), (1, .int s), (2, .int y)] [] h Q := by
  obtain ⟨⟨hx, hS, kS, nS⟩, -⟩ := id M
  first | refine x_aload_n eX9_full_0 rfl rfl ?_ | refine x_aload_nN eX9_full_0 rfl rfl ?_
  refine x_iload_n eX9_full_1 rfl rfl ?_
  refine x_callV1 eX9_full_2 lk_X9_137 (by assumption) (Nat.le_of_ble_eq_true rfl) (Nat.le_of_ble_eq_true rfl) ?_
  refine Rn.deep (c_X9_isCut (d := d) M.md W.2.1 (fun _ => ?_)) (by omega)
  first | refine x_if_eqB (tgt := 22) eX9_full_5 (by decide) (by with_reducible rfl) (fun cq1 => ?_) (fun cq1 => ?_) | refine x_if_eq (tgt := 22) eX9_full_5 (by decide) (fun cq1 => ?_) (fun cq1 => ?_)
  · refine x_iconst (v := (-1)) eX9_full_22 (by decide) ?_
    refine x_iret eX9_full_23 rfl ?_
    exact qi hq (by simp [fullV, cq1])
  · obtain ⟨j, hj, rfl⟩ := isS_spec W.2.1 (isC_S cq1)
    have h10 := W.2.1.2.2
    have hnt : nt (nI j) = j := nt_nI (by omega)
    have c0 : sl (hi h (x + 1)) j 0 = 1 := by
      have := cq1
      simp only [isC, Bool.and_eq_true, decide_eq_true_eq, hnt] at this
      exact this.2
    have e8 := h8 j hj c0
    refine x_iload_n eX9_full_8 rfl rfl ?_
    refine x_iconst (v := nI 0) eX9_full_9 (by decide) ?_
    first | refine x_aload_n eX9_full_10 rfl rfl ?_ | refine x_aload_nN eX9_full_10 rfl rfl ?_
    refine x_iload_n eX9_full_11 rfl rfl ?_
    refine x_iconst (v := nI 5) eX9_full_12 (by decide) ?_
    refine x_callV2 eX9_full_13 lk_X9_57 (by assumption) (Nat.le_of_ble_eq_true rfl) (Nat.le_of_ble_eq_true rfl) ?_
    refine Rn.deep (c_X9_sail (d := d) M.md (by omega) (fun _ => ?_)) (by omega)
    refine x_callS3 eX9_full_16 lk_X9_70 (Nat.le_of_ble_eq_true rfl) (Nat.le_of_ble_eq_true rfl) ?_
    refine Rn.deep (c_X9_isIn (d := d) (fun _ => ?_)) (by omega)
    first | refine x_if_neB (tgt := 24) eX9_full_19 (by decide) (by with_reducible rfl) (fun cq2 => ?_) (fun cq2 => ?_) | refine x_if_ne (tgt := 24) eX9_full_19 (by decide) (fun cq2 => ?_) (fun cq2 => ?_)
    · have c2 : inR y 0 (sl (hi h (x + 1)) j 5) = true := cq2
      refine x_iconst (v := nI 0) eX9_full_24 (by decide) ?_
      refine x_istore_n eX9_full_25 rfl (by decide) rfl rfl ?_
      refine x_iconst (v := nI 0) eX9_full_26 (by decide) ?_
      refine x_istore eX9_full_27 (by decide) rfl rfl ?_
      refine Rn.weak (l_X9_full (m := nt (sl (hi h (x + 1)) j 8) - 1) M (by omega) (W.2.2.2 j hj) (by omega) (qi hq (by rw [fullV, cq1, hnt, c2]; rfl)) _ 0 (Nat.zero_add _)) (by repeat' first | exact fun _ h => absurd h List.not_mem_nil | refine List.forall_mem_cons.mpr ⟨rfl, ?_⟩)
    · refine x_iconst (v := (-1)) eX9_full_22 (by decide) ?_
      refine x_iret eX9_full_23 rfl ?_
      exact qi hq (by have c2 : inR y 0 (sl (hi h (x + 1)) j 5) = false := cq2; simp [fullV, hnt, c2])
set_option maxRecDepth 100000 in
set_option maxHeartbeats 4000000 in
theorem l_X9_left {b m : Nat} (M : MD h x) (W : GW (hi h (x + 1))) (hb : b < 24) (hm : isN (bl (hi h (x + 1)) b 1) 1 200) (e0 : nt (bl (hi h (x + 1)) b 1) = m) (hq : Q (some (.int (sumN (fun k => if liesV (hi h (x + 1)) (nI b) (nI k) = -1 then 1 else 0) 0 m))) h) : ∀ n k, k + n = m → Rn G (d + 5) mX9_left 14 [(0, .ref x), (1, .int (nI b)), (2, .int (sumN (fun k => if liesV (hi h (x + 1)) (nI b) (nI k) = -1 then 1 else 0) 0 k)), (3, .int (nI k))] [] h Q := by
  obtain ⟨⟨hx, hS, kS, nS⟩, -⟩ := id M
  obtain ⟨e1, -, u1⟩ := hm
  rw [e0] at e1 u1
  intro n
  induction n with
  | zero =>
    intro k hk0
    have e : k = m := by omega
    subst e
    refine x_iload_n eX9_left_14 rfl rfl ?_
    first | refine x_aload_n eX9_left_15 rfl rfl ?_ | refine x_aload_nN eX9_left_15 rfl rfl ?_
    refine x_iload_n eX9_left_16 rfl rfl ?_
    refine x_iconst (v := nI 1) eX9_left_17 (by decide) ?_
    refine x_callV2 eX9_left_18 lk_X9_92 (by assumption) (Nat.le_of_ble_eq_true rfl) (Nat.le_of_ble_eq_true rfl) ?_
    refine Rn.deep (c_X9_bolt (d := d) M.md (by omega) (fun _ => ?_)) (by omega)
    rw [e1]
    first | refine x_icmp_geN (tgt := 48) eX9_left_21 (by decide) (by with_reducible rfl) (by with_reducible rfl) (by omega) (by omega) (fun cq1 => ?_) (fun cq1 => ?_) | refine x_icmp_ge (tgt := 48) eX9_left_21 (by decide) (fun cq1 => ?_) (fun cq1 => ?_)
    · refine x_iload_n eX9_left_48 rfl rfl ?_
      refine x_iret eX9_left_49 rfl ?_
      exact hq
    · exact absurd cq1 (by omega)
  | succ n ih =>
    intro k hk0
    refine x_iload_n eX9_left_14 rfl rfl ?_
    first | refine x_aload_n eX9_left_15 rfl rfl ?_ | refine x_aload_nN eX9_left_15 rfl rfl ?_
    refine x_iload_n eX9_left_16 rfl rfl ?_
    refine x_iconst (v := nI 1) eX9_left_17 (by decide) ?_
    refine x_callV2 eX9_left_18 lk_X9_92 (by assumption) (Nat.le_of_ble_eq_true rfl) (Nat.le_of_ble_eq_true rfl) ?_
    refine Rn.deep (c_X9_bolt (d := d) M.md (by omega) (fun _ => ?_)) (by omega)
    rw [e1]
    first | refine x_icmp_geN (tgt := 48) eX9_left_21 (by decide) (by with_reducible rfl) (by with_reducible rfl) (by omega) (by omega) (fun cq1 => ?_) (fun cq1 => ?_) | refine x_icmp_ge (tgt := 48) eX9_left_21 (by decide) (fun cq1 => ?_) (fun cq1 => ?_)
    · exact absurd cq1 (by omega)
    · refine x_iload_n eX9_left_24 rfl rfl ?_
      first | refine x_aload_n eX9_left_25 rfl rfl ?_ | refine x_aload_nN eX9_left_25 rfl rfl ?_
      refine x_iload_n eX9_left_26 rfl rfl ?_
      refine x_iload_n eX9_left_27 rfl rfl ?_
      refine x_callV2 eX9_left_28 lk_X9_149 (by assumption) (Nat.le_of_ble_eq_true rfl) (Nat.le_of_ble_eq_true rfl) ?_
      refine c_X9_lies M.md W (fun _ => ?_)
      refine x_iconst (v := (-1)) eX9_left_31 (by decide) ?_
      first | refine x_icmp_neN (tgt := 39) eX9_left_32 (by decide) (by with_reducible rfl) (by with_reducible rfl) (by omega) (by omega) (fun cq2 => ?_) (fun cq2 => ?_) | refine x_icmp_ne (tgt := 39) eX9_left_32 (by decide) (fun cq2 => ?_) (fun cq2 => ?_)
      · have z : ¬ liesV (hi h (x + 1)) (nI b) (nI k) = -1 := cq2
        have iw := ih (k + 1) (by omega)
        rw [sumN, Nat.zero_add, if_neg z] at iw
        refine x_iconst (v := nI 0) eX9_left_39 (by decide) ?_
        first | refine x_iaddN eX9_left_40 (by with_reducible rfl) (by with_reducible rfl) ?_ | refine x_iadd eX9_left_40 ?_
        refine x_istore_n eX9_left_41 rfl (by decide) rfl rfl ?_
        first | refine x_iincN eX9_left_42 rfl (by with_reducible rfl) (by decide) rfl rfl ?_ | refine x_iinc eX9_left_42 rfl rfl (by decide) rfl rfl ?_
        refine x_goto (tgt := 14) eX9_left_45 (by decide) ?_
        refine Rn.weak (iw) (by repeat' first | exact fun _ h => absurd h List.not_mem_nil | refine List.forall_mem_cons.mpr ⟨rfl, ?_⟩)
      · have z : liesV (hi h (x + 1)) (nI b) (nI k) = -1 := cq2
        have iw := ih (k + 1) (by omega)
        rw [sumN, Nat.zero_add, if_pos z] at iw
        refine x_iconst (v := nI 1) eX9_left_35 (by decide) ?_
        refine x_goto (tgt := 40) eX9_left_36 (by decide) ?_
        first | refine x_iaddN eX9_left_40 (by with_reducible rfl) (by with_reducible rfl) ?_ | refine x_iadd eX9_left_40 ?_
        refine x_istore_n eX9_left_41 rfl (by decide) rfl rfl ?_
        first | refine x_iincN eX9_left_42 rfl (by with_reducible rfl) (by decide) rfl rfl ?_ | refine x_iinc eX9_left_42 rfl rfl (by decide) rfl rfl ?_
        refine x_goto (tgt := 14) eX9_left_45 (by decide) ?_
        refine Rn.weak (iw) (by repeat' first | exact fun _ h => absurd h List.not_mem_nil | refine List.forall_mem_cons.mpr ⟨rfl, ?_⟩)
set_option maxRecDepth 100000 in
set_option maxHeartbeats 4000000 in
theorem c_X9_left {b : Int32} (M : MD h x) (W : GW (hi h (x + 1))) (hq : Q (some (.int (leftV (hi h (x + 1)) b))) h) : Rn G (d + 5) mX9_left 0 [(0, .ref x), (1, .int b)] [] h Q := by
  obtain ⟨⟨hx, hS, kS, nS⟩, -⟩ := id M
  first | refine x_aload_n eX9_left_0 rfl rfl ?_ | refine x_aload_nN eX9_left_0 rfl rfl ?_
  refine x_iload_n eX9_left_1 rfl rfl ?_
  refine x_callV1 eX9_left_2 lk_X9_89 (by assumption) (Nat.le_of_ble_eq_true rfl) (Nat.le_of_ble_eq_true rfl) ?_
  refine Rn.deep (c_X9_isBolt (d := d) M.md (fun _ => ?_)) (by omega)
  first | refine x_if_neB (tgt := 10) eX9_left_5 (by decide) (by with_reducible rfl) (fun cq1 => ?_) (fun cq1 => ?_) | refine x_if_ne (tgt := 10) eX9_left_5 (by decide) (fun cq1 => ?_) (fun cq1 => ?_)
  · obtain ⟨j, hj, rfl⟩ := isB_spec W.1 cq1
    have h24 := W.1.2.2
    have hnt : nt (nI j) = j := nt_nI (by omega)
    refine x_iconst (v := nI 0) eX9_left_10 (by decide) ?_
    refine x_istore_n eX9_left_11 rfl (by decide) rfl rfl ?_
    refine x_iconst (v := nI 0) eX9_left_12 (by decide) ?_
    refine x_istore_n eX9_left_13 rfl (by decide) rfl rfl ?_
    refine Rn.weak (l_X9_left M W (by omega) (W.2.2.1 j hj).2.1 rfl (qi hq (by rw [leftV, cq1, hnt]; rfl)) _ 0 (Nat.zero_add _)) (by repeat' first | exact fun _ h => absurd h List.not_mem_nil | refine List.forall_mem_cons.mpr ⟨rfl, ?_⟩)
  · refine x_iconst (v := (-1)) eX9_left_8 (by decide) ?_
    refine x_iret eX9_left_9 rfl ?_
    exact qi hq (by simp [leftV, cq1])
set_option maxRecDepth 100000 in
set_option maxHeartbeats 4000000 in
theorem c_X9_newBolt {g : Nat → Int32} {b : Nat} {w l gr f : Int32} (M : MD h x) (hb : b < 24) (h0 : g 0 = nI b) (hq : Q (some (.int (nI b))) (acted h x la kp (gBolt g b w l gr f))) : Rn G (d + 1) mX9_newBolt 0 [(0, .ref x), (1, .int w), (2, .int l), (3, .int gr), (4, .int f)] [] (acted h x la kp g) Q := by
  obtain ⟨⟨hx, hS, kS, nS⟩, -⟩ := id (M.acted la kp g)
  have e0 : hi (acted h x la kp g) (x + 1) 0 = nI b := by rw [hi_acted, h0]
  first | refine x_aload_n eX9_newBolt_0 rfl rfl ?_ | refine x_aload_nN eX9_newBolt_0 rfl rfl ?_
  first | refine x_getR eX9_newBolt_1 fk_X9_7 rfl (by assumption) (by assumption) ?_ | refine x_getN eX9_newBolt_1 fk_X9_7 rfl (by assumption) (by assumption) ?_
  refine x_iconst (v := nI 0) eX9_newBolt_4 (by decide) ?_
  first | refine x_ialdN eX9_newBolt_5 (by with_reducible rfl) (by assumption) (by assumption) (by omega) (by omega) ?_ | refine x_sldN eX9_newBolt_5 (by with_reducible rfl) (by assumption) (by assumption) (by omega) (by omega) ?_ | refine x_iald eX9_newBolt_5 (by assumption) (by assumption) ?_
  rw [e0]
  refine x_istore eX9_newBolt_6 (by decide) rfl rfl ?_
  first | refine x_aload_n eX9_newBolt_8 rfl rfl ?_ | refine x_aload_nN eX9_newBolt_8 rfl rfl ?_
  first | refine x_getR eX9_newBolt_9 fk_X9_7 rfl (by assumption) (by assumption) ?_ | refine x_getN eX9_newBolt_9 fk_X9_7 rfl (by assumption) (by assumption) ?_
  refine x_iconst (v := nI 0) eX9_newBolt_12 (by decide) ?_
  refine x_dup2 eX9_newBolt_13 rfl rfl ?_
  first | refine x_ialdN eX9_newBolt_14 (by with_reducible rfl) (by assumption) (by assumption) (by omega) (by omega) ?_ | refine x_sldN eX9_newBolt_14 (by with_reducible rfl) (by assumption) (by assumption) (by omega) (by omega) ?_ | refine x_iald eX9_newBolt_14 (by assumption) (by assumption) ?_
  rw [e0]
  refine x_iconst (v := nI 1) eX9_newBolt_15 (by decide) ?_
  first | refine x_iaddN eX9_newBolt_16 (by with_reducible rfl) (by with_reducible rfl) ?_ | refine x_iadd eX9_newBolt_16 ?_
  first | refine x_iastN eX9_newBolt_17 (by with_reducible rfl) (by assumption) (by assumption) (by omega) (by omega) ?_ | refine x_iast eX9_newBolt_17 (by assumption) (by assumption) ?_
  first | refine x_aload_n eX9_newBolt_18 rfl rfl ?_ | refine x_aload_nN eX9_newBolt_18 rfl rfl ?_
  refine x_iload eX9_newBolt_19 rfl ?_
  refine x_iconst (v := nI 0) eX9_newBolt_21 (by decide) ?_
  refine x_iload_n eX9_newBolt_22 rfl rfl ?_
  refine x_callV3 eX9_newBolt_23 lk_X9_60 (by assumption) (Nat.le_of_ble_eq_true rfl) (Nat.le_of_ble_eq_true rfl) ?_
  rw [acted_wi]
  refine Rn.deep (c_X9_putBolt (d := d) (M.acted la kp _).md (by omega) (fun _ => ?_)) (by omega)
  rw [acted_wi]
  have hx2 : hk (acted h x la kp (upd0 (upd0 g 0 (nI (b + 1))) (10 + 210 * b + 0) w)) x = 8 := hx
  first | refine x_aload_n eX9_newBolt_26 rfl rfl ?_ | refine x_aload_nN eX9_newBolt_26 rfl rfl ?_
  refine x_iload eX9_newBolt_27 rfl ?_
  refine x_iconst (v := nI 1) eX9_newBolt_29 (by decide) ?_
  refine x_iload_n eX9_newBolt_30 rfl rfl ?_
  refine x_callV3 eX9_newBolt_31 lk_X9_60 (by assumption) (Nat.le_of_ble_eq_true rfl) (Nat.le_of_ble_eq_true rfl) ?_
  refine Rn.deep (c_X9_putBolt (d := d) (M.acted la kp _).md (by omega) (fun _ => ?_)) (by omega)
  rw [acted_wi]
  have hx3 : hk (acted h x la kp (upd0 (upd0 (upd0 g 0 (nI (b + 1))) (10 + 210 * b + 0) w) (10 + 210 * b + 1) l)) x = 8 := hx
  first | refine x_aload_n eX9_newBolt_34 rfl rfl ?_ | refine x_aload_nN eX9_newBolt_34 rfl rfl ?_
  refine x_iload eX9_newBolt_35 rfl ?_
  refine x_iconst (v := nI 2) eX9_newBolt_37 (by decide) ?_
  refine x_iload_n eX9_newBolt_38 rfl rfl ?_
  refine x_callV3 eX9_newBolt_39 lk_X9_60 (by assumption) (Nat.le_of_ble_eq_true rfl) (Nat.le_of_ble_eq_true rfl) ?_
  refine Rn.deep (c_X9_putBolt (d := d) (M.acted la kp _).md (by omega) (fun _ => ?_)) (by omega)
  rw [acted_wi]
  have hx4 : hk (acted h x la kp (upd0 (upd0 (upd0 (upd0 g 0 (nI (b + 1))) (10 + 210 * b + 0) w) (10 + 210 * b + 1) l) (10 + 210 * b + 2) gr)) x = 8 := hx
  first | refine x_aload_n eX9_newBolt_42 rfl rfl ?_ | refine x_aload_nN eX9_newBolt_42 rfl rfl ?_
  refine x_iload eX9_newBolt_43 rfl ?_
  refine x_iconst (v := nI 3) eX9_newBolt_45 (by decide) ?_
  refine x_iconst (v := nI 0) eX9_newBolt_46 (by decide) ?_
  refine x_callV3 eX9_newBolt_47 lk_X9_60 (by assumption) (Nat.le_of_ble_eq_true rfl) (Nat.le_of_ble_eq_true rfl) ?_
  refine Rn.deep (c_X9_putBolt (d := d) (M.acted la kp _).md (by omega) (fun _ => ?_)) (by omega)
  rw [acted_wi]
  have hx5 : hk (acted h x la kp (upd0 (upd0 (upd0 (upd0 (upd0 g 0 (nI (b + 1))) (10 + 210 * b + 0) w) (10 + 210 * b + 1) l) (10 + 210 * b + 2) gr) (10 + 210 * b + 3) (nI 0))) x = 8 := hx
  first | refine x_aload_n eX9_newBolt_50 rfl rfl ?_ | refine x_aload_nN eX9_newBolt_50 rfl rfl ?_
  refine x_iload eX9_newBolt_51 rfl ?_
  refine x_iconst (v := nI 4) eX9_newBolt_53 (by decide) ?_
  refine x_iload eX9_newBolt_54 rfl ?_
  refine x_callV3 eX9_newBolt_56 lk_X9_60 (by assumption) (Nat.le_of_ble_eq_true rfl) (Nat.le_of_ble_eq_true rfl) ?_
  refine Rn.deep (c_X9_putBolt (d := d) (M.acted la kp _).md (by omega) (fun _ => ?_)) (by omega)
  rw [acted_wi]
  refine x_iload eX9_newBolt_59 rfl ?_
  refine x_iret eX9_newBolt_61 rfl ?_
  exact hq
end REF10

