/-! ===== undo: the runs ===== -/
section UNDO4
variable {G : GG} {d : Nat} {h h2 : AH} {Q : Option Value → AH → Prop} {ow o2 : Nat → Nat} {y : Nat} {g gp ld wd : Nat → Int32} {nx s a q : Nat}
set_option maxRecDepth 100000 in
set_option maxHeartbeats 4000000 in
theorem c_rvRow {ro : Option Nat} (kq : hk h q = 0) (e0 : hi h q 0 = nI 1) (e5 : hr h q 5 = ro) (ka : hk h a = 1) (hq : Q none (wq h a 4 ro)) : Rn G d mX8_reverseOnBolt 0 [(0, .ref q), (1, .ref a)] [] h Q := by
  cases ro with
  | none =>
    first | refine x_aload_n eX8_reverseOnBolt_0 rfl rfl ?_ | refine x_aload_nN eX8_reverseOnBolt_0 rfl rfl ?_
    refine x_ifnonnullR (tgt := 5) eX8_reverseOnBolt_1 (by decide) ?_
    first | refine x_aload_n eX8_reverseOnBolt_5 rfl rfl ?_ | refine x_aload_nN eX8_reverseOnBolt_5 rfl rfl ?_
    first | refine x_getIe eX8_reverseOnBolt_6 fk_X8_327 (by decide) (by assumption) (by assumption) ?_ | refine x_getI eX8_reverseOnBolt_6 fk_X8_327 (by decide) (by assumption) ?_
    refine x_iconst (v := nI 1) eX8_reverseOnBolt_9 (by decide) ?_
    first | refine x_icmp_neN (tgt := 24) eX8_reverseOnBolt_10 (by decide) (by with_reducible rfl) (by with_reducible rfl) (by omega) (by omega) (fun cq1 => ?_) (fun cq1 => ?_) | refine x_icmp_ne (tgt := 24) eX8_reverseOnBolt_10 (by decide) (fun cq1 => ?_) (fun cq1 => ?_)
    · exact absurd rfl cq1
    · first | refine x_aload_n eX8_reverseOnBolt_13 rfl rfl ?_ | refine x_aload_nN eX8_reverseOnBolt_13 rfl rfl ?_
      first | refine x_aload_n eX8_reverseOnBolt_14 rfl rfl ?_ | refine x_aload_nN eX8_reverseOnBolt_14 rfl rfl ?_
      first | refine x_getR eX8_reverseOnBolt_15 fk_X8_90 rfl (by assumption) (by assumption) ?_ | refine x_getN eX8_reverseOnBolt_15 fk_X8_90 rfl (by assumption) (by assumption) ?_
      first | refine x_putR eX8_reverseOnBolt_18 fk_X8_86 (by decide) rfl ⟨_, rfl, Or.inl rfl⟩ (by assumption) ?_ | refine x_putN eX8_reverseOnBolt_18 fk_X8_86 (by decide) rfl ⟨_, rfl, Or.inl rfl⟩ (by assumption) ?_
      refine x_goto (tgt := 36) eX8_reverseOnBolt_21 (by decide) ?_
      refine x_ret (rt := none) eX8_reverseOnBolt_36 rfl ?_
      exact hq
  | some r =>
    first | refine x_aload_n eX8_reverseOnBolt_0 rfl rfl ?_ | refine x_aload_nN eX8_reverseOnBolt_0 rfl rfl ?_
    refine x_ifnonnullR (tgt := 5) eX8_reverseOnBolt_1 (by decide) ?_
    first | refine x_aload_n eX8_reverseOnBolt_5 rfl rfl ?_ | refine x_aload_nN eX8_reverseOnBolt_5 rfl rfl ?_
    first | refine x_getIe eX8_reverseOnBolt_6 fk_X8_327 (by decide) (by assumption) (by assumption) ?_ | refine x_getI eX8_reverseOnBolt_6 fk_X8_327 (by decide) (by assumption) ?_
    refine x_iconst (v := nI 1) eX8_reverseOnBolt_9 (by decide) ?_
    first | refine x_icmp_neN (tgt := 24) eX8_reverseOnBolt_10 (by decide) (by with_reducible rfl) (by with_reducible rfl) (by omega) (by omega) (fun cq1 => ?_) (fun cq1 => ?_) | refine x_icmp_ne (tgt := 24) eX8_reverseOnBolt_10 (by decide) (fun cq1 => ?_) (fun cq1 => ?_)
    · exact absurd rfl cq1
    · first | refine x_aload_n eX8_reverseOnBolt_13 rfl rfl ?_ | refine x_aload_nN eX8_reverseOnBolt_13 rfl rfl ?_
      first | refine x_aload_n eX8_reverseOnBolt_14 rfl rfl ?_ | refine x_aload_nN eX8_reverseOnBolt_14 rfl rfl ?_
      first | refine x_getR eX8_reverseOnBolt_15 fk_X8_90 rfl (by assumption) (by assumption) ?_ | refine x_getN eX8_reverseOnBolt_15 fk_X8_90 rfl (by assumption) (by assumption) ?_
      first | refine x_putR eX8_reverseOnBolt_18 fk_X8_86 (by decide) rfl ⟨_, rfl, Or.inl rfl⟩ (by assumption) ?_ | refine x_putN eX8_reverseOnBolt_18 fk_X8_86 (by decide) rfl ⟨_, rfl, Or.inl rfl⟩ (by assumption) ?_
      refine x_goto (tgt := 36) eX8_reverseOnBolt_21 (by decide) ?_
      refine x_ret (rt := none) eX8_reverseOnBolt_36 rfl ?_
      exact hq
set_option maxRecDepth 100000 in
set_option maxHeartbeats 4000000 in
theorem c_rvWear {b k : Nat} (kq : hk h q = 0) (e0 : hi h q 0 = nI 2) (e2 : hi h q 2 = nI k) (I : GI g) (hb : b < nt (g 0)) (hkb : k < nt (bl g b 3)) (B : BoltP ow h a b (bl g b) (fun k => liesV g (nI b) (nI k))) (v8 : (hi h q 3).toInt8.toInt32 = hi h q 3) (hq : ∀ r, hr h a 4 = some r → Q none (wi h r k (hi h q 3))) : Rn G (d + 2) mX8_reverseOnBolt 0 [(0, .ref q), (1, .ref a)] [] h Q := by
  have u1 := ((I.2.1 b hb).1).2.1.2.2
  have ka := B.2.1
  have w3 : isN (bl g b 3) 0 200 := ((I.2.1 b hb).1).2.2.mono (Nat.le_refl _) u1
  first | refine x_aload_n eX8_reverseOnBolt_0 rfl rfl ?_ | refine x_aload_nN eX8_reverseOnBolt_0 rfl rfl ?_
  refine x_ifnonnullR (tgt := 5) eX8_reverseOnBolt_1 (by decide) ?_
  first | refine x_aload_n eX8_reverseOnBolt_5 rfl rfl ?_ | refine x_aload_nN eX8_reverseOnBolt_5 rfl rfl ?_
  first | refine x_getIe eX8_reverseOnBolt_6 fk_X8_327 (by decide) (by assumption) (by assumption) ?_ | refine x_getI eX8_reverseOnBolt_6 fk_X8_327 (by decide) (by assumption) ?_
  refine x_iconst (v := nI 1) eX8_reverseOnBolt_9 (by decide) ?_
  first | refine x_icmp_neN (tgt := 24) eX8_reverseOnBolt_10 (by decide) (by with_reducible rfl) (by with_reducible rfl) (by omega) (by omega) (fun cq1 => ?_) (fun cq1 => ?_) | refine x_icmp_ne (tgt := 24) eX8_reverseOnBolt_10 (by decide) (fun cq1 => ?_) (fun cq1 => ?_)
  · first | refine x_aload_n eX8_reverseOnBolt_24 rfl rfl ?_ | refine x_aload_nN eX8_reverseOnBolt_24 rfl rfl ?_
    first | refine x_aload_n eX8_reverseOnBolt_25 rfl rfl ?_ | refine x_aload_nN eX8_reverseOnBolt_25 rfl rfl ?_
    first | refine x_getIe eX8_reverseOnBolt_26 fk_X8_344 (by decide) (by assumption) (by assumption) ?_ | refine x_getI eX8_reverseOnBolt_26 fk_X8_344 (by decide) (by assumption) ?_
    first | refine x_aload_n eX8_reverseOnBolt_29 rfl rfl ?_ | refine x_aload_nN eX8_reverseOnBolt_29 rfl rfl ?_
    first | refine x_getIe eX8_reverseOnBolt_30 fk_X8_347 (by decide) (by assumption) (by assumption) ?_ | refine x_getI eX8_reverseOnBolt_30 fk_X8_347 (by decide) (by assumption) ?_
    first | refine x_callV2 eX8_reverseOnBolt_33 lk_X8_100 (by assumption) (Nat.le_of_ble_eq_true rfl) (Nat.le_of_ble_eq_true rfl) ?_ | refine x_callVw2 eX8_reverseOnBolt_33 lk_X8_100 (by assumption) (Nat.le_of_ble_eq_true rfl) (Nat.le_of_ble_eq_true rfl) (Nat.le_of_ble_eq_true rfl) ?_
    refine Rn.deep (c_X1_putWorn (d := d) B w3 hkb v8 (fun r er _ _ => ?_)) (by omega)
    refine x_ret (rt := none) eX8_reverseOnBolt_36 rfl ?_
    exact hq r er
  · exact absurd cq1 (by decide)
set_option maxRecDepth 100000 in
set_option maxHeartbeats 4000000 in
/-- what reverseMaking looks up -/
theorem c_rvA (kq : hk h q = 0) (S : SailP ow h g s a) (w : SW g s) (x : SX g s) (W : Rn G (d + 1) mX8_reverseMaking 23 [(0, .ref q), (1, .ref a)] [] h Q) : Rn G (d + 1) mX8_reverseMaking 0 [(0, .ref q), (1, .ref a)] [] h Q := by
  obtain ⟨E, SC, SL⟩ := id S
  have h40 : np g s ≤ 40 := w.2.2.2.2.1
  have ka := E.2.1
  have w14 : Rn G (d + 1) mX8_reverseMaking 14 [(0, .ref q), (1, .ref a)] [] h Q := by
    first | refine x_aload_n eX8_reverseMaking_14 rfl rfl ?_ | refine x_aload_nN eX8_reverseMaking_14 rfl rfl ?_
    first | refine x_aload_n eX8_reverseMaking_15 rfl rfl ?_ | refine x_aload_nN eX8_reverseMaking_15 rfl rfl ?_
    first | refine x_getIe eX8_reverseMaking_16 fk_X8_344 (by decide) (by assumption) (by assumption) ?_ | refine x_getI eX8_reverseMaking_16 fk_X8_344 (by decide) (by assumption) ?_
    refine x_callV1 eX8_reverseMaking_19 lk_X8_170 (by assumption) (Nat.le_of_ble_eq_true rfl) (Nat.le_of_ble_eq_true rfl) ?_
    refine Rn.deep (c_X5_pieceNumbered2 (d := d) E.2.1 SC h40 (fun z => x.np0 z) (fun z _ => ?_) (fun j p ej hj hp P _ => ?_)) (by omega)
    · first | refine x_astore_n eX8_reverseMaking_22 rfl (by decide) rfl rfl ?_ | refine x_astore_nN eX8_reverseMaking_22 rfl (by decide) rfl rfl ?_
      refine Rn.weak (W) (by repeat' first | exact fun _ h => absurd h List.not_mem_nil | refine List.forall_mem_cons.mpr ⟨rfl, ?_⟩)
    · first | refine x_astore_n eX8_reverseMaking_22 rfl (by decide) rfl rfl ?_ | refine x_astore_nN eX8_reverseMaking_22 rfl (by decide) rfl rfl ?_
      refine Rn.weak (W) (by repeat' first | exact fun _ h => absurd h List.not_mem_nil | refine List.forall_mem_cons.mpr ⟨rfl, ?_⟩)
  first | refine x_aload_n eX8_reverseMaking_0 rfl rfl ?_ | refine x_aload_nN eX8_reverseMaking_0 rfl rfl ?_
  refine x_ifnonnullR (tgt := 5) eX8_reverseMaking_1 (by decide) ?_
  first | refine x_aload_n eX8_reverseMaking_5 rfl rfl ?_ | refine x_aload_nN eX8_reverseMaking_5 rfl rfl ?_
  first | refine x_aload_n eX8_reverseMaking_6 rfl rfl ?_ | refine x_aload_nN eX8_reverseMaking_6 rfl rfl ?_
  first | refine x_getIe eX8_reverseMaking_7 fk_X8_344 (by decide) (by assumption) (by assumption) ?_ | refine x_getI eX8_reverseMaking_7 fk_X8_344 (by decide) (by assumption) ?_
  refine x_callV1 eX8_reverseMaking_10 lk_X8_127 (by assumption) (Nat.le_of_ble_eq_true rfl) (Nat.le_of_ble_eq_true rfl) ?_
  refine Rn.deep (c_X5_sideNumbered (d := d) E (fun z _ => ?_) (fun z l hl SL' _ => ?_) (fun z r hr' SR _ => ?_)) (by omega)
  · first | refine x_astore_n eX8_reverseMaking_13 rfl (by decide) rfl rfl ?_ | refine x_astore_nN eX8_reverseMaking_13 rfl (by decide) rfl rfl ?_
    refine Rn.weak (w14) (by repeat' first | exact fun _ h => absurd h List.not_mem_nil | refine List.forall_mem_cons.mpr ⟨rfl, ?_⟩)
  · first | refine x_astore_n eX8_reverseMaking_13 rfl (by decide) rfl rfl ?_ | refine x_astore_nN eX8_reverseMaking_13 rfl (by decide) rfl rfl ?_
    refine Rn.weak (w14) (by repeat' first | exact fun _ h => absurd h List.not_mem_nil | refine List.forall_mem_cons.mpr ⟨rfl, ?_⟩)
  · first | refine x_astore_n eX8_reverseMaking_13 rfl (by decide) rfl rfl ?_ | refine x_astore_nN eX8_reverseMaking_13 rfl (by decide) rfl rfl ?_
    refine Rn.weak (w14) (by repeat' first | exact fun _ h => absurd h List.not_mem_nil | refine List.forall_mem_cons.mpr ⟨rfl, ?_⟩)
set_option maxRecDepth 100000 in
set_option maxHeartbeats 4000000 in
theorem c_rvB {i : Nat} (kq : hk h q = 0) (e2 : hi h q 2 = nI i) (hi4 : i < np g s) (S : SailP ow h g s a) (w : SW g s) (x : SX g s) (W : ∀ p, (∃ pa, hr h a 4 = some pa ∧ hr h pa i = some p) → PieceP ow h g s i p → Rn G (d + 1) mX8_reverseMaking 23 [(0, .ref q), (1, .ref a), (3, .ref p)] [] h Q) : Rn G (d + 1) mX8_reverseMaking 0 [(0, .ref q), (1, .ref a)] [] h Q := by
  obtain ⟨E, SC, SL⟩ := id S
  have h40 : np g s ≤ 40 := w.2.2.2.2.1
  have ka := E.2.1
  have w14 : Rn G (d + 1) mX8_reverseMaking 14 [(0, .ref q), (1, .ref a)] [] h Q := by
    first | refine x_aload_n eX8_reverseMaking_14 rfl rfl ?_ | refine x_aload_nN eX8_reverseMaking_14 rfl rfl ?_
    first | refine x_aload_n eX8_reverseMaking_15 rfl rfl ?_ | refine x_aload_nN eX8_reverseMaking_15 rfl rfl ?_
    first | refine x_getIe eX8_reverseMaking_16 fk_X8_344 (by decide) (by assumption) (by assumption) ?_ | refine x_getI eX8_reverseMaking_16 fk_X8_344 (by decide) (by assumption) ?_
    refine x_callV1 eX8_reverseMaking_19 lk_X8_170 (by assumption) (Nat.le_of_ble_eq_true rfl) (Nat.le_of_ble_eq_true rfl) ?_
    refine Rn.deep (c_X5_pieceNumbered2 (d := d) E.2.1 SC h40 (fun z => x.np0 z) (fun z _ => ?_) (fun j p ej hj hp P _ => ?_)) (by omega)
    · rw [hpV_nI (by omega) (by omega), decide_eq_true hi4] at z
      cases z
    · have := (nI_eq (by omega) (by omega)).mp ej
      subst this
      have W := W p hp P
      first | refine x_astore_n eX8_reverseMaking_22 rfl (by decide) rfl rfl ?_ | refine x_astore_nN eX8_reverseMaking_22 rfl (by decide) rfl rfl ?_
      refine Rn.weak (W) (by repeat' first | exact fun _ h => absurd h List.not_mem_nil | refine List.forall_mem_cons.mpr ⟨rfl, ?_⟩)
  first | refine x_aload_n eX8_reverseMaking_0 rfl rfl ?_ | refine x_aload_nN eX8_reverseMaking_0 rfl rfl ?_
  refine x_ifnonnullR (tgt := 5) eX8_reverseMaking_1 (by decide) ?_
  first | refine x_aload_n eX8_reverseMaking_5 rfl rfl ?_ | refine x_aload_nN eX8_reverseMaking_5 rfl rfl ?_
  first | refine x_aload_n eX8_reverseMaking_6 rfl rfl ?_ | refine x_aload_nN eX8_reverseMaking_6 rfl rfl ?_
  first | refine x_getIe eX8_reverseMaking_7 fk_X8_344 (by decide) (by assumption) (by assumption) ?_ | refine x_getI eX8_reverseMaking_7 fk_X8_344 (by decide) (by assumption) ?_
  refine x_callV1 eX8_reverseMaking_10 lk_X8_127 (by assumption) (Nat.le_of_ble_eq_true rfl) (Nat.le_of_ble_eq_true rfl) ?_
  refine Rn.deep (c_X5_sideNumbered (d := d) E (fun z _ => ?_) (fun z l hl SL' _ => ?_) (fun z r hr' SR _ => ?_)) (by omega)
  · first | refine x_astore_n eX8_reverseMaking_13 rfl (by decide) rfl rfl ?_ | refine x_astore_nN eX8_reverseMaking_13 rfl (by decide) rfl rfl ?_
    refine Rn.weak (w14) (by repeat' first | exact fun _ h => absurd h List.not_mem_nil | refine List.forall_mem_cons.mpr ⟨rfl, ?_⟩)
  · first | refine x_astore_n eX8_reverseMaking_13 rfl (by decide) rfl rfl ?_ | refine x_astore_nN eX8_reverseMaking_13 rfl (by decide) rfl rfl ?_
    refine Rn.weak (w14) (by repeat' first | exact fun _ h => absurd h List.not_mem_nil | refine List.forall_mem_cons.mpr ⟨rfl, ?_⟩)
  · first | refine x_astore_n eX8_reverseMaking_13 rfl (by decide) rfl rfl ?_ | refine x_astore_nN eX8_reverseMaking_13 rfl (by decide) rfl rfl ?_
    refine Rn.weak (w14) (by repeat' first | exact fun _ h => absurd h List.not_mem_nil | refine List.forall_mem_cons.mpr ⟨rfl, ?_⟩)
set_option maxRecDepth 100000 in
set_option maxHeartbeats 4000000 in
theorem c_rvC {b : Nat} (kq : hk h q = 0) (e2 : hi h q 2 = nI b) (hb : b < 2) (S : SailP ow h g s a) (w : SW g s) (x : SX g s) (W : ∀ l, SideB ow h g s a b l → Rn G (d + 1) mX8_reverseMaking 23 [(0, .ref q), (1, .ref a), (2, .ref l)] [] h Q) : Rn G (d + 1) mX8_reverseMaking 0 [(0, .ref q), (1, .ref a)] [] h Q := by
  obtain ⟨E, SC, SL⟩ := id S
  have h40 : np g s ≤ 40 := w.2.2.2.2.1
  have ka := E.2.1
  have w14 : ∀ l, SideB ow h g s a b l → Rn G (d + 1) mX8_reverseMaking 14 [(0, .ref q), (1, .ref a), (2, .ref l)] [] h Q := fun l SB => by
    have W := W l SB
    first | refine x_aload_n eX8_reverseMaking_14 rfl rfl ?_ | refine x_aload_nN eX8_reverseMaking_14 rfl rfl ?_
    first | refine x_aload_n eX8_reverseMaking_15 rfl rfl ?_ | refine x_aload_nN eX8_reverseMaking_15 rfl rfl ?_
    first | refine x_getIe eX8_reverseMaking_16 fk_X8_344 (by decide) (by assumption) (by assumption) ?_ | refine x_getI eX8_reverseMaking_16 fk_X8_344 (by decide) (by assumption) ?_
    refine x_callV1 eX8_reverseMaking_19 lk_X8_170 (by assumption) (Nat.le_of_ble_eq_true rfl) (Nat.le_of_ble_eq_true rfl) ?_
    refine Rn.deep (c_X5_pieceNumbered2 (d := d) E.2.1 SC h40 (fun z => x.np0 z) (fun z _ => ?_) (fun j p ej hj hp P _ => ?_)) (by omega)
    · first | refine x_astore_n eX8_reverseMaking_22 rfl (by decide) rfl rfl ?_ | refine x_astore_nN eX8_reverseMaking_22 rfl (by decide) rfl rfl ?_
      refine Rn.weak (W) (by repeat' first | exact fun _ h => absurd h List.not_mem_nil | refine List.forall_mem_cons.mpr ⟨rfl, ?_⟩)
    · first | refine x_astore_n eX8_reverseMaking_22 rfl (by decide) rfl rfl ?_ | refine x_astore_nN eX8_reverseMaking_22 rfl (by decide) rfl rfl ?_
      refine Rn.weak (W) (by repeat' first | exact fun _ h => absurd h List.not_mem_nil | refine List.forall_mem_cons.mpr ⟨rfl, ?_⟩)
  first | refine x_aload_n eX8_reverseMaking_0 rfl rfl ?_ | refine x_aload_nN eX8_reverseMaking_0 rfl rfl ?_
  refine x_ifnonnullR (tgt := 5) eX8_reverseMaking_1 (by decide) ?_
  first | refine x_aload_n eX8_reverseMaking_5 rfl rfl ?_ | refine x_aload_nN eX8_reverseMaking_5 rfl rfl ?_
  first | refine x_aload_n eX8_reverseMaking_6 rfl rfl ?_ | refine x_aload_nN eX8_reverseMaking_6 rfl rfl ?_
  first | refine x_getIe eX8_reverseMaking_7 fk_X8_344 (by decide) (by assumption) (by assumption) ?_ | refine x_getI eX8_reverseMaking_7 fk_X8_344 (by decide) (by assumption) ?_
  refine x_callV1 eX8_reverseMaking_10 lk_X8_127 (by assumption) (Nat.le_of_ble_eq_true rfl) (Nat.le_of_ble_eq_true rfl) ?_
  refine Rn.deep (c_X5_sideNumbered (d := d) E (fun z _ => ?_) (fun z l hl SL' _ => ?_) (fun z r hr' SR _ => ?_)) (by omega)
  · have t : inR (nI b) 0 1 = true := inR_nI (lo := 0) (hi := 1) (by omega) (by omega) (by omega)
    rw [t] at z
    cases z
  · have := (nI_eq (by omega) (by omega)).mp z
    subst this
    have w14 := w14 l ⟨hl, SL'⟩
    first | refine x_astore_n eX8_reverseMaking_13 rfl (by decide) rfl rfl ?_ | refine x_astore_nN eX8_reverseMaking_13 rfl (by decide) rfl rfl ?_
    refine Rn.weak (w14) (by repeat' first | exact fun _ h => absurd h List.not_mem_nil | refine List.forall_mem_cons.mpr ⟨rfl, ?_⟩)
  · have := (nI_eq (by omega) (by omega)).mp z
    subst this
    have w14 := w14 r ⟨hr', SR⟩
    first | refine x_astore_n eX8_reverseMaking_13 rfl (by decide) rfl rfl ?_ | refine x_astore_nN eX8_reverseMaking_13 rfl (by decide) rfl rfl ?_
    refine Rn.weak (w14) (by repeat' first | exact fun _ h => absurd h List.not_mem_nil | refine List.forall_mem_cons.mpr ⟨rfl, ?_⟩)
set_option maxRecDepth 100000 in
set_option maxHeartbeats 4000000 in
theorem c_rvEdge {b : Nat} {ro : Option Nat} (kq : hk h q = 0) (e0 : hi h q 0 = nI 4) (e2 : hi h q 2 = nI b) (hb : b < 2) (e6 : hr h q 6 = ro) (S : SailP ow h g s a) (w : SW g s) (x : SX g s) (hq : ∀ l, SideB ow h g s a b l → Q none (wq h l 2 ro)) : Rn G (d + 1) mX8_reverseMaking 0 [(0, .ref q), (1, .ref a)] [] h Q := by
  refine c_rvC kq e2 hb S w x (fun l SB => ?_)
  have hq := hq l SB
  have kl := SB.2.2.1
  cases ro with
  | none =>
    first | refine x_aload_n eX8_reverseMaking_23 rfl rfl ?_ | refine x_aload_nN eX8_reverseMaking_23 rfl rfl ?_
    first | refine x_getIe eX8_reverseMaking_24 fk_X8_327 (by decide) (by assumption) (by assumption) ?_ | refine x_getI eX8_reverseMaking_24 fk_X8_327 (by decide) (by assumption) ?_
    refine x_iconst (v := nI 4) eX8_reverseMaking_27 (by decide) ?_
    first | refine x_icmp_neN (tgt := 46) eX8_reverseMaking_28 (by decide) (by with_reducible rfl) (by with_reducible rfl) (by omega) (by omega) (fun cq1 => ?_) (fun cq1 => ?_) | refine x_icmp_ne (tgt := 46) eX8_reverseMaking_28 (by decide) (fun cq1 => ?_) (fun cq1 => ?_)
    · exact absurd rfl cq1
    · first | refine x_aload_n eX8_reverseMaking_31 rfl rfl ?_ | refine x_aload_nN eX8_reverseMaking_31 rfl rfl ?_
      refine x_ifnullR eX8_reverseMaking_32 ?_
      first | refine x_aload_n eX8_reverseMaking_35 rfl rfl ?_ | refine x_aload_nN eX8_reverseMaking_35 rfl rfl ?_
      first | refine x_aload_n eX8_reverseMaking_36 rfl rfl ?_ | refine x_aload_nN eX8_reverseMaking_36 rfl rfl ?_
      first | refine x_getR eX8_reverseMaking_37 fk_X8_134 rfl (by assumption) (by assumption) ?_ | refine x_getN eX8_reverseMaking_37 fk_X8_134 rfl (by assumption) (by assumption) ?_
      first | refine x_putR eX8_reverseMaking_40 fk_X8_131 (by decide) rfl ⟨_, rfl, Or.inl rfl⟩ (by assumption) ?_ | refine x_putN eX8_reverseMaking_40 fk_X8_131 (by decide) rfl ⟨_, rfl, Or.inl rfl⟩ (by assumption) ?_
      refine x_goto (tgt := 126) eX8_reverseMaking_43 (by decide) ?_
      refine x_ret (rt := none) eX8_reverseMaking_126 rfl ?_
      exact hq
  | some r =>
    first | refine x_aload_n eX8_reverseMaking_23 rfl rfl ?_ | refine x_aload_nN eX8_reverseMaking_23 rfl rfl ?_
    first | refine x_getIe eX8_reverseMaking_24 fk_X8_327 (by decide) (by assumption) (by assumption) ?_ | refine x_getI eX8_reverseMaking_24 fk_X8_327 (by decide) (by assumption) ?_
    refine x_iconst (v := nI 4) eX8_reverseMaking_27 (by decide) ?_
    first | refine x_icmp_neN (tgt := 46) eX8_reverseMaking_28 (by decide) (by with_reducible rfl) (by with_reducible rfl) (by omega) (by omega) (fun cq1 => ?_) (fun cq1 => ?_) | refine x_icmp_ne (tgt := 46) eX8_reverseMaking_28 (by decide) (fun cq1 => ?_) (fun cq1 => ?_)
    · exact absurd rfl cq1
    · first | refine x_aload_n eX8_reverseMaking_31 rfl rfl ?_ | refine x_aload_nN eX8_reverseMaking_31 rfl rfl ?_
      refine x_ifnullR eX8_reverseMaking_32 ?_
      first | refine x_aload_n eX8_reverseMaking_35 rfl rfl ?_ | refine x_aload_nN eX8_reverseMaking_35 rfl rfl ?_
      first | refine x_aload_n eX8_reverseMaking_36 rfl rfl ?_ | refine x_aload_nN eX8_reverseMaking_36 rfl rfl ?_
      first | refine x_getR eX8_reverseMaking_37 fk_X8_134 rfl (by assumption) (by assumption) ?_ | refine x_getN eX8_reverseMaking_37 fk_X8_134 rfl (by assumption) (by assumption) ?_
      first | refine x_putR eX8_reverseMaking_40 fk_X8_131 (by decide) rfl ⟨_, rfl, Or.inl rfl⟩ (by assumption) ?_ | refine x_putN eX8_reverseMaking_40 fk_X8_131 (by decide) rfl ⟨_, rfl, Or.inl rfl⟩ (by assumption) ?_
      refine x_goto (tgt := 126) eX8_reverseMaking_43 (by decide) ?_
      refine x_ret (rt := none) eX8_reverseMaking_126 rfl ?_
      exact hq
set_option maxRecDepth 100000 in
set_option maxHeartbeats 4000000 in
theorem c_rvStand {b k : Nat} {v : Int32} (kq : hk h q = 0) (e0 : hi h q 0 = nI 5) (e2 : hi h q 2 = nI b) (hb : b < 2) (e4 : hi h q 4 = nI k) (e3 : hi h q 3 = v) (hv : v.toInt16.toInt32 = v) (hkb : k < nt (sl g s (16 + b))) (S : SailP ow h g s a) (w : SW g s) (x : SX g s) (hq : ∀ l r, SideB ow h g s a b l → hr h l 2 = some r → Q none (wi h r k v)) : Rn G (d + 2) mX8_reverseMaking 0 [(0, .ref q), (1, .ref a)] [] h Q := by
  refine c_rvC (d := d + 1) kq e2 hb S w x (fun l SB => ?_)
  have u61 : nt (sl g s (16 + b)) ≤ 61 := by
    rcases (show b = 0 ∨ b = 1 by omega) with z | z
    · subst z; exact w.2.2.2.2.2.2.2.2.2.2.2.1.2.2
    · subst z; exact w.2.2.2.2.2.2.2.2.2.2.2.2.1.2.2
  have kl := SB.2.2.1
  first | refine x_aload_n eX8_reverseMaking_23 rfl rfl ?_ | refine x_aload_nN eX8_reverseMaking_23 rfl rfl ?_
  first | refine x_getIe eX8_reverseMaking_24 fk_X8_327 (by decide) (by assumption) (by assumption) ?_ | refine x_getI eX8_reverseMaking_24 fk_X8_327 (by decide) (by assumption) ?_
  refine x_iconst (v := nI 4) eX8_reverseMaking_27 (by decide) ?_
  first | refine x_icmp_neN (tgt := 46) eX8_reverseMaking_28 (by decide) (by with_reducible rfl) (by with_reducible rfl) (by omega) (by omega) (fun cq1 => ?_) (fun cq1 => ?_) | refine x_icmp_ne (tgt := 46) eX8_reverseMaking_28 (by decide) (fun cq1 => ?_) (fun cq1 => ?_)
  · first | refine x_aload_n eX8_reverseMaking_46 rfl rfl ?_ | refine x_aload_nN eX8_reverseMaking_46 rfl rfl ?_
    first | refine x_getIe eX8_reverseMaking_47 fk_X8_327 (by decide) (by assumption) (by assumption) ?_ | refine x_getI eX8_reverseMaking_47 fk_X8_327 (by decide) (by assumption) ?_
    refine x_iconst (v := nI 5) eX8_reverseMaking_50 (by decide) ?_
    first | refine x_icmp_neN (tgt := 73) eX8_reverseMaking_51 (by decide) (by with_reducible rfl) (by with_reducible rfl) (by omega) (by omega) (fun cq2 => ?_) (fun cq2 => ?_) | refine x_icmp_ne (tgt := 73) eX8_reverseMaking_51 (by decide) (fun cq2 => ?_) (fun cq2 => ?_)
    · exact absurd rfl cq2
    · first | refine x_aload_n eX8_reverseMaking_54 rfl rfl ?_ | refine x_aload_nN eX8_reverseMaking_54 rfl rfl ?_
      refine x_ifnullR eX8_reverseMaking_55 ?_
      first | refine x_aload_n eX8_reverseMaking_58 rfl rfl ?_ | refine x_aload_nN eX8_reverseMaking_58 rfl rfl ?_
      first | refine x_aload_n eX8_reverseMaking_59 rfl rfl ?_ | refine x_aload_nN eX8_reverseMaking_59 rfl rfl ?_
      first | refine x_getIe eX8_reverseMaking_60 fk_X8_143 (by decide) (by assumption) (by assumption) ?_ | refine x_getI eX8_reverseMaking_60 fk_X8_143 (by decide) (by assumption) ?_
      first | refine x_aload_n eX8_reverseMaking_63 rfl rfl ?_ | refine x_aload_nN eX8_reverseMaking_63 rfl rfl ?_
      first | refine x_getIe eX8_reverseMaking_64 fk_X8_347 (by decide) (by assumption) (by assumption) ?_ | refine x_getI eX8_reverseMaking_64 fk_X8_347 (by decide) (by assumption) ?_
      first | refine x_callV2 eX8_reverseMaking_67 lk_X8_146 (by assumption) (Nat.le_of_ble_eq_true rfl) (Nat.le_of_ble_eq_true rfl) ?_ | refine x_callVw2 eX8_reverseMaking_67 lk_X8_146 (by assumption) (Nat.le_of_ble_eq_true rfl) (Nat.le_of_ble_eq_true rfl) (Nat.le_of_ble_eq_true rfl) ?_
      refine Rn.deep (c_X6_putStand (d := d) SB.2 u61 hkb hv (fun r er _ _ => ?_)) (by omega)
      refine x_goto (tgt := 126) eX8_reverseMaking_70 (by decide) ?_
      refine x_ret (rt := none) eX8_reverseMaking_126 rfl ?_
      exact hq l r SB er
  · exact absurd cq1 (by decide)
set_option maxRecDepth 100000 in
set_option maxHeartbeats 4000000 in
theorem c_rvCut (kq : hk h q = 0) (e0 : hi h q 0 = nI 6) (S : SailP ow h g s a) (w : SW g s) (x : SX g s) (hq : Q none (opH h a)) : Rn G (d + 1) mX8_reverseMaking 0 [(0, .ref q), (1, .ref a)] [] h Q := by
  refine c_rvA kq S w x ?_
  have ka := S.1.2.1
  first | refine x_aload_n eX8_reverseMaking_23 rfl rfl ?_ | refine x_aload_nN eX8_reverseMaking_23 rfl rfl ?_
  first | refine x_getIe eX8_reverseMaking_24 fk_X8_327 (by decide) (by assumption) (by assumption) ?_ | refine x_getI eX8_reverseMaking_24 fk_X8_327 (by decide) (by assumption) ?_
  refine x_iconst (v := nI 4) eX8_reverseMaking_27 (by decide) ?_
  first | refine x_icmp_neN (tgt := 46) eX8_reverseMaking_28 (by decide) (by with_reducible rfl) (by with_reducible rfl) (by omega) (by omega) (fun cq1 => ?_) (fun cq1 => ?_) | refine x_icmp_ne (tgt := 46) eX8_reverseMaking_28 (by decide) (fun cq1 => ?_) (fun cq1 => ?_)
  · first | refine x_aload_n eX8_reverseMaking_46 rfl rfl ?_ | refine x_aload_nN eX8_reverseMaking_46 rfl rfl ?_
    first | refine x_getIe eX8_reverseMaking_47 fk_X8_327 (by decide) (by assumption) (by assumption) ?_ | refine x_getI eX8_reverseMaking_47 fk_X8_327 (by decide) (by assumption) ?_
    refine x_iconst (v := nI 5) eX8_reverseMaking_50 (by decide) ?_
    first | refine x_icmp_neN (tgt := 73) eX8_reverseMaking_51 (by decide) (by with_reducible rfl) (by with_reducible rfl) (by omega) (by omega) (fun cq2 => ?_) (fun cq2 => ?_) | refine x_icmp_ne (tgt := 73) eX8_reverseMaking_51 (by decide) (fun cq2 => ?_) (fun cq2 => ?_)
    · first | refine x_aload_n eX8_reverseMaking_73 rfl rfl ?_ | refine x_aload_nN eX8_reverseMaking_73 rfl rfl ?_
      first | refine x_getIe eX8_reverseMaking_74 fk_X8_327 (by decide) (by assumption) (by assumption) ?_ | refine x_getI eX8_reverseMaking_74 fk_X8_327 (by decide) (by assumption) ?_
      refine x_bipush (v := nI 6) eX8_reverseMaking_77 (by decide) ?_
      first | refine x_icmp_neN (tgt := 89) eX8_reverseMaking_79 (by decide) (by with_reducible rfl) (by with_reducible rfl) (by omega) (by omega) (fun cq3 => ?_) (fun cq3 => ?_) | refine x_icmp_ne (tgt := 89) eX8_reverseMaking_79 (by decide) (fun cq3 => ?_) (fun cq3 => ?_)
      · exact absurd rfl cq3
      · first | refine x_aload_n eX8_reverseMaking_82 rfl rfl ?_ | refine x_aload_nN eX8_reverseMaking_82 rfl rfl ?_
        refine x_callV0 eX8_reverseMaking_83 lk_X8_360 (by assumption) (Nat.le_of_ble_eq_true rfl) (Nat.le_of_ble_eq_true rfl) ?_
        refine Rn.deep (c_X5_openAgain (d := d) S.1.2.1 (fun _ => ?_)) (by omega)
        refine x_goto (tgt := 126) eX8_reverseMaking_86 (by decide) ?_
        refine x_ret (rt := none) eX8_reverseMaking_126 rfl ?_
        exact hq
    · exact absurd cq2 (by decide)
  · exact absurd cq1 (by decide)
set_option maxRecDepth 100000 in
set_option maxHeartbeats 4000000 in
theorem c_rvNar {i : Nat} {v : Int32} (kq : hk h q = 0) (e0 : hi h q 0 = nI 7) (e2 : hi h q 2 = nI i) (e3 : hi h q 3 = v) (hi4 : i < np g s) (S : SailP ow h g s a) (w : SW g s) (x : SX g s) (hq : ∀ p, (∃ pa, hr h a 4 = some pa ∧ hr h pa i = some p) → PieceP ow h g s i p → Q none (wi h p 6 v)) : Rn G (d + 1) mX8_reverseMaking 0 [(0, .ref q), (1, .ref a)] [] h Q := by
  refine c_rvB kq e2 hi4 S w x (fun p hp P => ?_)
  have kp := P.2.1
  first | refine x_aload_n eX8_reverseMaking_23 rfl rfl ?_ | refine x_aload_nN eX8_reverseMaking_23 rfl rfl ?_
  first | refine x_getIe eX8_reverseMaking_24 fk_X8_327 (by decide) (by assumption) (by assumption) ?_ | refine x_getI eX8_reverseMaking_24 fk_X8_327 (by decide) (by assumption) ?_
  refine x_iconst (v := nI 4) eX8_reverseMaking_27 (by decide) ?_
  first | refine x_icmp_neN (tgt := 46) eX8_reverseMaking_28 (by decide) (by with_reducible rfl) (by with_reducible rfl) (by omega) (by omega) (fun cq1 => ?_) (fun cq1 => ?_) | refine x_icmp_ne (tgt := 46) eX8_reverseMaking_28 (by decide) (fun cq1 => ?_) (fun cq1 => ?_)
  · first | refine x_aload_n eX8_reverseMaking_46 rfl rfl ?_ | refine x_aload_nN eX8_reverseMaking_46 rfl rfl ?_
    first | refine x_getIe eX8_reverseMaking_47 fk_X8_327 (by decide) (by assumption) (by assumption) ?_ | refine x_getI eX8_reverseMaking_47 fk_X8_327 (by decide) (by assumption) ?_
    refine x_iconst (v := nI 5) eX8_reverseMaking_50 (by decide) ?_
    first | refine x_icmp_neN (tgt := 73) eX8_reverseMaking_51 (by decide) (by with_reducible rfl) (by with_reducible rfl) (by omega) (by omega) (fun cq2 => ?_) (fun cq2 => ?_) | refine x_icmp_ne (tgt := 73) eX8_reverseMaking_51 (by decide) (fun cq2 => ?_) (fun cq2 => ?_)
    · first | refine x_aload_n eX8_reverseMaking_73 rfl rfl ?_ | refine x_aload_nN eX8_reverseMaking_73 rfl rfl ?_
      first | refine x_getIe eX8_reverseMaking_74 fk_X8_327 (by decide) (by assumption) (by assumption) ?_ | refine x_getI eX8_reverseMaking_74 fk_X8_327 (by decide) (by assumption) ?_
      refine x_bipush (v := nI 6) eX8_reverseMaking_77 (by decide) ?_
      first | refine x_icmp_neN (tgt := 89) eX8_reverseMaking_79 (by decide) (by with_reducible rfl) (by with_reducible rfl) (by omega) (by omega) (fun cq3 => ?_) (fun cq3 => ?_) | refine x_icmp_ne (tgt := 89) eX8_reverseMaking_79 (by decide) (fun cq3 => ?_) (fun cq3 => ?_)
      · first | refine x_aload_n eX8_reverseMaking_89 rfl rfl ?_ | refine x_aload_nN eX8_reverseMaking_89 rfl rfl ?_
        first | refine x_getIe eX8_reverseMaking_90 fk_X8_327 (by decide) (by assumption) (by assumption) ?_ | refine x_getI eX8_reverseMaking_90 fk_X8_327 (by decide) (by assumption) ?_
        refine x_bipush (v := nI 7) eX8_reverseMaking_93 (by decide) ?_
        first | refine x_icmp_neN (tgt := 113) eX8_reverseMaking_95 (by decide) (by with_reducible rfl) (by with_reducible rfl) (by omega) (by omega) (fun cq4 => ?_) (fun cq4 => ?_) | refine x_icmp_ne (tgt := 113) eX8_reverseMaking_95 (by decide) (fun cq4 => ?_) (fun cq4 => ?_)
        · exact absurd rfl cq4
        · first | refine x_aload_n eX8_reverseMaking_98 rfl rfl ?_ | refine x_aload_nN eX8_reverseMaking_98 rfl rfl ?_
          refine x_ifnullR eX8_reverseMaking_99 ?_
          first | refine x_aload_n eX8_reverseMaking_102 rfl rfl ?_ | refine x_aload_nN eX8_reverseMaking_102 rfl rfl ?_
          first | refine x_aload_n eX8_reverseMaking_103 rfl rfl ?_ | refine x_aload_nN eX8_reverseMaking_103 rfl rfl ?_
          first | refine x_getIe eX8_reverseMaking_104 fk_X8_347 (by decide) (by assumption) (by assumption) ?_ | refine x_getI eX8_reverseMaking_104 fk_X8_347 (by decide) (by assumption) ?_
          refine x_putI eX8_reverseMaking_107 fk_X8_174 (by decide) rfl ⟨_, rfl, Or.inl rfl⟩ (by assumption) ?_
          refine x_goto (tgt := 126) eX8_reverseMaking_110 (by decide) ?_
          refine x_ret (rt := none) eX8_reverseMaking_126 rfl ?_
          exact hq p hp P
      · exact absurd cq3 (by decide)
    · exact absurd cq2 (by decide)
  · exact absurd cq1 (by decide)
set_option maxRecDepth 100000 in
set_option maxHeartbeats 4000000 in
theorem c_rvPat {m n : Nat} (kq : hk h q = 0) (e0 : hi h q 0 = nI 8) (S : SailP ow h g s a) (w : SW g s) (x : SX g s) (e5 : hi h a 5 = nI m) (e6 : hi h a 6 = nI n) (hmn : m < n) (hn40 : n ≤ 40) (hq : Q none (wi h a 6 (nI (n - 1)))) : Rn G (d + 1) mX8_reverseMaking 0 [(0, .ref q), (1, .ref a)] [] h Q := by
  refine c_rvA kq S w x ?_
  have ka := S.1.2.1
  first | refine x_aload_n eX8_reverseMaking_23 rfl rfl ?_ | refine x_aload_nN eX8_reverseMaking_23 rfl rfl ?_
  first | refine x_getIe eX8_reverseMaking_24 fk_X8_327 (by decide) (by assumption) (by assumption) ?_ | refine x_getI eX8_reverseMaking_24 fk_X8_327 (by decide) (by assumption) ?_
  refine x_iconst (v := nI 4) eX8_reverseMaking_27 (by decide) ?_
  first | refine x_icmp_neN (tgt := 46) eX8_reverseMaking_28 (by decide) (by with_reducible rfl) (by with_reducible rfl) (by omega) (by omega) (fun cq1 => ?_) (fun cq1 => ?_) | refine x_icmp_ne (tgt := 46) eX8_reverseMaking_28 (by decide) (fun cq1 => ?_) (fun cq1 => ?_)
  · first | refine x_aload_n eX8_reverseMaking_46 rfl rfl ?_ | refine x_aload_nN eX8_reverseMaking_46 rfl rfl ?_
    first | refine x_getIe eX8_reverseMaking_47 fk_X8_327 (by decide) (by assumption) (by assumption) ?_ | refine x_getI eX8_reverseMaking_47 fk_X8_327 (by decide) (by assumption) ?_
    refine x_iconst (v := nI 5) eX8_reverseMaking_50 (by decide) ?_
    first | refine x_icmp_neN (tgt := 73) eX8_reverseMaking_51 (by decide) (by with_reducible rfl) (by with_reducible rfl) (by omega) (by omega) (fun cq2 => ?_) (fun cq2 => ?_) | refine x_icmp_ne (tgt := 73) eX8_reverseMaking_51 (by decide) (fun cq2 => ?_) (fun cq2 => ?_)
    · first | refine x_aload_n eX8_reverseMaking_73 rfl rfl ?_ | refine x_aload_nN eX8_reverseMaking_73 rfl rfl ?_
      first | refine x_getIe eX8_reverseMaking_74 fk_X8_327 (by decide) (by assumption) (by assumption) ?_ | refine x_getI eX8_reverseMaking_74 fk_X8_327 (by decide) (by assumption) ?_
      refine x_bipush (v := nI 6) eX8_reverseMaking_77 (by decide) ?_
      first | refine x_icmp_neN (tgt := 89) eX8_reverseMaking_79 (by decide) (by with_reducible rfl) (by with_reducible rfl) (by omega) (by omega) (fun cq3 => ?_) (fun cq3 => ?_) | refine x_icmp_ne (tgt := 89) eX8_reverseMaking_79 (by decide) (fun cq3 => ?_) (fun cq3 => ?_)
      · first | refine x_aload_n eX8_reverseMaking_89 rfl rfl ?_ | refine x_aload_nN eX8_reverseMaking_89 rfl rfl ?_
        first | refine x_getIe eX8_reverseMaking_90 fk_X8_327 (by decide) (by assumption) (by assumption) ?_ | refine x_getI eX8_reverseMaking_90 fk_X8_327 (by decide) (by assumption) ?_
        refine x_bipush (v := nI 7) eX8_reverseMaking_93 (by decide) ?_
        first | refine x_icmp_neN (tgt := 113) eX8_reverseMaking_95 (by decide) (by with_reducible rfl) (by with_reducible rfl) (by omega) (by omega) (fun cq4 => ?_) (fun cq4 => ?_) | refine x_icmp_ne (tgt := 113) eX8_reverseMaking_95 (by decide) (fun cq4 => ?_) (fun cq4 => ?_)
        · first | refine x_aload_n eX8_reverseMaking_113 rfl rfl ?_ | refine x_aload_nN eX8_reverseMaking_113 rfl rfl ?_
          first | refine x_getIe eX8_reverseMaking_114 fk_X8_327 (by decide) (by assumption) (by assumption) ?_ | refine x_getI eX8_reverseMaking_114 fk_X8_327 (by decide) (by assumption) ?_
          refine x_bipush (v := nI 8) eX8_reverseMaking_117 (by decide) ?_
          first | refine x_icmp_neN (tgt := 126) eX8_reverseMaking_119 (by decide) (by with_reducible rfl) (by with_reducible rfl) (by omega) (by omega) (fun cq5 => ?_) (fun cq5 => ?_) | refine x_icmp_ne (tgt := 126) eX8_reverseMaking_119 (by decide) (fun cq5 => ?_) (fun cq5 => ?_)
          · exact absurd rfl cq5
          · first | refine x_aload_n eX8_reverseMaking_122 rfl rfl ?_ | refine x_aload_nN eX8_reverseMaking_122 rfl rfl ?_
            refine x_callV0 eX8_reverseMaking_123 lk_X8_363 (by assumption) (Nat.le_of_ble_eq_true rfl) (Nat.le_of_ble_eq_true rfl) ?_
            refine Rn.deep (c_X5_dropPatch (d := d) S.1.2.1 e5 e6 hmn hn40 (fun _ => ?_)) (by omega)
            refine x_ret (rt := none) eX8_reverseMaking_126 rfl ?_
            exact hq
        · exact absurd cq4 (by decide)
      · exact absurd cq3 (by decide)
    · exact absurd cq2 (by decide)
  · exact absurd cq1 (by decide)
end UNDO4

