/-! ===== the class: sides and sails, what they read ===== -/
set_option maxRecDepth 100000 in
set_option maxHeartbeats 4000000 in
theorem edg_side {g : Nat → Int32} {s y : Nat} (b : Nat) (w : SW g s) (wr : isN (sl g s (16 + b)) 0 61) (hy : y < 2 ^ 31) : sl g s (1 + b) + (sl g s (3 + b) - sl g s (1 + b)) * nI y / sl g s 5 + (if hpV (nI (nt (sl g s (16 + b)))) (nI y) then sl g s (18 + 61 * b + y) else 0) = edg g s b y := by
  have u := wr.2.2
  unfold edg
  rw [hpV_nI (by omega) hy]
  by_cases z : y < nt (sl g s (16 + b))
  · rw [if_pos (decide_eq_true z), if_pos (by rw [wr.1]; exact nI_lt z (by omega))]
  · rw [if_neg (by rw [decide_eq_false z]; decide), if_neg (by rw [wr.1]; exact nI_nlt (by omega) hy)]
section SIDE
variable {G : GG} {d : Nat} {h : AH} {Q : Option Value → AH → Prop} {ow : Nat → Nat} {a t tr n : Nat} {ft hd : Int32} {f : Nat → Int32}
set_option maxRecDepth 100000 in
set_option maxHeartbeats 4000000 in
theorem c_X6_tellsHeight {k : Int32} (S : SideP ow h a t tr ft hd n f) (u : n ≤ 61) (hq : Q (some (.int (bI (hpV (nI n) k)))) h) : Rn G d mX6_tellsHeight 0 [(0, .ref a), (1, .int k)] [] h Q := by
  obtain ⟨-, ka, -, -, hrow⟩ := id S
  rcases hrow with ⟨er, en⟩ | ⟨r, er, -, kr, nr, n0, -⟩
  · skip
    first | refine x_aload_n eX6_tellsHeight_0 rfl rfl ?_ | refine x_aload_nN eX6_tellsHeight_0 rfl rfl ?_
    first | refine x_getR eX6_tellsHeight_1 fk_X6_7 rfl (by assumption) (by assumption) ?_ | refine x_getN eX6_tellsHeight_1 fk_X6_7 rfl (by assumption) (by assumption) ?_
    refine x_ifnullN (tgt := 24) eX6_tellsHeight_4 (by decide) ?_
    refine x_iconst (v := nI 0) eX6_tellsHeight_24 (by decide) ?_
    refine x_zret eX6_tellsHeight_25 rfl (by first | exact Or.inl rfl | exact Or.inr rfl | exact bI_or _ | assumption) ?_
    refine qi hq ?_
    rw [bIf]
    rw [en]
    cases z : hpV (nI 0) k with
    | false => rfl
    | true =>
      obtain ⟨j, hj, -⟩ := hpV_s (hi := 0) (isN_nI (by omega) (by omega) (by omega)) (by omega) z
      rw [nt_nI (by omega)] at hj
      omega
  · skip
    first | refine x_aload_n eX6_tellsHeight_0 rfl rfl ?_ | refine x_aload_nN eX6_tellsHeight_0 rfl rfl ?_
    first | refine x_getR eX6_tellsHeight_1 fk_X6_7 rfl (by assumption) (by assumption) ?_ | refine x_getN eX6_tellsHeight_1 fk_X6_7 rfl (by assumption) (by assumption) ?_
    refine x_ifnullR eX6_tellsHeight_4 ?_
    refine x_iload_n eX6_tellsHeight_7 rfl rfl ?_
    refine x_if_lt (tgt := 24) eX6_tellsHeight_8 (by decide) (fun cq1 => ?_) (fun cq1 => ?_)
    · refine x_iconst (v := nI 0) eX6_tellsHeight_24 (by decide) ?_
      refine x_zret eX6_tellsHeight_25 rfl (by first | exact Or.inl rfl | exact Or.inr rfl | exact bI_or _ | assumption) ?_
      exact qi hq (bIf (hpV_n cq1)).symm
    · refine x_iload_n eX6_tellsHeight_11 rfl rfl ?_
      first | refine x_aload_n eX6_tellsHeight_12 rfl rfl ?_ | refine x_aload_nN eX6_tellsHeight_12 rfl rfl ?_
      first | refine x_getR eX6_tellsHeight_13 fk_X6_7 rfl (by assumption) (by assumption) ?_ | refine x_getN eX6_tellsHeight_13 fk_X6_7 rfl (by assumption) (by assumption) ?_
      first | refine x_alenN eX6_tellsHeight_16 (by assumption) (by decide) (by assumption) ?_ | refine x_slenN eX6_tellsHeight_16 (by assumption) (by assumption) ?_ | refine x_alen eX6_tellsHeight_16 (by assumption) (by decide) ?_
      first | refine x_icmp_geN (tgt := 24) eX6_tellsHeight_17 (by decide) (by with_reducible rfl) (by with_reducible rfl) (by omega) (by omega) (fun cq2 => ?_) (fun cq2 => ?_) | refine x_icmp_ge (tgt := 24) eX6_tellsHeight_17 (by decide) (fun cq2 => ?_) (fun cq2 => ?_)
      · refine x_iconst (v := nI 0) eX6_tellsHeight_24 (by decide) ?_
        refine x_zret eX6_tellsHeight_25 rfl (by first | exact Or.inl rfl | exact Or.inr rfl | exact bI_or _ | assumption) ?_
        exact qi hq (bIf (hpV_g cq2)).symm
      · refine x_iconst (v := nI 1) eX6_tellsHeight_20 (by decide) ?_
        refine x_goto (tgt := 25) eX6_tellsHeight_21 (by decide) ?_
        refine x_zret eX6_tellsHeight_25 rfl (by first | exact Or.inl rfl | exact Or.inr rfl | exact bI_or _ | assumption) ?_
        exact qi hq (bIt (hpV_t cq1 cq2)).symm
set_option maxRecDepth 100000 in
set_option maxHeartbeats 4000000 in
theorem c_X6_standAt {k : Int32} (S : SideP ow h a t tr ft hd n f) (u : n ≤ 61) (hq : Q (some (.int (if hpV (nI n) k then f (nt k) else 0))) h) : Rn G (d + 1) mX6_standAt 0 [(0, .ref a), (1, .int k)] [] h Q := by
  obtain ⟨-, ka, -, -, hrow⟩ := id S
  first | refine x_aload_n eX6_standAt_0 rfl rfl ?_ | refine x_aload_nN eX6_standAt_0 rfl rfl ?_
  refine x_iload_n eX6_standAt_1 rfl rfl ?_
  refine x_callV1 eX6_standAt_2 lk_X6_20 (by assumption) (Nat.le_of_ble_eq_true rfl) (Nat.le_of_ble_eq_true rfl) ?_
  refine c_X6_tellsHeight S u (fun _ => ?_)
  first | refine x_if_eqB (tgt := 17) eX6_standAt_5 (by decide) (by with_reducible rfl) (fun cq1 => ?_) (fun cq1 => ?_) | refine x_if_eq (tgt := 17) eX6_standAt_5 (by decide) (fun cq1 => ?_) (fun cq1 => ?_)
  · refine x_iconst (v := nI 0) eX6_standAt_17 (by decide) ?_
    refine x_iret eX6_standAt_18 rfl ?_
    exact qi hq (by rw [if_neg (by rw [cq1]; decide)]; rfl)
  · obtain ⟨j, hj, rfl⟩ := hpV_s (hi := 61) (isN_nI (by omega) (by omega) u) (by omega) cq1
    rw [nt_nI (by omega)] at hj
    have hnt : nt (nI j) = j := nt_nI (by omega)
    rcases hrow with ⟨er, en⟩ | ⟨r, er, -, kr, nr, n0, ev⟩
    · omega
    · first | refine x_aload_n eX6_standAt_8 rfl rfl ?_ | refine x_aload_nN eX6_standAt_8 rfl rfl ?_
      first | refine x_getR eX6_standAt_9 fk_X6_7 rfl (by assumption) (by assumption) ?_ | refine x_getN eX6_standAt_9 fk_X6_7 rfl (by assumption) (by assumption) ?_
      refine x_iload_n eX6_standAt_12 rfl rfl ?_
      first | refine x_saldN eX6_standAt_13 (by with_reducible rfl) (by assumption) (by assumption) (by omega) (by omega) ?_ | refine x_sald eX6_standAt_13 (by assumption) (by assumption) ?_
      refine x_goto (tgt := 18) eX6_standAt_14 (by decide) ?_
      refine x_iret eX6_standAt_18 rfl ?_
      exact qi hq (by rw [if_pos cq1, hnt, ev j hj])
set_option maxRecDepth 100000 in
set_option maxHeartbeats 4000000 in
theorem c_X6_putStand {j : Nat} {v : Int32} (S : SideP ow h a t tr ft hd n f) (u : n ≤ 61) (hj : j < n) (hv : v.toInt16.toInt32 = v) (hq : ∀ r, hr h a 2 = some r → ow r = tr → Q none (wi h r j v)) : Rn G (d + 1) mX6_putStand 0 [(0, .ref a), (1, .int (nI j)), (2, .int v)] [] h Q := by
  obtain ⟨-, ka, -, -, hrow⟩ := id S
  rcases hrow with ⟨er, en⟩ | ⟨r, er, tg, kr, nr, n0, ev⟩
  · omega
  · skip
    first | refine x_aload_n eX6_putStand_0 rfl rfl ?_ | refine x_aload_nN eX6_putStand_0 rfl rfl ?_
    refine x_iload_n eX6_putStand_1 rfl rfl ?_
    refine x_callV1 eX6_putStand_2 lk_X6_20 (by assumption) (Nat.le_of_ble_eq_true rfl) (Nat.le_of_ble_eq_true rfl) ?_
    refine c_X6_tellsHeight S u (fun _ => ?_)
    rw [hpV_nI (by omega) (by omega), decide_eq_true hj]
    first | refine x_if_eqB (tgt := 16) eX6_putStand_5 (by decide) (by with_reducible rfl) (fun cq1 => ?_) (fun cq1 => ?_) | refine x_if_eq (tgt := 16) eX6_putStand_5 (by decide) (fun cq1 => ?_) (fun cq1 => ?_)
    · cases cq1
    · first | refine x_aload_n eX6_putStand_8 rfl rfl ?_ | refine x_aload_nN eX6_putStand_8 rfl rfl ?_
      first | refine x_getR eX6_putStand_9 fk_X6_7 rfl (by assumption) (by assumption) ?_ | refine x_getN eX6_putStand_9 fk_X6_7 rfl (by assumption) (by assumption) ?_
      refine x_iload_n eX6_putStand_12 rfl rfl ?_
      refine x_iload_n eX6_putStand_13 rfl rfl ?_
      refine x_i2s eX6_putStand_14 ?_
      first | refine x_sastN eX6_putStand_15 (by with_reducible rfl) (by assumption) (by assumption) (by omega) (by omega) ?_ | refine x_sast eX6_putStand_15 (by assumption) (by assumption) ?_
      refine x_ret (rt := none) eX6_putStand_16 rfl ?_
      rw [hv, hv]
      exact hq r er tg
set_option maxRecDepth 100000 in
set_option maxHeartbeats 4000000 in
theorem c_X6_edgeAt {ht : Int32} {y : Nat} (S : SideP ow h a t tr ft hd n f) (u : n ≤ 61) (hy : y < 2 ^ 31) (w : isN ht 1 60) (hq : Q (some (.int (ft + (hd - ft) * nI y / ht + (if hpV (nI n) (nI y) then f y else 0)))) h) : Rn G (d + 2) mX6_edgeAt 0 [(0, .ref a), (1, .int (nI y)), (2, .int ht)] [] h Q := by
  obtain ⟨-, ka, e0, e1, -⟩ := id S
  obtain ⟨w1, w2, w3⟩ := w
  have hh : ¬ ht = 0 := by rw [w1]; exact nI_ne0 (by omega) (by omega)
  refine x_iload_n eX6_edgeAt_0 rfl rfl ?_
  refine x_if_le (tgt := 20) eX6_edgeAt_1 (by decide) (fun cq1 => ?_) (fun cq1 => ?_)
  · exact absurd cq1 (by rw [w1]; exact nI_nle (by omega) (by omega))
  · first | refine x_aload_n eX6_edgeAt_4 rfl rfl ?_ | refine x_aload_nN eX6_edgeAt_4 rfl rfl ?_
    first | refine x_getIe eX6_edgeAt_5 fk_X6_17 (by decide) (by assumption) (by assumption) ?_ | refine x_getI eX6_edgeAt_5 fk_X6_17 (by decide) (by assumption) ?_
    first | refine x_aload_n eX6_edgeAt_8 rfl rfl ?_ | refine x_aload_nN eX6_edgeAt_8 rfl rfl ?_
    first | refine x_getIe eX6_edgeAt_9 fk_X6_13 (by decide) (by assumption) (by assumption) ?_ | refine x_getI eX6_edgeAt_9 fk_X6_13 (by decide) (by assumption) ?_
    first | refine x_isubN eX6_edgeAt_12 (by with_reducible rfl) (by with_reducible rfl) (by omega) ?_ | refine x_isub eX6_edgeAt_12 ?_
    refine x_iload_n eX6_edgeAt_13 rfl rfl ?_
    first | refine x_imulN eX6_edgeAt_14 (by with_reducible rfl) (by with_reducible rfl) ?_ | refine x_imul eX6_edgeAt_14 ?_
    refine x_iload_n eX6_edgeAt_15 rfl rfl ?_
    first | refine x_idivN eX6_edgeAt_16 (by with_reducible rfl) (by with_reducible rfl) (by omega) (by omega) (by omega) ?_ | refine x_idiv eX6_edgeAt_16 (by first | assumption | decide) ?_
    refine x_goto (tgt := 21) eX6_edgeAt_17 (by decide) ?_
    refine x_istore_n eX6_edgeAt_21 rfl (by decide) rfl rfl ?_
    first | refine x_aload_n eX6_edgeAt_22 rfl rfl ?_ | refine x_aload_nN eX6_edgeAt_22 rfl rfl ?_
    first | refine x_getIe eX6_edgeAt_23 fk_X6_13 (by decide) (by assumption) (by assumption) ?_ | refine x_getI eX6_edgeAt_23 fk_X6_13 (by decide) (by assumption) ?_
    refine x_iload_n eX6_edgeAt_26 rfl rfl ?_
    first | refine x_iaddN eX6_edgeAt_27 (by with_reducible rfl) (by with_reducible rfl) ?_ | refine x_iadd eX6_edgeAt_27 ?_
    first | refine x_aload_n eX6_edgeAt_28 rfl rfl ?_ | refine x_aload_nN eX6_edgeAt_28 rfl rfl ?_
    refine x_iload_n eX6_edgeAt_29 rfl rfl ?_
    refine x_callV1 eX6_edgeAt_30 lk_X6_24 (by assumption) (Nat.le_of_ble_eq_true rfl) (Nat.le_of_ble_eq_true rfl) ?_
    refine c_X6_standAt S u (fun _ => ?_)
    rw [nt_nI hy]
    first | refine x_iaddN eX6_edgeAt_33 (by with_reducible rfl) (by with_reducible rfl) ?_ | refine x_iadd eX6_edgeAt_33 ?_
    refine x_iret eX6_edgeAt_34 rfl ?_
    exact hq
set_option maxRecDepth 100000 in
set_option maxHeartbeats 4000000 in
theorem c_X6_init {e1 e2 : Int32} (ka : hk h a = 5) (hq : Q none (wi (wi (wq h a 2 none) a 0 e1) a 1 e2)) : Rn G (d + 1) mX6_init 0 [(0, .ref a), (1, .int e1), (2, .int e2)] [] h Q := by
  first | refine x_aload_n eX6_init_0 rfl rfl ?_ | refine x_aload_nN eX6_init_0 rfl rfl ?_
  refine x_obj eX6_init_1 lk_X6_1 (Nat.le_of_ble_eq_true rfl) ?_
  first | refine x_aload_n eX6_init_4 rfl rfl ?_ | refine x_aload_nN eX6_init_4 rfl rfl ?_
  refine x_null eX6_init_5 ?_
  first | refine x_putR eX6_init_6 fk_X6_7 (by decide) rfl ⟨_, rfl, Or.inl rfl⟩ (by assumption) ?_ | refine x_putN eX6_init_6 fk_X6_7 (by decide) rfl ⟨_, rfl, Or.inl rfl⟩ (by assumption) ?_
  first | refine x_aload_n eX6_init_9 rfl rfl ?_ | refine x_aload_nN eX6_init_9 rfl rfl ?_
  refine x_iload_n eX6_init_10 rfl rfl ?_
  refine x_putI eX6_init_11 fk_X6_13 (by decide) rfl ⟨_, rfl, Or.inr ⟨rfl, rfl, rfl⟩⟩ (by assumption) ?_
  first | refine x_aload_n eX6_init_14 rfl rfl ?_ | refine x_aload_nN eX6_init_14 rfl rfl ?_
  refine x_iload_n eX6_init_15 rfl rfl ?_
  refine x_putI eX6_init_16 fk_X6_17 (by decide) rfl ⟨_, rfl, Or.inr ⟨rfl, rfl, rfl⟩⟩ (by assumption) ?_
  refine x_ret (rt := none) eX6_init_19 rfl ?_
  exact hq
end SIDE
section SAIL1
variable {G : GG} {d : Nat} {h : AH} {Q : Option Value → AH → Prop} {ow : Nat → Nat} {a s : Nat} {g : Nat → Int32}
set_option maxRecDepth 100000 in
set_option maxHeartbeats 4000000 in
theorem c_X5_edge0 {y l : Nat} (E : SailE ow h g s a) (w : SW g s) (hy : y ≤ 61) (hl : hr h a 0 = some l) (hq : Q (some (.int (edg g s 0 y))) h) : Rn G (d + 2) mX6_edgeAt 0 [(0, .ref l), (1, .int (nI y)), (2, .int (sl g s 5))] [] h Q := by
  obtain ⟨-, ka, ⟨l', el, S⟩, -, -⟩ := E
  cases hl.symm.trans el
  obtain ⟨w0, w5, w8, w9, w89, w6, w7, wp, w10, w11, w12, w16, w17, wo⟩ := id w
  exact c_X6_edgeAt S w16.2.2 (by omega) w5 (qi hq (edg_side 0 w w16 (by omega)))
set_option maxRecDepth 100000 in
set_option maxHeartbeats 4000000 in
theorem c_X5_edge1 {y r : Nat} (E : SailE ow h g s a) (w : SW g s) (hy : y ≤ 61) (hl : hr h a 1 = some r) (hq : Q (some (.int (edg g s 1 y))) h) : Rn G (d + 2) mX6_edgeAt 0 [(0, .ref r), (1, .int (nI y)), (2, .int (sl g s 5))] [] h Q := by
  obtain ⟨-, ka, -, ⟨l', el, S⟩, -⟩ := E
  cases hl.symm.trans el
  obtain ⟨w0, w5, w8, w9, w89, w6, w7, wp, w10, w11, w12, w16, w17, wo⟩ := id w
  exact c_X6_edgeAt S w17.2.2 (by omega) w5 (qi hq (edg_side 1 w w17 (by omega)))
set_option maxRecDepth 100000 in
set_option maxHeartbeats 4000000 in
theorem c_X5_breadthAt {y : Nat} (E : SailE ow h g s a) (w : SW g s) (hy : y ≤ 61) (hq : Q (some (.int (acr g s y))) h) : Rn G (d + 3) mX5_breadthAt 0 [(0, .ref a), (1, .int (nI y))] [] h Q := by
  obtain ⟨-, ka, ⟨l, el, S⟩, ⟨r, er, S2⟩, e2⟩ := id E
  have kl := S.2.1
  have kr := S2.2.1
  first | refine x_aload_n eX5_breadthAt_0 rfl rfl ?_ | refine x_aload_nN eX5_breadthAt_0 rfl rfl ?_
  first | refine x_getR eX5_breadthAt_1 fk_X5_49 rfl (by assumption) (by assumption) ?_ | refine x_getN eX5_breadthAt_1 fk_X5_49 rfl (by assumption) (by assumption) ?_
  refine x_iload_n eX5_breadthAt_4 rfl rfl ?_
  first | refine x_aload_n eX5_breadthAt_5 rfl rfl ?_ | refine x_aload_nN eX5_breadthAt_5 rfl rfl ?_
  first | refine x_getIe eX5_breadthAt_6 fk_X5_52 (by decide) (by assumption) (by assumption) ?_ | refine x_getI eX5_breadthAt_6 fk_X5_52 (by decide) (by assumption) ?_
  refine x_callV2 eX5_breadthAt_9 lk_X5_55 (by assumption) (Nat.le_of_ble_eq_true rfl) (Nat.le_of_ble_eq_true rfl) ?_
  refine c_X5_edge1 E w hy er (fun _ => ?_)
  first | refine x_aload_n eX5_breadthAt_12 rfl rfl ?_ | refine x_aload_nN eX5_breadthAt_12 rfl rfl ?_
  first | refine x_getR eX5_breadthAt_13 fk_X5_45 rfl (by assumption) (by assumption) ?_ | refine x_getN eX5_breadthAt_13 fk_X5_45 rfl (by assumption) (by assumption) ?_
  refine x_iload_n eX5_breadthAt_16 rfl rfl ?_
  first | refine x_aload_n eX5_breadthAt_17 rfl rfl ?_ | refine x_aload_nN eX5_breadthAt_17 rfl rfl ?_
  first | refine x_getIe eX5_breadthAt_18 fk_X5_52 (by decide) (by assumption) (by assumption) ?_ | refine x_getI eX5_breadthAt_18 fk_X5_52 (by decide) (by assumption) ?_
  refine x_callV2 eX5_breadthAt_21 lk_X5_55 (by assumption) (Nat.le_of_ble_eq_true rfl) (Nat.le_of_ble_eq_true rfl) ?_
  refine c_X5_edge0 E w hy el (fun _ => ?_)
  first | refine x_isubN eX5_breadthAt_24 (by with_reducible rfl) (by with_reducible rfl) (by omega) ?_ | refine x_isub eX5_breadthAt_24 ?_
  refine x_iret eX5_breadthAt_25 rfl ?_
  exact hq
set_option maxRecDepth 100000 in
set_option maxHeartbeats 4000000 in
theorem l_X5_edgesMeet {m : Nat} (E : SailE ow h g s a) (w : SW g s) (em : nt (sl g s 5) = m) (hq0 : allN (fun y => decide (0 < acr g s y)) (m + 1) = false → Q (some (.int 1)) h) (hq1 : allN (fun y => decide (0 < acr g s y)) (m + 1) = true → Q (some (.int 0)) h) : ∀ n k, k + n = m + 1 → (∀ j, j < k → decide (0 < acr g s j) = true) → Rn G (d + 4) mX5_edgesMeet 2 [(0, .ref a), (1, .int (nI k))] [] h Q := by
  obtain ⟨-, ka, -, -, e2⟩ := id E
  have u := w.2.1.2.2
  have e2 : hi h a 2 = nI m := by rw [e2, w.2.1.1, em]
  intro n
  induction n with
  | zero =>
    intro k hk hall
    refine x_iload_n eX5_edgesMeet_2 rfl rfl ?_
    first | refine x_aload_n eX5_edgesMeet_3 rfl rfl ?_ | refine x_aload_nN eX5_edgesMeet_3 rfl rfl ?_
    first | refine x_getIe eX5_edgesMeet_4 fk_X5_52 (by decide) (by assumption) (by assumption) ?_ | refine x_getI eX5_edgesMeet_4 fk_X5_52 (by decide) (by assumption) ?_
    first | refine x_icmp_gtN (tgt := 26) eX5_edgesMeet_7 (by decide) (by with_reducible rfl) (by with_reducible rfl) (by omega) (by omega) (fun cq1 => ?_) (fun cq1 => ?_) | refine x_icmp_gt (tgt := 26) eX5_edgesMeet_7 (by decide) (fun cq1 => ?_) (fun cq1 => ?_)
    · refine x_iconst (v := nI 0) eX5_edgesMeet_26 (by decide) ?_
      refine x_zret eX5_edgesMeet_27 rfl (by first | exact Or.inl rfl | exact Or.inr rfl | exact bI_or _ | assumption) ?_
      exact hq1 (allN_iff.mpr (fun j hj => hall j (by omega)))
    · exact absurd cq1 (by omega)
  | succ n ih =>
    intro k hk hall
    refine x_iload_n eX5_edgesMeet_2 rfl rfl ?_
    first | refine x_aload_n eX5_edgesMeet_3 rfl rfl ?_ | refine x_aload_nN eX5_edgesMeet_3 rfl rfl ?_
    first | refine x_getIe eX5_edgesMeet_4 fk_X5_52 (by decide) (by assumption) (by assumption) ?_ | refine x_getI eX5_edgesMeet_4 fk_X5_52 (by decide) (by assumption) ?_
    first | refine x_icmp_gtN (tgt := 26) eX5_edgesMeet_7 (by decide) (by with_reducible rfl) (by with_reducible rfl) (by omega) (by omega) (fun cq1 => ?_) (fun cq1 => ?_) | refine x_icmp_gt (tgt := 26) eX5_edgesMeet_7 (by decide) (fun cq1 => ?_) (fun cq1 => ?_)
    · exact absurd cq1 (by omega)
    · first | refine x_aload_n eX5_edgesMeet_10 rfl rfl ?_ | refine x_aload_nN eX5_edgesMeet_10 rfl rfl ?_
      refine x_iload_n eX5_edgesMeet_11 rfl rfl ?_
      refine x_callV1 eX5_edgesMeet_12 lk_X5_61 (by assumption) (Nat.le_of_ble_eq_true rfl) (Nat.le_of_ble_eq_true rfl) ?_
      refine c_X5_breadthAt E w (by omega) (fun _ => ?_)
      refine x_if_gt (tgt := 20) eX5_edgesMeet_15 (by decide) (fun cq2 => ?_) (fun cq2 => ?_)
      · first | refine x_iincN eX5_edgesMeet_20 rfl (by with_reducible rfl) (by decide) rfl rfl ?_ | refine x_iinc eX5_edgesMeet_20 rfl rfl (by decide) rfl rfl ?_
        refine x_goto (tgt := 2) eX5_edgesMeet_23 (by decide) ?_
        refine Rn.weak (ih (k + 1) (by omega) (fun j hj => by by_cases z : j < k; exact hall j z; rw [show j = k by omega]; exact decide_eq_true cq2)) (by repeat' first | exact fun _ h => absurd h List.not_mem_nil | refine List.forall_mem_cons.mpr ⟨rfl, ?_⟩)
      · refine x_iconst (v := nI 1) eX5_edgesMeet_18 (by decide) ?_
        refine x_zret eX5_edgesMeet_19 rfl (by first | exact Or.inl rfl | exact Or.inr rfl | exact bI_or _ | assumption) ?_
        exact hq0 (allN_f (i := k) (by omega) (decide_eq_false cq2))
set_option maxRecDepth 100000 in
set_option maxHeartbeats 4000000 in
theorem c_X5_edgesMeet (E : SailE ow h g s a) (w : SW g s) (hq : Q (some (.int (bI (!allN (fun y => decide (0 < acr g s y)) (nt (sl g s 5) + 1))))) h) : Rn G (d + 4) mX5_edgesMeet 0 [(0, .ref a)] [] h Q := by
  refine x_iconst (v := nI 0) eX5_edgesMeet_0 (by decide) ?_
  refine x_istore_n eX5_edgesMeet_1 rfl (by decide) rfl rfl ?_
  refine Rn.weak (l_X5_edgesMeet E w rfl (fun z => qi hq (by rw [z]; rfl)) (fun z => qi hq (by rw [z]; rfl)) (nt (sl g s 5) + 1) 0 (by omega) (fun j hj => by omega)) (by repeat' first | exact fun _ h => absurd h List.not_mem_nil | refine List.forall_mem_cons.mpr ⟨rfl, ?_⟩)
set_option maxRecDepth 100000 in
set_option maxHeartbeats 4000000 in
theorem l_X5_twice {lo b : Nat} (E : SailE ow h g s a) (w : SW g s) (hb : b ≤ 60) : ∀ (n k : Nat), lo + k + n = b → (Q (some (.int (sumN (stp g s) lo (k + n)))) h) → Rn G (d + 4) mX5_twiceBetween 5 [(0, .ref a), (2, .int (nI b)), (3, .int (sumN (stp g s) lo k)), (4, .int (nI (lo + k)))] [] h Q := by
  obtain ⟨-, ka, -⟩ := id E
  intro n
  induction n with
  | zero =>
    intro k hk hq
    refine x_iload eX5_twiceBetween_5 rfl ?_
    refine x_iload_n eX5_twiceBetween_7 rfl rfl ?_
    first | refine x_icmp_geN (tgt := 35) eX5_twiceBetween_8 (by decide) (by with_reducible rfl) (by with_reducible rfl) (by omega) (by omega) (fun cq1 => ?_) (fun cq1 => ?_) | refine x_icmp_ge (tgt := 35) eX5_twiceBetween_8 (by decide) (fun cq1 => ?_) (fun cq1 => ?_)
    · refine x_iload_n eX5_twiceBetween_35 rfl rfl ?_
      refine x_iret eX5_twiceBetween_36 rfl ?_
      exact hq
    · exact absurd cq1 (by omega)
  | succ n ih =>
    intro k hk hq
    refine x_iload eX5_twiceBetween_5 rfl ?_
    refine x_iload_n eX5_twiceBetween_7 rfl rfl ?_
    first | refine x_icmp_geN (tgt := 35) eX5_twiceBetween_8 (by decide) (by with_reducible rfl) (by with_reducible rfl) (by omega) (by omega) (fun cq1 => ?_) (fun cq1 => ?_) | refine x_icmp_ge (tgt := 35) eX5_twiceBetween_8 (by decide) (fun cq1 => ?_) (fun cq1 => ?_)
    · exact absurd cq1 (by omega)
    · refine x_iload_n eX5_twiceBetween_11 rfl rfl ?_
      first | refine x_aload_n eX5_twiceBetween_12 rfl rfl ?_ | refine x_aload_nN eX5_twiceBetween_12 rfl rfl ?_
      refine x_iload eX5_twiceBetween_13 rfl ?_
      refine x_callV1 eX5_twiceBetween_15 lk_X5_61 (by assumption) (Nat.le_of_ble_eq_true rfl) (Nat.le_of_ble_eq_true rfl) ?_
      refine c_X5_breadthAt E w (by omega) (fun _ => ?_)
      first | refine x_aload_n eX5_twiceBetween_18 rfl rfl ?_ | refine x_aload_nN eX5_twiceBetween_18 rfl rfl ?_
      refine x_iload eX5_twiceBetween_19 rfl ?_
      refine x_iconst (v := nI 1) eX5_twiceBetween_21 (by decide) ?_
      first | refine x_iaddN eX5_twiceBetween_22 (by with_reducible rfl) (by with_reducible rfl) ?_ | refine x_iadd eX5_twiceBetween_22 ?_
      refine x_callV1 eX5_twiceBetween_23 lk_X5_61 (by assumption) (Nat.le_of_ble_eq_true rfl) (Nat.le_of_ble_eq_true rfl) ?_
      refine c_X5_breadthAt E w (by omega) (fun _ => ?_)
      first | refine x_iaddN eX5_twiceBetween_26 (by with_reducible rfl) (by with_reducible rfl) ?_ | refine x_iadd eX5_twiceBetween_26 ?_
      first | refine x_iaddN eX5_twiceBetween_27 (by with_reducible rfl) (by with_reducible rfl) ?_ | refine x_iadd eX5_twiceBetween_27 ?_
      refine x_istore_n eX5_twiceBetween_28 rfl (by decide) rfl rfl ?_
      first | refine x_iincN eX5_twiceBetween_29 rfl (by with_reducible rfl) (by decide) rfl rfl ?_ | refine x_iinc eX5_twiceBetween_29 rfl rfl (by decide) rfl rfl ?_
      refine x_goto (tgt := 5) eX5_twiceBetween_32 (by decide) ?_
      refine Rn.weak (ih (k + 1) (by omega) (by rw [show k + 1 + n = k + (n + 1) by omega]; exact hq)) (by repeat' first | exact fun _ h => absurd h List.not_mem_nil | refine List.forall_mem_cons.mpr ⟨rfl, ?_⟩)
set_option maxRecDepth 100000 in
set_option maxHeartbeats 4000000 in
theorem c_X5_twiceBetween {lo b : Nat} (E : SailE ow h g s a) (w : SW g s) (hab : lo ≤ b) (hb : b ≤ 60) (hq : Q (some (.int (sumN (stp g s) lo (b - lo)))) h) : Rn G (d + 4) mX5_twiceBetween 0 [(0, .ref a), (1, .int (nI lo)), (2, .int (nI b))] [] h Q := by
  refine x_iconst (v := nI 0) eX5_twiceBetween_0 (by decide) ?_
  refine x_istore_n eX5_twiceBetween_1 rfl (by decide) rfl rfl ?_
  refine x_iload_n eX5_twiceBetween_2 rfl rfl ?_
  refine x_istore eX5_twiceBetween_3 (by decide) rfl rfl ?_
  refine Rn.weak (l_X5_twice (lo := lo) (k := 0) (n := b - lo) E w hb (by omega) (by rw [Nat.zero_add]; exact hq)) (by repeat' first | exact fun _ h => absurd h List.not_mem_nil | refine List.forall_mem_cons.mpr ⟨rfl, ?_⟩)
set_option maxRecDepth 100000 in
set_option maxHeartbeats 4000000 in
theorem l_X5_length {lo b : Nat} (E : SailE ow h g s a) (w : SW g s) (hb : b ≤ 60) : ∀ (n k : Nat), lo + k + n = b → (Q (some (.int (mxF (edg g s 1) lo (k + n) - mnF (edg g s 0) lo (k + n)))) h) → Rn G (d + 3) mX5_lengthBetween 32 [(0, .ref a), (2, .int (nI b)), (3, .int (mxF (edg g s 1) lo k)), (4, .int (mnF (edg g s 0) lo k)), (5, .int (nI (lo + 1 + k)))] [] h Q := by
  obtain ⟨-, ka, ⟨l, el, S⟩, ⟨r, er, S2⟩, e2⟩ := id E
  have kl := S.2.1
  have kr := S2.2.1
  intro n
  induction n with
  | zero =>
    intro k hk hq
    refine x_iload eX5_lengthBetween_32 rfl ?_
    refine x_iload_n eX5_lengthBetween_34 rfl rfl ?_
    first | refine x_icmp_gtN (tgt := 82) eX5_lengthBetween_35 (by decide) (by with_reducible rfl) (by with_reducible rfl) (by omega) (by omega) (fun cq1 => ?_) (fun cq1 => ?_) | refine x_icmp_gt (tgt := 82) eX5_lengthBetween_35 (by decide) (fun cq1 => ?_) (fun cq1 => ?_)
    · refine x_iload_n eX5_lengthBetween_82 rfl rfl ?_
      refine x_iload eX5_lengthBetween_83 rfl ?_
      first | refine x_isubN eX5_lengthBetween_85 (by with_reducible rfl) (by with_reducible rfl) (by omega) ?_ | refine x_isub eX5_lengthBetween_85 ?_
      refine x_iret eX5_lengthBetween_86 rfl ?_
      exact hq
    · exact absurd cq1 (by omega)
  | succ n ih =>
    intro k hk hq
    refine x_iload eX5_lengthBetween_32 rfl ?_
    refine x_iload_n eX5_lengthBetween_34 rfl rfl ?_
    first | refine x_icmp_gtN (tgt := 82) eX5_lengthBetween_35 (by decide) (by with_reducible rfl) (by with_reducible rfl) (by omega) (by omega) (fun cq1 => ?_) (fun cq1 => ?_) | refine x_icmp_gt (tgt := 82) eX5_lengthBetween_35 (by decide) (fun cq1 => ?_) (fun cq1 => ?_)
    · exact absurd cq1 (by omega)
    · refine x_iload_n eX5_lengthBetween_38 rfl rfl ?_
      first | refine x_aload_n eX5_lengthBetween_39 rfl rfl ?_ | refine x_aload_nN eX5_lengthBetween_39 rfl rfl ?_
      first | refine x_getR eX5_lengthBetween_40 fk_X5_49 rfl (by assumption) (by assumption) ?_ | refine x_getN eX5_lengthBetween_40 fk_X5_49 rfl (by assumption) (by assumption) ?_
      refine x_iload eX5_lengthBetween_43 rfl ?_
      first | refine x_aload_n eX5_lengthBetween_45 rfl rfl ?_ | refine x_aload_nN eX5_lengthBetween_45 rfl rfl ?_
      first | refine x_getIe eX5_lengthBetween_46 fk_X5_52 (by decide) (by assumption) (by assumption) ?_ | refine x_getI eX5_lengthBetween_46 fk_X5_52 (by decide) (by assumption) ?_
      refine x_callV2 eX5_lengthBetween_49 lk_X5_55 (by assumption) (Nat.le_of_ble_eq_true rfl) (Nat.le_of_ble_eq_true rfl) ?_
      refine c_X5_edge1 E w (by omega) er (fun _ => ?_)
      refine x_max eX5_lengthBetween_52 lk_X5_65 (Nat.le_of_ble_eq_true rfl) ?_
      refine x_istore_n eX5_lengthBetween_55 rfl (by decide) rfl rfl ?_
      refine x_iload eX5_lengthBetween_56 rfl ?_
      first | refine x_aload_n eX5_lengthBetween_58 rfl rfl ?_ | refine x_aload_nN eX5_lengthBetween_58 rfl rfl ?_
      first | refine x_getR eX5_lengthBetween_59 fk_X5_45 rfl (by assumption) (by assumption) ?_ | refine x_getN eX5_lengthBetween_59 fk_X5_45 rfl (by assumption) (by assumption) ?_
      refine x_iload eX5_lengthBetween_62 rfl ?_
      first | refine x_aload_n eX5_lengthBetween_64 rfl rfl ?_ | refine x_aload_nN eX5_lengthBetween_64 rfl rfl ?_
      first | refine x_getIe eX5_lengthBetween_65 fk_X5_52 (by decide) (by assumption) (by assumption) ?_ | refine x_getI eX5_lengthBetween_65 fk_X5_52 (by decide) (by assumption) ?_
      refine x_callV2 eX5_lengthBetween_68 lk_X5_55 (by assumption) (Nat.le_of_ble_eq_true rfl) (Nat.le_of_ble_eq_true rfl) ?_
      refine c_X5_edge0 E w (by omega) el (fun _ => ?_)
      refine x_min eX5_lengthBetween_71 lk_X5_70 (Nat.le_of_ble_eq_true rfl) ?_
      refine x_istore eX5_lengthBetween_74 (by decide) rfl rfl ?_
      first | refine x_iincN eX5_lengthBetween_76 rfl (by with_reducible rfl) (by decide) rfl rfl ?_ | refine x_iinc eX5_lengthBetween_76 rfl rfl (by decide) rfl rfl ?_
      refine x_goto (tgt := 32) eX5_lengthBetween_79 (by decide) ?_
      refine Rn.weak (ih (k + 1) (by omega) (by rw [show k + 1 + n = k + (n + 1) by omega]; exact hq)) (by repeat' first | exact fun _ h => absurd h List.not_mem_nil | refine List.forall_mem_cons.mpr ⟨rfl, ?_⟩)
set_option maxRecDepth 100000 in
set_option maxHeartbeats 4000000 in
theorem c_X5_lengthBetween {lo b : Nat} (E : SailE ow h g s a) (w : SW g s) (hab : lo ≤ b) (hb : b ≤ 60) (hq : Q (some (.int (mxF (edg g s 1) lo (b - lo) - mnF (edg g s 0) lo (b - lo)))) h) : Rn G (d + 3) mX5_lengthBetween 0 [(0, .ref a), (1, .int (nI lo)), (2, .int (nI b))] [] h Q := by
  obtain ⟨-, ka, ⟨l, el, S⟩, ⟨r, er, S2⟩, e2⟩ := id E
  have kl := S.2.1
  have kr := S2.2.1
  first | refine x_aload_n eX5_lengthBetween_0 rfl rfl ?_ | refine x_aload_nN eX5_lengthBetween_0 rfl rfl ?_
  first | refine x_getR eX5_lengthBetween_1 fk_X5_49 rfl (by assumption) (by assumption) ?_ | refine x_getN eX5_lengthBetween_1 fk_X5_49 rfl (by assumption) (by assumption) ?_
  refine x_iload_n eX5_lengthBetween_4 rfl rfl ?_
  first | refine x_aload_n eX5_lengthBetween_5 rfl rfl ?_ | refine x_aload_nN eX5_lengthBetween_5 rfl rfl ?_
  first | refine x_getIe eX5_lengthBetween_6 fk_X5_52 (by decide) (by assumption) (by assumption) ?_ | refine x_getI eX5_lengthBetween_6 fk_X5_52 (by decide) (by assumption) ?_
  refine x_callV2 eX5_lengthBetween_9 lk_X5_55 (by assumption) (Nat.le_of_ble_eq_true rfl) (Nat.le_of_ble_eq_true rfl) ?_
  refine c_X5_edge1 E w (by omega) er (fun _ => ?_)
  refine x_istore_n eX5_lengthBetween_12 rfl (by decide) rfl rfl ?_
  first | refine x_aload_n eX5_lengthBetween_13 rfl rfl ?_ | refine x_aload_nN eX5_lengthBetween_13 rfl rfl ?_
  first | refine x_getR eX5_lengthBetween_14 fk_X5_45 rfl (by assumption) (by assumption) ?_ | refine x_getN eX5_lengthBetween_14 fk_X5_45 rfl (by assumption) (by assumption) ?_
  refine x_iload_n eX5_lengthBetween_17 rfl rfl ?_
  first | refine x_aload_n eX5_lengthBetween_18 rfl rfl ?_ | refine x_aload_nN eX5_lengthBetween_18 rfl rfl ?_
  first | refine x_getIe eX5_lengthBetween_19 fk_X5_52 (by decide) (by assumption) (by assumption) ?_ | refine x_getI eX5_lengthBetween_19 fk_X5_52 (by decide) (by assumption) ?_
  refine x_callV2 eX5_lengthBetween_22 lk_X5_55 (by assumption) (Nat.le_of_ble_eq_true rfl) (Nat.le_of_ble_eq_true rfl) ?_
  refine c_X5_edge0 E w (by omega) el (fun _ => ?_)
  refine x_istore eX5_lengthBetween_25 (by decide) rfl rfl ?_
  refine x_iload_n eX5_lengthBetween_27 rfl rfl ?_
  refine x_iconst (v := nI 1) eX5_lengthBetween_28 (by decide) ?_
  first | refine x_iaddN eX5_lengthBetween_29 (by with_reducible rfl) (by with_reducible rfl) ?_ | refine x_iadd eX5_lengthBetween_29 ?_
  refine x_istore eX5_lengthBetween_30 (by decide) rfl rfl ?_
  refine Rn.weak (l_X5_length (lo := lo) (k := 0) (n := b - lo) E w hb (by omega) (by rw [Nat.zero_add]; exact hq)) (by repeat' first | exact fun _ h => absurd h List.not_mem_nil | refine List.forall_mem_cons.mpr ⟨rfl, ?_⟩)
set_option maxRecDepth 100000 in
set_option maxHeartbeats 4000000 in
theorem c_X5_panelsOfHeight {net : Nat} (E : SailE ow h g s a) (w : SW g s) (h0 : 0 < net) (h1 : net ≤ 19) (hq : Q (some (.int (nI (pnN (nt (sl g s 5)) net)))) h) : Rn G d mX5_panelsOfHeight 0 [(0, .ref a), (1, .int (nI net))] [] h Q := by
  obtain ⟨-, ka, -, -, e2⟩ := id E
  obtain ⟨w1, w2, w3⟩ := w.2.1
  obtain ⟨m, hm⟩ : ∃ m, m = nt (sl g s 5) := ⟨_, rfl⟩
  rw [← hm] at w2 w3 hq
  have e2 : hi h a 2 = nI m := by rw [e2, w1, hm]
  refine x_iload_n eX5_panelsOfHeight_0 rfl rfl ?_
  refine x_if_le (tgt := 17) eX5_panelsOfHeight_1 (by decide) (fun cq1 => ?_) (fun cq1 => ?_)
  · exact absurd cq1 (nI_nle (by omega) (by omega))
  · first | refine x_aload_n eX5_panelsOfHeight_4 rfl rfl ?_ | refine x_aload_nN eX5_panelsOfHeight_4 rfl rfl ?_
    first | refine x_getIe eX5_panelsOfHeight_5 fk_X5_52 (by decide) (by assumption) (by assumption) ?_ | refine x_getI eX5_panelsOfHeight_5 fk_X5_52 (by decide) (by assumption) ?_
    refine x_iload_n eX5_panelsOfHeight_8 rfl rfl ?_
    first | refine x_iaddN eX5_panelsOfHeight_9 (by with_reducible rfl) (by with_reducible rfl) ?_ | refine x_iadd eX5_panelsOfHeight_9 ?_
    refine x_iconst (v := nI 1) eX5_panelsOfHeight_10 (by decide) ?_
    first | refine x_isubN eX5_panelsOfHeight_11 (by with_reducible rfl) (by with_reducible rfl) (by omega) ?_ | refine x_isub eX5_panelsOfHeight_11 ?_
    refine x_iload_n eX5_panelsOfHeight_12 rfl rfl ?_
    first | refine x_idivN eX5_panelsOfHeight_13 (by with_reducible rfl) (by with_reducible rfl) (by omega) (by omega) (by omega) ?_ | refine x_idiv eX5_panelsOfHeight_13 (by first | assumption | decide) ?_
    refine x_goto (tgt := 18) eX5_panelsOfHeight_14 (by decide) ?_
    refine x_iret eX5_panelsOfHeight_18 rfl ?_
    exact hq
set_option maxRecDepth 100000 in
set_option maxHeartbeats 4000000 in
theorem c_X5_sideNumbered {v : Int32} (E : SailE ow h g s a) (hq0 : inR v 0 1 = false → Q (some .null) h) (hq1 : v = nI 0 → ∀ l, hr h a 0 = some l → SideP ow h l (410 + s) (430 + s) (sl g s 1) (sl g s 3) (nt (sl g s 16)) (fun y => sl g s (18 + y)) → Q (some (.ref l)) h) (hq2 : v = nI 1 → ∀ r, hr h a 1 = some r → SideP ow h r (420 + s) (440 + s) (sl g s 2) (sl g s 4) (nt (sl g s 17)) (fun y => sl g s (79 + y)) → Q (some (.ref r)) h) : Rn G d mX5_sideNumbered 0 [(0, .ref a), (1, .int v)] [] h Q := by
  obtain ⟨-, ka, ⟨l, el, S⟩, ⟨r, er, S2⟩, e2⟩ := id E
  refine x_iload_n eX5_sideNumbered_0 rfl rfl ?_
  first | refine x_if_neB (tgt := 11) eX5_sideNumbered_1 (by decide) (by with_reducible rfl) (fun cq1 => ?_) (fun cq1 => ?_) | refine x_if_ne (tgt := 11) eX5_sideNumbered_1 (by decide) (fun cq1 => ?_) (fun cq1 => ?_)
  · refine x_iload_n eX5_sideNumbered_11 rfl rfl ?_
    refine x_iconst (v := nI 1) eX5_sideNumbered_12 (by decide) ?_
    first | refine x_icmp_neN (tgt := 23) eX5_sideNumbered_13 (by decide) (by with_reducible rfl) (by with_reducible rfl) (by omega) (by omega) (fun cq2 => ?_) (fun cq2 => ?_) | refine x_icmp_ne (tgt := 23) eX5_sideNumbered_13 (by decide) (fun cq2 => ?_) (fun cq2 => ?_)
    · refine x_null eX5_sideNumbered_23 ?_
      first | refine x_aret eX5_sideNumbered_24 rfl ?_ | refine x_aretN eX5_sideNumbered_24 rfl ?_
      refine hq0 ?_
      cases z : inR v 0 1 with
      | false => rfl
      | true =>
        obtain ⟨m, m1, m2, rfl⟩ := inR_N (lo := 0) (hi := 1) (v := v) (y := 1) z rfl (by omega) (by omega)
        rcases Nat.lt_or_ge m 1 with y | y
        · rw [show m = 0 by omega] at cq1
          exact absurd rfl cq1
        · rw [show m = 1 by omega] at cq2
          exact absurd rfl cq2
    · first | refine x_aload_n eX5_sideNumbered_16 rfl rfl ?_ | refine x_aload_nN eX5_sideNumbered_16 rfl rfl ?_
      first | refine x_getR eX5_sideNumbered_17 fk_X5_49 rfl (by assumption) (by assumption) ?_ | refine x_getN eX5_sideNumbered_17 fk_X5_49 rfl (by assumption) (by assumption) ?_
      refine x_goto (tgt := 24) eX5_sideNumbered_20 (by decide) ?_
      first | refine x_aret eX5_sideNumbered_24 rfl ?_ | refine x_aretN eX5_sideNumbered_24 rfl ?_
      exact hq2 cq2 r er S2
  · first | refine x_aload_n eX5_sideNumbered_4 rfl rfl ?_ | refine x_aload_nN eX5_sideNumbered_4 rfl rfl ?_
    first | refine x_getR eX5_sideNumbered_5 fk_X5_45 rfl (by assumption) (by assumption) ?_ | refine x_getN eX5_sideNumbered_5 fk_X5_45 rfl (by assumption) (by assumption) ?_
    refine x_goto (tgt := 24) eX5_sideNumbered_8 (by decide) ?_
    first | refine x_aret eX5_sideNumbered_24 rfl ?_ | refine x_aretN eX5_sideNumbered_24 rfl ?_
    exact hq1 cq1 l el S
set_option maxRecDepth 100000 in
set_option maxHeartbeats 4000000 in
theorem c_X5_pieceNumbered2 {v : Int32} (ka : hk h a = 4) (C : SailC ow h g s a) (h40 : np g s ≤ 40) (h0 : sl g s 0 = 0 → np g s = 0) (hq0 : hpV (nI (np g s)) v = false → Q (some .null) h) (hq1 : ∀ j p, v = nI j → j < np g s → (∃ pa, hr h a 4 = some pa ∧ hr h pa j = some p) → PieceP ow h g s j p → Q (some (.ref p)) h) : Rn G d mX5_pieceNumbered 0 [(0, .ref a), (1, .int v)] [] h Q := by
  obtain ⟨e3, e5, e6, hp⟩ := id C
  rcases hp with ⟨z, hp, -⟩ | ⟨z, ⟨pa, hp, -, kp, npa, hpp⟩, -⟩
  · have hz := h0 z
    first | refine x_aload_n eX5_pieceNumbered_0 rfl rfl ?_ | refine x_aload_nN eX5_pieceNumbered_0 rfl rfl ?_
    first | refine x_getR eX5_pieceNumbered_1 fk_X5_15 rfl (by assumption) (by assumption) ?_ | refine x_getN eX5_pieceNumbered_1 fk_X5_15 rfl (by assumption) (by assumption) ?_
    refine x_ifnullN (tgt := 37) eX5_pieceNumbered_4 (by decide) ?_
    refine x_null eX5_pieceNumbered_37 ?_
    first | refine x_aret eX5_pieceNumbered_38 rfl ?_ | refine x_aretN eX5_pieceNumbered_38 rfl ?_
    refine hq0 ?_
    rw [hz]
    cases z : hpV (nI 0) v with
    | false => rfl
    | true =>
      obtain ⟨j, hj, -⟩ := hpV_s (hi := 0) (isN_nI (by omega) (by omega) (by omega)) (by omega) z
      rw [nt_nI (by omega)] at hj
      omega
  · skip
    first | refine x_aload_n eX5_pieceNumbered_0 rfl rfl ?_ | refine x_aload_nN eX5_pieceNumbered_0 rfl rfl ?_
    first | refine x_getR eX5_pieceNumbered_1 fk_X5_15 rfl (by assumption) (by assumption) ?_ | refine x_getN eX5_pieceNumbered_1 fk_X5_15 rfl (by assumption) (by assumption) ?_
    refine x_ifnullR eX5_pieceNumbered_4 ?_
    refine x_iload_n eX5_pieceNumbered_7 rfl rfl ?_
    refine x_if_lt (tgt := 37) eX5_pieceNumbered_8 (by decide) (fun cq1 => ?_) (fun cq1 => ?_)
    · refine x_null eX5_pieceNumbered_37 ?_
      first | refine x_aret eX5_pieceNumbered_38 rfl ?_ | refine x_aretN eX5_pieceNumbered_38 rfl ?_
      exact hq0 (hpV_n cq1)
    · refine x_iload_n eX5_pieceNumbered_11 rfl rfl ?_
      first | refine x_aload_n eX5_pieceNumbered_12 rfl rfl ?_ | refine x_aload_nN eX5_pieceNumbered_12 rfl rfl ?_
      first | refine x_getIe eX5_pieceNumbered_13 fk_X5_22 (by decide) (by assumption) (by assumption) ?_ | refine x_getI eX5_pieceNumbered_13 fk_X5_22 (by decide) (by assumption) ?_
      first | refine x_icmp_geN (tgt := 37) eX5_pieceNumbered_16 (by decide) (by with_reducible rfl) (by with_reducible rfl) (by omega) (by omega) (fun cq2 => ?_) (fun cq2 => ?_) | refine x_icmp_ge (tgt := 37) eX5_pieceNumbered_16 (by decide) (fun cq2 => ?_) (fun cq2 => ?_)
      · refine x_null eX5_pieceNumbered_37 ?_
        first | refine x_aret eX5_pieceNumbered_38 rfl ?_ | refine x_aretN eX5_pieceNumbered_38 rfl ?_
        exact hq0 (hpV_g cq2)
      · obtain ⟨j, hj, rfl⟩ := lt_nI (Int32.not_lt.mp cq1) (Int32.not_le.mp cq2) (isN_nI (b := 40) (by omega) (Nat.zero_le _) h40) (by omega)
        rw [nt_nI (by omega)] at hj
        obtain ⟨p, hpj, P⟩ := hpp j hj
        refine x_iload_n eX5_pieceNumbered_19 rfl rfl ?_
        first | refine x_aload_n eX5_pieceNumbered_20 rfl rfl ?_ | refine x_aload_nN eX5_pieceNumbered_20 rfl rfl ?_
        first | refine x_getR eX5_pieceNumbered_21 fk_X5_15 rfl (by assumption) (by assumption) ?_ | refine x_getN eX5_pieceNumbered_21 fk_X5_15 rfl (by assumption) (by assumption) ?_
        first | refine x_alenN eX5_pieceNumbered_24 (by assumption) (by decide) (by assumption) ?_ | refine x_slenN eX5_pieceNumbered_24 (by assumption) (by assumption) ?_ | refine x_alen eX5_pieceNumbered_24 (by assumption) (by decide) ?_
        first | refine x_icmp_geN (tgt := 37) eX5_pieceNumbered_25 (by decide) (by with_reducible rfl) (by with_reducible rfl) (by omega) (by omega) (fun cq3 => ?_) (fun cq3 => ?_) | refine x_icmp_ge (tgt := 37) eX5_pieceNumbered_25 (by decide) (fun cq3 => ?_) (fun cq3 => ?_)
        · exact absurd cq3 (by omega)
        · first | refine x_aload_n eX5_pieceNumbered_28 rfl rfl ?_ | refine x_aload_nN eX5_pieceNumbered_28 rfl rfl ?_
          first | refine x_getR eX5_pieceNumbered_29 fk_X5_15 rfl (by assumption) (by assumption) ?_ | refine x_getN eX5_pieceNumbered_29 fk_X5_15 rfl (by assumption) (by assumption) ?_
          refine x_iload_n eX5_pieceNumbered_32 rfl rfl ?_
          first | refine x_aaldRN eX5_pieceNumbered_33 (by with_reducible rfl) (by assumption) (by decide) (by assumption) (by omega) (by omega) (by assumption) ?_ | refine x_aaldNN eX5_pieceNumbered_33 (by with_reducible rfl) (by assumption) (by decide) (by assumption) (by omega) (by omega) (by assumption) ?_ | refine x_aaldR eX5_pieceNumbered_33 (by assumption) (by decide) (by assumption) (by assumption) ?_ | refine x_aaldN eX5_pieceNumbered_33 (by assumption) (by decide) (by assumption) (by assumption) ?_
          refine x_goto (tgt := 38) eX5_pieceNumbered_34 (by decide) ?_
          first | refine x_aret eX5_pieceNumbered_38 rfl ?_ | refine x_aretN eX5_pieceNumbered_38 rfl ?_
          exact hq1 j p rfl hj ⟨pa, hp, hpj⟩ P
set_option maxRecDepth 100000 in
set_option maxHeartbeats 4000000 in
theorem c_X5_pieceNumbered {v : Int32} (ka : hk h a = 4) (C : SailC ow h g s a) (h40 : np g s ≤ 40) (h0 : sl g s 0 = 0 → np g s = 0) (hq0 : hpV (nI (np g s)) v = false → Q (some .null) h) (hq1 : ∀ j p, v = nI j → j < np g s → PieceP ow h g s j p → Q (some (.ref p)) h) : Rn G d mX5_pieceNumbered 0 [(0, .ref a), (1, .int v)] [] h Q := c_X5_pieceNumbered2 ka C h40 h0 hq0 (fun j p e hj _ P => hq1 j p e hj P)
set_option maxRecDepth 100000 in
set_option maxHeartbeats 4000000 in
theorem l_X5_countLoose {m : Nat} (ka : hk h a = 4) (C : SailC ow h g s a) (h40 : np g s ≤ 40) (h0 : sl g s 0 = 0 → np g s = 0) (em : np g s = m) (hq : Q (some (.int (nI (cntN (lsP g s) m)))) h) : ∀ n k, k + n = m → Rn G (d + 1) mX5_countLoose 4 [(0, .ref a), (1, .int (nI (cntN (lsP g s) k))), (2, .int (nI k))] [] h Q := by
  have e6 : hi h a 6 = nI m := by rw [C.2.2.1, em]
  intro n
  induction n with
  | zero =>
    intro k hk0
    rw [show k = m by omega]
    refine x_iload_n eX5_countLoose_4 rfl rfl ?_
    first | refine x_aload_n eX5_countLoose_5 rfl rfl ?_ | refine x_aload_nN eX5_countLoose_5 rfl rfl ?_
    first | refine x_getIe eX5_countLoose_6 fk_X5_22 (by decide) (by assumption) (by assumption) ?_ | refine x_getI eX5_countLoose_6 fk_X5_22 (by decide) (by assumption) ?_
    first | refine x_icmp_geN (tgt := 39) eX5_countLoose_9 (by decide) (by with_reducible rfl) (by with_reducible rfl) (by omega) (by omega) (fun cq1 => ?_) (fun cq1 => ?_) | refine x_icmp_ge (tgt := 39) eX5_countLoose_9 (by decide) (fun cq1 => ?_) (fun cq1 => ?_)
    · refine x_iload_n eX5_countLoose_39 rfl rfl ?_
      refine x_iret eX5_countLoose_40 rfl ?_
      exact hq
    · exact absurd cq1 (by omega)
  | succ n ih =>
    intro k hk0
    have iw := ih (k + 1) (by omega)
    refine x_iload_n eX5_countLoose_4 rfl rfl ?_
    first | refine x_aload_n eX5_countLoose_5 rfl rfl ?_ | refine x_aload_nN eX5_countLoose_5 rfl rfl ?_
    first | refine x_getIe eX5_countLoose_6 fk_X5_22 (by decide) (by assumption) (by assumption) ?_ | refine x_getI eX5_countLoose_6 fk_X5_22 (by decide) (by assumption) ?_
    first | refine x_icmp_geN (tgt := 39) eX5_countLoose_9 (by decide) (by with_reducible rfl) (by with_reducible rfl) (by omega) (by omega) (fun cq1 => ?_) (fun cq1 => ?_) | refine x_icmp_ge (tgt := 39) eX5_countLoose_9 (by decide) (fun cq1 => ?_) (fun cq1 => ?_)
    · exact absurd cq1 (by omega)
    · first | refine x_aload_n eX5_countLoose_12 rfl rfl ?_ | refine x_aload_nN eX5_countLoose_12 rfl rfl ?_
      refine x_iload_n eX5_countLoose_13 rfl rfl ?_
      refine x_callV1 eX5_countLoose_14 lk_X5_87 (by assumption) (Nat.le_of_ble_eq_true rfl) (Nat.le_of_ble_eq_true rfl) ?_
      refine c_X5_pieceNumbered ka C h40 h0 (fun z _ => ?_) (fun j p ej hj P _ => ?_)
      · rw [hpV_nI (by omega) (by omega), decide_eq_false_iff_not] at z
        omega
      · have ejk : k = j := (nI_eq (by omega) (by omega)).mp ej
        subst ejk
        obtain ⟨-, kp, -, -, -, -, -, -, -, p7, -⟩ := id P
        first | refine x_astore_n eX5_countLoose_17 rfl (by decide) rfl rfl ?_ | refine x_astore_nN eX5_countLoose_17 rfl (by decide) rfl rfl ?_
        first | refine x_aload_n eX5_countLoose_18 rfl rfl ?_ | refine x_aload_nN eX5_countLoose_18 rfl rfl ?_
        refine x_ifnullR eX5_countLoose_19 ?_
        first | refine x_aload_n eX5_countLoose_22 rfl rfl ?_ | refine x_aload_nN eX5_countLoose_22 rfl rfl ?_
        first | refine x_getIe eX5_countLoose_23 fk_X5_97 (by decide) (by assumption) (by assumption) ?_ | refine x_getI eX5_countLoose_23 fk_X5_97 (by decide) (by assumption) ?_
        refine x_iconst (v := (-1)) eX5_countLoose_26 (by decide) ?_
        first | refine x_icmp_neN (tgt := 33) eX5_countLoose_27 (by decide) (by with_reducible rfl) (by with_reducible rfl) (by omega) (by omega) (fun cq2 => ?_) (fun cq2 => ?_) | refine x_icmp_ne (tgt := 33) eX5_countLoose_27 (by decide) (fun cq2 => ?_) (fun cq2 => ?_)
        · rw [show cntN (lsP g s) (k + 1) = cntN (lsP g s) k by rw [cntN, lsP, decide_eq_false cq2]; rfl] at iw
          first | refine x_iincN eX5_countLoose_33 rfl (by with_reducible rfl) (by decide) rfl rfl ?_ | refine x_iinc eX5_countLoose_33 rfl rfl (by decide) rfl rfl ?_
          refine x_goto (tgt := 4) eX5_countLoose_36 (by decide) ?_
          refine Rn.weak (iw) (by repeat' first | exact fun _ h => absurd h List.not_mem_nil | refine List.forall_mem_cons.mpr ⟨rfl, ?_⟩)
        · rw [show cntN (lsP g s) (k + 1) = cntN (lsP g s) k + 1 by rw [cntN, lsP, decide_eq_true cq2]; rfl] at iw
          first | refine x_iincN eX5_countLoose_30 rfl (by with_reducible rfl) (by decide) rfl rfl ?_ | refine x_iinc eX5_countLoose_30 rfl rfl (by decide) rfl rfl ?_
          first | refine x_iincN eX5_countLoose_33 rfl (by with_reducible rfl) (by decide) rfl rfl ?_ | refine x_iinc eX5_countLoose_33 rfl rfl (by decide) rfl rfl ?_
          refine x_goto (tgt := 4) eX5_countLoose_36 (by decide) ?_
          refine Rn.weak (iw) (by repeat' first | exact fun _ h => absurd h List.not_mem_nil | refine List.forall_mem_cons.mpr ⟨rfl, ?_⟩)
set_option maxRecDepth 100000 in
set_option maxHeartbeats 4000000 in
theorem c_X5_countLoose (ka : hk h a = 4) (C : SailC ow h g s a) (h40 : np g s ≤ 40) (h0 : sl g s 0 = 0 → np g s = 0) (hq : Q (some (.int (nI (cntN (lsP g s) (np g s))))) h) : Rn G (d + 1) mX5_countLoose 0 [(0, .ref a)] [] h Q := by
  refine x_iconst (v := nI 0) eX5_countLoose_0 (by decide) ?_
  refine x_istore_n eX5_countLoose_1 rfl (by decide) rfl rfl ?_
  refine x_iconst (v := nI 0) eX5_countLoose_2 (by decide) ?_
  refine x_istore_n eX5_countLoose_3 rfl (by decide) rfl rfl ?_
  refine Rn.weak (l_X5_countLoose ka C h40 h0 rfl hq (np g s) 0 (by omega)) (by repeat' first | exact fun _ h => absurd h List.not_mem_nil | refine List.forall_mem_cons.mpr ⟨rfl, ?_⟩)
set_option maxRecDepth 100000 in
set_option maxHeartbeats 4000000 in
theorem l_X5_letOut {m : Nat} {y : Int32} (ka : hk h a = 4) (C : SailC ow h g s a) (h40 : np g s ≤ 40) (h0 : sl g s 0 = 0 → np g s = 0) (em : sl g s 8 = nI m) (hm : m ≤ np g s) (hm8 : nt (sl g s 8) = m) (hq : Q (some (.int (sumN (fun i => if y < highV g s i then 0 else sl g s (140 + i)) 0 m))) h) : ∀ n k, k + n = m → Rn G (d + 1) mX5_letOutUpTo 4 [(0, .ref a), (1, .int y), (2, .int (sumN (fun i => if y < highV g s i then 0 else sl g s (140 + i)) 0 k)), (3, .int (nI k))] [] h Q := by
  have e5 : hi h a 5 = nI m := by rw [C.2.1, em]
  intro n
  induction n with
  | zero =>
    intro k hk0
    rw [show k = m by omega]
    refine x_iload_n eX5_letOutUpTo_4 rfl rfl ?_
    first | refine x_aload_n eX5_letOutUpTo_5 rfl rfl ?_ | refine x_aload_nN eX5_letOutUpTo_5 rfl rfl ?_
    first | refine x_getIe eX5_letOutUpTo_6 fk_X5_19 (by decide) (by assumption) (by assumption) ?_ | refine x_getI eX5_letOutUpTo_6 fk_X5_19 (by decide) (by assumption) ?_
    first | refine x_icmp_geN (tgt := 47) eX5_letOutUpTo_9 (by decide) (by with_reducible rfl) (by with_reducible rfl) (by omega) (by omega) (fun cq1 => ?_) (fun cq1 => ?_) | refine x_icmp_ge (tgt := 47) eX5_letOutUpTo_9 (by decide) (fun cq1 => ?_) (fun cq1 => ?_)
    · refine x_iload_n eX5_letOutUpTo_47 rfl rfl ?_
      refine x_iret eX5_letOutUpTo_48 rfl ?_
      exact hq
    · exact absurd cq1 (by omega)
  | succ n ih =>
    intro k hk0
    have iw := ih (k + 1) (by omega)
    rw [sumN, Nat.zero_add] at iw
    refine x_iload_n eX5_letOutUpTo_4 rfl rfl ?_
    first | refine x_aload_n eX5_letOutUpTo_5 rfl rfl ?_ | refine x_aload_nN eX5_letOutUpTo_5 rfl rfl ?_
    first | refine x_getIe eX5_letOutUpTo_6 fk_X5_19 (by decide) (by assumption) (by assumption) ?_ | refine x_getI eX5_letOutUpTo_6 fk_X5_19 (by decide) (by assumption) ?_
    first | refine x_icmp_geN (tgt := 47) eX5_letOutUpTo_9 (by decide) (by with_reducible rfl) (by with_reducible rfl) (by omega) (by omega) (fun cq1 => ?_) (fun cq1 => ?_) | refine x_icmp_ge (tgt := 47) eX5_letOutUpTo_9 (by decide) (fun cq1 => ?_) (fun cq1 => ?_)
    · exact absurd cq1 (by omega)
    · first | refine x_aload_n eX5_letOutUpTo_12 rfl rfl ?_ | refine x_aload_nN eX5_letOutUpTo_12 rfl rfl ?_
      refine x_iload_n eX5_letOutUpTo_13 rfl rfl ?_
      refine x_callV1 eX5_letOutUpTo_14 lk_X5_87 (by assumption) (Nat.le_of_ble_eq_true rfl) (Nat.le_of_ble_eq_true rfl) ?_
      refine c_X5_pieceNumbered ka C h40 h0 (fun z _ => ?_) (fun j p ej hj P _ => ?_)
      · rw [hpV_nI (by omega) (by omega), decide_eq_false_iff_not] at z
        omega
      · have ejk : k = j := (nI_eq (by omega) (by omega)).mp ej
        subst ejk
        have hP : isP g s k = true := decide_eq_true (by omega)
        obtain ⟨-, kp, -, -, p2, -, -, -, p6, -, -⟩ := id P
        rw [if_pos hP] at p6
        first | refine x_astore eX5_letOutUpTo_17 (by decide) rfl rfl ?_ | refine x_astoreN eX5_letOutUpTo_17 (by decide) rfl rfl ?_
        first | refine x_aload eX5_letOutUpTo_19 rfl ?_ | refine x_aloadN eX5_letOutUpTo_19 rfl ?_
        refine x_ifnullR eX5_letOutUpTo_21 ?_
        first | refine x_aload eX5_letOutUpTo_24 rfl ?_ | refine x_aloadN eX5_letOutUpTo_24 rfl ?_
        first | refine x_getIe eX5_letOutUpTo_26 fk_X5_91 (by decide) (by assumption) (by assumption) ?_ | refine x_getI eX5_letOutUpTo_26 fk_X5_91 (by decide) (by assumption) ?_
        refine x_iload_n eX5_letOutUpTo_29 rfl rfl ?_
        first | refine x_icmp_gtN (tgt := 41) eX5_letOutUpTo_30 (by decide) (by with_reducible rfl) (by with_reducible rfl) (by omega) (by omega) (fun cq2 => ?_) (fun cq2 => ?_) | refine x_icmp_gt (tgt := 41) eX5_letOutUpTo_30 (by decide) (fun cq2 => ?_) (fun cq2 => ?_)
        · rw [if_pos cq2, Int32.add_zero] at iw
          first | refine x_iincN eX5_letOutUpTo_41 rfl (by with_reducible rfl) (by decide) rfl rfl ?_ | refine x_iinc eX5_letOutUpTo_41 rfl rfl (by decide) rfl rfl ?_
          refine x_goto (tgt := 4) eX5_letOutUpTo_44 (by decide) ?_
          refine Rn.weak (iw) (by repeat' first | exact fun _ h => absurd h List.not_mem_nil | refine List.forall_mem_cons.mpr ⟨rfl, ?_⟩)
        · rw [if_neg cq2] at iw
          refine x_iload_n eX5_letOutUpTo_33 rfl rfl ?_
          first | refine x_aload eX5_letOutUpTo_34 rfl ?_ | refine x_aloadN eX5_letOutUpTo_34 rfl ?_
          first | refine x_getIe eX5_letOutUpTo_36 fk_X5_94 (by decide) (by assumption) (by assumption) ?_ | refine x_getI eX5_letOutUpTo_36 fk_X5_94 (by decide) (by assumption) ?_
          first | refine x_iaddN eX5_letOutUpTo_39 (by with_reducible rfl) (by with_reducible rfl) ?_ | refine x_iadd eX5_letOutUpTo_39 ?_
          refine x_istore_n eX5_letOutUpTo_40 rfl (by decide) rfl rfl ?_
          first | refine x_iincN eX5_letOutUpTo_41 rfl (by with_reducible rfl) (by decide) rfl rfl ?_ | refine x_iinc eX5_letOutUpTo_41 rfl rfl (by decide) rfl rfl ?_
          refine x_goto (tgt := 4) eX5_letOutUpTo_44 (by decide) ?_
          refine Rn.weak (iw) (by repeat' first | exact fun _ h => absurd h List.not_mem_nil | refine List.forall_mem_cons.mpr ⟨rfl, ?_⟩)
set_option maxRecDepth 100000 in
set_option maxHeartbeats 4000000 in
theorem c_X5_letOutUpTo {y : Int32} (ka : hk h a = 4) (C : SailC ow h g s a) (w : SW g s) (h0 : sl g s 0 = 0 → np g s = 0) (hq : Q (some (.int (sumN (fun i => if y < highV g s i then 0 else sl g s (140 + i)) 0 (nt (sl g s 8))))) h) : Rn G (d + 1) mX5_letOutUpTo 0 [(0, .ref a), (1, .int y)] [] h Q := by
  refine x_iconst (v := nI 0) eX5_letOutUpTo_0 (by decide) ?_
  refine x_istore_n eX5_letOutUpTo_1 rfl (by decide) rfl rfl ?_
  refine x_iconst (v := nI 0) eX5_letOutUpTo_2 (by decide) ?_
  refine x_istore_n eX5_letOutUpTo_3 rfl (by decide) rfl rfl ?_
  refine Rn.weak (l_X5_letOut ka C w.2.2.2.2.1 h0 w.2.2.1.1 (Nat.le_add_right _ _) rfl hq (nt (sl g s 8)) 0 (by omega)) (by repeat' first | exact fun _ h => absurd h List.not_mem_nil | refine List.forall_mem_cons.mpr ⟨rfl, ?_⟩)
end SAIL1

