/-! ===== the class: a bolt, what it reads ===== -/
section BOLT1
variable {G : GG} {d : Nat} {h : AH} {Q : Option Value → AH → Prop} {ow : Nat → Nat} {a i : Nat} {f L : Nat → Int32}
set_option maxRecDepth 100000 in
set_option maxHeartbeats 4000000 in
theorem hpV_t {n k : Int32} (h0 : ¬ k < 0) (h1 : ¬ n ≤ k) : hpV n k = true := by unfold hpV; rw [decide_eq_true (Int32.not_lt.mp h0), decide_eq_true (Int32.not_le.mp h1)]; rfl
set_option maxRecDepth 100000 in
set_option maxHeartbeats 4000000 in
theorem hpV_n {n k : Int32} (h0 : k < 0) : hpV n k = false := by unfold hpV; rw [decide_eq_false (Int32.not_le.mpr h0)]; rfl
set_option maxRecDepth 100000 in
set_option maxHeartbeats 4000000 in
theorem hpV_g {n k : Int32} (h0 : n ≤ k) : hpV n k = false := by unfold hpV; rw [decide_eq_false (Int32.not_lt.mpr h0), Bool.and_false]
set_option maxRecDepth 100000 in
set_option maxHeartbeats 4000000 in
theorem hpV_nI {n k : Nat} (hn : n < 2 ^ 31) (hk : k < 2 ^ 31) : hpV (nI n) (nI k) = decide (k < n) := by
  unfold hpV
  rw [decide_eq_true (nI_pos' hk), Bool.true_and]
  exact decide_eq_decide.mpr (nI_ltI hk hn)
set_option maxRecDepth 100000 in
set_option maxHeartbeats 4000000 in
theorem hpV_s {n k : Int32} {hi : Nat} (w : isN n 0 hi) (hs : hi < 2 ^ 31) (h : hpV n k = true) : ∃ j, j < nt n ∧ k = nI j := by
  simp only [hpV, Bool.and_eq_true, decide_eq_true_eq] at h
  exact lt_nI h.1 h.2 w hs
set_option maxRecDepth 100000 in
set_option maxHeartbeats 4000000 in
theorem c_X1_hasPlace0 {k : Int32} {c n : Nat} (ka : hk h a = 1) (e1 : hi h a 1 = nI n) (ec : hr h a 6 = some c) (kc : hk h c = 22) (nc : hn h c = 200) (u : n ≤ 200) (hq : Q (some (.int (bI (hpV (nI n) k)))) h) : Rn G d mX1_hasPlace 0 [(0, .ref a), (1, .int k)] [] h Q := by
  refine x_iload_n eX1_hasPlace_0 rfl rfl ?_
  refine x_if_lt (tgt := 25) eX1_hasPlace_1 (by decide) (fun cq1 => ?_) (fun cq1 => ?_)
  · refine x_iconst (v := nI 0) eX1_hasPlace_25 (by decide) ?_
    refine x_zret eX1_hasPlace_26 rfl (by first | exact Or.inl rfl | exact Or.inr rfl | exact bI_or _ | assumption) ?_
    exact qi hq (bIf (hpV_n cq1)).symm
  · refine x_iload_n eX1_hasPlace_4 rfl rfl ?_
    first | refine x_aload_n eX1_hasPlace_5 rfl rfl ?_ | refine x_aload_nN eX1_hasPlace_5 rfl rfl ?_
    first | refine x_getIe eX1_hasPlace_6 fk_X1_15 (by decide) (by assumption) (by assumption) ?_ | refine x_getI eX1_hasPlace_6 fk_X1_15 (by decide) (by assumption) ?_
    first | refine x_icmp_geN (tgt := 25) eX1_hasPlace_9 (by decide) (by with_reducible rfl) (by with_reducible rfl) (by omega) (by omega) (fun cq2 => ?_) (fun cq2 => ?_) | refine x_icmp_ge (tgt := 25) eX1_hasPlace_9 (by decide) (fun cq2 => ?_) (fun cq2 => ?_)
    · refine x_iconst (v := nI 0) eX1_hasPlace_25 (by decide) ?_
      refine x_zret eX1_hasPlace_26 rfl (by first | exact Or.inl rfl | exact Or.inr rfl | exact bI_or _ | assumption) ?_
      exact qi hq (bIf (hpV_g cq2)).symm
    · obtain ⟨j, hj, rfl⟩ := lt_nI (Int32.not_lt.mp cq1) (Int32.not_le.mp cq2) (isN_nI (b := 200) (by omega) (Nat.zero_le _) u) (by omega)
      rw [nt_nI (by omega)] at hj
      refine x_iload_n eX1_hasPlace_12 rfl rfl ?_
      first | refine x_aload_n eX1_hasPlace_13 rfl rfl ?_ | refine x_aload_nN eX1_hasPlace_13 rfl rfl ?_
      first | refine x_getR eX1_hasPlace_14 fk_X1_32 rfl (by assumption) (by assumption) ?_ | refine x_getN eX1_hasPlace_14 fk_X1_32 rfl (by assumption) (by assumption) ?_
      first | refine x_alenN eX1_hasPlace_17 (by assumption) (by decide) (by assumption) ?_ | refine x_slenN eX1_hasPlace_17 (by assumption) (by assumption) ?_ | refine x_alen eX1_hasPlace_17 (by assumption) (by decide) ?_
      first | refine x_icmp_geN (tgt := 25) eX1_hasPlace_18 (by decide) (by with_reducible rfl) (by with_reducible rfl) (by omega) (by omega) (fun cq3 => ?_) (fun cq3 => ?_) | refine x_icmp_ge (tgt := 25) eX1_hasPlace_18 (by decide) (fun cq3 => ?_) (fun cq3 => ?_)
      · exact absurd cq3 (by omega)
      · refine x_iconst (v := nI 1) eX1_hasPlace_21 (by decide) ?_
        refine x_goto (tgt := 26) eX1_hasPlace_22 (by decide) ?_
        refine x_zret eX1_hasPlace_26 rfl (by first | exact Or.inl rfl | exact Or.inr rfl | exact bI_or _ | assumption) ?_
        exact qi hq (bIt (hpV_t cq1 cq2)).symm
set_option maxRecDepth 100000 in
set_option maxHeartbeats 4000000 in
theorem c_X1_hasPlace {k : Int32} (B : BoltP ow h a i f L) (w1 : isN (f 1) 1 200) (hq : Q (some (.int (bI (hpV (f 1) k)))) h) : Rn G d mX1_hasPlace 0 [(0, .ref a), (1, .int k)] [] h Q := by
  obtain ⟨-, ka, -, e1, -, -, -, c, ec, -, kc, nc, -⟩ := id B
  exact c_X1_hasPlace0 ka (e1.trans w1.1) ec kc nc w1.2.2 (by rw [← w1.1]; exact hq)
set_option maxRecDepth 100000 in
set_option maxHeartbeats 4000000 in
theorem c_X1_tellsPlace {k : Int32} (B : BoltP ow h a i f L) (w3 : isN (f 3) 0 200) (hq : Q (some (.int (bI (hpV (f 3) k)))) h) : Rn G d mX1_tellsPlace 0 [(0, .ref a), (1, .int k)] [] h Q := by
  obtain ⟨-, ka, -, -, -, -, hrow, -⟩ := id B
  have u := w3.2.2
  rcases hrow with ⟨er, en⟩ | ⟨r, er, -, kr, nr, n0, -⟩
  · skip
    first | refine x_aload_n eX1_tellsPlace_0 rfl rfl ?_ | refine x_aload_nN eX1_tellsPlace_0 rfl rfl ?_
    first | refine x_getR eX1_tellsPlace_1 fk_X1_25 rfl (by assumption) (by assumption) ?_ | refine x_getN eX1_tellsPlace_1 fk_X1_25 rfl (by assumption) (by assumption) ?_
    refine x_ifnullN (tgt := 24) eX1_tellsPlace_4 (by decide) ?_
    refine x_iconst (v := nI 0) eX1_tellsPlace_24 (by decide) ?_
    refine x_zret eX1_tellsPlace_25 rfl (by first | exact Or.inl rfl | exact Or.inr rfl | exact bI_or _ | assumption) ?_
    refine qi hq ?_
    rw [bIf]
    rw [w3.1, en]
    cases z : hpV (nI 0) k with
    | false => rfl
    | true =>
      obtain ⟨j, hj, -⟩ := hpV_s (hi := 0) (isN_nI (by omega) (by omega) (by omega)) (by omega) z
      rw [nt_nI (by omega)] at hj
      omega
  · obtain ⟨n, hn⟩ : ∃ n, n = nt (f 3) := ⟨_, rfl⟩
    rw [← hn] at nr u
    have e3 : f 3 = nI n := by rw [hn]; exact w3.1
    rw [e3] at hq
    first | refine x_aload_n eX1_tellsPlace_0 rfl rfl ?_ | refine x_aload_nN eX1_tellsPlace_0 rfl rfl ?_
    first | refine x_getR eX1_tellsPlace_1 fk_X1_25 rfl (by assumption) (by assumption) ?_ | refine x_getN eX1_tellsPlace_1 fk_X1_25 rfl (by assumption) (by assumption) ?_
    refine x_ifnullR eX1_tellsPlace_4 ?_
    refine x_iload_n eX1_tellsPlace_7 rfl rfl ?_
    refine x_if_lt (tgt := 24) eX1_tellsPlace_8 (by decide) (fun cq1 => ?_) (fun cq1 => ?_)
    · refine x_iconst (v := nI 0) eX1_tellsPlace_24 (by decide) ?_
      refine x_zret eX1_tellsPlace_25 rfl (by first | exact Or.inl rfl | exact Or.inr rfl | exact bI_or _ | assumption) ?_
      exact qi hq (bIf (hpV_n cq1)).symm
    · refine x_iload_n eX1_tellsPlace_11 rfl rfl ?_
      first | refine x_aload_n eX1_tellsPlace_12 rfl rfl ?_ | refine x_aload_nN eX1_tellsPlace_12 rfl rfl ?_
      first | refine x_getR eX1_tellsPlace_13 fk_X1_25 rfl (by assumption) (by assumption) ?_ | refine x_getN eX1_tellsPlace_13 fk_X1_25 rfl (by assumption) (by assumption) ?_
      first | refine x_alenN eX1_tellsPlace_16 (by assumption) (by decide) (by assumption) ?_ | refine x_slenN eX1_tellsPlace_16 (by assumption) (by assumption) ?_ | refine x_alen eX1_tellsPlace_16 (by assumption) (by decide) ?_
      first | refine x_icmp_geN (tgt := 24) eX1_tellsPlace_17 (by decide) (by with_reducible rfl) (by with_reducible rfl) (by omega) (by omega) (fun cq2 => ?_) (fun cq2 => ?_) | refine x_icmp_ge (tgt := 24) eX1_tellsPlace_17 (by decide) (fun cq2 => ?_) (fun cq2 => ?_)
      · refine x_iconst (v := nI 0) eX1_tellsPlace_24 (by decide) ?_
        refine x_zret eX1_tellsPlace_25 rfl (by first | exact Or.inl rfl | exact Or.inr rfl | exact bI_or _ | assumption) ?_
        exact qi hq (bIf (hpV_g cq2)).symm
      · refine x_iconst (v := nI 1) eX1_tellsPlace_20 (by decide) ?_
        refine x_goto (tgt := 25) eX1_tellsPlace_21 (by decide) ?_
        refine x_zret eX1_tellsPlace_25 rfl (by first | exact Or.inl rfl | exact Or.inr rfl | exact bI_or _ | assumption) ?_
        exact qi hq (bIt (hpV_t cq1 cq2)).symm
/-- what a bolt's place is worn, as its row tells -/
def wnV (f : Nat → Int32) (k : Int32) : Int32 := if hpV (f 3) k then f (6 + nt k) else 0
set_option maxRecDepth 100000 in
set_option maxHeartbeats 4000000 in
theorem c_X1_wornAt {k : Int32} (B : BoltP ow h a i f L) (w3 : isN (f 3) 0 200) (hq : Q (some (.int (wnV f k))) h) : Rn G (d + 1) mX1_wornAt 0 [(0, .ref a), (1, .int k)] [] h Q := by
  obtain ⟨-, ka, -, -, -, -, hrow, -⟩ := id B
  have u := w3.2.2
  first | refine x_aload_n eX1_wornAt_0 rfl rfl ?_ | refine x_aload_nN eX1_wornAt_0 rfl rfl ?_
  refine x_iload_n eX1_wornAt_1 rfl rfl ?_
  refine x_callV1 eX1_wornAt_2 lk_X1_42 (by assumption) (Nat.le_of_ble_eq_true rfl) (Nat.le_of_ble_eq_true rfl) ?_
  refine c_X1_tellsPlace B w3 (fun _ => ?_)
  first | refine x_if_eqB (tgt := 17) eX1_wornAt_5 (by decide) (by with_reducible rfl) (fun cq1 => ?_) (fun cq1 => ?_) | refine x_if_eq (tgt := 17) eX1_wornAt_5 (by decide) (fun cq1 => ?_) (fun cq1 => ?_)
  · refine x_iconst (v := nI 0) eX1_wornAt_17 (by decide) ?_
    refine x_iret eX1_wornAt_18 rfl ?_
    exact qi hq (by unfold wnV; rw [if_neg (by rw [cq1]; decide)]; rfl)
  · obtain ⟨j, hj, rfl⟩ := hpV_s w3 (by omega) cq1
    have hnt : nt (nI j) = j := nt_nI (by omega)
    rcases hrow with ⟨er, en⟩ | ⟨r, er, -, kr, nr, n0, ev⟩
    · omega
    · first | refine x_aload_n eX1_wornAt_8 rfl rfl ?_ | refine x_aload_nN eX1_wornAt_8 rfl rfl ?_
      first | refine x_getR eX1_wornAt_9 fk_X1_25 rfl (by assumption) (by assumption) ?_ | refine x_getN eX1_wornAt_9 fk_X1_25 rfl (by assumption) (by assumption) ?_
      refine x_iload_n eX1_wornAt_12 rfl rfl ?_
      first | refine x_baldN eX1_wornAt_13 (by with_reducible rfl) (by assumption) (by assumption) (by omega) (by omega) ?_ | refine x_zaldN eX1_wornAt_13 (by with_reducible rfl) (by assumption) (by assumption) (by omega) (by omega) ?_ | refine x_bald eX1_wornAt_13 (by assumption) (by assumption) ?_
      refine x_goto (tgt := 18) eX1_wornAt_14 (by decide) ?_
      refine x_iret eX1_wornAt_18 rfl ?_
      exact qi hq (by unfold wnV; rw [if_pos cq1, hnt, ev j hj])
set_option maxRecDepth 100000 in
set_option maxHeartbeats 4000000 in
theorem c_X1_codeAt {k : Int32} (B : BoltP ow h a i f L) (w1 : isN (f 1) 1 200) (hq : Q (some (.int (if hpV (f 1) k then L (nt k) else -1))) h) : Rn G (d + 1) mX1_codeAt 0 [(0, .ref a), (1, .int k)] [] h Q := by
  obtain ⟨-, ka, -, e1, -, -, -, c, ec, -, kc, nc, -, eL⟩ := id B
  have u := w1.2.2
  first | refine x_aload_n eX1_codeAt_0 rfl rfl ?_ | refine x_aload_nN eX1_codeAt_0 rfl rfl ?_
  refine x_iload_n eX1_codeAt_1 rfl rfl ?_
  refine x_callV1 eX1_codeAt_2 lk_X1_46 (by assumption) (Nat.le_of_ble_eq_true rfl) (Nat.le_of_ble_eq_true rfl) ?_
  refine c_X1_hasPlace B w1 (fun _ => ?_)
  first | refine x_if_eqB (tgt := 17) eX1_codeAt_5 (by decide) (by with_reducible rfl) (fun cq1 => ?_) (fun cq1 => ?_) | refine x_if_eq (tgt := 17) eX1_codeAt_5 (by decide) (fun cq1 => ?_) (fun cq1 => ?_)
  · refine x_iconst (v := (-1)) eX1_codeAt_17 (by decide) ?_
    refine x_iret eX1_codeAt_18 rfl ?_
    exact qi hq (by rw [if_neg (by rw [cq1]; decide)])
  · obtain ⟨j, hj, rfl⟩ := hpV_s (w1.mono (Nat.zero_le _) (Nat.le_refl _)) (by omega) cq1
    have hnt : nt (nI j) = j := nt_nI (by omega)
    first | refine x_aload_n eX1_codeAt_8 rfl rfl ?_ | refine x_aload_nN eX1_codeAt_8 rfl rfl ?_
    first | refine x_getR eX1_codeAt_9 fk_X1_32 rfl (by assumption) (by assumption) ?_ | refine x_getN eX1_codeAt_9 fk_X1_32 rfl (by assumption) (by assumption) ?_
    refine x_iload_n eX1_codeAt_12 rfl rfl ?_
    first | refine x_saldN eX1_codeAt_13 (by with_reducible rfl) (by assumption) (by assumption) (by omega) (by omega) ?_ | refine x_sald eX1_codeAt_13 (by assumption) (by assumption) ?_
    refine x_goto (tgt := 18) eX1_codeAt_14 (by decide) ?_
    refine x_iret eX1_codeAt_18 rfl ?_
    exact qi hq (by rw [if_pos cq1, hnt, eL j hj])
/-- free: there is the place, nothing lies there, it is worn at most so -/
def frP (f L : Nat → Int32) (k w : Int32) : Bool := hpV (f 1) k && (decide (L (nt k) = -1) && decide (wnV f k ≤ w))
set_option maxRecDepth 100000 in
set_option maxHeartbeats 4000000 in
theorem c_X1_isFree {k w : Int32} (B : BoltP ow h a i f L) (w1 : isN (f 1) 1 200) (w3 : isN (f 3) 0 200) (hq : Q (some (.int (bI (frP f L k w)))) h) : Rn G (d + 2) mX1_isFree 0 [(0, .ref a), (1, .int k), (2, .int w)] [] h Q := by
  obtain ⟨-, ka, -, e1, -, -, -, c, ec, -, kc, nc, -, eL⟩ := id B
  have u := w1.2.2
  first | refine x_aload_n eX1_isFree_0 rfl rfl ?_ | refine x_aload_nN eX1_isFree_0 rfl rfl ?_
  refine x_iload_n eX1_isFree_1 rfl rfl ?_
  refine x_callV1 eX1_isFree_2 lk_X1_46 (by assumption) (Nat.le_of_ble_eq_true rfl) (Nat.le_of_ble_eq_true rfl) ?_
  refine c_X1_hasPlace B w1 (fun _ => ?_)
  first | refine x_if_eqB (tgt := 31) eX1_isFree_5 (by decide) (by with_reducible rfl) (fun cq1 => ?_) (fun cq1 => ?_) | refine x_if_eq (tgt := 31) eX1_isFree_5 (by decide) (fun cq1 => ?_) (fun cq1 => ?_)
  · refine x_iconst (v := nI 0) eX1_isFree_31 (by decide) ?_
    refine x_zret eX1_isFree_32 rfl (by first | exact Or.inl rfl | exact Or.inr rfl | exact bI_or _ | assumption) ?_
    exact qi hq (by unfold frP; rw [cq1]; rfl)
  · obtain ⟨j, hj, rfl⟩ := hpV_s (w1.mono (Nat.zero_le _) (Nat.le_refl _)) (by omega) cq1
    have hnt : nt (nI j) = j := nt_nI (by omega)
    first | refine x_aload_n eX1_isFree_8 rfl rfl ?_ | refine x_aload_nN eX1_isFree_8 rfl rfl ?_
    first | refine x_getR eX1_isFree_9 fk_X1_32 rfl (by assumption) (by assumption) ?_ | refine x_getN eX1_isFree_9 fk_X1_32 rfl (by assumption) (by assumption) ?_
    refine x_iload_n eX1_isFree_12 rfl rfl ?_
    first | refine x_saldN eX1_isFree_13 (by with_reducible rfl) (by assumption) (by assumption) (by omega) (by omega) ?_ | refine x_sald eX1_isFree_13 (by assumption) (by assumption) ?_
    refine x_iconst (v := (-1)) eX1_isFree_14 (by decide) ?_
    first | refine x_icmp_neN (tgt := 31) eX1_isFree_15 (by decide) (by with_reducible rfl) (by with_reducible rfl) (by omega) (by omega) (fun cq2 => ?_) (fun cq2 => ?_) | refine x_icmp_ne (tgt := 31) eX1_isFree_15 (by decide) (fun cq2 => ?_) (fun cq2 => ?_)
    · refine x_iconst (v := nI 0) eX1_isFree_31 (by decide) ?_
      refine x_zret eX1_isFree_32 rfl (by first | exact Or.inl rfl | exact Or.inr rfl | exact bI_or _ | assumption) ?_
      exact qi hq (by rw [eL j hj] at cq2; unfold frP; rw [hnt, decide_eq_false cq2, Bool.false_and, Bool.and_false]; rfl)
    · rw [eL j hj] at cq2
      first | refine x_aload_n eX1_isFree_18 rfl rfl ?_ | refine x_aload_nN eX1_isFree_18 rfl rfl ?_
      refine x_iload_n eX1_isFree_19 rfl rfl ?_
      refine x_callV1 eX1_isFree_20 lk_X1_49 (by assumption) (Nat.le_of_ble_eq_true rfl) (Nat.le_of_ble_eq_true rfl) ?_
      refine c_X1_wornAt B w3 (fun _ => ?_)
      refine x_iload_n eX1_isFree_23 rfl rfl ?_
      first | refine x_icmp_gtN (tgt := 31) eX1_isFree_24 (by decide) (by with_reducible rfl) (by with_reducible rfl) (by omega) (by omega) (fun cq3 => ?_) (fun cq3 => ?_) | refine x_icmp_gt (tgt := 31) eX1_isFree_24 (by decide) (fun cq3 => ?_) (fun cq3 => ?_)
      · refine x_iconst (v := nI 0) eX1_isFree_31 (by decide) ?_
        refine x_zret eX1_isFree_32 rfl (by first | exact Or.inl rfl | exact Or.inr rfl | exact bI_or _ | assumption) ?_
        exact qi hq (by unfold frP; rw [decide_eq_false (Int32.not_le.mpr cq3), Bool.and_false, Bool.and_false]; rfl)
      · refine x_iconst (v := nI 1) eX1_isFree_27 (by decide) ?_
        refine x_goto (tgt := 32) eX1_isFree_28 (by decide) ?_
        refine x_zret eX1_isFree_32 rfl (by first | exact Or.inl rfl | exact Or.inr rfl | exact bI_or _ | assumption) ?_
        exact qi hq (by unfold frP; rw [cq1, hnt, decide_eq_true cq2, decide_eq_true (Int32.not_lt.mp cq3)]; rfl)
set_option maxRecDepth 100000 in
set_option maxHeartbeats 4000000 in
theorem l_X1_isWornAtMost {w : Int32} {m : Nat} (B : BoltP ow h a i f L) (w1 : isN (f 1) 1 200) (w3 : isN (f 3) 0 200) (em : nt (f 1) = m) (hq0 : allN (fun k => decide (wnV f (nI k) ≤ w)) m = false → Q (some (.int 0)) h) (hq1 : allN (fun k => decide (wnV f (nI k) ≤ w)) m = true → Q (some (.int 1)) h) : ∀ n k, k + n = m → (∀ j, j < k → decide (wnV f (nI j) ≤ w) = true) → Rn G (d + 2) mX1_isWornAtMost 2 [(0, .ref a), (1, .int w), (2, .int (nI k))] [] h Q := by
  obtain ⟨-, ka, -, e1, -⟩ := id B
  have u := w1.2.2
  have e1 : hi h a 1 = nI m := by rw [e1, w1.1, em]
  intro n
  induction n with
  | zero =>
    intro k hk hall
    refine x_iload_n eX1_isWornAtMost_2 rfl rfl ?_
    first | refine x_aload_n eX1_isWornAtMost_3 rfl rfl ?_ | refine x_aload_nN eX1_isWornAtMost_3 rfl rfl ?_
    first | refine x_getIe eX1_isWornAtMost_4 fk_X1_15 (by decide) (by assumption) (by assumption) ?_ | refine x_getI eX1_isWornAtMost_4 fk_X1_15 (by decide) (by assumption) ?_
    first | refine x_icmp_geN (tgt := 27) eX1_isWornAtMost_7 (by decide) (by with_reducible rfl) (by with_reducible rfl) (by omega) (by omega) (fun cq1 => ?_) (fun cq1 => ?_) | refine x_icmp_ge (tgt := 27) eX1_isWornAtMost_7 (by decide) (fun cq1 => ?_) (fun cq1 => ?_)
    · refine x_iconst (v := nI 1) eX1_isWornAtMost_27 (by decide) ?_
      refine x_zret eX1_isWornAtMost_28 rfl (by first | exact Or.inl rfl | exact Or.inr rfl | exact bI_or _ | assumption) ?_
      exact hq1 (allN_iff.mpr (fun j hj => hall j (by omega)))
    · exact absurd cq1 (by omega)
  | succ n ih =>
    intro k hk hall
    refine x_iload_n eX1_isWornAtMost_2 rfl rfl ?_
    first | refine x_aload_n eX1_isWornAtMost_3 rfl rfl ?_ | refine x_aload_nN eX1_isWornAtMost_3 rfl rfl ?_
    first | refine x_getIe eX1_isWornAtMost_4 fk_X1_15 (by decide) (by assumption) (by assumption) ?_ | refine x_getI eX1_isWornAtMost_4 fk_X1_15 (by decide) (by assumption) ?_
    first | refine x_icmp_geN (tgt := 27) eX1_isWornAtMost_7 (by decide) (by with_reducible rfl) (by with_reducible rfl) (by omega) (by omega) (fun cq1 => ?_) (fun cq1 => ?_) | refine x_icmp_ge (tgt := 27) eX1_isWornAtMost_7 (by decide) (fun cq1 => ?_) (fun cq1 => ?_)
    · exact absurd cq1 (by omega)
    · first | refine x_aload_n eX1_isWornAtMost_10 rfl rfl ?_ | refine x_aload_nN eX1_isWornAtMost_10 rfl rfl ?_
      refine x_iload_n eX1_isWornAtMost_11 rfl rfl ?_
      refine x_callV1 eX1_isWornAtMost_12 lk_X1_49 (by assumption) (Nat.le_of_ble_eq_true rfl) (Nat.le_of_ble_eq_true rfl) ?_
      refine c_X1_wornAt B w3 (fun _ => ?_)
      refine x_iload_n eX1_isWornAtMost_15 rfl rfl ?_
      first | refine x_icmp_leN (tgt := 21) eX1_isWornAtMost_16 (by decide) (by with_reducible rfl) (by with_reducible rfl) (by omega) (by omega) (fun cq2 => ?_) (fun cq2 => ?_) | refine x_icmp_le (tgt := 21) eX1_isWornAtMost_16 (by decide) (fun cq2 => ?_) (fun cq2 => ?_)
      · first | refine x_iincN eX1_isWornAtMost_21 rfl (by with_reducible rfl) (by decide) rfl rfl ?_ | refine x_iinc eX1_isWornAtMost_21 rfl rfl (by decide) rfl rfl ?_
        refine x_goto (tgt := 2) eX1_isWornAtMost_24 (by decide) ?_
        refine Rn.weak (ih (k + 1) (by omega) (fun j hj => by rcases Nat.lt_succ_iff_lt_or_eq.mp hj with z | z; exact hall j z; rw [z]; exact decide_eq_true cq2)) (by repeat' first | exact fun _ h => absurd h List.not_mem_nil | refine List.forall_mem_cons.mpr ⟨rfl, ?_⟩)
      · refine x_iconst (v := nI 0) eX1_isWornAtMost_19 (by decide) ?_
        refine x_zret eX1_isWornAtMost_20 rfl (by first | exact Or.inl rfl | exact Or.inr rfl | exact bI_or _ | assumption) ?_
        exact hq0 (allN_f (i := k) (by omega) (decide_eq_false cq2))
set_option maxRecDepth 100000 in
set_option maxHeartbeats 4000000 in
theorem c_X1_isWornAtMost {w : Int32} (B : BoltP ow h a i f L) (w1 : isN (f 1) 1 200) (w3 : isN (f 3) 0 200) (hq : Q (some (.int (bI (allN (fun k => decide (wnV f (nI k) ≤ w)) (nt (f 1)))))) h) : Rn G (d + 2) mX1_isWornAtMost 0 [(0, .ref a), (1, .int w)] [] h Q := by
  refine x_iconst (v := nI 0) eX1_isWornAtMost_0 (by decide) ?_
  refine x_istore_n eX1_isWornAtMost_1 rfl (by decide) rfl rfl ?_
  refine Rn.weak (l_X1_isWornAtMost B w1 w3 rfl (fun z => qi hq (bIf z).symm) (fun z => qi hq (bIt z).symm) (nt (f 1)) 0 (by omega) (fun j hj => by omega)) (by repeat' first | exact fun _ h => absurd h List.not_mem_nil | refine List.forall_mem_cons.mpr ⟨rfl, ?_⟩)
end BOLT1

