/-! ===== what holds of every state that calls reach ===== -/
def GB (g : Nat → Int32) (b : Nat) : Prop := BW g b ∧ gOK (bl g b 2) = true ∧ ∀ k, k < nt (bl g b 3) → isN (bl g b (6 + k)) 0 100
def SX (g : Nat → Int32) (s : Nat) : Prop := (sl g s 0 = 0 → nt (sl g s 8) = 0 ∧ nt (sl g s 9) = 0) ∧ (¬ sl g s 0 = 0 → 1 ≤ nt (sl g s 8)) ∧ (∀ i, nt (sl g s 8) ≤ i + 1 → i < 40 → sl g s (140 + i) = 0) ∧ (∀ i, np g s ≤ i → i < 40 → sl g s (300 + i) = -1 ∧ sl g s (340 + i) = -1) ∧ (∀ i, i < np g s → sl g s (300 + i) = -1 → sl g s (340 + i) = -1) ∧
  (∀ n, n < nt (sl g s 12) → isN (sl g s (13 + n)) 1 (nt (sl g s 5))) ∧ nt (sl g s 10) ≤ nt (sl g s 5) ∧ (∀ c, 1 ≤ c → c ≤ 4 → inR (sl g s c) (-500) 500 = true) ∧ (∀ b k, b < 2 → k < nt (sl g s (16 + b)) → inR (sl g s (18 + 61 * b + k)) (-200) 200 = true) ∧ (∀ i, i < np g s → isN (lenV g s i) 1 200000)
/-- no two lie upon each other -/
def NO (g : Nat → Int32) : Prop := ∀ s i t j, s < nt (g 1) → i < np g s → t < nt (g 1) → j < np g t → ¬ sl g s (300 + i) = -1 → sl g s (300 + i) = sl g t (300 + j) → (s = t ∧ i = j) ∨ nt (sl g s (340 + i)) + nt (lenV g s i) ≤ nt (sl g t (340 + j)) ∨ nt (sl g t (340 + j)) + nt (lenV g t j) ≤ nt (sl g s (340 + i))
def GI (g : Nat → Int32) : Prop := (isN (g 0) 0 24 ∧ isN (g 1) 0 10) ∧ (∀ b, b < nt (g 0) → GB g b) ∧ (∀ s, s < nt (g 1) → SW g s ∧ SX g s) ∧ PB g ∧ NO g ∧ ∀ k, 5050 + 390 * nt (g 1) ≤ k → g k = 0
set_option maxRecDepth 100000 in
set_option maxHeartbeats 4000000 in
theorem GI.gw {g : Nat → Int32} (I : GI g) : GW g := ⟨I.1.1, I.1.2, fun b hb => (I.2.1 b hb).1, fun s hs => (I.2.2.1 s hs).1⟩
set_option maxRecDepth 100000 in
set_option maxHeartbeats 4000000 in
theorem GI.iv {g : Nat → Int32} (I : GI g) : IV g := ⟨I.gw, I.2.2.2.1, fun s i hs hi => ((I.2.2.1 s hs).2.2.2.2.2.2.2.2.2.2 i hi).mono (Nat.zero_le _) (Nat.le_refl _)⟩
set_option maxRecDepth 100000 in
set_option maxHeartbeats 4000000 in
theorem SX.np0 {g : Nat → Int32} {s : Nat} (x : SX g s) (h : sl g s 0 = 0) : np g s = 0 := by
  obtain ⟨a, b⟩ := x.1 h
  unfold np
  omega
set_option maxRecDepth 100000 in
set_option maxHeartbeats 4000000 in
theorem le_sub1 {x : Int32} {n : Nat} (h0 : 0 ≤ x) (hn : n < 2 ^ 30) : x ≤ nI n - nI 1 ↔ x < nI n := by
  obtain ⟨j, hj, rfl⟩ := nI_of (Int32.not_lt.mpr h0)
  rw [nI_ltI hj (by omega)]
  rcases Nat.eq_zero_or_pos n with z | z
  · subst z
    refine ⟨fun q => ?_, fun q => by omega⟩
    have : nI 0 - nI 1 < 0 := by decide
    exact absurd (Int32.le_trans h0 q) (Int32.not_le.mpr this)
  · rw [pk_sub (by omega), nI_leI hj (by omega)]
    omega
set_option maxRecDepth 100000 in
set_option maxHeartbeats 4000000 in
theorem inR_cnt {x : Int32} {n : Nat} (hn : n < 2 ^ 30) : inR x (nI 0) (nI n - nI 1) = (decide (0 ≤ x) && decide (x < nI n)) := by
  unfold inR
  rw [nI_0]
  by_cases h0 : 0 ≤ x
  · rw [decide_eq_decide.mpr (le_sub1 h0 hn)]
  · rw [decide_eq_false h0, Bool.false_and, Bool.false_and]
section RULE58
variable {G : GG} {d : Nat} {mi : MI} {pc : Nat} {l : List (Nat × Value)} {st : List Value} {h : AH} {Q : Option Value → AH → Prop}
set_option maxRecDepth 100000 in
set_option maxHeartbeats 4000000 in
theorem x_getFe {idx ci k a : Nat} {v : UInt32} (hd : decode mi.2.1 pc = .ok (.getfield idx, 3)) (hfl : fLink mi.1.cls idx ci k) (hty : tyo ci k = .float) (ha : hk h a = ci) (hv : hf h a k = v) (kk : Rn G d mi (pc + 3) l (.float v :: st) h Q) : Rn G d mi pc l (.ref a :: st) h Q := x_getF hd hfl hty ha (by rw [hv]; exact kk)
end RULE58
section READ
variable {G : GG} {d : Nat} {h : AH} {Q : Option Value → AH → Prop} {ow : Nat → Nat} {y : Nat} {g ld wd : Nat → Int32}
set_option maxRecDepth 100000 in
set_option maxHeartbeats 4000000 in
theorem c_X8_boltNumbered {b : Int32} (C : Core ow h y g ld wd) (W : GW g) (hq0 : isB g b = false → Q (some .null) h) (hq1 : ∀ j a, b = nI j → j < nt (g 0) → hr h (y + 1) j = some a → BoltP ow h a j (bl g j) (fun k => liesV g (nI j) (nI k)) → Q (some (.ref a)) h) : Rn G (d + 1) mX8_boltNumbered 0 [(0, .ref y), (1, .int b)] [] h Q := by
  obtain ⟨-, ⟨⟨s1, s2, s3, s4, s5, -⟩, ⟨b1, b2, -⟩, -⟩, ⟨e1, -⟩, -, B, -⟩ := id C
  obtain ⟨q1, q2, q3⟩ := id W.1
  obtain ⟨n, hn⟩ : ∃ n, n = nt (g 0) := ⟨_, rfl⟩
  rw [← hn] at q1 q3
  have e1 : hi h y 1 = nI n := e1.trans q1
  have em : (if nI 24 < nI n then nI 24 else nI n) = nI n := if_neg (nI_nlt q3 (by omega))
  have eB : isB g b = (decide (0 ≤ b) && decide (b < nI n)) := by unfold isB; rw [q1]
  refine x_iload_n eX8_boltNumbered_0 rfl rfl ?_
  refine x_iconst (v := nI 0) eX8_boltNumbered_1 (by decide) ?_
  first | refine x_aload_n eX8_boltNumbered_2 rfl rfl ?_ | refine x_aload_nN eX8_boltNumbered_2 rfl rfl ?_
  first | refine x_getIe eX8_boltNumbered_3 fk_X8_15 (by decide) (by assumption) (by assumption) ?_ | refine x_getI eX8_boltNumbered_3 fk_X8_15 (by decide) (by assumption) ?_
  first | refine x_aload_n eX8_boltNumbered_6 rfl rfl ?_ | refine x_aload_nN eX8_boltNumbered_6 rfl rfl ?_
  first | refine x_getR eX8_boltNumbered_7 fk_X8_11 rfl (by assumption) (by assumption) ?_ | refine x_getN eX8_boltNumbered_7 fk_X8_11 rfl (by assumption) (by assumption) ?_
  first | refine x_alenN eX8_boltNumbered_10 (by assumption) (by decide) (by assumption) ?_ | refine x_slenN eX8_boltNumbered_10 (by assumption) (by assumption) ?_ | refine x_alen eX8_boltNumbered_10 (by assumption) (by decide) ?_
  refine x_min eX8_boltNumbered_11 lk_X8_322 (Nat.le_of_ble_eq_true rfl) ?_
  rw [em]
  refine x_iconst (v := nI 1) eX8_boltNumbered_14 (by decide) ?_
  first | refine x_isubN eX8_boltNumbered_15 (by with_reducible rfl) (by with_reducible rfl) (by omega) ?_ | refine x_isub eX8_boltNumbered_15 ?_
  refine x_callS3 eX8_boltNumbered_16 lk_X8_51 (Nat.le_of_ble_eq_true rfl) (Nat.le_of_ble_eq_true rfl) ?_
  refine c_X8_isWithin (fun _ => ?_)
  rw [inR_cnt (by omega), ← eB]
  first | refine x_if_eqB (tgt := 31) eX8_boltNumbered_19 (by decide) (by with_reducible rfl) (fun cq1 => ?_) (fun cq1 => ?_) | refine x_if_eq (tgt := 31) eX8_boltNumbered_19 (by decide) (fun cq1 => ?_) (fun cq1 => ?_)
  · refine x_null eX8_boltNumbered_31 ?_
    first | refine x_aret eX8_boltNumbered_32 rfl ?_ | refine x_aretN eX8_boltNumbered_32 rfl ?_
    exact hq0 cq1
  · obtain ⟨j, hj, rfl⟩ := isB_spec W.1 cq1
    obtain ⟨a, ha, P⟩ := B j hj
    first | refine x_aload_n eX8_boltNumbered_22 rfl rfl ?_ | refine x_aload_nN eX8_boltNumbered_22 rfl rfl ?_
    first | refine x_getR eX8_boltNumbered_23 fk_X8_11 rfl (by assumption) (by assumption) ?_ | refine x_getN eX8_boltNumbered_23 fk_X8_11 rfl (by assumption) (by assumption) ?_
    refine x_iload_n eX8_boltNumbered_26 rfl rfl ?_
    first | refine x_aaldRN eX8_boltNumbered_27 (by with_reducible rfl) (by assumption) (by decide) (by assumption) (by omega) (by omega) (by assumption) ?_ | refine x_aaldNN eX8_boltNumbered_27 (by with_reducible rfl) (by assumption) (by decide) (by assumption) (by omega) (by omega) (by assumption) ?_ | refine x_aaldR eX8_boltNumbered_27 (by assumption) (by decide) (by assumption) (by assumption) ?_ | refine x_aaldN eX8_boltNumbered_27 (by assumption) (by decide) (by assumption) (by assumption) ?_
    refine x_goto (tgt := 32) eX8_boltNumbered_28 (by decide) ?_
    first | refine x_aret eX8_boltNumbered_32 rfl ?_ | refine x_aretN eX8_boltNumbered_32 rfl ?_
    exact hq1 j a rfl hj ha P
set_option maxRecDepth 100000 in
set_option maxHeartbeats 4000000 in
theorem c_X8_sailNumbered {b : Int32} (C : Core ow h y g ld wd) (W : GW g) (hq0 : isS g b = false → Q (some .null) h) (hq1 : ∀ j a, b = nI j → j < nt (g 1) → hr h (y + 2) j = some a → SailP ow h g j a → Q (some (.ref a)) h) : Rn G (d + 1) mX8_sailNumbered 0 [(0, .ref y), (1, .int b)] [] h Q := by
  obtain ⟨-, ⟨⟨s1, s2, s3, s4, s5, -⟩, -, ⟨b1, b2, -⟩, -⟩, ⟨-, e1⟩, -, -, S, -⟩ := id C
  obtain ⟨q1, q2, q3⟩ := id W.2.1
  obtain ⟨n, hn⟩ : ∃ n, n = nt (g 1) := ⟨_, rfl⟩
  rw [← hn] at q1 q3
  have e1 : hi h y 3 = nI n := e1.trans q1
  have em : (if nI 10 < nI n then nI 10 else nI n) = nI n := if_neg (nI_nlt q3 (by omega))
  have eB : isS g b = (decide (0 ≤ b) && decide (b < nI n)) := by unfold isS; rw [q1]
  refine x_iload_n eX8_sailNumbered_0 rfl rfl ?_
  refine x_iconst (v := nI 0) eX8_sailNumbered_1 (by decide) ?_
  first | refine x_aload_n eX8_sailNumbered_2 rfl rfl ?_ | refine x_aload_nN eX8_sailNumbered_2 rfl rfl ?_
  first | refine x_getIe eX8_sailNumbered_3 fk_X8_25 (by decide) (by assumption) (by assumption) ?_ | refine x_getI eX8_sailNumbered_3 fk_X8_25 (by decide) (by assumption) ?_
  first | refine x_aload_n eX8_sailNumbered_6 rfl rfl ?_ | refine x_aload_nN eX8_sailNumbered_6 rfl rfl ?_
  first | refine x_getR eX8_sailNumbered_7 fk_X8_21 rfl (by assumption) (by assumption) ?_ | refine x_getN eX8_sailNumbered_7 fk_X8_21 rfl (by assumption) (by assumption) ?_
  first | refine x_alenN eX8_sailNumbered_10 (by assumption) (by decide) (by assumption) ?_ | refine x_slenN eX8_sailNumbered_10 (by assumption) (by assumption) ?_ | refine x_alen eX8_sailNumbered_10 (by assumption) (by decide) ?_
  refine x_min eX8_sailNumbered_11 lk_X8_322 (Nat.le_of_ble_eq_true rfl) ?_
  rw [em]
  refine x_iconst (v := nI 1) eX8_sailNumbered_14 (by decide) ?_
  first | refine x_isubN eX8_sailNumbered_15 (by with_reducible rfl) (by with_reducible rfl) (by omega) ?_ | refine x_isub eX8_sailNumbered_15 ?_
  refine x_callS3 eX8_sailNumbered_16 lk_X8_51 (Nat.le_of_ble_eq_true rfl) (Nat.le_of_ble_eq_true rfl) ?_
  refine c_X8_isWithin (fun _ => ?_)
  rw [inR_cnt (by omega), ← eB]
  first | refine x_if_eqB (tgt := 31) eX8_sailNumbered_19 (by decide) (by with_reducible rfl) (fun cq1 => ?_) (fun cq1 => ?_) | refine x_if_eq (tgt := 31) eX8_sailNumbered_19 (by decide) (fun cq1 => ?_) (fun cq1 => ?_)
  · refine x_null eX8_sailNumbered_31 ?_
    first | refine x_aret eX8_sailNumbered_32 rfl ?_ | refine x_aretN eX8_sailNumbered_32 rfl ?_
    exact hq0 cq1
  · obtain ⟨j, hj, rfl⟩ := isS_spec W.2.1 cq1
    obtain ⟨a, ha, P⟩ := S j hj
    first | refine x_aload_n eX8_sailNumbered_22 rfl rfl ?_ | refine x_aload_nN eX8_sailNumbered_22 rfl rfl ?_
    first | refine x_getR eX8_sailNumbered_23 fk_X8_21 rfl (by assumption) (by assumption) ?_ | refine x_getN eX8_sailNumbered_23 fk_X8_21 rfl (by assumption) (by assumption) ?_
    refine x_iload_n eX8_sailNumbered_26 rfl rfl ?_
    first | refine x_aaldRN eX8_sailNumbered_27 (by with_reducible rfl) (by assumption) (by decide) (by assumption) (by omega) (by omega) (by assumption) ?_ | refine x_aaldNN eX8_sailNumbered_27 (by with_reducible rfl) (by assumption) (by decide) (by assumption) (by omega) (by omega) (by assumption) ?_ | refine x_aaldR eX8_sailNumbered_27 (by assumption) (by decide) (by assumption) (by assumption) ?_ | refine x_aaldN eX8_sailNumbered_27 (by assumption) (by decide) (by assumption) (by assumption) ?_
    refine x_goto (tgt := 32) eX8_sailNumbered_28 (by decide) ?_
    first | refine x_aret eX8_sailNumbered_32 rfl ?_ | refine x_aretN eX8_sailNumbered_32 rfl ?_
    exact hq1 j a rfl hj ha P
set_option maxRecDepth 100000 in
set_option maxHeartbeats 4000000 in
theorem c_X8_sailInState {b st : Int32} (C : Core ow h y g ld wd) (W : GW g) (hq0 : (isS g b && decide (sl g (nt b) 0 = st)) = false → Q (some .null) h) (hq1 : ∀ j a, b = nI j → j < nt (g 1) → sl g j 0 = st → hr h (y + 2) j = some a → SailP ow h g j a → Q (some (.ref a)) h) : Rn G (d + 2) mX8_sailInState 0 [(0, .ref y), (1, .int b), (2, .int st)] [] h Q := by
  have ky := C.2.1.1.1
  have h10 := W.2.1.2.2
  first | refine x_aload_n eX8_sailInState_0 rfl rfl ?_ | refine x_aload_nN eX8_sailInState_0 rfl rfl ?_
  refine x_iload_n eX8_sailInState_1 rfl rfl ?_
  refine x_callV1 eX8_sailInState_2 lk_X8_149 (by assumption) (Nat.le_of_ble_eq_true rfl) (Nat.le_of_ble_eq_true rfl) ?_
  refine c_X8_sailNumbered C W (fun z _ => ?_) (fun j a ej hj ha P _ => ?_)
  · first | refine x_astore_n eX8_sailInState_5 rfl (by decide) rfl rfl ?_ | refine x_astore_nN eX8_sailInState_5 rfl (by decide) rfl rfl ?_
    first | refine x_aload_n eX8_sailInState_6 rfl rfl ?_ | refine x_aload_nN eX8_sailInState_6 rfl rfl ?_
    refine x_ifnullN (tgt := 22) eX8_sailInState_7 (by decide) ?_
    refine x_null eX8_sailInState_22 ?_
    first | refine x_aret eX8_sailInState_23 rfl ?_ | refine x_aretN eX8_sailInState_23 rfl ?_
    exact hq0 (by rw [z]; rfl)
  · subst ej
    have ka := P.1.2.1
    have e3 := P.2.1.1
    have hS : nt (nI j) = j := nt_nI (by omega)
    first | refine x_astore_n eX8_sailInState_5 rfl (by decide) rfl rfl ?_ | refine x_astore_nN eX8_sailInState_5 rfl (by decide) rfl rfl ?_
    first | refine x_aload_n eX8_sailInState_6 rfl rfl ?_ | refine x_aload_nN eX8_sailInState_6 rfl rfl ?_
    refine x_ifnullR eX8_sailInState_7 ?_
    first | refine x_aload_n eX8_sailInState_10 rfl rfl ?_ | refine x_aload_nN eX8_sailInState_10 rfl rfl ?_
    first | refine x_getIe eX8_sailInState_11 fk_X8_186 (by decide) (by assumption) (by assumption) ?_ | refine x_getI eX8_sailInState_11 fk_X8_186 (by decide) (by assumption) ?_
    refine x_iload_n eX8_sailInState_14 rfl rfl ?_
    first | refine x_icmp_neN (tgt := 22) eX8_sailInState_15 (by decide) (by with_reducible rfl) (by with_reducible rfl) (by omega) (by omega) (fun cq1 => ?_) (fun cq1 => ?_) | refine x_icmp_ne (tgt := 22) eX8_sailInState_15 (by decide) (fun cq1 => ?_) (fun cq1 => ?_)
    · refine x_null eX8_sailInState_22 ?_
      first | refine x_aret eX8_sailInState_23 rfl ?_ | refine x_aretN eX8_sailInState_23 rfl ?_
      exact hq0 (by rw [hS, decide_eq_false cq1, Bool.and_false])
    · first | refine x_aload_n eX8_sailInState_18 rfl rfl ?_ | refine x_aload_nN eX8_sailInState_18 rfl rfl ?_
      refine x_goto (tgt := 23) eX8_sailInState_19 (by decide) ?_
      first | refine x_aret eX8_sailInState_23 rfl ?_ | refine x_aretN eX8_sailInState_23 rfl ?_
      exact hq1 j a rfl hj cq1 ha P
set_option maxRecDepth 100000 in
set_option maxHeartbeats 4000000 in
theorem isC_of {j : Nat} (W : GW g) (hj : j < nt (g 1)) (h0 : sl g j 0 = 1) : isC g (nI j) = true := by
  have h10 := W.2.1.2.2
  unfold isC isS
  rw [nt_nI (by omega), decide_eq_true h0, decide_eq_true (nI_pos' (by omega)), decide_eq_true (by rw [W.2.1.1]; exact nI_lt hj (by omega))]
  rfl
set_option maxRecDepth 100000 in
set_option maxHeartbeats 4000000 in
theorem isO_of {j : Nat} (W : GW g) (hj : j < nt (g 1)) (h0 : sl g j 0 = 0) : isO g (nI j) = true := by
  have h10 := W.2.1.2.2
  unfold isO isS
  rw [nt_nI (by omega), decide_eq_true h0, decide_eq_true (nI_pos' (by omega)), decide_eq_true (by rw [W.2.1.1]; exact nI_lt hj (by omega))]
  rfl
set_option maxRecDepth 100000 in
set_option maxHeartbeats 4000000 in
theorem isS_of {j : Nat} (W : GW g) (hj : j < nt (g 1)) : isS g (nI j) = true := by
  have h10 := W.2.1.2.2
  unfold isS
  rw [decide_eq_true (nI_pos' (by omega)), decide_eq_true (by rw [W.2.1.1]; exact nI_lt hj (by omega))]
  rfl
set_option maxRecDepth 100000 in
set_option maxHeartbeats 4000000 in
theorem isB_of {j : Nat} (W : GW g) (hj : j < nt (g 0)) : isB g (nI j) = true := by
  have h10 := W.1.2.2
  unfold isB
  rw [decide_eq_true (nI_pos' (by omega)), decide_eq_true (by rw [W.1.1]; exact nI_lt hj (by omega))]
  rfl
set_option maxRecDepth 100000 in
set_option maxHeartbeats 4000000 in
theorem c_X8_pieceNull {i : Int32} (hq : Q (some .null) h) : Rn G (d + 1) mX8_pieceOf 0 [(0, .null), (1, .int i)] [] h Q := by
  first | refine x_aload_n eX8_pieceOf_0 rfl rfl ?_ | refine x_aload_nN eX8_pieceOf_0 rfl rfl ?_
  refine x_ifnonnullN eX8_pieceOf_1 ?_
  refine x_null eX8_pieceOf_4 ?_
  refine x_goto (tgt := 13) eX8_pieceOf_5 (by decide) ?_
  first | refine x_aret eX8_pieceOf_13 rfl ?_ | refine x_aretN eX8_pieceOf_13 rfl ?_
  exact hq
set_option maxRecDepth 100000 in
set_option maxHeartbeats 4000000 in
theorem c_X8_pieceOf2 {a s : Nat} {i : Int32} (P : SailP ow h g s a) (w : SW g s) (x : SX g s) (hq0 : hpV (nI (np g s)) i = false → Q (some .null) h) (hq1 : ∀ j p, i = nI j → j < np g s → (∃ pa, hr h a 4 = some pa ∧ hr h pa j = some p) → PieceP ow h g s j p → Q (some (.ref p)) h) : Rn G (d + 1) mX8_pieceOf 0 [(0, .ref a), (1, .int i)] [] h Q := by
  have ka := P.1.2.1
  first | refine x_aload_n eX8_pieceOf_0 rfl rfl ?_ | refine x_aload_nN eX8_pieceOf_0 rfl rfl ?_
  refine x_ifnonnullR (tgt := 8) eX8_pieceOf_1 (by decide) ?_
  first | refine x_aload_n eX8_pieceOf_8 rfl rfl ?_ | refine x_aload_nN eX8_pieceOf_8 rfl rfl ?_
  refine x_iload_n eX8_pieceOf_9 rfl rfl ?_
  refine x_callV1 eX8_pieceOf_10 lk_X8_170 (by assumption) (Nat.le_of_ble_eq_true rfl) (Nat.le_of_ble_eq_true rfl) ?_
  refine c_X5_pieceNumbered2 ka P.2.1 w.2.2.2.2.1 x.np0 (fun z _ => ?_) (fun j p ej hj hpa R _ => ?_)
  · first | refine x_aret eX8_pieceOf_13 rfl ?_ | refine x_aretN eX8_pieceOf_13 rfl ?_
    exact hq0 z
  · first | refine x_aret eX8_pieceOf_13 rfl ?_ | refine x_aretN eX8_pieceOf_13 rfl ?_
    exact hq1 j p ej hj hpa R
set_option maxRecDepth 100000 in
set_option maxHeartbeats 4000000 in
theorem c_X8_pieceOf {a s : Nat} {i : Int32} (P : SailP ow h g s a) (w : SW g s) (x : SX g s) (hq0 : hpV (nI (np g s)) i = false → Q (some .null) h) (hq1 : ∀ j p, i = nI j → j < np g s → PieceP ow h g s j p → Q (some (.ref p)) h) : Rn G (d + 1) mX8_pieceOf 0 [(0, .ref a), (1, .int i)] [] h Q := c_X8_pieceOf2 P w x hq0 (fun j p e hj _ R => hq1 j p e hj R)
set_option maxRecDepth 100000 in
set_option maxHeartbeats 4000000 in
theorem c_X8_codeOf {s i : Nat} (hq : Q (some (.int (nI (100 * s + i)))) h) : Rn G d mX8_codeOf 0 [(0, .int (nI s)), (1, .int (nI i))] [] h Q := by
  refine x_bipush (v := nI 100) eX8_codeOf_0 (by decide) ?_
  refine x_iload_n eX8_codeOf_2 rfl rfl ?_
  first | refine x_imulN eX8_codeOf_3 (by with_reducible rfl) (by with_reducible rfl) ?_ | refine x_imul eX8_codeOf_3 ?_
  refine x_iload_n eX8_codeOf_4 rfl rfl ?_
  first | refine x_iaddN eX8_codeOf_5 (by with_reducible rfl) (by with_reducible rfl) ?_ | refine x_iadd eX8_codeOf_5 ?_
  refine x_iret eX8_codeOf_6 rfl ?_
  exact hq
set_option maxRecDepth 100000 in
set_option maxHeartbeats 4000000 in
theorem c_X8_worn {b k : Int32} (C : Core ow h y g ld wd) (I : GI g) (hq : Q (some (.int (wornI g b k))) h) : Rn G (d + 2) mX8_worn 0 [(0, .ref y), (1, .int b), (2, .int k)] [] h Q := by
  have ky := C.2.1.1.1
  have W := I.gw
  have h24 := W.1.2.2
  first | refine x_aload_n eX8_worn_0 rfl rfl ?_ | refine x_aload_nN eX8_worn_0 rfl rfl ?_
  refine x_iload_n eX8_worn_1 rfl rfl ?_
  refine x_callV1 eX8_worn_2 lk_X8_76 (by assumption) (Nat.le_of_ble_eq_true rfl) (Nat.le_of_ble_eq_true rfl) ?_
  refine c_X8_boltNumbered C W (fun z _ => ?_) (fun j a ej hj ha P _ => ?_)
  · first | refine x_astore_n eX8_worn_5 rfl (by decide) rfl rfl ?_ | refine x_astore_nN eX8_worn_5 rfl (by decide) rfl rfl ?_
    first | refine x_aload_n eX8_worn_6 rfl rfl ?_ | refine x_aload_nN eX8_worn_6 rfl rfl ?_
    refine x_ifnullN (tgt := 18) eX8_worn_7 (by decide) ?_
    refine x_iconst (v := (-1)) eX8_worn_18 (by decide) ?_
    refine x_goto (tgt := 27) eX8_worn_19 (by decide) ?_
    refine x_iret eX8_worn_27 rfl ?_
    exact qi hq (by unfold wornI; rw [z]; rfl)
  · subst ej
    have ka := P.2.1
    have hS : nt (nI j) = j := nt_nI (by omega)
    have hB := isB_of W hj
    obtain ⟨-, w1, w3⟩ := W.2.2.1 j hj
    have w3' := w3.mono (Nat.le_refl 0) w1.2.2
    first | refine x_astore_n eX8_worn_5 rfl (by decide) rfl rfl ?_ | refine x_astore_nN eX8_worn_5 rfl (by decide) rfl rfl ?_
    first | refine x_aload_n eX8_worn_6 rfl rfl ?_ | refine x_aload_nN eX8_worn_6 rfl rfl ?_
    refine x_ifnullR eX8_worn_7 ?_
    first | refine x_aload_n eX8_worn_10 rfl rfl ?_ | refine x_aload_nN eX8_worn_10 rfl rfl ?_
    refine x_iload_n eX8_worn_11 rfl rfl ?_
    refine x_callV1 eX8_worn_12 lk_X8_104 (by assumption) (Nat.le_of_ble_eq_true rfl) (Nat.le_of_ble_eq_true rfl) ?_
    refine Rn.deep (c_X1_hasPlace (d := d) P w1 (fun _ => ?_)) (by omega)
    first | refine x_if_neB (tgt := 22) eX8_worn_15 (by decide) (by with_reducible rfl) (fun cq1 => ?_) (fun cq1 => ?_) | refine x_if_ne (tgt := 22) eX8_worn_15 (by decide) (fun cq1 => ?_) (fun cq1 => ?_)
    · have cq1' := cq1
      simp only [hpV, Bool.and_eq_true, decide_eq_true_eq] at cq1'
      first | refine x_aload_n eX8_worn_22 rfl rfl ?_ | refine x_aload_nN eX8_worn_22 rfl rfl ?_
      refine x_iload_n eX8_worn_23 rfl rfl ?_
      refine x_callV1 eX8_worn_24 lk_X8_96 (by assumption) (Nat.le_of_ble_eq_true rfl) (Nat.le_of_ble_eq_true rfl) ?_
      refine c_X1_wornAt P w3' (fun _ => ?_)
      refine x_iret eX8_worn_27 rfl ?_
      exact qi hq (by
        unfold wornI wnV hpV
        rw [hB, hS, decide_eq_true cq1'.1, decide_eq_true cq1'.2]
        by_cases z : k < bl g j 3
        · rw [decide_eq_true z, if_pos (by decide), if_pos (by decide), if_pos z]
        · rw [decide_eq_false z, if_neg (by decide), if_pos (by decide), if_neg z])
    · refine x_iconst (v := (-1)) eX8_worn_18 (by decide) ?_
      refine x_goto (tgt := 27) eX8_worn_19 (by decide) ?_
      refine x_iret eX8_worn_27 rfl ?_
      exact qi hq (by
        unfold hpV at cq1
        unfold wornI
        rw [hB, hS, Bool.true_and, cq1]
        rfl)
set_option maxRecDepth 100000 in
set_option maxHeartbeats 4000000 in
theorem cv_left {F L : Nat → Int32} : ∀ {n : Nat}, (∀ k, k < n → F k = L k) → sumN (fun k => if L k = -1 then 1 else 0) 0 n = nI (n - cvN F n) ∧ cvN F n ≤ n
  | 0, _ => ⟨rfl, Nat.le_refl _⟩
  | n + 1, h => by
    obtain ⟨a, b⟩ := cv_left (n := n) (F := F) (L := L) (fun k hk => h k (by omega))
    rw [sumN, a, Nat.zero_add]
    have e := h n (by omega)
    unfold cvN at b ⊢
    rw [cntN]
    by_cases z : L n = -1
    · rw [if_pos z, e, decide_eq_true z, if_neg (by decide), Nat.add_zero]
      refine ⟨?_, by omega⟩
      rw [nI_1]
      congr 1
      omega
    · rw [if_neg z, e, decide_eq_false z, if_pos (by decide), Int32.add_zero]
      refine ⟨?_, by omega⟩
      congr 1
      omega
set_option maxRecDepth 100000 in
set_option maxHeartbeats 4000000 in
theorem c_X8_left {b : Int32} (C : Core ow h y g ld wd) (I : GI g) (hq : Q (some (.int (leftV g b))) h) : Rn G (d + 2) mX8_left 0 [(0, .ref y), (1, .int b)] [] h Q := by
  have ky := C.2.1.1.1
  have W := I.gw
  have h24 := W.1.2.2
  first | refine x_aload_n eX8_left_0 rfl rfl ?_ | refine x_aload_nN eX8_left_0 rfl rfl ?_
  refine x_iload_n eX8_left_1 rfl rfl ?_
  refine x_callV1 eX8_left_2 lk_X8_76 (by assumption) (Nat.le_of_ble_eq_true rfl) (Nat.le_of_ble_eq_true rfl) ?_
  refine c_X8_boltNumbered C W (fun z _ => ?_) (fun j a ej hj ha P _ => ?_)
  · first | refine x_astore_n eX8_left_5 rfl (by decide) rfl rfl ?_ | refine x_astore_nN eX8_left_5 rfl (by decide) rfl rfl ?_
    first | refine x_aload_n eX8_left_6 rfl rfl ?_ | refine x_aload_nN eX8_left_6 rfl rfl ?_
    refine x_ifnonnullN eX8_left_7 ?_
    refine x_iconst (v := (-1)) eX8_left_10 (by decide) ?_
    refine x_goto (tgt := 23) eX8_left_11 (by decide) ?_
    refine x_iret eX8_left_23 rfl ?_
    exact qi hq (by unfold leftV; rw [z]; rfl)
  · subst ej
    obtain ⟨-, ka, -, e1, -, -, -, c, -, -, -, -, e5, eL⟩ := P
    have hS : nt (nI j) = j := nt_nI (by omega)
    have hB := isB_of W hj
    obtain ⟨-, ⟨w1, w2, w3⟩, -⟩ := W.2.2.1 j hj
    obtain ⟨v1, v2⟩ := cv_left eL
    rw [w1] at e1
    first | refine x_astore_n eX8_left_5 rfl (by decide) rfl rfl ?_ | refine x_astore_nN eX8_left_5 rfl (by decide) rfl rfl ?_
    first | refine x_aload_n eX8_left_6 rfl rfl ?_ | refine x_aload_nN eX8_left_6 rfl rfl ?_
    refine x_ifnonnullR (tgt := 14) eX8_left_7 (by decide) ?_
    first | refine x_aload_n eX8_left_14 rfl rfl ?_ | refine x_aload_nN eX8_left_14 rfl rfl ?_
    first | refine x_getIe eX8_left_15 fk_X8_80 (by decide) (by assumption) (by assumption) ?_ | refine x_getI eX8_left_15 fk_X8_80 (by decide) (by assumption) ?_
    first | refine x_aload_n eX8_left_18 rfl rfl ?_ | refine x_aload_nN eX8_left_18 rfl rfl ?_
    first | refine x_getIe eX8_left_19 fk_X8_83 (by decide) (by assumption) (by assumption) ?_ | refine x_getI eX8_left_19 fk_X8_83 (by decide) (by assumption) ?_
    first | refine x_isubN eX8_left_22 (by with_reducible rfl) (by with_reducible rfl) (by omega) ?_ | refine x_isub eX8_left_22 ?_
    refine x_iret eX8_left_23 rfl ?_
    exact qi hq (by unfold leftV; rw [hB, hS, if_pos rfl, v1])
set_option maxRecDepth 100000 in
set_option maxHeartbeats 4000000 in
theorem c_X8_over {b k : Int32} (C : Core ow h y g ld wd) (I : GI g) (hq : Q (some (.int (overV g b k))) h) : Rn G (d + 2) mX8_over 0 [(0, .ref y), (1, .int b), (2, .int k)] [] h Q := by
  have ky := C.2.1.1.1
  have W := I.gw
  have h24 := W.1.2.2
  first | refine x_aload_n eX8_over_0 rfl rfl ?_ | refine x_aload_nN eX8_over_0 rfl rfl ?_
  refine x_iload_n eX8_over_1 rfl rfl ?_
  refine x_callV1 eX8_over_2 lk_X8_76 (by assumption) (Nat.le_of_ble_eq_true rfl) (Nat.le_of_ble_eq_true rfl) ?_
  refine c_X8_boltNumbered C W (fun z _ => ?_) (fun j a ej hj ha P _ => ?_)
  · first | refine x_astore_n eX8_over_5 rfl (by decide) rfl rfl ?_ | refine x_astore_nN eX8_over_5 rfl (by decide) rfl rfl ?_
    first | refine x_aload_n eX8_over_6 rfl rfl ?_ | refine x_aload_nN eX8_over_6 rfl rfl ?_
    refine x_ifnullN (tgt := 18) eX8_over_7 (by decide) ?_
    refine x_iconst (v := (-1)) eX8_over_18 (by decide) ?_
    refine x_goto (tgt := 27) eX8_over_19 (by decide) ?_
    refine x_iret eX8_over_27 rfl ?_
    exact qi hq (by unfold overV; rw [z]; rfl)
  · subst ej
    have ka := P.2.1
    have hS : nt (nI j) = j := nt_nI (by omega)
    have hB := isB_of W hj
    obtain ⟨-, w1, w3⟩ := W.2.2.1 j hj
    have ev : overV g (nI j) k = if hpV (bl g j 1) k then liesV g (nI j) k else -1 := by
      unfold overV hpV
      rw [hB, hS, Bool.true_and]
    first | refine x_astore_n eX8_over_5 rfl (by decide) rfl rfl ?_ | refine x_astore_nN eX8_over_5 rfl (by decide) rfl rfl ?_
    first | refine x_aload_n eX8_over_6 rfl rfl ?_ | refine x_aload_nN eX8_over_6 rfl rfl ?_
    refine x_ifnullR eX8_over_7 ?_
    first | refine x_aload_n eX8_over_10 rfl rfl ?_ | refine x_aload_nN eX8_over_10 rfl rfl ?_
    refine x_iload_n eX8_over_11 rfl rfl ?_
    refine x_callV1 eX8_over_12 lk_X8_104 (by assumption) (Nat.le_of_ble_eq_true rfl) (Nat.le_of_ble_eq_true rfl) ?_
    refine Rn.deep (c_X1_hasPlace (d := d) P w1 (fun _ => ?_)) (by omega)
    first | refine x_if_neB (tgt := 22) eX8_over_15 (by decide) (by with_reducible rfl) (fun cq1 => ?_) (fun cq1 => ?_) | refine x_if_ne (tgt := 22) eX8_over_15 (by decide) (fun cq1 => ?_) (fun cq1 => ?_)
    · obtain ⟨i, hi, rfl⟩ := hpV_s (w1.mono (Nat.zero_le _) (Nat.le_refl _)) (by omega) cq1
      have u := w1.2.2
      have hI : nt (nI i) = i := nt_nI (by omega)
      first | refine x_aload_n eX8_over_22 rfl rfl ?_ | refine x_aload_nN eX8_over_22 rfl rfl ?_
      refine x_iload_n eX8_over_23 rfl rfl ?_
      refine x_callV1 eX8_over_24 lk_X8_107 (by assumption) (Nat.le_of_ble_eq_true rfl) (Nat.le_of_ble_eq_true rfl) ?_
      refine c_X1_codeAt P w1 (fun _ => ?_)
      refine x_iret eX8_over_27 rfl ?_
      exact qi hq (by rw [ev, hI])
    · refine x_iconst (v := (-1)) eX8_over_18 (by decide) ?_
      refine x_goto (tgt := 27) eX8_over_19 (by decide) ?_
      refine x_iret eX8_over_27 rfl ?_
      exact qi hq (by rw [ev, cq1]; rfl)
set_option maxRecDepth 100000 in
set_option maxHeartbeats 4000000 in
theorem c_X8_old {b : Int32} (C : Core ow h y g ld wd) (I : GI g) (hq : Q (some (.int (oldV g b))) h) : Rn G (d + 2) mX8_old 0 [(0, .ref y), (1, .int b)] [] h Q := by
  have ky := C.2.1.1.1
  have W := I.gw
  have h24 := W.1.2.2
  first | refine x_aload_n eX8_old_0 rfl rfl ?_ | refine x_aload_nN eX8_old_0 rfl rfl ?_
  refine x_iload_n eX8_old_1 rfl rfl ?_
  refine x_callV1 eX8_old_2 lk_X8_76 (by assumption) (Nat.le_of_ble_eq_true rfl) (Nat.le_of_ble_eq_true rfl) ?_
  refine c_X8_boltNumbered C W (fun z _ => ?_) (fun j a ej hj ha P _ => ?_)
  · first | refine x_astore_n eX8_old_5 rfl (by decide) rfl rfl ?_ | refine x_astore_nN eX8_old_5 rfl (by decide) rfl rfl ?_
    first | refine x_aload_n eX8_old_6 rfl rfl ?_ | refine x_aload_nN eX8_old_6 rfl rfl ?_
    refine x_ifnonnullN eX8_old_7 ?_
    refine x_iconst (v := (-1)) eX8_old_10 (by decide) ?_
    refine x_goto (tgt := 18) eX8_old_11 (by decide) ?_
    refine x_iret eX8_old_18 rfl ?_
    exact qi hq (by unfold oldV; rw [z]; rfl)
  · subst ej
    obtain ⟨-, ka, -, -, -, e3, -⟩ := P
    have hS : nt (nI j) = j := nt_nI (by omega)
    have hB := isB_of W hj
    first | refine x_astore_n eX8_old_5 rfl (by decide) rfl rfl ?_ | refine x_astore_nN eX8_old_5 rfl (by decide) rfl rfl ?_
    first | refine x_aload_n eX8_old_6 rfl rfl ?_ | refine x_aload_nN eX8_old_6 rfl rfl ?_
    refine x_ifnonnullR (tgt := 14) eX8_old_7 (by decide) ?_
    first | refine x_aload_n eX8_old_14 rfl rfl ?_ | refine x_aload_nN eX8_old_14 rfl rfl ?_
    first | refine x_getIe eX8_old_15 fk_X8_110 (by decide) (by assumption) (by assumption) ?_ | refine x_getI eX8_old_15 fk_X8_110 (by decide) (by assumption) ?_
    refine x_iret eX8_old_18 rfl ?_
    exact qi hq (by unfold oldV; rw [hB, hS, if_pos rfl])
set_option maxRecDepth 100000 in
set_option maxHeartbeats 4000000 in
theorem c_X8_at {s b k : Int32} (C : Core ow h y g ld wd) (I : GI g) (hq : Q (some (.int (atV g s b k))) h) : Rn G (d + 3) mX8_at 0 [(0, .ref y), (1, .int s), (2, .int b), (3, .int k)] [] h Q := by
  have ky := C.2.1.1.1
  have W := I.gw
  have h10 := W.2.1.2.2
  first | refine x_aload_n eX8_at_0 rfl rfl ?_ | refine x_aload_nN eX8_at_0 rfl rfl ?_
  refine x_iload_n eX8_at_1 rfl rfl ?_
  refine x_callV1 eX8_at_2 lk_X8_149 (by assumption) (Nat.le_of_ble_eq_true rfl) (Nat.le_of_ble_eq_true rfl) ?_
  refine Rn.deep (c_X8_sailNumbered (d := d) C W (fun z _ => ?_) (fun j a ej hj ha P _ => ?_)) (by omega)
  · first | refine x_astore eX8_at_5 (by decide) rfl rfl ?_ | refine x_astoreN eX8_at_5 (by decide) rfl rfl ?_
    first | refine x_aload eX8_at_7 rfl ?_ | refine x_aloadN eX8_at_7 rfl ?_
    refine x_ifnullN (tgt := 25) eX8_at_9 (by decide) ?_
    refine x_sipush (v := (-10000)) eX8_at_25 (by decide) ?_
    refine x_iret eX8_at_28 rfl ?_
    exact qi hq (by unfold atV; rw [z]; rfl)
  · subst ej
    obtain ⟨E, -, -⟩ := P
    obtain ⟨-, ka, -, -, e2⟩ := id E
    have hS : nt (nI j) = j := nt_nI (by omega)
    have hB := isS_of W hj
    have sw := W.2.2.2 j hj
    obtain ⟨w5, w52, w53⟩ := sw.2.1
    first | refine x_astore eX8_at_5 (by decide) rfl rfl ?_ | refine x_astoreN eX8_at_5 (by decide) rfl rfl ?_
    first | refine x_aload eX8_at_7 rfl ?_ | refine x_aloadN eX8_at_7 rfl ?_
    refine x_ifnullR eX8_at_9 ?_
    refine x_iload_n eX8_at_12 rfl rfl ?_
    refine x_iconst (v := nI 0) eX8_at_13 (by decide) ?_
    first | refine x_aload eX8_at_14 rfl ?_ | refine x_aloadN eX8_at_14 rfl ?_
    first | refine x_getIe eX8_at_16 fk_X8_124 (by decide) (by assumption) (by assumption) ?_ | refine x_getI eX8_at_16 fk_X8_124 (by decide) (by assumption) ?_
    refine x_callS3 eX8_at_19 lk_X8_51 (Nat.le_of_ble_eq_true rfl) (Nat.le_of_ble_eq_true rfl) ?_
    refine Rn.deep (c_X8_isWithin (d := d) (fun _ => ?_)) (by omega)
    first | refine x_if_neB (tgt := 29) eX8_at_22 (by decide) (by with_reducible rfl) (fun cq1 => ?_) (fun cq1 => ?_) | refine x_if_ne (tgt := 29) eX8_at_22 (by decide) (fun cq1 => ?_) (fun cq1 => ?_)
    · obtain ⟨m, -, m2, rfl⟩ := inR_N (lo := 0) cq1 w5 (by omega) (by omega)
      have hM : nt (nI m) = m := nt_nI (by omega)
      have ev : ∀ n, n ≤ 1 → atV g (nI j) (nI n) (nI m) = edg g j n m := fun n hn => by
        unfold atV
        rw [hB, hS, nt_nI (n := n) (by omega), hM, show inR (nI m) 0 (sl g j 5) = true from cq1, show inR (nI n) 0 1 = true from inR_nI (lo := 0) (hi := 1) (Nat.zero_le _) hn (by omega)]
        rfl
      first | refine x_aload eX8_at_29 rfl ?_ | refine x_aloadN eX8_at_29 rfl ?_
      refine x_iload_n eX8_at_31 rfl rfl ?_
      refine x_callV1 eX8_at_32 lk_X8_127 (by assumption) (Nat.le_of_ble_eq_true rfl) (Nat.le_of_ble_eq_true rfl) ?_
      refine Rn.deep (c_X5_sideNumbered (d := d) E (fun z _ => ?_) (fun z l hl S _ => ?_) (fun z r hr S _ => ?_)) (by omega)
      · first | refine x_astore eX8_at_35 (by decide) rfl rfl ?_ | refine x_astoreN eX8_at_35 (by decide) rfl rfl ?_
        first | refine x_aload eX8_at_37 rfl ?_ | refine x_aloadN eX8_at_37 rfl ?_
        refine x_ifnonnullN eX8_at_39 ?_
        refine x_sipush (v := (-10000)) eX8_at_42 (by decide) ?_
        refine x_goto (tgt := 59) eX8_at_45 (by decide) ?_
        refine x_iret eX8_at_59 rfl ?_
        exact qi hq (by unfold atV; rw [z, Bool.false_and, Bool.and_false]; rfl)
      · have kl := S.2.1
        subst z
        first | refine x_astore eX8_at_35 (by decide) rfl rfl ?_ | refine x_astoreN eX8_at_35 (by decide) rfl rfl ?_
        first | refine x_aload eX8_at_37 rfl ?_ | refine x_aloadN eX8_at_37 rfl ?_
        refine x_ifnonnullR (tgt := 48) eX8_at_39 (by decide) ?_
        first | refine x_aload eX8_at_48 rfl ?_ | refine x_aloadN eX8_at_48 rfl ?_
        refine x_iload_n eX8_at_50 rfl rfl ?_
        first | refine x_aload eX8_at_51 rfl ?_ | refine x_aloadN eX8_at_51 rfl ?_
        first | refine x_getIe eX8_at_53 fk_X8_124 (by decide) (by assumption) (by assumption) ?_ | refine x_getI eX8_at_53 fk_X8_124 (by decide) (by assumption) ?_
        refine x_callV2 eX8_at_56 lk_X8_153 (by assumption) (Nat.le_of_ble_eq_true rfl) (Nat.le_of_ble_eq_true rfl) ?_
        refine c_X5_edge0 E sw (by omega) hl (fun _ => ?_)
        refine x_iret eX8_at_59 rfl ?_
        exact qi hq (ev 0 (by omega)).symm
      · have kl := S.2.1
        subst z
        first | refine x_astore eX8_at_35 (by decide) rfl rfl ?_ | refine x_astoreN eX8_at_35 (by decide) rfl rfl ?_
        first | refine x_aload eX8_at_37 rfl ?_ | refine x_aloadN eX8_at_37 rfl ?_
        refine x_ifnonnullR (tgt := 48) eX8_at_39 (by decide) ?_
        first | refine x_aload eX8_at_48 rfl ?_ | refine x_aloadN eX8_at_48 rfl ?_
        refine x_iload_n eX8_at_50 rfl rfl ?_
        first | refine x_aload eX8_at_51 rfl ?_ | refine x_aloadN eX8_at_51 rfl ?_
        first | refine x_getIe eX8_at_53 fk_X8_124 (by decide) (by assumption) (by assumption) ?_ | refine x_getI eX8_at_53 fk_X8_124 (by decide) (by assumption) ?_
        refine x_callV2 eX8_at_56 lk_X8_153 (by assumption) (Nat.le_of_ble_eq_true rfl) (Nat.le_of_ble_eq_true rfl) ?_
        refine c_X5_edge1 E sw (by omega) hr (fun _ => ?_)
        refine x_iret eX8_at_59 rfl ?_
        exact qi hq (ev 1 (by omega)).symm
    · refine x_sipush (v := (-10000)) eX8_at_25 (by decide) ?_
      refine x_iret eX8_at_28 rfl ?_
      exact qi hq (by unfold atV; rw [hS, show inR k 0 (sl g j 5) = false from cq1, Bool.and_false, Bool.and_false]; rfl)
set_option maxRecDepth 100000 in
set_option maxHeartbeats 4000000 in
theorem c_X8_full {s k : Int32} (C : Core ow h y g ld wd) (I : GI g) (hq : Q (some (.int (fullV g s k))) h) : Rn G (d + 3) mX8_full 0 [(0, .ref y), (1, .int s), (2, .int k)] [] h Q := by
  have ky := C.2.1.1.1
  have W := I.gw
  have h10 := W.2.1.2.2
  first | refine x_aload_n eX8_full_0 rfl rfl ?_ | refine x_aload_nN eX8_full_0 rfl rfl ?_
  refine x_iload_n eX8_full_1 rfl rfl ?_
  refine x_iconst (v := nI 1) eX8_full_2 (by decide) ?_
  refine x_callV2 eX8_full_3 lk_X8_120 (by assumption) (Nat.le_of_ble_eq_true rfl) (Nat.le_of_ble_eq_true rfl) ?_
  refine c_X8_sailInState C W (fun z _ => ?_) (fun j a ej hj h1 ha P _ => ?_)
  · first | refine x_astore_n eX8_full_6 rfl (by decide) rfl rfl ?_ | refine x_astore_nN eX8_full_6 rfl (by decide) rfl rfl ?_
    first | refine x_aload_n eX8_full_7 rfl rfl ?_ | refine x_aload_nN eX8_full_7 rfl rfl ?_
    refine x_ifnullN (tgt := 23) eX8_full_8 (by decide) ?_
    refine x_iconst (v := (-1)) eX8_full_23 (by decide) ?_
    refine x_goto (tgt := 32) eX8_full_24 (by decide) ?_
    refine x_iret eX8_full_32 rfl ?_
    exact qi hq (by unfold fullV isC; rw [show (isS g s && decide (sl g (nt s) 0 = 1)) = false from z]; rfl)
  · subst ej
    obtain ⟨E, Cc, -⟩ := P
    obtain ⟨-, ka, -, -, e2⟩ := id E
    have hS : nt (nI j) = j := nt_nI (by omega)
    have hB := isC_of W hj h1
    obtain ⟨sw, sx⟩ := I.2.2.1 j hj
    have n1 := sx.2.1 (by rw [h1]; decide)
    first | refine x_astore_n eX8_full_6 rfl (by decide) rfl rfl ?_ | refine x_astore_nN eX8_full_6 rfl (by decide) rfl rfl ?_
    first | refine x_aload_n eX8_full_7 rfl rfl ?_ | refine x_aload_nN eX8_full_7 rfl rfl ?_
    refine x_ifnullR eX8_full_8 ?_
    refine x_iload_n eX8_full_11 rfl rfl ?_
    refine x_iconst (v := nI 0) eX8_full_12 (by decide) ?_
    first | refine x_aload_n eX8_full_13 rfl rfl ?_ | refine x_aload_nN eX8_full_13 rfl rfl ?_
    first | refine x_getIe eX8_full_14 fk_X8_124 (by decide) (by assumption) (by assumption) ?_ | refine x_getI eX8_full_14 fk_X8_124 (by decide) (by assumption) ?_
    refine x_callS3 eX8_full_17 lk_X8_51 (Nat.le_of_ble_eq_true rfl) (Nat.le_of_ble_eq_true rfl) ?_
    refine Rn.deep (c_X8_isWithin (d := d) (fun _ => ?_)) (by omega)
    first | refine x_if_neB (tgt := 27) eX8_full_20 (by decide) (by with_reducible rfl) (fun cq1 => ?_) (fun cq1 => ?_) | refine x_if_ne (tgt := 27) eX8_full_20 (by decide) (fun cq1 => ?_) (fun cq1 => ?_)
    · first | refine x_aload_n eX8_full_27 rfl rfl ?_ | refine x_aload_nN eX8_full_27 rfl rfl ?_
      refine x_iload_n eX8_full_28 rfl rfl ?_
      refine x_callV1 eX8_full_29 lk_X8_234 (by assumption) (Nat.le_of_ble_eq_true rfl) (Nat.le_of_ble_eq_true rfl) ?_
      refine Rn.deep (c_X5_letOutUpTo (d := d) ka Cc sw sx.np0 (fun _ => ?_)) (by omega)
      refine x_iret eX8_full_32 rfl ?_
      exact qi hq (by
        obtain ⟨m, hm⟩ : ∃ m, nt (sl g j 8) = m + 1 := ⟨nt (sl g j 8) - 1, by omega⟩
        have u8 := sw.2.2.1.2.2
        unfold fullV
        rw [hB, hS, show inR k 0 (sl g j 5) = true from cq1, if_pos (by decide), hm, sumN, Nat.zero_add, sx.2.2.1 m (by omega) (by omega), show m + 1 - 1 = m by omega]
        split <;> rw [Int32.add_zero])
    · refine x_iconst (v := (-1)) eX8_full_23 (by decide) ?_
      refine x_goto (tgt := 32) eX8_full_24 (by decide) ?_
      refine x_iret eX8_full_32 rfl ?_
      exact qi hq (by unfold fullV; rw [hS, show inR k 0 (sl g j 5) = false from cq1, Bool.and_false]; rfl)
set_option maxRecDepth 100000 in
set_option maxHeartbeats 4000000 in
/-- grams that are told are grams -/
theorem grF_ok {b : Int32} (h : gOK b = true) : ∃ b2 : Int32, gOK b2 = true ∧ grF b = b2.toUInt32 ∧ ∀ a, wgF (grF b) a = wgF b.toUInt32 a := by
  by_cases z : b = -2147483648
  · refine ⟨0, by decide, by unfold grF; rw [if_pos z]; rfl, fun a => ?_⟩
    unfold grF
    rw [if_pos z, z]
    exact (fp_zeros a).2.trans (fp_zeros a).1.symm
  · exact ⟨b, h, by unfold grF; rw [if_neg z], fun a => by unfold grF; rw [if_neg z]⟩
set_option maxRecDepth 100000 in
set_option maxHeartbeats 4000000 in
theorem c_X8_weightOf {s i p : Nat} (C : Core ow h y g ld wd) (I : GI g) (hs : s < nt (g 1)) (hi4 : i < np g s) (P : PieceP ow h g s i p) (hq : Q (some (.int (wgtV g s i))) h) : Rn G (d + 2) mX8_weightOf 0 [(0, .ref y), (1, .ref p)] [] h Q := by
  have ky := C.2.1.1.1
  have W := I.gw
  have h24 := W.1.2.2
  obtain ⟨-, kp, -, -, -, -, -, e5, -, e7, -⟩ := P
  have on := (W.2.2.2 s hs).2.2.2.2.2.2.2.2.2.2.2.2.2 i hi4
  first | refine x_aload_n eX8_weightOf_0 rfl rfl ?_ | refine x_aload_nN eX8_weightOf_0 rfl rfl ?_
  first | refine x_aload_n eX8_weightOf_1 rfl rfl ?_ | refine x_aload_nN eX8_weightOf_1 rfl rfl ?_
  first | refine x_getIe eX8_weightOf_2 fk_X8_227 (by decide) (by assumption) (by assumption) ?_ | refine x_getI eX8_weightOf_2 fk_X8_227 (by decide) (by assumption) ?_
  refine x_callV1 eX8_weightOf_5 lk_X8_76 (by assumption) (Nat.le_of_ble_eq_true rfl) (Nat.le_of_ble_eq_true rfl) ?_
  refine c_X8_boltNumbered C W (fun z _ => ?_) (fun j a ej hj ha B _ => ?_)
  · first | refine x_astore_n eX8_weightOf_8 rfl (by decide) rfl rfl ?_ | refine x_astore_nN eX8_weightOf_8 rfl (by decide) rfl rfl ?_
    first | refine x_aload_n eX8_weightOf_9 rfl rfl ?_ | refine x_aload_nN eX8_weightOf_9 rfl rfl ?_
    refine x_ifnonnullN eX8_weightOf_10 ?_
    refine x_iconst (v := nI 0) eX8_weightOf_13 (by decide) ?_
    refine x_iret eX8_weightOf_14 rfl ?_
    refine qi hq ?_
    rcases on with o | ⟨o1, o2⟩
    · unfold wgtV
      rw [if_pos o]
      rfl
    · have := isB_of W (j := nt (sl g s (300 + i))) (by have := o1.2.2; omega)
      rw [← o1.1, z] at this
      cases this
  · obtain ⟨-, ka, -, -, e2, -⟩ := B
    obtain ⟨b2, k1, k2, k3⟩ := grF_ok (I.2.1 j hj).2.1
    have m1 := fp_mul' k1 (areV g s i)
    have m2 := fp_div' k1 (areV g s i)
    rw [← k2] at m1 m2
    have hS : nt (nI j) = j := nt_nI (by omega)
    have hne : ¬ sl g s (300 + i) = -1 := by
      rw [ej]
      intro z
      have := nI_pos' (n := j) (by omega)
      rw [z] at this
      exact absurd this (by decide)
    first | refine x_astore_n eX8_weightOf_8 rfl (by decide) rfl rfl ?_ | refine x_astore_nN eX8_weightOf_8 rfl (by decide) rfl rfl ?_
    first | refine x_aload_n eX8_weightOf_9 rfl rfl ?_ | refine x_aload_nN eX8_weightOf_9 rfl rfl ?_
    refine x_ifnonnullR (tgt := 15) eX8_weightOf_10 (by decide) ?_
    first | refine x_aload_n eX8_weightOf_15 rfl rfl ?_ | refine x_aload_nN eX8_weightOf_15 rfl rfl ?_
    first | refine x_getFe eX8_weightOf_16 fk_X8_372 rfl (by assumption) (by assumption) ?_ | refine x_getF eX8_weightOf_16 fk_X8_372 rfl (by assumption) ?_
    first | refine x_aload_n eX8_weightOf_19 rfl rfl ?_ | refine x_aload_nN eX8_weightOf_19 rfl rfl ?_
    first | refine x_getIe eX8_weightOf_20 fk_X8_224 (by decide) (by assumption) (by assumption) ?_ | refine x_getI eX8_weightOf_20 fk_X8_224 (by decide) (by assumption) ?_
    refine x_ci2f eX8_weightOf_23 ?_
    refine x_fmul eX8_weightOf_24 (by assumption) ?_
    refine x_fconst2 eX8_weightOf_25 ?_
    refine x_fdiv eX8_weightOf_26 (by assumption) ?_
    refine x_fstore_n eX8_weightOf_27 rfl (by decide) rfl rfl ?_
    refine x_fload_n eX8_weightOf_28 rfl rfl ?_
    refine x_f2i eX8_weightOf_29 ?_
    refine x_ldcw (v := 1000000) eX8_weightOf_30 kk_X8_382 ?_
    refine x_min eX8_weightOf_33 lk_X8_322 (Nat.le_of_ble_eq_true rfl) ?_
    refine x_iret eX8_weightOf_36 rfl ?_
    refine qi hq ?_
    unfold wgtV
    rw [if_neg hne, ej, hS, ← k3]
    unfold wgF
    by_cases z : FP.f2i (FP.fdiv (FP.fmul (grF (bl g j 2)) (FP.i2f (areV g s i))) FP.fconst2) < 1000000
    · rw [if_pos z, if_neg (fun q => absurd (Int32.lt_trans z q) Int32.lt_irrefl)]
    · rw [if_neg z]
      by_cases z2 : 1000000 < FP.f2i (FP.fdiv (FP.fmul (grF (bl g j 2)) (FP.i2f (areV g s i))) FP.fconst2)
      · rw [if_pos z2]
      · rw [if_neg z2]
        exact Int32.le_antisymm (Int32.not_lt.mp z2) (Int32.not_lt.mp z)
set_option maxRecDepth 100000 in
set_option maxHeartbeats 4000000 in
theorem l_X8_weightOfAll {s a m : Nat} (C : Core ow h y g ld wd) (I : GI g) (hs : s < nt (g 1)) (P : SailP ow h g s a) (em : np g s = m) (hq : Q (some (.int (sumN (wgtV g s) 0 m))) h) : ∀ n k, k + n = m → Rn G (d + 3) mX8_weightOfAll 4 [(0, .ref y), (1, .ref a), (2, .int (sumN (wgtV g s) 0 k)), (3, .int (nI k))] [] h Q := by
  have ky := C.2.1.1.1
  obtain ⟨sw, sx⟩ := I.2.2.1 s hs
  have h40 : np g s ≤ 40 := sw.2.2.2.2.1
  have ka := P.1.2.1
  have e6 : hi h a 6 = nI m := by rw [P.2.1.2.2.1, em]
  intro n
  induction n with
  | zero =>
    intro k hk0
    rw [show k = m by omega]
    refine x_iload_n eX8_weightOfAll_4 rfl rfl ?_
    first | refine x_aload_n eX8_weightOfAll_5 rfl rfl ?_ | refine x_aload_nN eX8_weightOfAll_5 rfl rfl ?_
    first | refine x_getIe eX8_weightOfAll_6 fk_X8_179 (by decide) (by assumption) (by assumption) ?_ | refine x_getI eX8_weightOfAll_6 fk_X8_179 (by decide) (by assumption) ?_
    first | refine x_icmp_geN (tgt := 39) eX8_weightOfAll_9 (by decide) (by with_reducible rfl) (by with_reducible rfl) (by omega) (by omega) (fun cq1 => ?_) (fun cq1 => ?_) | refine x_icmp_ge (tgt := 39) eX8_weightOfAll_9 (by decide) (fun cq1 => ?_) (fun cq1 => ?_)
    · refine x_iload_n eX8_weightOfAll_39 rfl rfl ?_
      refine x_iret eX8_weightOfAll_40 rfl ?_
      exact hq
    · exact absurd cq1 (by omega)
  | succ n ih =>
    intro k hk0
    have iw := ih (k + 1) (by omega)
    rw [sumN, Nat.zero_add] at iw
    refine x_iload_n eX8_weightOfAll_4 rfl rfl ?_
    first | refine x_aload_n eX8_weightOfAll_5 rfl rfl ?_ | refine x_aload_nN eX8_weightOfAll_5 rfl rfl ?_
    first | refine x_getIe eX8_weightOfAll_6 fk_X8_179 (by decide) (by assumption) (by assumption) ?_ | refine x_getI eX8_weightOfAll_6 fk_X8_179 (by decide) (by assumption) ?_
    first | refine x_icmp_geN (tgt := 39) eX8_weightOfAll_9 (by decide) (by with_reducible rfl) (by with_reducible rfl) (by omega) (by omega) (fun cq1 => ?_) (fun cq1 => ?_) | refine x_icmp_ge (tgt := 39) eX8_weightOfAll_9 (by decide) (fun cq1 => ?_) (fun cq1 => ?_)
    · exact absurd cq1 (by omega)
    · first | refine x_aload_n eX8_weightOfAll_12 rfl rfl ?_ | refine x_aload_nN eX8_weightOfAll_12 rfl rfl ?_
      refine x_iload_n eX8_weightOfAll_13 rfl rfl ?_
      refine x_callV1 eX8_weightOfAll_14 lk_X8_170 (by assumption) (Nat.le_of_ble_eq_true rfl) (Nat.le_of_ble_eq_true rfl) ?_
      refine Rn.deep (c_X5_pieceNumbered (d := d) ka P.2.1 h40 sx.np0 (fun z _ => ?_) (fun j p ej hj R _ => ?_)) (by omega)
      · rw [hpV_nI (by omega) (by omega), decide_eq_false_iff_not] at z
        omega
      · have ejk : k = j := (nI_eq (by omega) (by omega)).mp ej
        subst ejk
        first | refine x_astore eX8_weightOfAll_17 (by decide) rfl rfl ?_ | refine x_astoreN eX8_weightOfAll_17 (by decide) rfl rfl ?_
        first | refine x_aload eX8_weightOfAll_19 rfl ?_ | refine x_aloadN eX8_weightOfAll_19 rfl ?_
        refine x_ifnullR eX8_weightOfAll_21 ?_
        refine x_iload_n eX8_weightOfAll_24 rfl rfl ?_
        first | refine x_aload_n eX8_weightOfAll_25 rfl rfl ?_ | refine x_aload_nN eX8_weightOfAll_25 rfl rfl ?_
        first | refine x_aload eX8_weightOfAll_26 rfl ?_ | refine x_aloadN eX8_weightOfAll_26 rfl ?_
        refine x_callV1 eX8_weightOfAll_28 lk_X8_231 (by assumption) (Nat.le_of_ble_eq_true rfl) (Nat.le_of_ble_eq_true rfl) ?_
        refine c_X8_weightOf C I hs hj R (fun _ => ?_)
        first | refine x_iaddN eX8_weightOfAll_31 (by with_reducible rfl) (by with_reducible rfl) ?_ | refine x_iadd eX8_weightOfAll_31 ?_
        refine x_istore_n eX8_weightOfAll_32 rfl (by decide) rfl rfl ?_
        first | refine x_iincN eX8_weightOfAll_33 rfl (by with_reducible rfl) (by decide) rfl rfl ?_ | refine x_iinc eX8_weightOfAll_33 rfl rfl (by decide) rfl rfl ?_
        refine x_goto (tgt := 4) eX8_weightOfAll_36 (by decide) ?_
        refine Rn.weak (iw) (by repeat' first | exact fun _ h => absurd h List.not_mem_nil | refine List.forall_mem_cons.mpr ⟨rfl, ?_⟩)
set_option maxRecDepth 100000 in
set_option maxHeartbeats 4000000 in
theorem c_X8_weightOfAll {s a : Nat} (C : Core ow h y g ld wd) (I : GI g) (hs : s < nt (g 1)) (P : SailP ow h g s a) (hq : Q (some (.int (sumN (wgtV g s) 0 (np g s)))) h) : Rn G (d + 3) mX8_weightOfAll 0 [(0, .ref y), (1, .ref a)] [] h Q := by
  refine x_iconst (v := nI 0) eX8_weightOfAll_0 (by decide) ?_
  refine x_istore_n eX8_weightOfAll_1 rfl (by decide) rfl rfl ?_
  refine x_iconst (v := nI 0) eX8_weightOfAll_2 (by decide) ?_
  refine x_istore_n eX8_weightOfAll_3 rfl (by decide) rfl rfl ?_
  refine Rn.weak (l_X8_weightOfAll C I hs P rfl hq (np g s) 0 (by omega)) (by repeat' first | exact fun _ h => absurd h List.not_mem_nil | refine List.forall_mem_cons.mpr ⟨rfl, ?_⟩)
set_option maxRecDepth 100000 in
set_option maxHeartbeats 4000000 in
theorem c_X8_kindOf {s i p : Nat} (C : Core ow h y g ld wd) (I : GI g) (hs : s < nt (g 1)) (hi4 : i < np g s) (P : PieceP ow h g s i p) (hq : Q (some (.int (kndV g s i))) h) : Rn G (d + 2) mX8_kindOf 0 [(0, .ref y), (1, .ref p)] [] h Q := by
  have ky := C.2.1.1.1
  have W := I.gw
  have h24 := W.1.2.2
  obtain ⟨-, kp, e0, -, -, -, -, -, e6, e7, -⟩ := P
  have on := (W.2.2.2 s hs).2.2.2.2.2.2.2.2.2.2.2.2.2 i hi4
  first | refine x_aload_n eX8_kindOf_0 rfl rfl ?_ | refine x_aload_nN eX8_kindOf_0 rfl rfl ?_
  first | refine x_getIe eX8_kindOf_1 fk_X8_379 (by decide) (by assumption) (by assumption) ?_ | refine x_getI eX8_kindOf_1 fk_X8_379 (by decide) (by assumption) ?_
  first | refine x_if_eqB (tgt := 9) eX8_kindOf_4 (by decide) (by with_reducible rfl) (fun cq1 => ?_) (fun cq1 => ?_) | refine x_if_eq (tgt := 9) eX8_kindOf_4 (by decide) (fun cq1 => ?_) (fun cq1 => ?_)
  · have hp : isP g s i = true := by
      cases z : isP g s i with
      | true => rfl
      | false => rw [z] at cq1; cases cq1
    rw [if_pos hp] at e6
    first | refine x_aload_n eX8_kindOf_9 rfl rfl ?_ | refine x_aload_nN eX8_kindOf_9 rfl rfl ?_
    first | refine x_aload_n eX8_kindOf_10 rfl rfl ?_ | refine x_aload_nN eX8_kindOf_10 rfl rfl ?_
    first | refine x_getIe eX8_kindOf_11 fk_X8_227 (by decide) (by assumption) (by assumption) ?_ | refine x_getI eX8_kindOf_11 fk_X8_227 (by decide) (by assumption) ?_
    refine x_callV1 eX8_kindOf_14 lk_X8_76 (by assumption) (Nat.le_of_ble_eq_true rfl) (Nat.le_of_ble_eq_true rfl) ?_
    refine c_X8_boltNumbered C W (fun z _ => ?_) (fun j a ej hj ha B _ => ?_)
    · have on1 : sl g s (300 + i) = -1 := by
        rcases on with o | ⟨o1, o2⟩
        · exact o
        · have := isB_of W (j := nt (sl g s (300 + i))) (by have := o1.2.2; omega)
          rw [← o1.1, z] at this
          cases this
      have ev : kndV g s i = if 0 < sl g s (140 + i) then 1 else 0 := by
        unfold kndV
        rw [if_pos hp, decide_eq_true on1]
        rfl
      first | refine x_astore_n eX8_kindOf_17 rfl (by decide) rfl rfl ?_ | refine x_astore_nN eX8_kindOf_17 rfl (by decide) rfl rfl ?_
      first | refine x_aload_n eX8_kindOf_18 rfl rfl ?_ | refine x_aload_nN eX8_kindOf_18 rfl rfl ?_
      refine x_ifnullN (tgt := 32) eX8_kindOf_19 (by decide) ?_
      first | refine x_aload_n eX8_kindOf_32 rfl rfl ?_ | refine x_aload_nN eX8_kindOf_32 rfl rfl ?_
      first | refine x_getIe eX8_kindOf_33 fk_X8_174 (by decide) (by assumption) (by assumption) ?_ | refine x_getI eX8_kindOf_33 fk_X8_174 (by decide) (by assumption) ?_
      refine x_if_le (tgt := 43) eX8_kindOf_36 (by decide) (fun cq2 => ?_) (fun cq2 => ?_)
      · refine x_iconst (v := nI 0) eX8_kindOf_43 (by decide) ?_
        refine x_iret eX8_kindOf_44 rfl ?_
        exact qi hq (by rw [ev, if_neg (Int32.not_lt.mpr cq2)]; rfl)
      · refine x_iconst (v := nI 1) eX8_kindOf_39 (by decide) ?_
        refine x_goto (tgt := 44) eX8_kindOf_40 (by decide) ?_
        refine x_iret eX8_kindOf_44 rfl ?_
        exact qi hq (by rw [ev, if_pos (Int32.not_le.mp cq2)]; rfl)
    · obtain ⟨-, ka, -, -, -, e3, -⟩ := B
      have hS : nt (nI j) = j := nt_nI (by omega)
      have hne : ¬ sl g s (300 + i) = -1 := by
        rw [ej]
        intro z
        have := nI_pos' (n := j) (by omega)
        rw [z] at this
        exact absurd this (by decide)
      have ev : kndV g s i = if bl g j 4 = -1 then (if 0 < sl g s (140 + i) then 1 else 0) else 3 := by
        unfold kndV
        rw [if_pos hp, decide_eq_false hne, ej, hS]
        by_cases z : bl g j 4 = -1
        · rw [if_pos z, decide_eq_true z]
          rfl
        · rw [if_neg z, decide_eq_false z]
          rfl
      first | refine x_astore_n eX8_kindOf_17 rfl (by decide) rfl rfl ?_ | refine x_astore_nN eX8_kindOf_17 rfl (by decide) rfl rfl ?_
      first | refine x_aload_n eX8_kindOf_18 rfl rfl ?_ | refine x_aload_nN eX8_kindOf_18 rfl rfl ?_
      refine x_ifnullR eX8_kindOf_19 ?_
      first | refine x_aload_n eX8_kindOf_22 rfl rfl ?_ | refine x_aload_nN eX8_kindOf_22 rfl rfl ?_
      first | refine x_getIe eX8_kindOf_23 fk_X8_110 (by decide) (by assumption) (by assumption) ?_ | refine x_getI eX8_kindOf_23 fk_X8_110 (by decide) (by assumption) ?_
      refine x_iconst (v := (-1)) eX8_kindOf_26 (by decide) ?_
      first | refine x_icmp_eqN (tgt := 32) eX8_kindOf_27 (by decide) (by with_reducible rfl) (by with_reducible rfl) (by omega) (by omega) (fun cq3 => ?_) (fun cq3 => ?_) | refine x_icmp_eq (tgt := 32) eX8_kindOf_27 (by decide) (fun cq3 => ?_) (fun cq3 => ?_)
      · first | refine x_aload_n eX8_kindOf_32 rfl rfl ?_ | refine x_aload_nN eX8_kindOf_32 rfl rfl ?_
        first | refine x_getIe eX8_kindOf_33 fk_X8_174 (by decide) (by assumption) (by assumption) ?_ | refine x_getI eX8_kindOf_33 fk_X8_174 (by decide) (by assumption) ?_
        refine x_if_le (tgt := 43) eX8_kindOf_36 (by decide) (fun cq4 => ?_) (fun cq4 => ?_)
        · refine x_iconst (v := nI 0) eX8_kindOf_43 (by decide) ?_
          refine x_iret eX8_kindOf_44 rfl ?_
          exact qi hq (by rw [ev, if_pos cq3, if_neg (Int32.not_lt.mpr cq4)]; rfl)
        · refine x_iconst (v := nI 1) eX8_kindOf_39 (by decide) ?_
          refine x_goto (tgt := 44) eX8_kindOf_40 (by decide) ?_
          refine x_iret eX8_kindOf_44 rfl ?_
          exact qi hq (by rw [ev, if_pos cq3, if_pos (Int32.not_le.mp cq4)]; rfl)
      · refine x_iconst (v := nI 3) eX8_kindOf_30 (by decide) ?_
        refine x_iret eX8_kindOf_31 rfl ?_
        exact qi hq (by rw [ev, if_neg cq3]; rfl)
  · have hp : ¬ isP g s i = true := by
      intro z
      rw [z] at cq1
      cases cq1
    refine x_iconst (v := nI 2) eX8_kindOf_7 (by decide) ?_
    refine x_iret eX8_kindOf_8 rfl ?_
    exact qi hq (by unfold kndV; rw [if_neg hp]; rfl)
end READ

