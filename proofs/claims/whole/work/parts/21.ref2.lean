/-! ===== the reference: numbers, edges, areas ===== -/
def nt (x : Int32) : Nat := x.toInt.toNat
def isN (x : Int32) (lo hi : Nat) : Prop := x = nI (nt x) ∧ lo ≤ nt x ∧ nt x ≤ hi
set_option maxRecDepth 100000 in
set_option maxHeartbeats 4000000 in
theorem nt_nI {n : Nat} (h : n < 2 ^ 31) : nt (nI n) = n := nI_ix h
def isB (g : Nat → Int32) (b : Int32) : Bool := decide (0 ≤ b) && decide (b < g 0)
def isS (g : Nat → Int32) (s : Int32) : Bool := decide (0 ≤ s) && decide (s < g 1)
set_option maxRecDepth 100000 in
set_option maxHeartbeats 4000000 in
theorem lt_nI {x y : Int32} {hi : Nat} (h0 : 0 ≤ x) (h1 : x < y) (hy : isN y 0 hi) (hs : hi < 2 ^ 31) : ∃ j, j < nt y ∧ x = nI j := by
  obtain ⟨j, j1, j2⟩ := nI_of (Int32.not_lt.mpr h0)
  refine ⟨j, ?_, j2⟩
  rw [hy.1, j2] at h1
  exact (nI_ltI j1 (by have := hy.2.2; omega)).mp h1
set_option maxRecDepth 100000 in
set_option maxHeartbeats 4000000 in
theorem isB_spec {g : Nat → Int32} {b : Int32} (hg : isN (g 0) 0 24) (h : isB g b = true) : ∃ j, j < nt (g 0) ∧ b = nI j := by
  simp only [isB, Bool.and_eq_true, decide_eq_true_eq] at h
  exact lt_nI h.1 h.2 hg (by omega)
set_option maxRecDepth 100000 in
set_option maxHeartbeats 4000000 in
theorem isS_spec {g : Nat → Int32} {s : Int32} (hg : isN (g 1) 0 10) (h : isS g s = true) : ∃ j, j < nt (g 1) ∧ s = nI j := by
  simp only [isS, Bool.and_eq_true, decide_eq_true_eq] at h
  exact lt_nI h.1 h.2 hg (by omega)
def isC (g : Nat → Int32) (s : Int32) : Bool := isS g s && decide (sl g (nt s) 0 = 1)
def isO (g : Nat → Int32) (s : Int32) : Bool := isS g s && decide (sl g (nt s) 0 = 0)
def edg (g : Nat → Int32) (s a y : Nat) : Int32 := sl g s (1 + a) + (sl g s (3 + a) - sl g s (1 + a)) * nI y / sl g s 5 + (if nI y < sl g s (16 + a) then sl g s (18 + 61 * a + y) else 0)
def acr (g : Nat → Int32) (s y : Nat) : Int32 := edg g s 1 y - edg g s 0 y
def stp (g : Nat → Int32) (s y : Nat) : Int32 := acr g s y + acr g s (y + 1)
def sumN (f : Nat → Int32) (a : Nat) : Nat → Int32
  | 0 => 0
  | n + 1 => sumN f a n + f (a + n)
def mnF (f : Nat → Int32) (a : Nat) : Nat → Int32
  | 0 => f a
  | n + 1 => if f (a + 1 + n) < mnF f a n then f (a + 1 + n) else mnF f a n
def mxF (f : Nat → Int32) (a : Nat) : Nat → Int32
  | 0 => f a
  | n + 1 => if mxF f a n < f (a + 1 + n) then f (a + 1 + n) else mxF f a n
section REF2
variable {G : GG} {d : Nat} {h : AH} {Q : Option Value → AH → Prop} {x S : Nat}
set_option maxRecDepth 100000 in
set_option maxHeartbeats 4000000 in
theorem c_X9_isEnd {v : Int32} (hq : Q (some (.int (bI (inR v (-500) 500)))) h) : Rn G (d + 1) mX9_isEnd 0 [(0, .int v)] [] h Q := by
  refine x_iload_n eX9_isEnd_0 rfl rfl ?_
  refine x_sipush (v := (-500)) eX9_isEnd_1 (by decide) ?_
  refine x_sipush (v := nI 500) eX9_isEnd_4 (by decide) ?_
  refine x_callS3 eX9_isEnd_7 lk_X9_70 (Nat.le_of_ble_eq_true rfl) (Nat.le_of_ble_eq_true rfl) ?_
  refine c_X9_isIn (fun _ => ?_)
  refine x_zret eX9_isEnd_10 rfl (by first | exact Or.inl rfl | exact Or.inr rfl | exact bI_or _ | assumption) ?_
  exact hq
set_option maxRecDepth 100000 in
set_option maxHeartbeats 4000000 in
theorem c_X9_isBolt {b : Int32} (M : Md h x S) (hq : Q (some (.int (bI (isB (hi h S) b)))) h) : Rn G d mX9_isBolt 0 [(0, .ref x), (1, .int b)] [] h Q := by
  obtain ⟨hx, hS, kS, nS⟩ := id M
  refine x_iload_n eX9_isBolt_0 rfl rfl ?_
  refine x_if_lt (tgt := 18) eX9_isBolt_1 (by decide) (fun cq1 => ?_) (fun cq1 => ?_)
  · refine x_iconst (v := nI 0) eX9_isBolt_18 (by decide) ?_
    refine x_zret eX9_isBolt_19 rfl (by first | exact Or.inl rfl | exact Or.inr rfl | exact bI_or _ | assumption) ?_
    exact qi hq (by have : decide (0 ≤ b) = false := decide_eq_false (Int32.not_le.mpr cq1); simp [isB, this]; rfl)
  · refine x_iload_n eX9_isBolt_4 rfl rfl ?_
    first | refine x_aload_n eX9_isBolt_5 rfl rfl ?_ | refine x_aload_nN eX9_isBolt_5 rfl rfl ?_
    first | refine x_getR eX9_isBolt_6 fk_X9_7 rfl (by assumption) (by assumption) ?_ | refine x_getN eX9_isBolt_6 fk_X9_7 rfl (by assumption) (by assumption) ?_
    refine x_iconst (v := nI 0) eX9_isBolt_9 (by decide) ?_
    first | refine x_ialdN eX9_isBolt_10 (by with_reducible rfl) (by assumption) (by assumption) (by omega) (by omega) ?_ | refine x_sldN eX9_isBolt_10 (by with_reducible rfl) (by assumption) (by assumption) (by omega) (by omega) ?_ | refine x_iald eX9_isBolt_10 (by assumption) (by assumption) ?_
    first | refine x_icmp_geN (tgt := 18) eX9_isBolt_11 (by decide) (by with_reducible rfl) (by with_reducible rfl) (by omega) (by omega) (fun cq2 => ?_) (fun cq2 => ?_) | refine x_icmp_ge (tgt := 18) eX9_isBolt_11 (by decide) (fun cq2 => ?_) (fun cq2 => ?_)
    · refine x_iconst (v := nI 0) eX9_isBolt_18 (by decide) ?_
      refine x_zret eX9_isBolt_19 rfl (by first | exact Or.inl rfl | exact Or.inr rfl | exact bI_or _ | assumption) ?_
      exact qi hq (by have : decide (b < hi h S 0) = false := decide_eq_false (Int32.not_lt.mpr cq2); simp [isB, this]; rfl)
    · refine x_iconst (v := nI 1) eX9_isBolt_14 (by decide) ?_
      refine x_goto (tgt := 19) eX9_isBolt_15 (by decide) ?_
      refine x_zret eX9_isBolt_19 rfl (by first | exact Or.inl rfl | exact Or.inr rfl | exact bI_or _ | assumption) ?_
      exact qi hq (by have a1 : 0 ≤ b := Int32.not_lt.mp cq1; have a2 : b < hi h S 0 := Int32.not_le.mp cq2; simp [isB, a1, a2]; rfl)
set_option maxRecDepth 100000 in
set_option maxHeartbeats 4000000 in
theorem c_X9_isSail {b : Int32} (M : Md h x S) (hq : Q (some (.int (bI (isS (hi h S) b)))) h) : Rn G d mX9_isSail 0 [(0, .ref x), (1, .int b)] [] h Q := by
  obtain ⟨hx, hS, kS, nS⟩ := id M
  refine x_iload_n eX9_isSail_0 rfl rfl ?_
  refine x_if_lt (tgt := 18) eX9_isSail_1 (by decide) (fun cq1 => ?_) (fun cq1 => ?_)
  · refine x_iconst (v := nI 0) eX9_isSail_18 (by decide) ?_
    refine x_zret eX9_isSail_19 rfl (by first | exact Or.inl rfl | exact Or.inr rfl | exact bI_or _ | assumption) ?_
    exact qi hq (by have : decide (0 ≤ b) = false := decide_eq_false (Int32.not_le.mpr cq1); simp [isS, this]; rfl)
  · refine x_iload_n eX9_isSail_4 rfl rfl ?_
    first | refine x_aload_n eX9_isSail_5 rfl rfl ?_ | refine x_aload_nN eX9_isSail_5 rfl rfl ?_
    first | refine x_getR eX9_isSail_6 fk_X9_7 rfl (by assumption) (by assumption) ?_ | refine x_getN eX9_isSail_6 fk_X9_7 rfl (by assumption) (by assumption) ?_
    refine x_iconst (v := nI 1) eX9_isSail_9 (by decide) ?_
    first | refine x_ialdN eX9_isSail_10 (by with_reducible rfl) (by assumption) (by assumption) (by omega) (by omega) ?_ | refine x_sldN eX9_isSail_10 (by with_reducible rfl) (by assumption) (by assumption) (by omega) (by omega) ?_ | refine x_iald eX9_isSail_10 (by assumption) (by assumption) ?_
    first | refine x_icmp_geN (tgt := 18) eX9_isSail_11 (by decide) (by with_reducible rfl) (by with_reducible rfl) (by omega) (by omega) (fun cq2 => ?_) (fun cq2 => ?_) | refine x_icmp_ge (tgt := 18) eX9_isSail_11 (by decide) (fun cq2 => ?_) (fun cq2 => ?_)
    · refine x_iconst (v := nI 0) eX9_isSail_18 (by decide) ?_
      refine x_zret eX9_isSail_19 rfl (by first | exact Or.inl rfl | exact Or.inr rfl | exact bI_or _ | assumption) ?_
      exact qi hq (by have : decide (b < hi h S 1) = false := decide_eq_false (Int32.not_lt.mpr cq2); simp [isS, this]; rfl)
    · refine x_iconst (v := nI 1) eX9_isSail_14 (by decide) ?_
      refine x_goto (tgt := 19) eX9_isSail_15 (by decide) ?_
      refine x_zret eX9_isSail_19 rfl (by first | exact Or.inl rfl | exact Or.inr rfl | exact bI_or _ | assumption) ?_
      exact qi hq (by have a1 : 0 ≤ b := Int32.not_lt.mp cq1; have a2 : b < hi h S 1 := Int32.not_le.mp cq2; simp [isS, a1, a2]; rfl)
set_option maxRecDepth 100000 in
set_option maxHeartbeats 4000000 in
theorem c_X9_isCut {s : Int32} (M : Md h x S) (g1 : isN (hi h S 1) 0 10) (hq : Q (some (.int (bI (isC (hi h S) s)))) h) : Rn G (d + 1) mX9_isCut 0 [(0, .ref x), (1, .int s)] [] h Q := by
  obtain ⟨hx, hS, kS, nS⟩ := id M
  first | refine x_aload_n eX9_isCut_0 rfl rfl ?_ | refine x_aload_nN eX9_isCut_0 rfl rfl ?_
  refine x_iload_n eX9_isCut_1 rfl rfl ?_
  refine x_callV1 eX9_isCut_2 lk_X9_53 (by assumption) (Nat.le_of_ble_eq_true rfl) (Nat.le_of_ble_eq_true rfl) ?_
  refine c_X9_isSail M (fun _ => ?_)
  first | refine x_if_eqB (tgt := 22) eX9_isCut_5 (by decide) (by with_reducible rfl) (fun cq1 => ?_) (fun cq1 => ?_) | refine x_if_eq (tgt := 22) eX9_isCut_5 (by decide) (fun cq1 => ?_) (fun cq1 => ?_)
  · refine x_iconst (v := nI 0) eX9_isCut_22 (by decide) ?_
    refine x_zret eX9_isCut_23 rfl (by first | exact Or.inl rfl | exact Or.inr rfl | exact bI_or _ | assumption) ?_
    exact qi hq (by simp [isC, cq1]; rfl)
  · obtain ⟨j, hj, rfl⟩ := isS_spec g1 cq1
    have := g1.2.2
    have hnt : nt (nI j) = j := nt_nI (by omega)
    first | refine x_aload_n eX9_isCut_8 rfl rfl ?_ | refine x_aload_nN eX9_isCut_8 rfl rfl ?_
    refine x_iload_n eX9_isCut_9 rfl rfl ?_
    refine x_iconst (v := nI 0) eX9_isCut_10 (by decide) ?_
    refine x_callV2 eX9_isCut_11 lk_X9_57 (by assumption) (Nat.le_of_ble_eq_true rfl) (Nat.le_of_ble_eq_true rfl) ?_
    refine c_X9_sail M (by omega) (fun _ => ?_)
    refine x_iconst (v := nI 1) eX9_isCut_14 (by decide) ?_
    first | refine x_icmp_neN (tgt := 22) eX9_isCut_15 (by decide) (by with_reducible rfl) (by with_reducible rfl) (by omega) (by omega) (fun cq2 => ?_) (fun cq2 => ?_) | refine x_icmp_ne (tgt := 22) eX9_isCut_15 (by decide) (fun cq2 => ?_) (fun cq2 => ?_)
    · refine x_iconst (v := nI 0) eX9_isCut_22 (by decide) ?_
      refine x_zret eX9_isCut_23 rfl (by first | exact Or.inl rfl | exact Or.inr rfl | exact bI_or _ | assumption) ?_
      exact qi hq (by have cq2 : ¬ sl (hi h S) j 0 = 1 := cq2; simp [isC, hnt, cq1, cq2]; rfl)
    · refine x_iconst (v := nI 1) eX9_isCut_18 (by decide) ?_
      refine x_goto (tgt := 23) eX9_isCut_19 (by decide) ?_
      refine x_zret eX9_isCut_23 rfl (by first | exact Or.inl rfl | exact Or.inr rfl | exact bI_or _ | assumption) ?_
      exact qi hq (by have cq2 : sl (hi h S) j 0 = 1 := cq2; simp [isC, hnt, cq1, cq2]; rfl)
set_option maxRecDepth 100000 in
set_option maxHeartbeats 4000000 in
theorem c_X9_isOpen {s : Int32} (M : Md h x S) (g1 : isN (hi h S 1) 0 10) (hq : Q (some (.int (bI (isO (hi h S) s)))) h) : Rn G (d + 1) mX9_isOpen 0 [(0, .ref x), (1, .int s)] [] h Q := by
  obtain ⟨hx, hS, kS, nS⟩ := id M
  first | refine x_aload_n eX9_isOpen_0 rfl rfl ?_ | refine x_aload_nN eX9_isOpen_0 rfl rfl ?_
  refine x_iload_n eX9_isOpen_1 rfl rfl ?_
  refine x_callV1 eX9_isOpen_2 lk_X9_53 (by assumption) (Nat.le_of_ble_eq_true rfl) (Nat.le_of_ble_eq_true rfl) ?_
  refine c_X9_isSail M (fun _ => ?_)
  first | refine x_if_eqB (tgt := 21) eX9_isOpen_5 (by decide) (by with_reducible rfl) (fun cq1 => ?_) (fun cq1 => ?_) | refine x_if_eq (tgt := 21) eX9_isOpen_5 (by decide) (fun cq1 => ?_) (fun cq1 => ?_)
  · refine x_iconst (v := nI 0) eX9_isOpen_21 (by decide) ?_
    refine x_zret eX9_isOpen_22 rfl (by first | exact Or.inl rfl | exact Or.inr rfl | exact bI_or _ | assumption) ?_
    exact qi hq (by simp [isO, cq1]; rfl)
  · obtain ⟨j, hj, rfl⟩ := isS_spec g1 cq1
    have := g1.2.2
    have hnt : nt (nI j) = j := nt_nI (by omega)
    first | refine x_aload_n eX9_isOpen_8 rfl rfl ?_ | refine x_aload_nN eX9_isOpen_8 rfl rfl ?_
    refine x_iload_n eX9_isOpen_9 rfl rfl ?_
    refine x_iconst (v := nI 0) eX9_isOpen_10 (by decide) ?_
    refine x_callV2 eX9_isOpen_11 lk_X9_57 (by assumption) (Nat.le_of_ble_eq_true rfl) (Nat.le_of_ble_eq_true rfl) ?_
    refine c_X9_sail M (by omega) (fun _ => ?_)
    first | refine x_if_neB (tgt := 21) eX9_isOpen_14 (by decide) (by with_reducible rfl) (fun cq2 => ?_) (fun cq2 => ?_) | refine x_if_ne (tgt := 21) eX9_isOpen_14 (by decide) (fun cq2 => ?_) (fun cq2 => ?_)
    · refine x_iconst (v := nI 0) eX9_isOpen_21 (by decide) ?_
      refine x_zret eX9_isOpen_22 rfl (by first | exact Or.inl rfl | exact Or.inr rfl | exact bI_or _ | assumption) ?_
      exact qi hq (by have cq2 : ¬ sl (hi h S) j 0 = 0 := cq2; simp [isO, hnt, cq1, cq2]; rfl)
    · refine x_iconst (v := nI 1) eX9_isOpen_17 (by decide) ?_
      refine x_goto (tgt := 22) eX9_isOpen_18 (by decide) ?_
      refine x_zret eX9_isOpen_22 rfl (by first | exact Or.inl rfl | exact Or.inr rfl | exact bI_or _ | assumption) ?_
      exact qi hq (by have cq2 : sl (hi h S) j 0 = 0 := cq2; simp [isO, hnt, cq1, cq2]; rfl)
set_option maxRecDepth 100000 in
set_option maxHeartbeats 4000000 in
theorem c_X9_edgeAt {s a y : Nat} (M : Md h x S) (hs : s < 10) (ha : a < 2) (hy : y ≤ 61) (h5 : ¬ sl (hi h S) s 5 = 0) (hq : Q (some (.int (edg (hi h S) s a y))) h) : Rn G (d + 1) mX9_edgeAt 0 [(0, .ref x), (1, .int (nI s)), (2, .int (nI a)), (3, .int (nI y))] [] h Q := by
  obtain ⟨hx, hS, kS, nS⟩ := id M
  first | refine x_aload_n eX9_edgeAt_0 rfl rfl ?_ | refine x_aload_nN eX9_edgeAt_0 rfl rfl ?_
  refine x_iload_n eX9_edgeAt_1 rfl rfl ?_
  refine x_iconst (v := nI 1) eX9_edgeAt_2 (by decide) ?_
  refine x_iload_n eX9_edgeAt_3 rfl rfl ?_
  first | refine x_iaddN eX9_edgeAt_4 (by with_reducible rfl) (by with_reducible rfl) ?_ | refine x_iadd eX9_edgeAt_4 ?_
  refine x_callV2 eX9_edgeAt_5 lk_X9_57 (by assumption) (Nat.le_of_ble_eq_true rfl) (Nat.le_of_ble_eq_true rfl) ?_
  refine c_X9_sail M (by omega) (fun _ => ?_)
  refine x_istore eX9_edgeAt_8 (by decide) rfl rfl ?_
  refine x_iload_n eX9_edgeAt_10 rfl rfl ?_
  first | refine x_aload_n eX9_edgeAt_11 rfl rfl ?_ | refine x_aload_nN eX9_edgeAt_11 rfl rfl ?_
  refine x_iload_n eX9_edgeAt_12 rfl rfl ?_
  refine x_bipush (v := nI 16) eX9_edgeAt_13 (by decide) ?_
  refine x_iload_n eX9_edgeAt_15 rfl rfl ?_
  first | refine x_iaddN eX9_edgeAt_16 (by with_reducible rfl) (by with_reducible rfl) ?_ | refine x_iadd eX9_edgeAt_16 ?_
  refine x_callV2 eX9_edgeAt_17 lk_X9_57 (by assumption) (Nat.le_of_ble_eq_true rfl) (Nat.le_of_ble_eq_true rfl) ?_
  refine c_X9_sail M (by omega) (fun _ => ?_)
  first | refine x_icmp_geN (tgt := 40) eX9_edgeAt_20 (by decide) (by with_reducible rfl) (by with_reducible rfl) (by omega) (by omega) (fun cq1 => ?_) (fun cq1 => ?_) | refine x_icmp_ge (tgt := 40) eX9_edgeAt_20 (by decide) (fun cq1 => ?_) (fun cq1 => ?_)
  · refine x_iconst (v := nI 0) eX9_edgeAt_40 (by decide) ?_
    refine x_istore eX9_edgeAt_41 (by decide) rfl rfl ?_
    refine x_iload eX9_edgeAt_43 rfl ?_
    first | refine x_aload_n eX9_edgeAt_45 rfl rfl ?_ | refine x_aload_nN eX9_edgeAt_45 rfl rfl ?_
    refine x_iload_n eX9_edgeAt_46 rfl rfl ?_
    refine x_iconst (v := nI 3) eX9_edgeAt_47 (by decide) ?_
    refine x_iload_n eX9_edgeAt_48 rfl rfl ?_
    first | refine x_iaddN eX9_edgeAt_49 (by with_reducible rfl) (by with_reducible rfl) ?_ | refine x_iadd eX9_edgeAt_49 ?_
    refine x_callV2 eX9_edgeAt_50 lk_X9_57 (by assumption) (Nat.le_of_ble_eq_true rfl) (Nat.le_of_ble_eq_true rfl) ?_
    refine c_X9_sail M (by omega) (fun _ => ?_)
    refine x_iload eX9_edgeAt_53 rfl ?_
    first | refine x_isubN eX9_edgeAt_55 (by with_reducible rfl) (by with_reducible rfl) (by omega) ?_ | refine x_isub eX9_edgeAt_55 ?_
    refine x_iload_n eX9_edgeAt_56 rfl rfl ?_
    first | refine x_imulN eX9_edgeAt_57 (by with_reducible rfl) (by with_reducible rfl) ?_ | refine x_imul eX9_edgeAt_57 ?_
    first | refine x_aload_n eX9_edgeAt_58 rfl rfl ?_ | refine x_aload_nN eX9_edgeAt_58 rfl rfl ?_
    refine x_iload_n eX9_edgeAt_59 rfl rfl ?_
    refine x_iconst (v := nI 5) eX9_edgeAt_60 (by decide) ?_
    refine x_callV2 eX9_edgeAt_61 lk_X9_57 (by assumption) (Nat.le_of_ble_eq_true rfl) (Nat.le_of_ble_eq_true rfl) ?_
    refine c_X9_sail M (by omega) (fun _ => ?_)
    first | refine x_idivN eX9_edgeAt_64 (by with_reducible rfl) (by with_reducible rfl) (by omega) (by omega) (by omega) ?_ | refine x_idiv eX9_edgeAt_64 (by first | assumption | decide) ?_
    first | refine x_iaddN eX9_edgeAt_65 (by with_reducible rfl) (by with_reducible rfl) ?_ | refine x_iadd eX9_edgeAt_65 ?_
    refine x_iload eX9_edgeAt_66 rfl ?_
    first | refine x_iaddN eX9_edgeAt_68 (by with_reducible rfl) (by with_reducible rfl) ?_ | refine x_iadd eX9_edgeAt_68 ?_
    refine x_iret eX9_edgeAt_69 rfl ?_
    exact qi hq (by have cq1 : ¬ nI y < sl (hi h S) s (16 + a) := Int32.not_lt.mpr cq1; unfold edg; rw [if_neg cq1]; rfl)
  · first | refine x_aload_n eX9_edgeAt_23 rfl rfl ?_ | refine x_aload_nN eX9_edgeAt_23 rfl rfl ?_
    refine x_iload_n eX9_edgeAt_24 rfl rfl ?_
    refine x_bipush (v := nI 18) eX9_edgeAt_25 (by decide) ?_
    refine x_bipush (v := nI 61) eX9_edgeAt_27 (by decide) ?_
    refine x_iload_n eX9_edgeAt_29 rfl rfl ?_
    first | refine x_imulN eX9_edgeAt_30 (by with_reducible rfl) (by with_reducible rfl) ?_ | refine x_imul eX9_edgeAt_30 ?_
    first | refine x_iaddN eX9_edgeAt_31 (by with_reducible rfl) (by with_reducible rfl) ?_ | refine x_iadd eX9_edgeAt_31 ?_
    refine x_iload_n eX9_edgeAt_32 rfl rfl ?_
    first | refine x_iaddN eX9_edgeAt_33 (by with_reducible rfl) (by with_reducible rfl) ?_ | refine x_iadd eX9_edgeAt_33 ?_
    refine x_callV2 eX9_edgeAt_34 lk_X9_57 (by assumption) (Nat.le_of_ble_eq_true rfl) (Nat.le_of_ble_eq_true rfl) ?_
    refine c_X9_sail M (by omega) (fun _ => ?_)
    refine x_goto (tgt := 41) eX9_edgeAt_37 (by decide) ?_
    refine x_istore eX9_edgeAt_41 (by decide) rfl rfl ?_
    refine x_iload eX9_edgeAt_43 rfl ?_
    first | refine x_aload_n eX9_edgeAt_45 rfl rfl ?_ | refine x_aload_nN eX9_edgeAt_45 rfl rfl ?_
    refine x_iload_n eX9_edgeAt_46 rfl rfl ?_
    refine x_iconst (v := nI 3) eX9_edgeAt_47 (by decide) ?_
    refine x_iload_n eX9_edgeAt_48 rfl rfl ?_
    first | refine x_iaddN eX9_edgeAt_49 (by with_reducible rfl) (by with_reducible rfl) ?_ | refine x_iadd eX9_edgeAt_49 ?_
    refine x_callV2 eX9_edgeAt_50 lk_X9_57 (by assumption) (Nat.le_of_ble_eq_true rfl) (Nat.le_of_ble_eq_true rfl) ?_
    refine c_X9_sail M (by omega) (fun _ => ?_)
    refine x_iload eX9_edgeAt_53 rfl ?_
    first | refine x_isubN eX9_edgeAt_55 (by with_reducible rfl) (by with_reducible rfl) (by omega) ?_ | refine x_isub eX9_edgeAt_55 ?_
    refine x_iload_n eX9_edgeAt_56 rfl rfl ?_
    first | refine x_imulN eX9_edgeAt_57 (by with_reducible rfl) (by with_reducible rfl) ?_ | refine x_imul eX9_edgeAt_57 ?_
    first | refine x_aload_n eX9_edgeAt_58 rfl rfl ?_ | refine x_aload_nN eX9_edgeAt_58 rfl rfl ?_
    refine x_iload_n eX9_edgeAt_59 rfl rfl ?_
    refine x_iconst (v := nI 5) eX9_edgeAt_60 (by decide) ?_
    refine x_callV2 eX9_edgeAt_61 lk_X9_57 (by assumption) (Nat.le_of_ble_eq_true rfl) (Nat.le_of_ble_eq_true rfl) ?_
    refine c_X9_sail M (by omega) (fun _ => ?_)
    first | refine x_idivN eX9_edgeAt_64 (by with_reducible rfl) (by with_reducible rfl) (by omega) (by omega) (by omega) ?_ | refine x_idiv eX9_edgeAt_64 (by first | assumption | decide) ?_
    first | refine x_iaddN eX9_edgeAt_65 (by with_reducible rfl) (by with_reducible rfl) ?_ | refine x_iadd eX9_edgeAt_65 ?_
    refine x_iload eX9_edgeAt_66 rfl ?_
    first | refine x_iaddN eX9_edgeAt_68 (by with_reducible rfl) (by with_reducible rfl) ?_ | refine x_iadd eX9_edgeAt_68 ?_
    refine x_iret eX9_edgeAt_69 rfl ?_
    exact qi hq (by have cq1 : nI y < sl (hi h S) s (16 + a) := Int32.not_le.mp cq1; unfold edg; rw [if_pos cq1])
set_option maxRecDepth 100000 in
set_option maxHeartbeats 4000000 in
theorem c_X9_across {s y : Nat} (M : Md h x S) (hs : s < 10) (hy : y ≤ 61) (h5 : ¬ sl (hi h S) s 5 = 0) (hq : Q (some (.int (acr (hi h S) s y))) h) : Rn G (d + 2) mX9_across 0 [(0, .ref x), (1, .int (nI s)), (2, .int (nI y))] [] h Q := by
  obtain ⟨hx, hS, kS, nS⟩ := id M
  first | refine x_aload_n eX9_across_0 rfl rfl ?_ | refine x_aload_nN eX9_across_0 rfl rfl ?_
  refine x_iload_n eX9_across_1 rfl rfl ?_
  refine x_iconst (v := nI 1) eX9_across_2 (by decide) ?_
  refine x_iload_n eX9_across_3 rfl rfl ?_
  refine x_callV3 eX9_across_4 lk_X9_107 (by assumption) (Nat.le_of_ble_eq_true rfl) (Nat.le_of_ble_eq_true rfl) ?_
  refine c_X9_edgeAt M (by omega) (by omega) (by omega) h5 (fun _ => ?_)
  first | refine x_aload_n eX9_across_7 rfl rfl ?_ | refine x_aload_nN eX9_across_7 rfl rfl ?_
  refine x_iload_n eX9_across_8 rfl rfl ?_
  refine x_iconst (v := nI 0) eX9_across_9 (by decide) ?_
  refine x_iload_n eX9_across_10 rfl rfl ?_
  refine x_callV3 eX9_across_11 lk_X9_107 (by assumption) (Nat.le_of_ble_eq_true rfl) (Nat.le_of_ble_eq_true rfl) ?_
  refine c_X9_edgeAt M (by omega) (by omega) (by omega) h5 (fun _ => ?_)
  first | refine x_isubN eX9_across_14 (by with_reducible rfl) (by with_reducible rfl) (by omega) ?_ | refine x_isub eX9_across_14 ?_
  refine x_iret eX9_across_15 rfl ?_
  exact hq
set_option maxRecDepth 100000 in
set_option maxHeartbeats 4000000 in
theorem c_X9_strip {s y : Nat} (M : Md h x S) (hs : s < 10) (hy : y ≤ 60) (h5 : ¬ sl (hi h S) s 5 = 0) (hq : Q (some (.int (stp (hi h S) s y))) h) : Rn G (d + 3) mX9_strip 0 [(0, .ref x), (1, .int (nI s)), (2, .int (nI y))] [] h Q := by
  obtain ⟨hx, hS, kS, nS⟩ := id M
  first | refine x_aload_n eX9_strip_0 rfl rfl ?_ | refine x_aload_nN eX9_strip_0 rfl rfl ?_
  refine x_iload_n eX9_strip_1 rfl rfl ?_
  refine x_iload_n eX9_strip_2 rfl rfl ?_
  refine x_callV2 eX9_strip_3 lk_X9_111 (by assumption) (Nat.le_of_ble_eq_true rfl) (Nat.le_of_ble_eq_true rfl) ?_
  refine c_X9_across M (by omega) (by omega) h5 (fun _ => ?_)
  first | refine x_aload_n eX9_strip_6 rfl rfl ?_ | refine x_aload_nN eX9_strip_6 rfl rfl ?_
  refine x_iload_n eX9_strip_7 rfl rfl ?_
  refine x_iload_n eX9_strip_8 rfl rfl ?_
  refine x_iconst (v := nI 1) eX9_strip_9 (by decide) ?_
  first | refine x_iaddN eX9_strip_10 (by with_reducible rfl) (by with_reducible rfl) ?_ | refine x_iadd eX9_strip_10 ?_
  refine x_callV2 eX9_strip_11 lk_X9_111 (by assumption) (Nat.le_of_ble_eq_true rfl) (Nat.le_of_ble_eq_true rfl) ?_
  refine c_X9_across M (by omega) (by omega) h5 (fun _ => ?_)
  first | refine x_iaddN eX9_strip_14 (by with_reducible rfl) (by with_reducible rfl) ?_ | refine x_iadd eX9_strip_14 ?_
  refine x_iret eX9_strip_15 rfl ?_
  exact hq
set_option maxRecDepth 100000 in
set_option maxHeartbeats 4000000 in
theorem l_X9_strips {s a b : Nat} (M : Md h x S) (hs : s < 10) (hb : b ≤ 61) (h5 : ¬ sl (hi h S) s 5 = 0) : ∀ (n k : Nat), a + k + n = b → (Q (some (.int (sumN (stp (hi h S) s) a (k + n)))) h) → Rn G (d + 4) mX9_strips 6 [(0, .ref x), (1, .int (nI s)), (3, .int (nI b)), (4, .int (sumN (stp (hi h S) s) a k)), (5, .int (nI (a + k)))] [] h Q := by
  intro n
  induction n with
  | zero =>
    intro k hk hq
    refine x_iload eX9_strips_6 rfl ?_
    refine x_iload_n eX9_strips_8 rfl rfl ?_
    first | refine x_icmp_geN (tgt := 30) eX9_strips_9 (by decide) (by with_reducible rfl) (by with_reducible rfl) (by omega) (by omega) (fun cq1 => ?_) (fun cq1 => ?_) | refine x_icmp_ge (tgt := 30) eX9_strips_9 (by decide) (fun cq1 => ?_) (fun cq1 => ?_)
    · refine x_iload eX9_strips_30 rfl ?_
      refine x_iret eX9_strips_32 rfl ?_
      exact hq
    · exact absurd cq1 (by omega)
  | succ n ih =>
    intro k hk hq
    obtain ⟨hx, hS, kS, nS⟩ := id M
    refine x_iload eX9_strips_6 rfl ?_
    refine x_iload_n eX9_strips_8 rfl rfl ?_
    first | refine x_icmp_geN (tgt := 30) eX9_strips_9 (by decide) (by with_reducible rfl) (by with_reducible rfl) (by omega) (by omega) (fun cq1 => ?_) (fun cq1 => ?_) | refine x_icmp_ge (tgt := 30) eX9_strips_9 (by decide) (fun cq1 => ?_) (fun cq1 => ?_)
    · exact absurd cq1 (by omega)
    · refine x_iload eX9_strips_12 rfl ?_
      first | refine x_aload_n eX9_strips_14 rfl rfl ?_ | refine x_aload_nN eX9_strips_14 rfl rfl ?_
      refine x_iload_n eX9_strips_15 rfl rfl ?_
      refine x_iload eX9_strips_16 rfl ?_
      refine x_callV2 eX9_strips_18 lk_X9_114 (by assumption) (Nat.le_of_ble_eq_true rfl) (Nat.le_of_ble_eq_true rfl) ?_
      refine c_X9_strip M (by omega) (by omega) h5 (fun _ => ?_)
      first | refine x_iaddN eX9_strips_21 (by with_reducible rfl) (by with_reducible rfl) ?_ | refine x_iadd eX9_strips_21 ?_
      refine x_istore eX9_strips_22 (by decide) rfl rfl ?_
      first | refine x_iincN eX9_strips_24 rfl (by with_reducible rfl) (by decide) rfl rfl ?_ | refine x_iinc eX9_strips_24 rfl rfl (by decide) rfl rfl ?_
      refine x_goto (tgt := 6) eX9_strips_27 (by decide) ?_
      refine Rn.weak (ih (k + 1) (by omega) (by rw [show k + 1 + n = k + (n + 1) by omega]; exact hq)) (by repeat' first | exact fun _ h => absurd h List.not_mem_nil | refine List.forall_mem_cons.mpr ⟨rfl, ?_⟩)
set_option maxRecDepth 100000 in
set_option maxHeartbeats 4000000 in
theorem c_X9_strips {s a b : Nat} (M : Md h x S) (hs : s < 10) (hab : a ≤ b) (hb : b ≤ 61) (h5 : ¬ sl (hi h S) s 5 = 0) (hq : Q (some (.int (sumN (stp (hi h S) s) a (b - a)))) h) : Rn G (d + 4) mX9_strips 0 [(0, .ref x), (1, .int (nI s)), (2, .int (nI a)), (3, .int (nI b))] [] h Q := by
  refine x_iconst (v := nI 0) eX9_strips_0 (by decide) ?_
  refine x_istore eX9_strips_1 (by decide) rfl rfl ?_
  refine x_iload_n eX9_strips_3 rfl rfl ?_
  refine x_istore eX9_strips_4 (by decide) rfl rfl ?_
  refine Rn.weak (l_X9_strips (a := a) (k := 0) (n := b - a) M hs hb h5 (by omega) (by rw [Nat.zero_add]; exact hq)) (by repeat' first | exact fun _ h => absurd h List.not_mem_nil | refine List.forall_mem_cons.mpr ⟨rfl, ?_⟩)
end REF2

