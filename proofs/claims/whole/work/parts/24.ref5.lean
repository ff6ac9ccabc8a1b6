/-! ===== the reference: more of what it reads ===== -/
set_option maxRecDepth 100000 in
set_option maxHeartbeats 4000000 in
theorem allN_s (a0 : Bool) (P : Nat → Bool) (i : Nat) : (a0 && allN P (i + 1)) = ((a0 && allN P i) && P i) := by rw [allN, Bool.and_assoc]
section REF5
variable {G : GG} {d : Nat} {h : AH} {Q : Option Value → AH → Prop} {x S : Nat}
set_option maxRecDepth 100000 in
set_option maxHeartbeats 4000000 in
theorem l_X9_bare_in {b : Int32} {s : Nat} {a0 : Bool} (M : Md h x S) (W : GW (hi h S)) (hs : s < nt (hi h S 1))
    (kx : Rn G (d + 4) mX9_isBare 4 [(0, .ref x), (1, .int b), (2, .int (bI (a0 && allN (fun i => !decide (sl (hi h S) s (300 + i) = b)) (np (hi h S) s)))), (3, .int (nI (s + 1)))] [] h Q) :
    ∀ (n i : Nat), i + n = np (hi h S) s → Rn G (d + 4) mX9_isBare 17 [(0, .ref x), (1, .int b), (2, .int (bI (a0 && allN (fun i => !decide (sl (hi h S) s (300 + i) = b)) i))), (3, .int (nI s)), (4, .int (nI i))] [] h Q := by
  have w := W.2.2.2 s hs
  have hs10 : s < 10 := by have := W.2.1.2.2; omega
  have hnp : np (hi h S) s ≤ 40 := w.2.2.2.2.1
  intro n
  induction n with
  | zero =>
    intro i hi0
    obtain ⟨hx, hS, kS, nS⟩ := id M
    have e : i = np (hi h S) s := by omega
    subst e
    refine x_iload eX9_isBare_17 rfl ?_
    first | refine x_aload_n eX9_isBare_19 rfl rfl ?_ | refine x_aload_nN eX9_isBare_19 rfl rfl ?_
    refine x_iload_n eX9_isBare_20 rfl rfl ?_
    refine x_callV1 eX9_isBare_21 lk_X9_82 (by assumption) (Nat.le_of_ble_eq_true rfl) (Nat.le_of_ble_eq_true rfl) ?_
    refine Rn.deep (c_X9_piecesN (d := d) M hs10 w (fun _ => ?_)) (by omega)
    first | refine x_icmp_geN (tgt := 58) eX9_isBare_24 (by decide) (by with_reducible rfl) (by with_reducible rfl) (by omega) (by omega) (fun cq1 => ?_) (fun cq1 => ?_) | refine x_icmp_ge (tgt := 58) eX9_isBare_24 (by decide) (fun cq1 => ?_) (fun cq1 => ?_)
    · first | refine x_iincN eX9_isBare_58 rfl (by with_reducible rfl) (by decide) rfl rfl ?_ | refine x_iinc eX9_isBare_58 rfl rfl (by decide) rfl rfl ?_
      refine x_goto (tgt := 4) eX9_isBare_61 (by decide) ?_
      refine Rn.weak (kx) (by repeat' first | exact fun _ h => absurd h List.not_mem_nil | refine List.forall_mem_cons.mpr ⟨rfl, ?_⟩)
    · exact absurd cq1 (by omega)
  | succ n ih =>
    intro i hi0
    obtain ⟨hx, hS, kS, nS⟩ := id M
    have fin : ∀ v : Int32, v = bI (a0 && allN (fun i => !decide (sl (hi h S) s (300 + i) = b)) (i + 1)) → Rn G (d + 4) mX9_isBare 51 [(0, .ref x), (1, .int b), (3, .int (nI s)), (4, .int (nI i))] [.int v] h Q := by
      rintro v rfl
      refine x_istore_n eX9_isBare_51 rfl (by decide) rfl rfl ?_
      first | refine x_iincN eX9_isBare_52 rfl (by with_reducible rfl) (by decide) rfl rfl ?_ | refine x_iinc eX9_isBare_52 rfl rfl (by decide) rfl rfl ?_
      refine x_goto (tgt := 17) eX9_isBare_55 (by decide) ?_
      refine Rn.weak (ih (i + 1) (by omega)) (by repeat' first | exact fun _ h => absurd h List.not_mem_nil | refine List.forall_mem_cons.mpr ⟨rfl, ?_⟩)
    refine x_iload eX9_isBare_17 rfl ?_
    first | refine x_aload_n eX9_isBare_19 rfl rfl ?_ | refine x_aload_nN eX9_isBare_19 rfl rfl ?_
    refine x_iload_n eX9_isBare_20 rfl rfl ?_
    refine x_callV1 eX9_isBare_21 lk_X9_82 (by assumption) (Nat.le_of_ble_eq_true rfl) (Nat.le_of_ble_eq_true rfl) ?_
    refine Rn.deep (c_X9_piecesN (d := d) M hs10 w (fun _ => ?_)) (by omega)
    first | refine x_icmp_geN (tgt := 58) eX9_isBare_24 (by decide) (by with_reducible rfl) (by with_reducible rfl) (by omega) (by omega) (fun cq1 => ?_) (fun cq1 => ?_) | refine x_icmp_ge (tgt := 58) eX9_isBare_24 (by decide) (fun cq1 => ?_) (fun cq1 => ?_)
    · exact absurd cq1 (by omega)
    · refine x_iload_n eX9_isBare_27 rfl rfl ?_
      first | refine x_if_eqB (tgt := 50) eX9_isBare_28 (by decide) (by with_reducible rfl) (fun cq2 => ?_) (fun cq2 => ?_) | refine x_if_eq (tgt := 50) eX9_isBare_28 (by decide) (fun cq2 => ?_) (fun cq2 => ?_)
      · refine x_iconst (v := nI 0) eX9_isBare_50 (by decide) ?_
        refine Rn.weak (fin _ (by rw [allN_s, cq2]; rfl)) (by repeat' first | exact fun _ h => absurd h List.not_mem_nil | refine List.forall_mem_cons.mpr ⟨rfl, ?_⟩)
      · first | refine x_aload_n eX9_isBare_31 rfl rfl ?_ | refine x_aload_nN eX9_isBare_31 rfl rfl ?_
        refine x_iload_n eX9_isBare_32 rfl rfl ?_
        refine x_sipush (v := nI 300) eX9_isBare_33 (by decide) ?_
        refine x_iload eX9_isBare_36 rfl ?_
        first | refine x_iaddN eX9_isBare_38 (by with_reducible rfl) (by with_reducible rfl) ?_ | refine x_iadd eX9_isBare_38 ?_
        refine x_callV2 eX9_isBare_39 lk_X9_57 (by assumption) (Nat.le_of_ble_eq_true rfl) (Nat.le_of_ble_eq_true rfl) ?_
        refine Rn.deep (c_X9_sail (d := d) M (by omega) (fun _ => ?_)) (by omega)
        refine x_iload_n eX9_isBare_42 rfl rfl ?_
        first | refine x_icmp_eqN (tgt := 50) eX9_isBare_43 (by decide) (by with_reducible rfl) (by with_reducible rfl) (by omega) (by omega) (fun cq3 => ?_) (fun cq3 => ?_) | refine x_icmp_eq (tgt := 50) eX9_isBare_43 (by decide) (fun cq3 => ?_) (fun cq3 => ?_)
        · refine x_iconst (v := nI 0) eX9_isBare_50 (by decide) ?_
          refine Rn.weak (fin _ (by have c3 : sl (hi h S) s (300 + i) = b := cq3; rw [allN_s, c3]; simp; rfl)) (by repeat' first | exact fun _ h => absurd h List.not_mem_nil | refine List.forall_mem_cons.mpr ⟨rfl, ?_⟩)
        · refine x_iconst (v := nI 1) eX9_isBare_46 (by decide) ?_
          refine x_goto (tgt := 51) eX9_isBare_47 (by decide) ?_
          refine Rn.weak (fin _ (by have c3 : ¬ sl (hi h S) s (300 + i) = b := cq3; rw [allN_s, cq2]; simp [c3]; rfl)) (by repeat' first | exact fun _ h => absurd h List.not_mem_nil | refine List.forall_mem_cons.mpr ⟨rfl, ?_⟩)
set_option maxRecDepth 100000 in
set_option maxHeartbeats 4000000 in
theorem c_X9_isBare {b : Int32} (M : Md h x S) (W : GW (hi h S)) (hq : Q (some (.int (bI (bareV (hi h S) b)))) h) : Rn G (d + 4) mX9_isBare 0 [(0, .ref x), (1, .int b)] [] h Q := by
  obtain ⟨e1, l1, u1⟩ := W.2.1
  have out : ∀ (m s : Nat), s + m = nt (hi h S 1) → Rn G (d + 4) mX9_isBare 4 [(0, .ref x), (1, .int b), (2, .int (bI (allN (fun s => allN (fun i => !decide (sl (hi h S) s (300 + i) = b)) (np (hi h S) s)) s))), (3, .int (nI s))] [] h Q := by
    intro m
    induction m with
    | zero =>
      intro s hs
      obtain ⟨hx, hS, kS, nS⟩ := id M
      refine x_iload_n eX9_isBare_4 rfl rfl ?_
      first | refine x_aload_n eX9_isBare_5 rfl rfl ?_ | refine x_aload_nN eX9_isBare_5 rfl rfl ?_
      first | refine x_getR eX9_isBare_6 fk_X9_7 rfl (by assumption) (by assumption) ?_ | refine x_getN eX9_isBare_6 fk_X9_7 rfl (by assumption) (by assumption) ?_
      refine x_iconst (v := nI 1) eX9_isBare_9 (by decide) ?_
      first | refine x_ialdN eX9_isBare_10 (by with_reducible rfl) (by assumption) (by assumption) (by omega) (by omega) ?_ | refine x_sldN eX9_isBare_10 (by with_reducible rfl) (by assumption) (by assumption) (by omega) (by omega) ?_ | refine x_iald eX9_isBare_10 (by assumption) (by assumption) ?_
      rw [e1]
      first | refine x_icmp_geN (tgt := 64) eX9_isBare_11 (by decide) (by with_reducible rfl) (by with_reducible rfl) (by omega) (by omega) (fun cq1 => ?_) (fun cq1 => ?_) | refine x_icmp_ge (tgt := 64) eX9_isBare_11 (by decide) (fun cq1 => ?_) (fun cq1 => ?_)
      · refine x_iload_n eX9_isBare_64 rfl rfl ?_
        refine x_zret eX9_isBare_65 rfl (by first | exact Or.inl rfl | exact Or.inr rfl | exact bI_or _ | assumption) ?_
        rw [show s = nt (hi h S 1) by omega]
        exact hq
      · exact absurd cq1 (by omega)
    | succ m ih =>
      intro s hs
      obtain ⟨hx, hS, kS, nS⟩ := id M
      refine x_iload_n eX9_isBare_4 rfl rfl ?_
      first | refine x_aload_n eX9_isBare_5 rfl rfl ?_ | refine x_aload_nN eX9_isBare_5 rfl rfl ?_
      first | refine x_getR eX9_isBare_6 fk_X9_7 rfl (by assumption) (by assumption) ?_ | refine x_getN eX9_isBare_6 fk_X9_7 rfl (by assumption) (by assumption) ?_
      refine x_iconst (v := nI 1) eX9_isBare_9 (by decide) ?_
      first | refine x_ialdN eX9_isBare_10 (by with_reducible rfl) (by assumption) (by assumption) (by omega) (by omega) ?_ | refine x_sldN eX9_isBare_10 (by with_reducible rfl) (by assumption) (by assumption) (by omega) (by omega) ?_ | refine x_iald eX9_isBare_10 (by assumption) (by assumption) ?_
      rw [e1]
      first | refine x_icmp_geN (tgt := 64) eX9_isBare_11 (by decide) (by with_reducible rfl) (by with_reducible rfl) (by omega) (by omega) (fun cq1 => ?_) (fun cq1 => ?_) | refine x_icmp_ge (tgt := 64) eX9_isBare_11 (by decide) (fun cq1 => ?_) (fun cq1 => ?_)
      · exact absurd cq1 (by omega)
      · refine x_iconst (v := nI 0) eX9_isBare_14 (by decide) ?_
        refine x_istore eX9_isBare_15 (by decide) rfl rfl ?_
        have hin := l_X9_bare_in (s := s) (b := b) (a0 := allN (fun s => allN (fun i => !decide (sl (hi h S) s (300 + i) = b)) (np (hi h S) s)) s) M W (by omega) (ih (s + 1) (by omega)) (np (hi h S) s) 0 (by omega)
        rw [show (allN (fun s => allN (fun i => !decide (sl (hi h S) s (300 + i) = b)) (np (hi h S) s)) s && allN (fun i => !decide (sl (hi h S) s (300 + i) = b)) 0) = allN (fun s => allN (fun i => !decide (sl (hi h S) s (300 + i) = b)) (np (hi h S) s)) s from Bool.and_true _] at hin
        refine Rn.weak (hin) (by repeat' first | exact fun _ h => absurd h List.not_mem_nil | refine List.forall_mem_cons.mpr ⟨rfl, ?_⟩)
  refine x_iconst (v := nI 1) eX9_isBare_0 (by decide) ?_
  refine x_istore_n eX9_isBare_1 rfl (by decide) rfl rfl ?_
  refine x_iconst (v := nI 0) eX9_isBare_2 (by decide) ?_
  refine x_istore_n eX9_isBare_3 rfl (by decide) rfl rfl ?_
  refine Rn.weak (out (nt (hi h S 1)) 0 (by omega)) (by repeat' first | exact fun _ h => absurd h List.not_mem_nil | refine List.forall_mem_cons.mpr ⟨rfl, ?_⟩)
set_option maxRecDepth 100000 in
set_option maxHeartbeats 4000000 in
theorem c_X9_isPiece {s i : Int32} (M : Md h x S) (W : GW (hi h S)) (hq : Q (some (.int (bI (isPc (hi h S) s i)))) h) : Rn G (d + 2) mX9_isPiece 0 [(0, .ref x), (1, .int s), (2, .int i)] [] h Q := by
  obtain ⟨hx, hS, kS, nS⟩ := id M
  first | refine x_aload_n eX9_isPiece_0 rfl rfl ?_ | refine x_aload_nN eX9_isPiece_0 rfl rfl ?_
  refine x_iload_n eX9_isPiece_1 rfl rfl ?_
  refine x_callV1 eX9_isPiece_2 lk_X9_137 (by assumption) (Nat.le_of_ble_eq_true rfl) (Nat.le_of_ble_eq_true rfl) ?_
  refine c_X9_isCut M W.2.1 (fun _ => ?_)
  first | refine x_if_eqB (tgt := 25) eX9_isPiece_5 (by decide) (by with_reducible rfl) (fun cq1 => ?_) (fun cq1 => ?_) | refine x_if_eq (tgt := 25) eX9_isPiece_5 (by decide) (fun cq1 => ?_) (fun cq1 => ?_)
  · refine x_iconst (v := nI 0) eX9_isPiece_25 (by decide) ?_
    refine x_zret eX9_isPiece_26 rfl (by first | exact Or.inl rfl | exact Or.inr rfl | exact bI_or _ | assumption) ?_
    exact qi hq (by simp [isPc, cq1]; rfl)
  · have hiS : isS (hi h S) s = true := by
      unfold isC at cq1
      exact (Bool.and_eq_true _ _ ▸ cq1).1
    obtain ⟨j, hj, rfl⟩ := isS_spec W.2.1 hiS
    have h10 := W.2.1.2.2
    have hnt : nt (nI j) = j := nt_nI (by omega)
    refine x_iload_n eX9_isPiece_8 rfl rfl ?_
    refine x_if_lt (tgt := 25) eX9_isPiece_9 (by decide) (fun cq2 => ?_) (fun cq2 => ?_)
    · refine x_iconst (v := nI 0) eX9_isPiece_25 (by decide) ?_
      refine x_zret eX9_isPiece_26 rfl (by first | exact Or.inl rfl | exact Or.inr rfl | exact bI_or _ | assumption) ?_
      exact qi hq (by have : ¬ 0 ≤ i := Int32.not_le.mpr cq2; simp [isPc, this]; rfl)
    · refine x_iload_n eX9_isPiece_12 rfl rfl ?_
      first | refine x_aload_n eX9_isPiece_13 rfl rfl ?_ | refine x_aload_nN eX9_isPiece_13 rfl rfl ?_
      refine x_iload_n eX9_isPiece_14 rfl rfl ?_
      refine x_callV1 eX9_isPiece_15 lk_X9_82 (by assumption) (Nat.le_of_ble_eq_true rfl) (Nat.le_of_ble_eq_true rfl) ?_
      refine c_X9_piecesN M (by omega) (W.2.2.2 j hj) (fun _ => ?_)
      first | refine x_icmp_geN (tgt := 25) eX9_isPiece_18 (by decide) (by with_reducible rfl) (by with_reducible rfl) (by omega) (by omega) (fun cq3 => ?_) (fun cq3 => ?_) | refine x_icmp_ge (tgt := 25) eX9_isPiece_18 (by decide) (fun cq3 => ?_) (fun cq3 => ?_)
      · refine x_iconst (v := nI 0) eX9_isPiece_25 (by decide) ?_
        refine x_zret eX9_isPiece_26 rfl (by first | exact Or.inl rfl | exact Or.inr rfl | exact bI_or _ | assumption) ?_
        exact qi hq (by have c3 : ¬ i < nI (np (hi h S) j) := Int32.not_lt.mpr cq3; simp [isPc, hnt, c3]; rfl)
      · refine x_iconst (v := nI 1) eX9_isPiece_21 (by decide) ?_
        refine x_goto (tgt := 26) eX9_isPiece_22 (by decide) ?_
        refine x_zret eX9_isPiece_26 rfl (by first | exact Or.inl rfl | exact Or.inr rfl | exact bI_or _ | assumption) ?_
        exact qi hq (by have c2 : 0 ≤ i := Int32.not_lt.mp cq2; have c3 : i < nI (np (hi h S) j) := Int32.not_le.mp cq3; simp [isPc, hnt, cq1, c2, c3]; rfl)
set_option maxRecDepth 100000 in
set_option maxHeartbeats 4000000 in
theorem c_X9_at {s a y : Int32} (M : Md h x S) (W : GW (hi h S)) (hq : Q (some (.int (atV (hi h S) s a y))) h) : Rn G (d + 2) mX9_at 0 [(0, .ref x), (1, .int s), (2, .int a), (3, .int y)] [] h Q := by
  obtain ⟨hx, hS, kS, nS⟩ := id M
  first | refine x_aload_n eX9_at_0 rfl rfl ?_ | refine x_aload_nN eX9_at_0 rfl rfl ?_
  refine x_iload_n eX9_at_1 rfl rfl ?_
  refine x_callV1 eX9_at_2 lk_X9_53 (by assumption) (Nat.le_of_ble_eq_true rfl) (Nat.le_of_ble_eq_true rfl) ?_
  refine c_X9_isSail M (fun _ => ?_)
  first | refine x_if_eqB (tgt := 31) eX9_at_5 (by decide) (by with_reducible rfl) (fun cq1 => ?_) (fun cq1 => ?_) | refine x_if_eq (tgt := 31) eX9_at_5 (by decide) (fun cq1 => ?_) (fun cq1 => ?_)
  · refine x_sipush (v := (-10000)) eX9_at_31 (by decide) ?_
    refine x_goto (tgt := 44) eX9_at_34 (by decide) ?_
    refine x_iret eX9_at_44 rfl ?_
    exact qi hq (by simp [atV, cq1])
  · obtain ⟨j, hj, rfl⟩ := isS_spec W.2.1 cq1
    have h10 := W.2.1.2.2
    have hnt : nt (nI j) = j := nt_nI (by omega)
    have w := W.2.2.2 j hj
    obtain ⟨-, ⟨e5, l5, u5⟩, -⟩ := id w
    refine x_iload_n eX9_at_8 rfl rfl ?_
    refine x_iconst (v := nI 0) eX9_at_9 (by decide) ?_
    refine x_iconst (v := nI 1) eX9_at_10 (by decide) ?_
    refine x_callS3 eX9_at_11 lk_X9_70 (Nat.le_of_ble_eq_true rfl) (Nat.le_of_ble_eq_true rfl) ?_
    refine c_X9_isIn (fun _ => ?_)
    first | refine x_if_eqB (tgt := 31) eX9_at_14 (by decide) (by with_reducible rfl) (fun cq2 => ?_) (fun cq2 => ?_) | refine x_if_eq (tgt := 31) eX9_at_14 (by decide) (fun cq2 => ?_) (fun cq2 => ?_)
    · refine x_sipush (v := (-10000)) eX9_at_31 (by decide) ?_
      refine x_goto (tgt := 44) eX9_at_34 (by decide) ?_
      refine x_iret eX9_at_44 rfl ?_
      exact qi hq (by have c2 : inR a 0 1 = false := cq2; simp [atV, c2])
    · have c2 : inR a 0 1 = true := cq2
      refine x_iload_n eX9_at_17 rfl rfl ?_
      refine x_iconst (v := nI 0) eX9_at_18 (by decide) ?_
      first | refine x_aload_n eX9_at_19 rfl rfl ?_ | refine x_aload_nN eX9_at_19 rfl rfl ?_
      refine x_iload_n eX9_at_20 rfl rfl ?_
      refine x_iconst (v := nI 5) eX9_at_21 (by decide) ?_
      refine x_callV2 eX9_at_22 lk_X9_57 (by assumption) (Nat.le_of_ble_eq_true rfl) (Nat.le_of_ble_eq_true rfl) ?_
      refine c_X9_sail M (by omega) (fun _ => ?_)
      refine x_callS3 eX9_at_25 lk_X9_70 (Nat.le_of_ble_eq_true rfl) (Nat.le_of_ble_eq_true rfl) ?_
      refine c_X9_isIn (fun _ => ?_)
      first | refine x_if_neB (tgt := 37) eX9_at_28 (by decide) (by with_reducible rfl) (fun cq3 => ?_) (fun cq3 => ?_) | refine x_if_ne (tgt := 37) eX9_at_28 (by decide) (fun cq3 => ?_) (fun cq3 => ?_)
      · have c3 : inR y 0 (sl (hi h S) j 5) = true := cq3
        obtain ⟨ja, ha, rfl⟩ : ∃ k, k ≤ 1 ∧ a = nI k := by
          simp only [inR, Bool.and_eq_true, decide_eq_true_eq] at c2
          exact nI_of2 (M := 1) (n := 1) rfl (Int32.not_lt.mpr c2.1) c2.2
        obtain ⟨jy, hy, rfl⟩ : ∃ k, k ≤ nt (sl (hi h S) j 5) ∧ y = nI k := by
          simp only [inR, Bool.and_eq_true, decide_eq_true_eq] at c3
          exact nI_of2 (M := sl (hi h S) j 5) (n := nt (sl (hi h S) j 5)) (by rw [e5, nI_toInt (by omega), nt_nI (by omega)]) (Int32.not_lt.mpr c3.1) c3.2
        first | refine x_aload_n eX9_at_37 rfl rfl ?_ | refine x_aload_nN eX9_at_37 rfl rfl ?_
        refine x_iload_n eX9_at_38 rfl rfl ?_
        refine x_iload_n eX9_at_39 rfl rfl ?_
        refine x_iload_n eX9_at_40 rfl rfl ?_
        refine x_callV3 eX9_at_41 lk_X9_107 (by assumption) (Nat.le_of_ble_eq_true rfl) (Nat.le_of_ble_eq_true rfl) ?_
        refine c_X9_edgeAt M (by omega) (by omega) (by omega) w.h5 (fun _ => ?_)
        refine x_iret eX9_at_44 rfl ?_
        exact qi hq (by rw [atV, cq1, hnt, c2, c3, nt_nI (show ja < 2 ^ 31 by omega), nt_nI (show jy < 2 ^ 31 by omega)]; rfl)
      · refine x_sipush (v := (-10000)) eX9_at_31 (by decide) ?_
        refine x_goto (tgt := 44) eX9_at_34 (by decide) ?_
        refine x_iret eX9_at_44 rfl ?_
        exact qi hq (by have c3 : inR y 0 (sl (hi h S) j 5) = false := cq3; simp [atV, hnt, c3])
set_option maxRecDepth 100000 in
set_option maxHeartbeats 4000000 in
theorem c_X9_over {b k : Int32} (M : Md h x S) (W : GW (hi h S)) (hq : Q (some (.int (overV (hi h S) b k))) h) : Rn G (d + 5) mX9_over 0 [(0, .ref x), (1, .int b), (2, .int k)] [] h Q := by
  obtain ⟨hx, hS, kS, nS⟩ := id M
  first | refine x_aload_n eX9_over_0 rfl rfl ?_ | refine x_aload_nN eX9_over_0 rfl rfl ?_
  refine x_iload_n eX9_over_1 rfl rfl ?_
  refine x_callV1 eX9_over_2 lk_X9_89 (by assumption) (Nat.le_of_ble_eq_true rfl) (Nat.le_of_ble_eq_true rfl) ?_
  refine Rn.deep (c_X9_isBolt (d := d) M (fun _ => ?_)) (by omega)
  first | refine x_if_eqB (tgt := 31) eX9_over_5 (by decide) (by with_reducible rfl) (fun cq1 => ?_) (fun cq1 => ?_) | refine x_if_eq (tgt := 31) eX9_over_5 (by decide) (fun cq1 => ?_) (fun cq1 => ?_)
  · refine x_iconst (v := (-1)) eX9_over_31 (by decide) ?_
    refine x_iret eX9_over_32 rfl ?_
    exact qi hq (by simp [overV, cq1])
  · obtain ⟨j, hj, rfl⟩ := isB_spec W.1 cq1
    have h24 := W.1.2.2
    have hnt : nt (nI j) = j := nt_nI (by omega)
    refine x_iload_n eX9_over_8 rfl rfl ?_
    refine x_if_lt (tgt := 31) eX9_over_9 (by decide) (fun cq2 => ?_) (fun cq2 => ?_)
    · refine x_iconst (v := (-1)) eX9_over_31 (by decide) ?_
      refine x_iret eX9_over_32 rfl ?_
      exact qi hq (by have : ¬ 0 ≤ k := Int32.not_le.mpr cq2; simp [overV, this])
    · refine x_iload_n eX9_over_12 rfl rfl ?_
      first | refine x_aload_n eX9_over_13 rfl rfl ?_ | refine x_aload_nN eX9_over_13 rfl rfl ?_
      refine x_iload_n eX9_over_14 rfl rfl ?_
      refine x_iconst (v := nI 1) eX9_over_15 (by decide) ?_
      refine x_callV2 eX9_over_16 lk_X9_92 (by assumption) (Nat.le_of_ble_eq_true rfl) (Nat.le_of_ble_eq_true rfl) ?_
      refine Rn.deep (c_X9_bolt (d := d) M (by omega) (fun _ => ?_)) (by omega)
      first | refine x_icmp_geN (tgt := 31) eX9_over_19 (by decide) (by with_reducible rfl) (by with_reducible rfl) (by omega) (by omega) (fun cq3 => ?_) (fun cq3 => ?_) | refine x_icmp_ge (tgt := 31) eX9_over_19 (by decide) (fun cq3 => ?_) (fun cq3 => ?_)
      · refine x_iconst (v := (-1)) eX9_over_31 (by decide) ?_
        refine x_iret eX9_over_32 rfl ?_
        exact qi hq (by have c3 : ¬ k < bl (hi h S) j 1 := Int32.not_lt.mpr cq3; simp [overV, hnt, c3])
      · first | refine x_aload_n eX9_over_22 rfl rfl ?_ | refine x_aload_nN eX9_over_22 rfl rfl ?_
        refine x_iload_n eX9_over_23 rfl rfl ?_
        refine x_iload_n eX9_over_24 rfl rfl ?_
        refine x_callV2 eX9_over_25 lk_X9_149 (by assumption) (Nat.le_of_ble_eq_true rfl) (Nat.le_of_ble_eq_true rfl) ?_
        refine c_X9_lies M W (fun _ => ?_)
        refine x_goto (tgt := 32) eX9_over_28 (by decide) ?_
        refine x_iret eX9_over_32 rfl ?_
        exact qi hq (by have c2 : 0 ≤ k := Int32.not_lt.mp cq2; have c3 : k < bl (hi h S) j 1 := Int32.not_le.mp cq3; simp [overV, hnt, cq1, c2, c3])
set_option maxRecDepth 100000 in
set_option maxHeartbeats 4000000 in
theorem c_X9_old {b : Int32} (M : Md h x S) (W : GW (hi h S)) (hq : Q (some (.int (oldV (hi h S) b))) h) : Rn G (d + 1) mX9_old 0 [(0, .ref x), (1, .int b)] [] h Q := by
  obtain ⟨hx, hS, kS, nS⟩ := id M
  first | refine x_aload_n eX9_old_0 rfl rfl ?_ | refine x_aload_nN eX9_old_0 rfl rfl ?_
  refine x_iload_n eX9_old_1 rfl rfl ?_
  refine x_callV1 eX9_old_2 lk_X9_89 (by assumption) (Nat.le_of_ble_eq_true rfl) (Nat.le_of_ble_eq_true rfl) ?_
  refine c_X9_isBolt M (fun _ => ?_)
  first | refine x_if_eqB (tgt := 17) eX9_old_5 (by decide) (by with_reducible rfl) (fun cq1 => ?_) (fun cq1 => ?_) | refine x_if_eq (tgt := 17) eX9_old_5 (by decide) (fun cq1 => ?_) (fun cq1 => ?_)
  · refine x_iconst (v := (-1)) eX9_old_17 (by decide) ?_
    refine x_iret eX9_old_18 rfl ?_
    exact qi hq (by simp [oldV, cq1])
  · obtain ⟨j, hj, rfl⟩ := isB_spec W.1 cq1
    have h24 := W.1.2.2
    first | refine x_aload_n eX9_old_8 rfl rfl ?_ | refine x_aload_nN eX9_old_8 rfl rfl ?_
    refine x_iload_n eX9_old_9 rfl rfl ?_
    refine x_iconst (v := nI 4) eX9_old_10 (by decide) ?_
    refine x_callV2 eX9_old_11 lk_X9_92 (by assumption) (Nat.le_of_ble_eq_true rfl) (Nat.le_of_ble_eq_true rfl) ?_
    refine c_X9_bolt M (by omega) (fun _ => ?_)
    refine x_goto (tgt := 18) eX9_old_14 (by decide) ?_
    refine x_iret eX9_old_18 rfl ?_
    exact qi hq (by rw [oldV, cq1, nt_nI (show j < 2 ^ 31 by omega)]; rfl)
end REF5

