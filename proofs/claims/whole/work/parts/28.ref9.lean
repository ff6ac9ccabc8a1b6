/-! ===== the reference: laying, setting, lines ===== -/
set_option maxRecDepth 100000 in
set_option maxHeartbeats 4000000 in
theorem isPc_spec {g : Nat → Int32} {s i : Int32} (W : GW g) (h : isPc g s i = true) : ∃ j m, j < nt (g 1) ∧ m < np g j ∧ s = nI j ∧ i = nI m ∧ nt s = j ∧ nt i = m ∧ isC g s = true := by
  have h1 := h
  unfold isPc at h1
  simp only [Bool.and_eq_true, decide_eq_true_eq] at h1
  obtain ⟨a1, a2, a3⟩ := h1
  obtain ⟨j, hj, rfl⟩ := isS_spec W.2.1 (isC_S a1)
  have h10 := W.2.1.2.2
  have hnt : nt (nI j) = j := nt_nI (by omega)
  rw [hnt] at a3
  have hnp : np g j ≤ 40 := (W.2.2.2 j hj).2.2.2.2.1
  obtain ⟨m, m1, rfl⟩ := nI_of (Int32.not_lt.mpr a2)
  have hm := (nI_ltI m1 (by omega)).mp a3
  exact ⟨j, m, hj, hm, rfl, rfl, hnt, nt_nI m1, a1⟩
section REF9
variable {G : GG} {d : Nat} {h : AH} {Q : Option Value → AH → Prop} {x la kp : Nat}
set_option maxRecDepth 100000 in
set_option maxHeartbeats 4000000 in
theorem c_X9_put {g : Nat → Int32} {s i : Nat} {b p : Int32} (M : MD h x) (hs : s < 10) (hi4 : i < 40) (hq : Q none (acted h x la kp (gPut g s i b p))) : Rn G (d + 1) mX9_put 0 [(0, .ref x), (1, .int (nI s)), (2, .int (nI i)), (3, .int b), (4, .int p)] [] (acted h x la kp g) Q := by
  have hx : hk (acted h x la kp g) x = 8 := M.1.1
  first | refine x_aload_n eX9_put_0 rfl rfl ?_ | refine x_aload_nN eX9_put_0 rfl rfl ?_
  refine x_iload_n eX9_put_1 rfl rfl ?_
  refine x_sipush (v := nI 300) eX9_put_2 (by decide) ?_
  refine x_iload_n eX9_put_5 rfl rfl ?_
  first | refine x_iaddN eX9_put_6 (by with_reducible rfl) (by with_reducible rfl) ?_ | refine x_iadd eX9_put_6 ?_
  refine x_iload_n eX9_put_7 rfl rfl ?_
  refine x_callV3 eX9_put_8 lk_X9_101 (by assumption) (Nat.le_of_ble_eq_true rfl) (Nat.le_of_ble_eq_true rfl) ?_
  refine c_X9_putSail (M.acted la kp _).md (by omega) (fun _ => ?_)
  rw [acted_wi]
  have hx2 : hk (acted h x la kp (upd0 g (5050 + 390 * s + (300 + i)) b)) x = 8 := M.1.1
  first | refine x_aload_n eX9_put_11 rfl rfl ?_ | refine x_aload_nN eX9_put_11 rfl rfl ?_
  refine x_iload_n eX9_put_12 rfl rfl ?_
  refine x_sipush (v := nI 340) eX9_put_13 (by decide) ?_
  refine x_iload_n eX9_put_16 rfl rfl ?_
  first | refine x_iaddN eX9_put_17 (by with_reducible rfl) (by with_reducible rfl) ?_ | refine x_iadd eX9_put_17 ?_
  refine x_iload eX9_put_18 rfl ?_
  refine x_callV3 eX9_put_20 lk_X9_101 (by assumption) (Nat.le_of_ble_eq_true rfl) (Nat.le_of_ble_eq_true rfl) ?_
  refine c_X9_putSail (M.acted la kp _).md (by omega) (fun _ => ?_)
  rw [acted_wi]
  refine x_ret (rt := none) eX9_put_23 rfl ?_
  exact hq
set_option maxRecDepth 100000 in
set_option maxHeartbeats 4000000 in
theorem l_X9_takes {b s i pn n : Nat} {p w : Int32} (M : MD h x) (W : GW (hi h (x + 1))) (hb : b < nt (hi h (x + 1) 0)) (hpn : pn + n ≤ nt (bl (hi h (x + 1)) b 1)) (hq0 : allN (fun j => decide (wornN (hi h (x + 1)) b (pn + j) ≤ w) && decide (liesV (hi h (x + 1)) (nI b) (nI (pn + j)) = -1)) n = false → Q (some (.int 0)) h) (hq1 : allN (fun j => decide (wornN (hi h (x + 1)) b (pn + j) ≤ w) && decide (liesV (hi h (x + 1)) (nI b) (nI (pn + j)) = -1)) n = true → Q (some (.int 1)) h) : ∀ m k, k + m = n → (∀ j, j < k → (decide (wornN (hi h (x + 1)) b (pn + j) ≤ w) && decide (liesV (hi h (x + 1)) (nI b) (nI (pn + j)) = -1)) = true) → Rn G (d + 5) mX9_takes 47 [(0, .ref x), (1, .int (nI b)), (2, .int (nI pn)), (5, .int w), (6, .int (nI n)), (7, .int (nI (pn + k)))] [] h Q := by
  have h24 := W.1.2.2
  obtain ⟨-, ⟨e1, l1, u1⟩, -⟩ := W.2.2.1 b hb
  intro m
  induction m with
  | zero =>
    intro k hk0 hall
    refine x_iload eX9_takes_47 rfl ?_
    refine x_iload_n eX9_takes_49 rfl rfl ?_
    refine x_iload eX9_takes_50 rfl ?_
    first | refine x_iaddN eX9_takes_52 (by with_reducible rfl) (by with_reducible rfl) ?_ | refine x_iadd eX9_takes_52 ?_
    first | refine x_icmp_geN (tgt := 87) eX9_takes_53 (by decide) (by with_reducible rfl) (by with_reducible rfl) (by omega) (by omega) (fun cq1 => ?_) (fun cq1 => ?_) | refine x_icmp_ge (tgt := 87) eX9_takes_53 (by decide) (fun cq1 => ?_) (fun cq1 => ?_)
    · refine x_iconst (v := nI 1) eX9_takes_87 (by decide) ?_
      refine x_zret eX9_takes_88 rfl (by first | exact Or.inl rfl | exact Or.inr rfl | exact bI_or _ | assumption) ?_
      exact hq1 (allN_iff.mpr fun j hj => hall j (by omega))
    · exact absurd cq1 (by omega)
  | succ m ih =>
    intro k hk0 hall
    obtain ⟨⟨hx, hS, kS, nS⟩, -⟩ := id M
    refine x_iload eX9_takes_47 rfl ?_
    refine x_iload_n eX9_takes_49 rfl rfl ?_
    refine x_iload eX9_takes_50 rfl ?_
    first | refine x_iaddN eX9_takes_52 (by with_reducible rfl) (by with_reducible rfl) ?_ | refine x_iadd eX9_takes_52 ?_
    first | refine x_icmp_geN (tgt := 87) eX9_takes_53 (by decide) (by with_reducible rfl) (by with_reducible rfl) (by omega) (by omega) (fun cq1 => ?_) (fun cq1 => ?_) | refine x_icmp_ge (tgt := 87) eX9_takes_53 (by decide) (fun cq1 => ?_) (fun cq1 => ?_)
    · exact absurd cq1 (by omega)
    · first | refine x_aload_n eX9_takes_56 rfl rfl ?_ | refine x_aload_nN eX9_takes_56 rfl rfl ?_
      refine x_iload_n eX9_takes_57 rfl rfl ?_
      refine x_iload eX9_takes_58 rfl ?_
      refine x_callV2 eX9_takes_60 lk_X9_146 (by assumption) (Nat.le_of_ble_eq_true rfl) (Nat.le_of_ble_eq_true rfl) ?_
      refine Rn.deep (c_X9_wornN (d := d) M.md W hb (by omega) (fun _ => ?_)) (by omega)
      refine x_iload eX9_takes_63 rfl ?_
      first | refine x_icmp_gtN (tgt := 79) eX9_takes_65 (by decide) (by with_reducible rfl) (by with_reducible rfl) (by omega) (by omega) (fun cq2 => ?_) (fun cq2 => ?_) | refine x_icmp_gt (tgt := 79) eX9_takes_65 (by decide) (fun cq2 => ?_) (fun cq2 => ?_)
      · refine x_iconst (v := nI 0) eX9_takes_79 (by decide) ?_
        refine x_zret eX9_takes_80 rfl (by first | exact Or.inl rfl | exact Or.inr rfl | exact bI_or _ | assumption) ?_
        exact hq0 (allN_f (i := k) (by omega) (by have c2 : ¬ wornN (hi h (x + 1)) b (pn + k) ≤ w := Int32.not_le.mpr cq2; simp [c2]))
      · first | refine x_aload_n eX9_takes_68 rfl rfl ?_ | refine x_aload_nN eX9_takes_68 rfl rfl ?_
        refine x_iload_n eX9_takes_69 rfl rfl ?_
        refine x_iload eX9_takes_70 rfl ?_
        refine x_callV2 eX9_takes_72 lk_X9_149 (by assumption) (Nat.le_of_ble_eq_true rfl) (Nat.le_of_ble_eq_true rfl) ?_
        refine c_X9_lies M.md W (fun _ => ?_)
        refine x_iconst (v := (-1)) eX9_takes_75 (by decide) ?_
        first | refine x_icmp_eqN (tgt := 81) eX9_takes_76 (by decide) (by with_reducible rfl) (by with_reducible rfl) (by omega) (by omega) (fun cq3 => ?_) (fun cq3 => ?_) | refine x_icmp_eq (tgt := 81) eX9_takes_76 (by decide) (fun cq3 => ?_) (fun cq3 => ?_)
        · first | refine x_iincN eX9_takes_81 rfl (by with_reducible rfl) (by decide) rfl rfl ?_ | refine x_iinc eX9_takes_81 rfl rfl (by decide) rfl rfl ?_
          refine x_goto (tgt := 47) eX9_takes_84 (by decide) ?_
          have ok : (decide (wornN (hi h (x + 1)) b (pn + k) ≤ w) && decide (liesV (hi h (x + 1)) (nI b) (nI (pn + k)) = -1)) = true := by
            have c2 : wornN (hi h (x + 1)) b (pn + k) ≤ w := Int32.not_lt.mp cq2
            have c3 : liesV (hi h (x + 1)) (nI b) (nI (pn + k)) = -1 := cq3
            simp [c2, c3]
          refine Rn.weak (ih (k + 1) (by omega) (fun j hj => by by_cases z : j < k; exact hall j z; rw [show j = k by omega]; exact ok)) (by repeat' first | exact fun _ h => absurd h List.not_mem_nil | refine List.forall_mem_cons.mpr ⟨rfl, ?_⟩)
        · refine x_iconst (v := nI 0) eX9_takes_79 (by decide) ?_
          refine x_zret eX9_takes_80 rfl (by first | exact Or.inl rfl | exact Or.inr rfl | exact bI_or _ | assumption) ?_
          exact hq0 (allN_f (i := k) (by omega) (by have c3 : ¬ liesV (hi h (x + 1)) (nI b) (nI (pn + k)) = -1 := cq3; simp [c3]))
set_option maxRecDepth 100000 in
set_option maxHeartbeats 4000000 in
theorem c_X9_takes {b s i : Nat} {p w : Int32} (M : MD h x) (W : GW (hi h (x + 1))) (hb : b < nt (hi h (x + 1) 0)) (hs : s < nt (hi h (x + 1) 1)) (hi4 : i < 40) (hlen : isN (lenV (hi h (x + 1)) s i) 0 200000) (hq : Q (some (.int (bI (takesV (hi h (x + 1)) b p s i w)))) h) : Rn G (d + 5) mX9_takes 0 [(0, .ref x), (1, .int (nI b)), (2, .int p), (3, .int (nI s)), (4, .int (nI i)), (5, .int w)] [] h Q := by
  obtain ⟨⟨hx, hS, kS, nS⟩, -⟩ := id M
  have h24 := W.1.2.2
  have h10 := W.2.1.2.2
  have sw := W.2.2.2 s hs
  obtain ⟨-, ⟨e1, l1, u1⟩, -⟩ := W.2.2.1 b hb
  obtain ⟨el, ll, ul⟩ := hlen
  first | refine x_aload_n eX9_takes_0 rfl rfl ?_ | refine x_aload_nN eX9_takes_0 rfl rfl ?_
  refine x_iload_n eX9_takes_1 rfl rfl ?_
  refine x_iload eX9_takes_2 rfl ?_
  refine x_callV2 eX9_takes_4 lk_X9_86 (by assumption) (Nat.le_of_ble_eq_true rfl) (Nat.le_of_ble_eq_true rfl) ?_
  refine Rn.deep (c_X9_length (d := d) M.md (by omega) hi4 sw (fun _ => ?_)) (by omega)
  refine x_istore eX9_takes_7 (by decide) rfl rfl ?_
  first | refine x_aload_n eX9_takes_9 rfl rfl ?_ | refine x_aload_nN eX9_takes_9 rfl rfl ?_
  refine x_iload_n eX9_takes_10 rfl rfl ?_
  refine x_iload eX9_takes_11 rfl ?_
  refine x_callV2 eX9_takes_13 lk_X9_143 (by assumption) (Nat.le_of_ble_eq_true rfl) (Nat.le_of_ble_eq_true rfl) ?_
  refine Rn.deep (c_X9_breadth (d := d) M.md (by omega) hi4 sw (fun _ => ?_)) (by omega)
  first | refine x_aload_n eX9_takes_16 rfl rfl ?_ | refine x_aload_nN eX9_takes_16 rfl rfl ?_
  refine x_iload_n eX9_takes_17 rfl rfl ?_
  refine x_iconst (v := nI 0) eX9_takes_18 (by decide) ?_
  refine x_callV2 eX9_takes_19 lk_X9_92 (by assumption) (Nat.le_of_ble_eq_true rfl) (Nat.le_of_ble_eq_true rfl) ?_
  refine Rn.deep (c_X9_bolt (d := d) M.md (by omega) (fun _ => ?_)) (by omega)
  first | refine x_icmp_gtN (tgt := 42) eX9_takes_22 (by decide) (by with_reducible rfl) (by with_reducible rfl) (by omega) (by omega) (fun cq1 => ?_) (fun cq1 => ?_) | refine x_icmp_gt (tgt := 42) eX9_takes_22 (by decide) (fun cq1 => ?_) (fun cq1 => ?_)
  · refine x_iconst (v := nI 0) eX9_takes_42 (by decide) ?_
    refine x_zret eX9_takes_43 rfl (by first | exact Or.inl rfl | exact Or.inr rfl | exact bI_or _ | assumption) ?_
    exact qi hq (by have c1 : ¬ broV (hi h (x + 1)) s i ≤ bl (hi h (x + 1)) b 0 := Int32.not_le.mpr cq1; simp [takesV, c1]; rfl)
  · have c1 : broV (hi h (x + 1)) s i ≤ bl (hi h (x + 1)) b 0 := Int32.not_lt.mp cq1
    refine x_iload_n eX9_takes_25 rfl rfl ?_
    refine x_if_lt (tgt := 42) eX9_takes_26 (by decide) (fun cq2 => ?_) (fun cq2 => ?_)
    · refine x_iconst (v := nI 0) eX9_takes_42 (by decide) ?_
      refine x_zret eX9_takes_43 rfl (by first | exact Or.inl rfl | exact Or.inr rfl | exact bI_or _ | assumption) ?_
      exact qi hq (by have c2 : ¬ 0 ≤ p := Int32.not_le.mpr cq2; simp [takesV, c2]; rfl)
    · have c2 : 0 ≤ p := Int32.not_lt.mp cq2
      refine x_iload_n eX9_takes_29 rfl rfl ?_
      first | refine x_aload_n eX9_takes_30 rfl rfl ?_ | refine x_aload_nN eX9_takes_30 rfl rfl ?_
      refine x_iload_n eX9_takes_31 rfl rfl ?_
      refine x_iconst (v := nI 1) eX9_takes_32 (by decide) ?_
      refine x_callV2 eX9_takes_33 lk_X9_92 (by assumption) (Nat.le_of_ble_eq_true rfl) (Nat.le_of_ble_eq_true rfl) ?_
      refine Rn.deep (c_X9_bolt (d := d) M.md (by omega) (fun _ => ?_)) (by omega)
      refine x_iload eX9_takes_36 rfl ?_
      first | refine x_isubN eX9_takes_38 (by with_reducible rfl) (by with_reducible rfl) (by omega) ?_ | refine x_isub eX9_takes_38 ?_
      first | refine x_icmp_leN (tgt := 44) eX9_takes_39 (by decide) (by with_reducible rfl) (by with_reducible rfl) (by omega) (by omega) (fun cq3 => ?_) (fun cq3 => ?_) | refine x_icmp_le (tgt := 44) eX9_takes_39 (by decide) (fun cq3 => ?_) (fun cq3 => ?_)
      · have c3 : p ≤ bl (hi h (x + 1)) b 1 - lenV (hi h (x + 1)) s i := cq3
        obtain ⟨pn, p1, rfl⟩ := nI_of (Int32.not_lt.mpr c2)
        have hpn : pn + nt (lenV (hi h (x + 1)) s i) ≤ nt (bl (hi h (x + 1)) b 1) := by
          by_cases z : nt (lenV (hi h (x + 1)) s i) ≤ nt (bl (hi h (x + 1)) b 1)
          · have c4 := c3
            rw [e1, el, pk_sub z, nI_leI p1 (by omega)] at c4
            omega
          · exfalso
            have c4 := Int32.le_trans c2 c3
            rw [e1, el] at c4
            have := pk_sneg (a := nt (bl (hi h (x + 1)) b 1)) (b := nt (lenV (hi h (x + 1)) s i)) (by omega) (by omega)
            exact absurd this (Int32.not_lt.mpr c4)
        have hntp : nt (nI pn) = pn := nt_nI p1
        rw [el]
        have ev : takesV (hi h (x + 1)) b (nI pn) s i w = allN (fun j => decide (wornN (hi h (x + 1)) b (pn + j) ≤ w) && decide (liesV (hi h (x + 1)) (nI b) (nI (pn + j)) = -1)) (nt (lenV (hi h (x + 1)) s i)) := by
          rw [takesV, decide_eq_true c1, decide_eq_true c2, decide_eq_true c3, hntp]
          rfl
        refine x_iload_n eX9_takes_44 rfl rfl ?_
        refine x_istore eX9_takes_45 (by decide) rfl rfl ?_
        refine Rn.weak (l_X9_takes (s := s) (i := i) (p := nI pn) M W hb hpn (fun z => qi hq (by rw [ev, z]; rfl)) (fun z => qi hq (by rw [ev, z]; rfl)) (nt (lenV (hi h (x + 1)) s i)) 0 (by omega) (fun j hj => absurd hj (by omega))) (by repeat' first | exact fun _ h => absurd h List.not_mem_nil | refine List.forall_mem_cons.mpr ⟨rfl, ?_⟩)
      · refine x_iconst (v := nI 0) eX9_takes_42 (by decide) ?_
        refine x_zret eX9_takes_43 rfl (by first | exact Or.inl rfl | exact Or.inr rfl | exact bI_or _ | assumption) ?_
        exact qi hq (by have c3 : ¬ p ≤ bl (hi h (x + 1)) b 1 - lenV (hi h (x + 1)) s i := cq3; simp [takesV, c3]; rfl)
set_option maxRecDepth 100000 in
set_option maxHeartbeats 4000000 in
theorem c_X9_lay {s i b p w : Int32} (M : MD h x) (K : MK h x kp la) (W : GW (hi h (x + 1))) (hlen : ∀ j m, j < nt (hi h (x + 1) 1) → m < np (hi h (x + 1)) j → isN (lenV (hi h (x + 1)) j m) 0 200000) (hq0 : layOK (hi h (x + 1)) s i b p w = false → Q (some (.int 0)) h) (hq1 : layOK (hi h (x + 1)) s i b p w = true → Q (some (.int 1)) (acted h x la kp (gPut (hi h (x + 1)) (nt s) (nt i) b p))) : Rn G (d + 6) mX9_lay 0 [(0, .ref x), (1, .int s), (2, .int i), (3, .int b), (4, .int p), (5, .int w)] [] h Q := by
  obtain ⟨⟨hx, hS, kS, nS⟩, -⟩ := id M
  first | refine x_aload_n eX9_lay_0 rfl rfl ?_ | refine x_aload_nN eX9_lay_0 rfl rfl ?_
  refine x_iload_n eX9_lay_1 rfl rfl ?_
  refine x_iload_n eX9_lay_2 rfl rfl ?_
  refine x_callV2 eX9_lay_3 lk_X9_152 (by assumption) (Nat.le_of_ble_eq_true rfl) (Nat.le_of_ble_eq_true rfl) ?_
  refine Rn.deep (c_X9_isPiece (d := d) M.md W (fun _ => ?_)) (by omega)
  first | refine x_if_eqB (tgt := 56) eX9_lay_6 (by decide) (by with_reducible rfl) (fun cq1 => ?_) (fun cq1 => ?_) | refine x_if_eq (tgt := 56) eX9_lay_6 (by decide) (fun cq1 => ?_) (fun cq1 => ?_)
  · refine x_iconst (v := nI 0) eX9_lay_56 (by decide) ?_
    refine x_zret eX9_lay_57 rfl (by first | exact Or.inl rfl | exact Or.inr rfl | exact bI_or _ | assumption) ?_
    exact hq0 (by simp [layOK, cq1])
  · obtain ⟨j, m, hj, hm, rfl, rfl, hntj, hntm, hc⟩ := isPc_spec W cq1
    have h10 := W.2.1.2.2
    have hnp : np (hi h (x + 1)) j ≤ 40 := (W.2.2.2 j hj).2.2.2.2.1
    first | refine x_aload_n eX9_lay_9 rfl rfl ?_ | refine x_aload_nN eX9_lay_9 rfl rfl ?_
    refine x_iload_n eX9_lay_10 rfl rfl ?_
    refine x_callV1 eX9_lay_11 lk_X9_89 (by assumption) (Nat.le_of_ble_eq_true rfl) (Nat.le_of_ble_eq_true rfl) ?_
    refine Rn.deep (c_X9_isBolt (d := d) M.md (fun _ => ?_)) (by omega)
    first | refine x_if_eqB (tgt := 56) eX9_lay_14 (by decide) (by with_reducible rfl) (fun cq2 => ?_) (fun cq2 => ?_) | refine x_if_eq (tgt := 56) eX9_lay_14 (by decide) (fun cq2 => ?_) (fun cq2 => ?_)
    · refine x_iconst (v := nI 0) eX9_lay_56 (by decide) ?_
      refine x_zret eX9_lay_57 rfl (by first | exact Or.inl rfl | exact Or.inr rfl | exact bI_or _ | assumption) ?_
      exact hq0 (by simp [layOK, cq2])
    · obtain ⟨n, hn0, rfl⟩ := isB_spec W.1 cq2
      have h24 := W.1.2.2
      have hntn : nt (nI n) = n := nt_nI (by omega)
      refine x_iload eX9_lay_17 rfl ?_
      refine x_iconst (v := nI 0) eX9_lay_19 (by decide) ?_
      refine x_bipush (v := nI 100) eX9_lay_20 (by decide) ?_
      refine x_callS3 eX9_lay_22 lk_X9_70 (Nat.le_of_ble_eq_true rfl) (Nat.le_of_ble_eq_true rfl) ?_
      refine Rn.deep (c_X9_isIn (d := d) (fun _ => ?_)) (by omega)
      first | refine x_if_eqB (tgt := 56) eX9_lay_25 (by decide) (by with_reducible rfl) (fun cq3 => ?_) (fun cq3 => ?_) | refine x_if_eq (tgt := 56) eX9_lay_25 (by decide) (fun cq3 => ?_) (fun cq3 => ?_)
      · refine x_iconst (v := nI 0) eX9_lay_56 (by decide) ?_
        refine x_zret eX9_lay_57 rfl (by first | exact Or.inl rfl | exact Or.inr rfl | exact bI_or _ | assumption) ?_
        exact hq0 (by have c3 : inR w 0 100 = false := cq3; simp [layOK, c3])
      · have c3 : inR w 0 100 = true := cq3
        first | refine x_aload_n eX9_lay_28 rfl rfl ?_ | refine x_aload_nN eX9_lay_28 rfl rfl ?_
        refine x_iload_n eX9_lay_29 rfl rfl ?_
        refine x_sipush (v := nI 300) eX9_lay_30 (by decide) ?_
        refine x_iload_n eX9_lay_33 rfl rfl ?_
        first | refine x_iaddN eX9_lay_34 (by with_reducible rfl) (by with_reducible rfl) ?_ | refine x_iadd eX9_lay_34 ?_
        refine x_callV2 eX9_lay_35 lk_X9_57 (by assumption) (Nat.le_of_ble_eq_true rfl) (Nat.le_of_ble_eq_true rfl) ?_
        refine Rn.deep (c_X9_sail (d := d) M.md (by omega) (fun _ => ?_)) (by omega)
        refine x_iconst (v := (-1)) eX9_lay_38 (by decide) ?_
        first | refine x_icmp_neN (tgt := 56) eX9_lay_39 (by decide) (by with_reducible rfl) (by with_reducible rfl) (by omega) (by omega) (fun cq4 => ?_) (fun cq4 => ?_) | refine x_icmp_ne (tgt := 56) eX9_lay_39 (by decide) (fun cq4 => ?_) (fun cq4 => ?_)
        · refine x_iconst (v := nI 0) eX9_lay_56 (by decide) ?_
          refine x_zret eX9_lay_57 rfl (by first | exact Or.inl rfl | exact Or.inr rfl | exact bI_or _ | assumption) ?_
          exact hq0 (by have c4 : ¬ sl (hi h (x + 1)) j (300 + m) = -1 := cq4; simp [layOK, hntj, hntm, c4])
        · have c4 : sl (hi h (x + 1)) j (300 + m) = -1 := cq4
          first | refine x_aload_n eX9_lay_42 rfl rfl ?_ | refine x_aload_nN eX9_lay_42 rfl rfl ?_
          refine x_iload_n eX9_lay_43 rfl rfl ?_
          refine x_iload eX9_lay_44 rfl ?_
          refine x_iload_n eX9_lay_46 rfl rfl ?_
          refine x_iload_n eX9_lay_47 rfl rfl ?_
          refine x_iload eX9_lay_48 rfl ?_
          refine x_callV5 eX9_lay_50 lk_X9_155 (by assumption) (Nat.le_of_ble_eq_true rfl) (Nat.le_of_ble_eq_true rfl) ?_
          refine c_X9_takes M W hn0 hj (by omega) (hlen j m hj hm) (fun _ => ?_)
          first | refine x_if_neB (tgt := 58) eX9_lay_53 (by decide) (by with_reducible rfl) (fun cq5 => ?_) (fun cq5 => ?_) | refine x_if_ne (tgt := 58) eX9_lay_53 (by decide) (fun cq5 => ?_) (fun cq5 => ?_)
          · first | refine x_aload_n eX9_lay_58 rfl rfl ?_ | refine x_aload_nN eX9_lay_58 rfl rfl ?_
            refine x_callV0 eX9_lay_59 lk_X9_75 (by assumption) (Nat.le_of_ble_eq_true rfl) (Nat.le_of_ble_eq_true rfl) ?_
            refine Rn.deep (c_X9_act (d := d) M K (fun _ => ?_)) (by omega)
            have hx2 : hk (acted h x la kp (hi h (x + 1))) x = 8 := hx
            first | refine x_aload_n eX9_lay_62 rfl rfl ?_ | refine x_aload_nN eX9_lay_62 rfl rfl ?_
            refine x_iload_n eX9_lay_63 rfl rfl ?_
            refine x_iload_n eX9_lay_64 rfl rfl ?_
            refine x_iload_n eX9_lay_65 rfl rfl ?_
            refine x_iload eX9_lay_66 rfl ?_
            refine x_callV4 eX9_lay_68 lk_X9_159 (by assumption) (Nat.le_of_ble_eq_true rfl) (Nat.le_of_ble_eq_true rfl) ?_
            refine Rn.deep (c_X9_put (d := d) M (by omega) (by omega) (fun _ => ?_)) (by omega)
            refine x_iconst (v := nI 1) eX9_lay_71 (by decide) ?_
            refine x_zret eX9_lay_72 rfl (by first | exact Or.inl rfl | exact Or.inr rfl | exact bI_or _ | assumption) ?_
            have q1 := hq1 (by rw [layOK, cq1, cq2, hntj, hntm, hntn, c3, decide_eq_true c4, cq5]; rfl)
            rw [hntj, hntm] at q1
            exact q1
          · refine x_iconst (v := nI 0) eX9_lay_56 (by decide) ?_
            refine x_zret eX9_lay_57 rfl (by first | exact Or.inl rfl | exact Or.inr rfl | exact bI_or _ | assumption) ?_
            exact hq0 (by rw [layOK, hntj, hntm, hntn, cq5]; simp)
set_option maxRecDepth 100000 in
set_option maxHeartbeats 4000000 in
theorem c_X9_lift {s i : Int32} (M : MD h x) (K : MK h x kp la) (W : GW (hi h (x + 1))) (hq0 : liftOK (hi h (x + 1)) s i = false → Q (some (.int 0)) h) (hq1 : liftOK (hi h (x + 1)) s i = true → Q (some (.int 1)) (acted h x la kp (gPut (hi h (x + 1)) (nt s) (nt i) (-1) (-1)))) : Rn G (d + 3) mX9_lift 0 [(0, .ref x), (1, .int s), (2, .int i)] [] h Q := by
  obtain ⟨⟨hx, hS, kS, nS⟩, -⟩ := id M
  first | refine x_aload_n eX9_lift_0 rfl rfl ?_ | refine x_aload_nN eX9_lift_0 rfl rfl ?_
  refine x_iload_n eX9_lift_1 rfl rfl ?_
  refine x_iload_n eX9_lift_2 rfl rfl ?_
  refine x_callV2 eX9_lift_3 lk_X9_152 (by assumption) (Nat.le_of_ble_eq_true rfl) (Nat.le_of_ble_eq_true rfl) ?_
  refine c_X9_isPiece M.md W (fun _ => ?_)
  first | refine x_if_eqB (tgt := 23) eX9_lift_6 (by decide) (by with_reducible rfl) (fun cq1 => ?_) (fun cq1 => ?_) | refine x_if_eq (tgt := 23) eX9_lift_6 (by decide) (fun cq1 => ?_) (fun cq1 => ?_)
  · refine x_iconst (v := nI 0) eX9_lift_23 (by decide) ?_
    refine x_zret eX9_lift_24 rfl (by first | exact Or.inl rfl | exact Or.inr rfl | exact bI_or _ | assumption) ?_
    exact hq0 (by simp [liftOK, cq1])
  · obtain ⟨j, m, hj, hm, rfl, rfl, hntj, hntm, hc⟩ := isPc_spec W cq1
    have h10 := W.2.1.2.2
    have hnp : np (hi h (x + 1)) j ≤ 40 := (W.2.2.2 j hj).2.2.2.2.1
    first | refine x_aload_n eX9_lift_9 rfl rfl ?_ | refine x_aload_nN eX9_lift_9 rfl rfl ?_
    refine x_iload_n eX9_lift_10 rfl rfl ?_
    refine x_sipush (v := nI 300) eX9_lift_11 (by decide) ?_
    refine x_iload_n eX9_lift_14 rfl rfl ?_
    first | refine x_iaddN eX9_lift_15 (by with_reducible rfl) (by with_reducible rfl) ?_ | refine x_iadd eX9_lift_15 ?_
    refine x_callV2 eX9_lift_16 lk_X9_57 (by assumption) (Nat.le_of_ble_eq_true rfl) (Nat.le_of_ble_eq_true rfl) ?_
    refine Rn.deep (c_X9_sail (d := d) M.md (by omega) (fun _ => ?_)) (by omega)
    refine x_iconst (v := (-1)) eX9_lift_19 (by decide) ?_
    first | refine x_icmp_neN (tgt := 25) eX9_lift_20 (by decide) (by with_reducible rfl) (by with_reducible rfl) (by omega) (by omega) (fun cq2 => ?_) (fun cq2 => ?_) | refine x_icmp_ne (tgt := 25) eX9_lift_20 (by decide) (fun cq2 => ?_) (fun cq2 => ?_)
    · have c4 : ¬ sl (hi h (x + 1)) j (300 + m) = -1 := cq2
      first | refine x_aload_n eX9_lift_25 rfl rfl ?_ | refine x_aload_nN eX9_lift_25 rfl rfl ?_
      refine x_callV0 eX9_lift_26 lk_X9_75 (by assumption) (Nat.le_of_ble_eq_true rfl) (Nat.le_of_ble_eq_true rfl) ?_
      refine Rn.deep (c_X9_act (d := d) M K (fun _ => ?_)) (by omega)
      have hx2 : hk (acted h x la kp (hi h (x + 1))) x = 8 := hx
      first | refine x_aload_n eX9_lift_29 rfl rfl ?_ | refine x_aload_nN eX9_lift_29 rfl rfl ?_
      refine x_iload_n eX9_lift_30 rfl rfl ?_
      refine x_iload_n eX9_lift_31 rfl rfl ?_
      refine x_iconst (v := (-1)) eX9_lift_32 (by decide) ?_
      refine x_iconst (v := (-1)) eX9_lift_33 (by decide) ?_
      refine x_callV4 eX9_lift_34 lk_X9_159 (by assumption) (Nat.le_of_ble_eq_true rfl) (Nat.le_of_ble_eq_true rfl) ?_
      refine Rn.deep (c_X9_put (d := d) M (by omega) (by omega) (fun _ => ?_)) (by omega)
      refine x_iconst (v := nI 1) eX9_lift_37 (by decide) ?_
      refine x_zret eX9_lift_38 rfl (by first | exact Or.inl rfl | exact Or.inr rfl | exact bI_or _ | assumption) ?_
      have q1 := hq1 (by rw [liftOK, cq1, hntj, hntm, decide_eq_false c4]; rfl)
      rw [hntj, hntm] at q1
      exact q1
    · refine x_iconst (v := nI 0) eX9_lift_23 (by decide) ?_
      refine x_zret eX9_lift_24 rfl (by first | exact Or.inl rfl | exact Or.inr rfl | exact bI_or _ | assumption) ?_
      exact hq0 (by have c4 : sl (hi h (x + 1)) j (300 + m) = -1 := cq2; simp [liftOK, hntj, hntm, c4])
set_option maxRecDepth 100000 in
set_option maxHeartbeats 4000000 in
theorem c_X9_set {s z : Int32} (M : MD h x) (K : MK h x kp la) (W : GW (hi h (x + 1))) (hq0 : setOK (hi h (x + 1)) s z = false → Q (some (.int 0)) h) (hq1 : setOK (hi h (x + 1)) s z = true → Q (some (.int 1)) (acted h x la kp (gSet (hi h (x + 1)) (nt s) z))) : Rn G (d + 2) mX9_set 0 [(0, .ref x), (1, .int s), (2, .int z)] [] h Q := by
  obtain ⟨⟨hx, hS, kS, nS⟩, -⟩ := id M
  first | refine x_aload_n eX9_set_0 rfl rfl ?_ | refine x_aload_nN eX9_set_0 rfl rfl ?_
  refine x_iload_n eX9_set_1 rfl rfl ?_
  refine x_callV1 eX9_set_2 lk_X9_137 (by assumption) (Nat.le_of_ble_eq_true rfl) (Nat.le_of_ble_eq_true rfl) ?_
  refine c_X9_isCut M.md W.2.1 (fun _ => ?_)
  first | refine x_if_eqB (tgt := 27) eX9_set_5 (by decide) (by with_reducible rfl) (fun cq1 => ?_) (fun cq1 => ?_) | refine x_if_eq (tgt := 27) eX9_set_5 (by decide) (fun cq1 => ?_) (fun cq1 => ?_)
  · refine x_iconst (v := nI 0) eX9_set_27 (by decide) ?_
    refine x_zret eX9_set_28 rfl (by first | exact Or.inl rfl | exact Or.inr rfl | exact bI_or _ | assumption) ?_
    exact hq0 (by simp [setOK, cq1])
  · obtain ⟨j, hj, rfl⟩ := isS_spec W.2.1 (isC_S cq1)
    have h10 := W.2.1.2.2
    have hnt : nt (nI j) = j := nt_nI (by omega)
    have hx2 : hk (acted h x la kp (hi h (x + 1))) x = 8 := hx
    first | refine x_aload_n eX9_set_8 rfl rfl ?_ | refine x_aload_nN eX9_set_8 rfl rfl ?_
    refine x_iload_n eX9_set_9 rfl rfl ?_
    refine x_bipush (v := nI 11) eX9_set_10 (by decide) ?_
    refine x_callV2 eX9_set_12 lk_X9_57 (by assumption) (Nat.le_of_ble_eq_true rfl) (Nat.le_of_ble_eq_true rfl) ?_
    refine Rn.deep (c_X9_sail (d := d) M.md (by omega) (fun _ => ?_)) (by omega)
    refine x_iload_n eX9_set_15 rfl rfl ?_
    first | refine x_if_eqB (tgt := 23) eX9_set_16 (by decide) (by with_reducible rfl) (fun cq2 => ?_) (fun cq2 => ?_) | refine x_if_eq (tgt := 23) eX9_set_16 (by decide) (fun cq2 => ?_) (fun cq2 => ?_)
    · have c2 : z = 0 := cq2
      refine x_iconst (v := nI 0) eX9_set_23 (by decide) ?_
      first | refine x_icmp_neN (tgt := 29) eX9_set_24 (by decide) (by with_reducible rfl) (by with_reducible rfl) (by omega) (by omega) (fun cq3 => ?_) (fun cq3 => ?_) | refine x_icmp_ne (tgt := 29) eX9_set_24 (by decide) (fun cq3 => ?_) (fun cq3 => ?_)
      · have c3 : ¬ sl (hi h (x + 1)) j 11 = 0 := cq3
        first | refine x_aload_n eX9_set_29 rfl rfl ?_ | refine x_aload_nN eX9_set_29 rfl rfl ?_
        refine x_callV0 eX9_set_30 lk_X9_75 (by assumption) (Nat.le_of_ble_eq_true rfl) (Nat.le_of_ble_eq_true rfl) ?_
        refine c_X9_act M K (fun _ => ?_)
        first | refine x_aload_n eX9_set_33 rfl rfl ?_ | refine x_aload_nN eX9_set_33 rfl rfl ?_
        refine x_iload_n eX9_set_34 rfl rfl ?_
        refine x_bipush (v := nI 11) eX9_set_35 (by decide) ?_
        refine x_iload_n eX9_set_37 rfl rfl ?_
        first | refine x_if_eqB (tgt := 45) eX9_set_38 (by decide) (by with_reducible rfl) (fun cq4 => ?_) (fun cq4 => ?_) | refine x_if_eq (tgt := 45) eX9_set_38 (by decide) (fun cq4 => ?_) (fun cq4 => ?_)
        · refine x_iconst (v := nI 0) eX9_set_45 (by decide) ?_
          refine x_callV3 eX9_set_46 lk_X9_101 (by assumption) (Nat.le_of_ble_eq_true rfl) (Nat.le_of_ble_eq_true rfl) ?_
          refine Rn.deep (c_X9_putSail (d := d) (M.acted la kp _).md (by omega) (fun _ => ?_)) (by omega)
          rw [acted_wi]
          refine x_iconst (v := nI 1) eX9_set_49 (by decide) ?_
          refine x_zret eX9_set_50 rfl (by first | exact Or.inl rfl | exact Or.inr rfl | exact bI_or _ | assumption) ?_
          have q1 := hq1 (by rw [setOK, cq1, hnt, if_pos c2, decide_eq_false c3]; rfl)
          rw [hnt, gSet, if_pos c2] at q1
          exact q1
        · exact absurd c2 cq4
      · refine x_iconst (v := nI 0) eX9_set_27 (by decide) ?_
        refine x_zret eX9_set_28 rfl (by first | exact Or.inl rfl | exact Or.inr rfl | exact bI_or _ | assumption) ?_
        exact hq0 (by have c3 : sl (hi h (x + 1)) j 11 = 0 := cq3; simp [setOK, hnt, c2, c3])
    · have c2 : ¬ z = 0 := cq2
      refine x_iconst (v := nI 1) eX9_set_19 (by decide) ?_
      refine x_goto (tgt := 24) eX9_set_20 (by decide) ?_
      first | refine x_icmp_neN (tgt := 29) eX9_set_24 (by decide) (by with_reducible rfl) (by with_reducible rfl) (by omega) (by omega) (fun cq5 => ?_) (fun cq5 => ?_) | refine x_icmp_ne (tgt := 29) eX9_set_24 (by decide) (fun cq5 => ?_) (fun cq5 => ?_)
      · have c3 : ¬ sl (hi h (x + 1)) j 11 = 1 := cq5
        first | refine x_aload_n eX9_set_29 rfl rfl ?_ | refine x_aload_nN eX9_set_29 rfl rfl ?_
        refine x_callV0 eX9_set_30 lk_X9_75 (by assumption) (Nat.le_of_ble_eq_true rfl) (Nat.le_of_ble_eq_true rfl) ?_
        refine c_X9_act M K (fun _ => ?_)
        first | refine x_aload_n eX9_set_33 rfl rfl ?_ | refine x_aload_nN eX9_set_33 rfl rfl ?_
        refine x_iload_n eX9_set_34 rfl rfl ?_
        refine x_bipush (v := nI 11) eX9_set_35 (by decide) ?_
        refine x_iload_n eX9_set_37 rfl rfl ?_
        first | refine x_if_eqB (tgt := 45) eX9_set_38 (by decide) (by with_reducible rfl) (fun cq6 => ?_) (fun cq6 => ?_) | refine x_if_eq (tgt := 45) eX9_set_38 (by decide) (fun cq6 => ?_) (fun cq6 => ?_)
        · exact absurd cq6 c2
        · refine x_iconst (v := nI 1) eX9_set_41 (by decide) ?_
          refine x_goto (tgt := 46) eX9_set_42 (by decide) ?_
          refine x_callV3 eX9_set_46 lk_X9_101 (by assumption) (Nat.le_of_ble_eq_true rfl) (Nat.le_of_ble_eq_true rfl) ?_
          refine Rn.deep (c_X9_putSail (d := d) (M.acted la kp _).md (by omega) (fun _ => ?_)) (by omega)
          rw [acted_wi]
          refine x_iconst (v := nI 1) eX9_set_49 (by decide) ?_
          refine x_zret eX9_set_50 rfl (by first | exact Or.inl rfl | exact Or.inr rfl | exact bI_or _ | assumption) ?_
          have q1 := hq1 (by rw [setOK, cq1, hnt, if_neg c2, decide_eq_false c3]; rfl)
          rw [hnt, gSet, if_neg c2] at q1
          exact q1
      · refine x_iconst (v := nI 0) eX9_set_27 (by decide) ?_
        refine x_zret eX9_set_28 rfl (by first | exact Or.inl rfl | exact Or.inr rfl | exact bI_or _ | assumption) ?_
        exact hq0 (by have c3 : sl (hi h (x + 1)) j 11 = 1 := cq5; simp [setOK, hnt, c2, c3])
set_option maxRecDepth 100000 in
set_option maxHeartbeats 4000000 in
theorem c_X9_reef {s y : Int32} (M : MD h x) (K : MK h x kp la) (W : GW (hi h (x + 1))) (hq0 : reefOK (hi h (x + 1)) s y = false → Q (some (.int 0)) h) (hq1 : reefOK (hi h (x + 1)) s y = true → Q (some (.int 1)) (acted h x la kp (gReef (hi h (x + 1)) (nt s) y))) : Rn G (d + 2) mX9_reef 0 [(0, .ref x), (1, .int s), (2, .int y)] [] h Q := by
  obtain ⟨⟨hx, hS, kS, nS⟩, -⟩ := id M
  first | refine x_aload_n eX9_reef_0 rfl rfl ?_ | refine x_aload_nN eX9_reef_0 rfl rfl ?_
  refine x_iload_n eX9_reef_1 rfl rfl ?_
  refine x_callV1 eX9_reef_2 lk_X9_137 (by assumption) (Nat.le_of_ble_eq_true rfl) (Nat.le_of_ble_eq_true rfl) ?_
  refine c_X9_isCut M.md W.2.1 (fun _ => ?_)
  first | refine x_if_eqB (tgt := 33) eX9_reef_5 (by decide) (by with_reducible rfl) (fun cq1 => ?_) (fun cq1 => ?_) | refine x_if_eq (tgt := 33) eX9_reef_5 (by decide) (fun cq1 => ?_) (fun cq1 => ?_)
  · refine x_iconst (v := nI 0) eX9_reef_33 (by decide) ?_
    refine x_zret eX9_reef_34 rfl (by first | exact Or.inl rfl | exact Or.inr rfl | exact bI_or _ | assumption) ?_
    exact hq0 (by simp [reefOK, cq1])
  · obtain ⟨j, hj, rfl⟩ := isS_spec W.2.1 (isC_S cq1)
    have h10 := W.2.1.2.2
    have hnt : nt (nI j) = j := nt_nI (by omega)
    have hx2 : hk (acted h x la kp (hi h (x + 1))) x = 8 := hx
    refine x_iload_n eX9_reef_8 rfl rfl ?_
    refine x_iconst (v := nI 0) eX9_reef_9 (by decide) ?_
    first | refine x_aload_n eX9_reef_10 rfl rfl ?_ | refine x_aload_nN eX9_reef_10 rfl rfl ?_
    refine x_iload_n eX9_reef_11 rfl rfl ?_
    refine x_iconst (v := nI 5) eX9_reef_12 (by decide) ?_
    refine x_callV2 eX9_reef_13 lk_X9_57 (by assumption) (Nat.le_of_ble_eq_true rfl) (Nat.le_of_ble_eq_true rfl) ?_
    refine Rn.deep (c_X9_sail (d := d) M.md (by omega) (fun _ => ?_)) (by omega)
    refine x_callS3 eX9_reef_16 lk_X9_70 (Nat.le_of_ble_eq_true rfl) (Nat.le_of_ble_eq_true rfl) ?_
    refine Rn.deep (c_X9_isIn (d := d) (fun _ => ?_)) (by omega)
    first | refine x_if_eqB (tgt := 33) eX9_reef_19 (by decide) (by with_reducible rfl) (fun cq2 => ?_) (fun cq2 => ?_) | refine x_if_eq (tgt := 33) eX9_reef_19 (by decide) (fun cq2 => ?_) (fun cq2 => ?_)
    · refine x_iconst (v := nI 0) eX9_reef_33 (by decide) ?_
      refine x_zret eX9_reef_34 rfl (by first | exact Or.inl rfl | exact Or.inr rfl | exact bI_or _ | assumption) ?_
      exact hq0 (by have c2 : inR y 0 (sl (hi h (x + 1)) j 5) = false := cq2; simp [reefOK, hnt, c2])
    · have c2 : inR y 0 (sl (hi h (x + 1)) j 5) = true := cq2
      first | refine x_aload_n eX9_reef_22 rfl rfl ?_ | refine x_aload_nN eX9_reef_22 rfl rfl ?_
      refine x_iload_n eX9_reef_23 rfl rfl ?_
      refine x_bipush (v := nI 10) eX9_reef_24 (by decide) ?_
      refine x_callV2 eX9_reef_26 lk_X9_57 (by assumption) (Nat.le_of_ble_eq_true rfl) (Nat.le_of_ble_eq_true rfl) ?_
      refine Rn.deep (c_X9_sail (d := d) M.md (by omega) (fun _ => ?_)) (by omega)
      refine x_iload_n eX9_reef_29 rfl rfl ?_
      first | refine x_icmp_neN (tgt := 35) eX9_reef_30 (by decide) (by with_reducible rfl) (by with_reducible rfl) (by omega) (by omega) (fun cq3 => ?_) (fun cq3 => ?_) | refine x_icmp_ne (tgt := 35) eX9_reef_30 (by decide) (fun cq3 => ?_) (fun cq3 => ?_)
      · have c3 : ¬ sl (hi h (x + 1)) j 10 = y := cq3
        first | refine x_aload_n eX9_reef_35 rfl rfl ?_ | refine x_aload_nN eX9_reef_35 rfl rfl ?_
        refine x_callV0 eX9_reef_36 lk_X9_75 (by assumption) (Nat.le_of_ble_eq_true rfl) (Nat.le_of_ble_eq_true rfl) ?_
        refine c_X9_act M K (fun _ => ?_)
        first | refine x_aload_n eX9_reef_39 rfl rfl ?_ | refine x_aload_nN eX9_reef_39 rfl rfl ?_
        refine x_iload_n eX9_reef_40 rfl rfl ?_
        refine x_bipush (v := nI 10) eX9_reef_41 (by decide) ?_
        refine x_iload_n eX9_reef_43 rfl rfl ?_
        refine x_callV3 eX9_reef_44 lk_X9_101 (by assumption) (Nat.le_of_ble_eq_true rfl) (Nat.le_of_ble_eq_true rfl) ?_
        refine Rn.deep (c_X9_putSail (d := d) (M.acted la kp _).md (by omega) (fun _ => ?_)) (by omega)
        rw [acted_wi]
        refine x_iconst (v := nI 1) eX9_reef_47 (by decide) ?_
        refine x_zret eX9_reef_48 rfl (by first | exact Or.inl rfl | exact Or.inr rfl | exact bI_or _ | assumption) ?_
        have q1 := hq1 (by rw [reefOK, cq1, hnt, c2, decide_eq_false c3]; rfl)
        rw [hnt] at q1
        exact q1
      · refine x_iconst (v := nI 0) eX9_reef_33 (by decide) ?_
        refine x_zret eX9_reef_34 rfl (by first | exact Or.inl rfl | exact Or.inr rfl | exact bI_or _ | assumption) ?_
        exact hq0 (by have c3 : sl (hi h (x + 1)) j 10 = y := cq3; simp [reefOK, hnt, c3])
set_option maxRecDepth 100000 in
set_option maxHeartbeats 4000000 in
theorem c_X9_line {s y : Int32} (M : MD h x) (K : MK h x kp la) (W : GW (hi h (x + 1))) (hq0 : lineOK (hi h (x + 1)) s y = false → Q (some (.int (-1))) h) (hq1 : lineOK (hi h (x + 1)) s y = true → Q (some (.int (nI (nt (sl (hi h (x + 1)) (nt s) 12) + 1)))) (acted h x la kp (gLine (hi h (x + 1)) (nt s) y))) : Rn G (d + 2) mX9_line 0 [(0, .ref x), (1, .int s), (2, .int y)] [] h Q := by
  obtain ⟨⟨hx, hS, kS, nS⟩, -⟩ := id M
  first | refine x_aload_n eX9_line_0 rfl rfl ?_ | refine x_aload_nN eX9_line_0 rfl rfl ?_
  refine x_iload_n eX9_line_1 rfl rfl ?_
  refine x_callV1 eX9_line_2 lk_X9_53 (by assumption) (Nat.le_of_ble_eq_true rfl) (Nat.le_of_ble_eq_true rfl) ?_
  refine Rn.deep (c_X9_isSail (d := d) M.md (fun _ => ?_)) (by omega)
  first | refine x_if_eqB (tgt := 18) eX9_line_5 (by decide) (by with_reducible rfl) (fun cq1 => ?_) (fun cq1 => ?_) | refine x_if_eq (tgt := 18) eX9_line_5 (by decide) (fun cq1 => ?_) (fun cq1 => ?_)
  · refine x_iconst (v := (-1)) eX9_line_18 (by decide) ?_
    refine x_iret eX9_line_19 rfl ?_
    exact hq0 (by simp [lineOK, cq1])
  · obtain ⟨j, hj, rfl⟩ := isS_spec W.2.1 cq1
    have h10 := W.2.1.2.2
    have hnt : nt (nI j) = j := nt_nI (by omega)
    have hx2 : hk (acted h x la kp (hi h (x + 1))) x = 8 := hx
    obtain ⟨-, -, -, -, -, -, -, -, -, -, ⟨e12, l12, u12⟩, -⟩ := W.2.2.2 j hj
    have fin : lineOK (hi h (x + 1)) (nI j) y = true → Rn G (d + 2) mX9_line 68 [(0, .ref x), (1, .int (nI j)), (2, .int y), (3, .int (nI (nt (sl (hi h (x + 1)) j 12))))] [] h Q := by
      intro hok
      have q1 := hq1 hok
      rw [hnt] at q1
      first | refine x_aload_n eX9_line_68 rfl rfl ?_ | refine x_aload_nN eX9_line_68 rfl rfl ?_
      refine x_callV0 eX9_line_69 lk_X9_75 (by assumption) (Nat.le_of_ble_eq_true rfl) (Nat.le_of_ble_eq_true rfl) ?_
      refine c_X9_act M K (fun _ => ?_)
      first | refine x_aload_n eX9_line_72 rfl rfl ?_ | refine x_aload_nN eX9_line_72 rfl rfl ?_
      refine x_iload_n eX9_line_73 rfl rfl ?_
      refine x_bipush (v := nI 13) eX9_line_74 (by decide) ?_
      refine x_iload_n eX9_line_76 rfl rfl ?_
      first | refine x_iaddN eX9_line_77 (by with_reducible rfl) (by with_reducible rfl) ?_ | refine x_iadd eX9_line_77 ?_
      refine x_iload_n eX9_line_78 rfl rfl ?_
      refine x_callV3 eX9_line_79 lk_X9_101 (by assumption) (Nat.le_of_ble_eq_true rfl) (Nat.le_of_ble_eq_true rfl) ?_
      refine Rn.deep (c_X9_putSail (d := d) (M.acted la kp _).md (by omega) (fun _ => ?_)) (by omega)
      rw [acted_wi]
      have hx3 : hk (acted h x la kp (upd0 (hi h (x + 1)) (5050 + 390 * j + (13 + nt (sl (hi h (x + 1)) j 12))) y)) x = 8 := hx
      first | refine x_aload_n eX9_line_82 rfl rfl ?_ | refine x_aload_nN eX9_line_82 rfl rfl ?_
      refine x_iload_n eX9_line_83 rfl rfl ?_
      refine x_bipush (v := nI 12) eX9_line_84 (by decide) ?_
      refine x_iload_n eX9_line_86 rfl rfl ?_
      refine x_iconst (v := nI 1) eX9_line_87 (by decide) ?_
      first | refine x_iaddN eX9_line_88 (by with_reducible rfl) (by with_reducible rfl) ?_ | refine x_iadd eX9_line_88 ?_
      refine x_callV3 eX9_line_89 lk_X9_101 (by assumption) (Nat.le_of_ble_eq_true rfl) (Nat.le_of_ble_eq_true rfl) ?_
      refine Rn.deep (c_X9_putSail (d := d) (M.acted la kp _).md (by omega) (fun _ => ?_)) (by omega)
      rw [acted_wi]
      refine x_iload_n eX9_line_92 rfl rfl ?_
      refine x_iconst (v := nI 1) eX9_line_93 (by decide) ?_
      first | refine x_iaddN eX9_line_94 (by with_reducible rfl) (by with_reducible rfl) ?_ | refine x_iadd eX9_line_94 ?_
      refine x_iret eX9_line_95 rfl ?_
      exact q1
    first | refine x_aload_n eX9_line_8 rfl rfl ?_ | refine x_aload_nN eX9_line_8 rfl rfl ?_
    refine x_iload_n eX9_line_9 rfl rfl ?_
    refine x_iconst (v := nI 0) eX9_line_10 (by decide) ?_
    refine x_callV2 eX9_line_11 lk_X9_57 (by assumption) (Nat.le_of_ble_eq_true rfl) (Nat.le_of_ble_eq_true rfl) ?_
    refine Rn.deep (c_X9_sail (d := d) M.md (by omega) (fun _ => ?_)) (by omega)
    refine x_iconst (v := nI 2) eX9_line_14 (by decide) ?_
    first | refine x_icmp_neN (tgt := 20) eX9_line_15 (by decide) (by with_reducible rfl) (by with_reducible rfl) (by omega) (by omega) (fun cq1 => ?_) (fun cq1 => ?_) | refine x_icmp_ne (tgt := 20) eX9_line_15 (by decide) (fun cq1 => ?_) (fun cq1 => ?_)
    · have c2 : ¬ sl (hi h (x + 1)) j 0 = 2 := cq1
      first | refine x_aload_n eX9_line_20 rfl rfl ?_ | refine x_aload_nN eX9_line_20 rfl rfl ?_
      refine x_iload_n eX9_line_21 rfl rfl ?_
      refine x_bipush (v := nI 12) eX9_line_22 (by decide) ?_
      refine x_callV2 eX9_line_24 lk_X9_57 (by assumption) (Nat.le_of_ble_eq_true rfl) (Nat.le_of_ble_eq_true rfl) ?_
      refine Rn.deep (c_X9_sail (d := d) M.md (by omega) (fun _ => ?_)) (by omega)
      rw [e12]
      refine x_istore_n eX9_line_27 rfl (by decide) rfl rfl ?_
      refine x_iload_n eX9_line_28 rfl rfl ?_
      refine x_iconst (v := nI 1) eX9_line_29 (by decide) ?_
      first | refine x_aload_n eX9_line_30 rfl rfl ?_ | refine x_aload_nN eX9_line_30 rfl rfl ?_
      refine x_iload_n eX9_line_31 rfl rfl ?_
      refine x_iconst (v := nI 5) eX9_line_32 (by decide) ?_
      refine x_callV2 eX9_line_33 lk_X9_57 (by assumption) (Nat.le_of_ble_eq_true rfl) (Nat.le_of_ble_eq_true rfl) ?_
      refine Rn.deep (c_X9_sail (d := d) M.md (by omega) (fun _ => ?_)) (by omega)
      refine x_callS3 eX9_line_36 lk_X9_70 (Nat.le_of_ble_eq_true rfl) (Nat.le_of_ble_eq_true rfl) ?_
      refine Rn.deep (c_X9_isIn (d := d) (fun _ => ?_)) (by omega)
      first | refine x_if_eqB (tgt := 66) eX9_line_39 (by decide) (by with_reducible rfl) (fun cq2 => ?_) (fun cq2 => ?_) | refine x_if_eq (tgt := 66) eX9_line_39 (by decide) (fun cq2 => ?_) (fun cq2 => ?_)
      · refine x_iconst (v := (-1)) eX9_line_66 (by decide) ?_
        refine x_iret eX9_line_67 rfl ?_
        exact hq0 (by have c3 : inR y 1 (sl (hi h (x + 1)) j 5) = false := cq2; simp [lineOK, hnt, c3])
      · have c3 : inR y 1 (sl (hi h (x + 1)) j 5) = true := cq2
        refine x_iload_n eX9_line_42 rfl rfl ?_
        refine x_iconst (v := nI 3) eX9_line_43 (by decide) ?_
        first | refine x_icmp_eqN (tgt := 66) eX9_line_44 (by decide) (by with_reducible rfl) (by with_reducible rfl) (by omega) (by omega) (fun cq3 => ?_) (fun cq3 => ?_) | refine x_icmp_eq (tgt := 66) eX9_line_44 (by decide) (fun cq3 => ?_) (fun cq3 => ?_)
        · refine x_iconst (v := (-1)) eX9_line_66 (by decide) ?_
          refine x_iret eX9_line_67 rfl ?_
          exact hq0 (by have c4 : sl (hi h (x + 1)) j 12 = 3 := by rw [e12, cq3]; rfl
                        simp [lineOK, hnt, c4])
        · have c4 : ¬ sl (hi h (x + 1)) j 12 = 3 := fun z => cq3 (by rw [z]; decide)
          refine x_iload_n eX9_line_47 rfl rfl ?_
          refine x_if_le (tgt := 68) eX9_line_48 (by decide) (fun cq4 => ?_) (fun cq4 => ?_)
          · have c5 : sl (hi h (x + 1)) j 12 ≤ 0 := by rw [e12]; exact cq4
            refine Rn.weak (fin (by rw [lineOK, ‹isS (hi h (x + 1)) (nI j) = true›, hnt, decide_eq_false c2, c3, decide_eq_false c4, decide_eq_true c5]; rfl)) (by repeat' first | exact fun _ h => absurd h List.not_mem_nil | refine List.forall_mem_cons.mpr ⟨rfl, ?_⟩)
          · have c5 : ¬ sl (hi h (x + 1)) j 12 ≤ 0 := by rw [e12]; exact cq4
            have hpos : 0 < nt (sl (hi h (x + 1)) j 12) := Nat.pos_of_ne_zero (fun z => cq4 (by rw [z]; decide))
            refine x_iload_n eX9_line_51 rfl rfl ?_
            first | refine x_aload_n eX9_line_52 rfl rfl ?_ | refine x_aload_nN eX9_line_52 rfl rfl ?_
            refine x_iload_n eX9_line_53 rfl rfl ?_
            refine x_bipush (v := nI 13) eX9_line_54 (by decide) ?_
            refine x_iload_n eX9_line_56 rfl rfl ?_
            first | refine x_iaddN eX9_line_57 (by with_reducible rfl) (by with_reducible rfl) ?_ | refine x_iadd eX9_line_57 ?_
            refine x_iconst (v := nI 1) eX9_line_58 (by decide) ?_
            first | refine x_isubN eX9_line_59 (by with_reducible rfl) (by with_reducible rfl) (by omega) ?_ | refine x_isub eX9_line_59 ?_
            refine x_callV2 eX9_line_60 lk_X9_57 (by assumption) (Nat.le_of_ble_eq_true rfl) (Nat.le_of_ble_eq_true rfl) ?_
            refine Rn.deep (c_X9_sail (d := d) M.md (by omega) (fun _ => ?_)) (by omega)
            first | refine x_icmp_gtN (tgt := 68) eX9_line_63 (by decide) (by with_reducible rfl) (by with_reducible rfl) (by omega) (by omega) (fun cq5 => ?_) (fun cq5 => ?_) | refine x_icmp_gt (tgt := 68) eX9_line_63 (by decide) (fun cq5 => ?_) (fun cq5 => ?_)
            · have c6 : sl (hi h (x + 1)) j (13 + nt (sl (hi h (x + 1)) j 12) - 1) < y := cq5
              refine Rn.weak (fin (by rw [lineOK, ‹isS (hi h (x + 1)) (nI j) = true›, hnt, decide_eq_false c2, c3, decide_eq_false c4, decide_eq_true c6]; simp)) (by repeat' first | exact fun _ h => absurd h List.not_mem_nil | refine List.forall_mem_cons.mpr ⟨rfl, ?_⟩)
            · refine x_iconst (v := (-1)) eX9_line_66 (by decide) ?_
              refine x_iret eX9_line_67 rfl ?_
              exact hq0 (by have c6 : ¬ sl (hi h (x + 1)) j (13 + nt (sl (hi h (x + 1)) j 12) - 1) < y := cq5
                            rw [lineOK, hnt, decide_eq_false c5, decide_eq_false c6]; simp)
    · refine x_iconst (v := (-1)) eX9_line_18 (by decide) ?_
      refine x_iret eX9_line_19 rfl ?_
      exact hq0 (by have c2 : sl (hi h (x + 1)) j 0 = 2 := cq1; simp [lineOK, hnt, c2])
set_option maxRecDepth 100000 in
set_option maxHeartbeats 4000000 in
theorem c_X9_mast {k v : Int32} (M : MD h x) (hq0 : (inR k 0 60 && inR v 0 2000000000) = false → Q (some (.int 0)) h) (hq1 : (inR k 0 60 && inR v 0 2000000000) = true → Q (some (.int 1)) (wi h (x + 3) (nt k) v)) : Rn G (d + 1) mX9_mast 0 [(0, .ref x), (1, .int k), (2, .int v)] [] h Q := by
  obtain ⟨⟨hx, -⟩, -, ⟨h4, k4, n4⟩, -⟩ := id M
  refine x_iload_n eX9_mast_0 rfl rfl ?_
  refine x_iconst (v := nI 0) eX9_mast_1 (by decide) ?_
  refine x_bipush (v := nI 60) eX9_mast_2 (by decide) ?_
  refine x_callS3 eX9_mast_4 lk_X9_70 (Nat.le_of_ble_eq_true rfl) (Nat.le_of_ble_eq_true rfl) ?_
  refine c_X9_isIn (fun _ => ?_)
  first | refine x_if_eqB (tgt := 20) eX9_mast_7 (by decide) (by with_reducible rfl) (fun cq1 => ?_) (fun cq1 => ?_) | refine x_if_eq (tgt := 20) eX9_mast_7 (by decide) (fun cq1 => ?_) (fun cq1 => ?_)
  · refine x_iconst (v := nI 0) eX9_mast_20 (by decide) ?_
    refine x_zret eX9_mast_21 rfl (by first | exact Or.inl rfl | exact Or.inr rfl | exact bI_or _ | assumption) ?_
    exact hq0 (by have c1 : inR k 0 60 = false := cq1; simp [c1])
  · have c1 : inR k 0 60 = true := cq1
    obtain ⟨m, -, hm, rfl⟩ := inR_N (lo := 0) (hi := 60) c1 rfl (by omega) (by omega)
    refine x_iload_n eX9_mast_10 rfl rfl ?_
    refine x_iconst (v := nI 0) eX9_mast_11 (by decide) ?_
    refine x_ldc (v := 2000000000) eX9_mast_12 kk_X9_39 ?_
    refine x_callS3 eX9_mast_14 lk_X9_70 (Nat.le_of_ble_eq_true rfl) (Nat.le_of_ble_eq_true rfl) ?_
    refine c_X9_isIn (fun _ => ?_)
    first | refine x_if_neB (tgt := 22) eX9_mast_17 (by decide) (by with_reducible rfl) (fun cq2 => ?_) (fun cq2 => ?_) | refine x_if_ne (tgt := 22) eX9_mast_17 (by decide) (fun cq2 => ?_) (fun cq2 => ?_)
    · have c2 : inR v 0 2000000000 = true := cq2
      first | refine x_aload_n eX9_mast_22 rfl rfl ?_ | refine x_aload_nN eX9_mast_22 rfl rfl ?_
      first | refine x_getR eX9_mast_23 fk_X9_17 rfl (by assumption) (by assumption) ?_ | refine x_getN eX9_mast_23 fk_X9_17 rfl (by assumption) (by assumption) ?_
      refine x_iload_n eX9_mast_26 rfl rfl ?_
      refine x_iload_n eX9_mast_27 rfl rfl ?_
      first | refine x_iastN eX9_mast_28 (by with_reducible rfl) (by assumption) (by assumption) (by omega) (by omega) ?_ | refine x_iast eX9_mast_28 (by assumption) (by assumption) ?_
      refine x_iconst (v := nI 1) eX9_mast_29 (by decide) ?_
      refine x_zret eX9_mast_30 rfl (by first | exact Or.inl rfl | exact Or.inr rfl | exact bI_or _ | assumption) ?_
      have q1 := hq1 (by rw [c1, c2]; rfl)
      rw [nt_nI (by omega)] at q1
      exact q1
    · refine x_iconst (v := nI 0) eX9_mast_20 (by decide) ?_
      refine x_zret eX9_mast_21 rfl (by first | exact Or.inl rfl | exact Or.inr rfl | exact bI_or _ | assumption) ?_
      exact hq0 (by have c2 : inR v 0 2000000000 = false := cq2; simp [c2])
set_option maxRecDepth 100000 in
set_option maxHeartbeats 4000000 in
theorem c_X9_wind {k v : Int32} (M : MD h x) (hq0 : (inR k 0 59 && inR v 0 1000) = false → Q (some (.int 0)) h) (hq1 : (inR k 0 59 && inR v 0 1000) = true → Q (some (.int 1)) (wi h (x + 4) (nt k) v)) : Rn G (d + 1) mX9_wind 0 [(0, .ref x), (1, .int k), (2, .int v)] [] h Q := by
  obtain ⟨⟨hx, -⟩, -, -, ⟨h5, k5, n5⟩, -⟩ := id M
  refine x_iload_n eX9_wind_0 rfl rfl ?_
  refine x_iconst (v := nI 0) eX9_wind_1 (by decide) ?_
  refine x_bipush (v := nI 59) eX9_wind_2 (by decide) ?_
  refine x_callS3 eX9_wind_4 lk_X9_70 (Nat.le_of_ble_eq_true rfl) (Nat.le_of_ble_eq_true rfl) ?_
  refine c_X9_isIn (fun _ => ?_)
  first | refine x_if_eqB (tgt := 21) eX9_wind_7 (by decide) (by with_reducible rfl) (fun cq1 => ?_) (fun cq1 => ?_) | refine x_if_eq (tgt := 21) eX9_wind_7 (by decide) (fun cq1 => ?_) (fun cq1 => ?_)
  · refine x_iconst (v := nI 0) eX9_wind_21 (by decide) ?_
    refine x_zret eX9_wind_22 rfl (by first | exact Or.inl rfl | exact Or.inr rfl | exact bI_or _ | assumption) ?_
    exact hq0 (by have c1 : inR k 0 59 = false := cq1; simp [c1])
  · have c1 : inR k 0 59 = true := cq1
    obtain ⟨m, -, hm, rfl⟩ := inR_N (lo := 0) (hi := 59) c1 rfl (by omega) (by omega)
    refine x_iload_n eX9_wind_10 rfl rfl ?_
    refine x_iconst (v := nI 0) eX9_wind_11 (by decide) ?_
    refine x_sipush (v := nI 1000) eX9_wind_12 (by decide) ?_
    refine x_callS3 eX9_wind_15 lk_X9_70 (Nat.le_of_ble_eq_true rfl) (Nat.le_of_ble_eq_true rfl) ?_
    refine c_X9_isIn (fun _ => ?_)
    first | refine x_if_neB (tgt := 23) eX9_wind_18 (by decide) (by with_reducible rfl) (fun cq2 => ?_) (fun cq2 => ?_) | refine x_if_ne (tgt := 23) eX9_wind_18 (by decide) (fun cq2 => ?_) (fun cq2 => ?_)
    · have c2 : inR v 0 1000 = true := cq2
      first | refine x_aload_n eX9_wind_23 rfl rfl ?_ | refine x_aload_nN eX9_wind_23 rfl rfl ?_
      first | refine x_getR eX9_wind_24 fk_X9_20 rfl (by assumption) (by assumption) ?_ | refine x_getN eX9_wind_24 fk_X9_20 rfl (by assumption) (by assumption) ?_
      refine x_iload_n eX9_wind_27 rfl rfl ?_
      refine x_iload_n eX9_wind_28 rfl rfl ?_
      first | refine x_iastN eX9_wind_29 (by with_reducible rfl) (by assumption) (by assumption) (by omega) (by omega) ?_ | refine x_iast eX9_wind_29 (by assumption) (by assumption) ?_
      refine x_iconst (v := nI 1) eX9_wind_30 (by decide) ?_
      refine x_zret eX9_wind_31 rfl (by first | exact Or.inl rfl | exact Or.inr rfl | exact bI_or _ | assumption) ?_
      have q1 := hq1 (by rw [c1, c2]; rfl)
      rw [nt_nI (by omega)] at q1
      exact q1
    · refine x_iconst (v := nI 0) eX9_wind_21 (by decide) ?_
      refine x_zret eX9_wind_22 rfl (by first | exact Or.inl rfl | exact Or.inr rfl | exact bI_or _ | assumption) ?_
      exact hq0 (by have c2 : inR v 0 1000 = false := cq2; simp [c2])
end REF9

