/-! ===== the reference: its acts on sails ===== -/
set_option maxRecDepth 100000 in
set_option maxHeartbeats 4000000 in
theorem isC_S {g : Nat → Int32} {s : Int32} (h : isC g s = true) : isS g s = true := by
  unfold isC at h
  exact (Bool.and_eq_true _ _ ▸ h).1
set_option maxRecDepth 100000 in
set_option maxHeartbeats 4000000 in
theorem isO_S {g : Nat → Int32} {s : Int32} (h : isO g s = true) : isS g s = true := by
  unfold isO at h
  exact (Bool.and_eq_true _ _ ▸ h).1
section REF8
variable {G : GG} {d : Nat} {h : AH} {Q : Option Value → AH → Prop} {x la kp : Nat}
set_option maxRecDepth 100000 in
set_option maxHeartbeats 4000000 in
theorem l_X9_edge {g : Nat → Int32} {j a m : Nat} (M : MD h x) (hj : j < 10) (ha : a < 2) (hm : m ≤ 61) (hq : Q (some (.int 1)) (acted h x la kp (filG g (5050 + 390 * j + (18 + 61 * a)) m 0))) : ∀ n k, k + n = m → Rn G (d + 2) mX9_edge 52 [(0, .ref x), (1, .int (nI j)), (2, .int (nI a)), (3, .int (nI m)), (4, .int (nI k))] [] (acted h x la kp (filG g (5050 + 390 * j + (18 + 61 * a)) k 0)) Q := by
  intro n
  induction n with
  | zero =>
    intro k hk0
    have e : k = m := by omega
    subst e
    refine x_iload eX9_edge_52 rfl ?_
    refine x_iload_n eX9_edge_54 rfl rfl ?_
    first | refine x_icmp_geN (tgt := 80) eX9_edge_55 (by decide) (by with_reducible rfl) (by with_reducible rfl) (by omega) (by omega) (fun cq1 => ?_) (fun cq1 => ?_) | refine x_icmp_ge (tgt := 80) eX9_edge_55 (by decide) (fun cq1 => ?_) (fun cq1 => ?_)
    · refine x_iconst (v := nI 1) eX9_edge_80 (by decide) ?_
      refine x_zret eX9_edge_81 rfl (by first | exact Or.inl rfl | exact Or.inr rfl | exact bI_or _ | assumption) ?_
      exact hq
    · exact absurd cq1 (by omega)
  | succ n ih =>
    intro k hk0
    have M2 := M.acted la kp (filG g (5050 + 390 * j + (18 + 61 * a)) k 0)
    obtain ⟨⟨hx, -⟩, -⟩ := id M2
    refine x_iload eX9_edge_52 rfl ?_
    refine x_iload_n eX9_edge_54 rfl rfl ?_
    first | refine x_icmp_geN (tgt := 80) eX9_edge_55 (by decide) (by with_reducible rfl) (by with_reducible rfl) (by omega) (by omega) (fun cq1 => ?_) (fun cq1 => ?_) | refine x_icmp_ge (tgt := 80) eX9_edge_55 (by decide) (fun cq1 => ?_) (fun cq1 => ?_)
    · exact absurd cq1 (by omega)
    · first | refine x_aload_n eX9_edge_58 rfl rfl ?_ | refine x_aload_nN eX9_edge_58 rfl rfl ?_
      refine x_iload_n eX9_edge_59 rfl rfl ?_
      refine x_bipush (v := nI 18) eX9_edge_60 (by decide) ?_
      refine x_bipush (v := nI 61) eX9_edge_62 (by decide) ?_
      refine x_iload_n eX9_edge_64 rfl rfl ?_
      first | refine x_imulN eX9_edge_65 (by with_reducible rfl) (by with_reducible rfl) ?_ | refine x_imul eX9_edge_65 ?_
      first | refine x_iaddN eX9_edge_66 (by with_reducible rfl) (by with_reducible rfl) ?_ | refine x_iadd eX9_edge_66 ?_
      refine x_iload eX9_edge_67 rfl ?_
      first | refine x_iaddN eX9_edge_69 (by with_reducible rfl) (by with_reducible rfl) ?_ | refine x_iadd eX9_edge_69 ?_
      refine x_iconst (v := nI 0) eX9_edge_70 (by decide) ?_
      refine x_callV3 eX9_edge_71 lk_X9_101 (by assumption) (Nat.le_of_ble_eq_true rfl) (Nat.le_of_ble_eq_true rfl) ?_
      refine c_X9_putSail M2.md (by omega) (fun _ => ?_)
      rw [acted_wi, show 5050 + 390 * j + (18 + 61 * a + k) = 5050 + 390 * j + (18 + 61 * a) + k by omega, show (nI 0) = 0 from rfl, filG_s]
      first | refine x_iincN eX9_edge_74 rfl (by with_reducible rfl) (by decide) rfl rfl ?_ | refine x_iinc eX9_edge_74 rfl rfl (by decide) rfl rfl ?_
      refine x_goto (tgt := 52) eX9_edge_77 (by decide) ?_
      refine Rn.weak (ih (k + 1) (by omega)) (by repeat' first | exact fun _ h => absurd h List.not_mem_nil | refine List.forall_mem_cons.mpr ⟨rfl, ?_⟩)
set_option maxRecDepth 100000 in
set_option maxHeartbeats 4000000 in
theorem c_X9_edge {s a n : Int32} (M : MD h x) (K : MK h x kp la) (W : GW (hi h (x + 1))) (hq0 : edgeOK (hi h (x + 1)) s a n = false → Q (some (.int 0)) h) (hq1 : edgeOK (hi h (x + 1)) s a n = true → Q (some (.int 1)) (acted h x la kp (gEdge (hi h (x + 1)) (nt s) (nt a) (nt n)))) : Rn G (d + 2) mX9_edge 0 [(0, .ref x), (1, .int s), (2, .int a), (3, .int n)] [] h Q := by
  obtain ⟨⟨hx, hS, kS, nS⟩, -⟩ := id M
  first | refine x_aload_n eX9_edge_0 rfl rfl ?_ | refine x_aload_nN eX9_edge_0 rfl rfl ?_
  refine x_iload_n eX9_edge_1 rfl rfl ?_
  refine x_callV1 eX9_edge_2 lk_X9_104 (by assumption) (Nat.le_of_ble_eq_true rfl) (Nat.le_of_ble_eq_true rfl) ?_
  refine c_X9_isOpen M.md W.2.1 (fun _ => ?_)
  first | refine x_if_eqB (tgt := 33) eX9_edge_5 (by decide) (by with_reducible rfl) (fun cq1 => ?_) (fun cq1 => ?_) | refine x_if_eq (tgt := 33) eX9_edge_5 (by decide) (fun cq1 => ?_) (fun cq1 => ?_)
  · refine x_iconst (v := nI 0) eX9_edge_33 (by decide) ?_
    refine x_zret eX9_edge_34 rfl (by first | exact Or.inl rfl | exact Or.inr rfl | exact bI_or _ | assumption) ?_
    exact hq0 (by simp [edgeOK, cq1])
  · obtain ⟨j, hj, rfl⟩ := isS_spec W.2.1 (isO_S cq1)
    have h10 := W.2.1.2.2
    have hnt : nt (nI j) = j := nt_nI (by omega)
    obtain ⟨-, ⟨e5, l5, u5⟩, -⟩ := W.2.2.2 j hj
    refine x_iload_n eX9_edge_8 rfl rfl ?_
    refine x_iconst (v := nI 0) eX9_edge_9 (by decide) ?_
    refine x_iconst (v := nI 1) eX9_edge_10 (by decide) ?_
    refine x_callS3 eX9_edge_11 lk_X9_70 (Nat.le_of_ble_eq_true rfl) (Nat.le_of_ble_eq_true rfl) ?_
    refine Rn.deep (c_X9_isIn (d := d) (fun _ => ?_)) (by omega)
    first | refine x_if_eqB (tgt := 33) eX9_edge_14 (by decide) (by with_reducible rfl) (fun cq2 => ?_) (fun cq2 => ?_) | refine x_if_eq (tgt := 33) eX9_edge_14 (by decide) (fun cq2 => ?_) (fun cq2 => ?_)
    · refine x_iconst (v := nI 0) eX9_edge_33 (by decide) ?_
      refine x_zret eX9_edge_34 rfl (by first | exact Or.inl rfl | exact Or.inr rfl | exact bI_or _ | assumption) ?_
      exact hq0 (by have c2 : inR a 0 1 = false := cq2; simp [edgeOK, c2])
    · have c2 : inR a 0 1 = true := cq2
      obtain ⟨ja, -, ha, rfl⟩ := inR_N (lo := 0) (hi := 1) c2 rfl (by omega) (by omega)
      have hnta : nt (nI ja) = ja := nt_nI (by omega)
      refine x_iload_n eX9_edge_17 rfl rfl ?_
      refine x_iconst (v := nI 0) eX9_edge_18 (by decide) ?_
      first | refine x_aload_n eX9_edge_19 rfl rfl ?_ | refine x_aload_nN eX9_edge_19 rfl rfl ?_
      refine x_iload_n eX9_edge_20 rfl rfl ?_
      refine x_iconst (v := nI 5) eX9_edge_21 (by decide) ?_
      refine x_callV2 eX9_edge_22 lk_X9_57 (by assumption) (Nat.le_of_ble_eq_true rfl) (Nat.le_of_ble_eq_true rfl) ?_
      refine Rn.deep (c_X9_sail (d := d) M.md (by omega) (fun _ => ?_)) (by omega)
      refine x_iconst (v := nI 1) eX9_edge_25 (by decide) ?_
      first | refine x_iaddN eX9_edge_26 (by with_reducible rfl) (by with_reducible rfl) ?_ | refine x_iadd eX9_edge_26 ?_
      refine x_callS3 eX9_edge_27 lk_X9_70 (Nat.le_of_ble_eq_true rfl) (Nat.le_of_ble_eq_true rfl) ?_
      refine Rn.deep (c_X9_isIn (d := d) (fun _ => ?_)) (by omega)
      first | refine x_if_neB (tgt := 35) eX9_edge_30 (by decide) (by with_reducible rfl) (fun cq3 => ?_) (fun cq3 => ?_) | refine x_if_ne (tgt := 35) eX9_edge_30 (by decide) (fun cq3 => ?_) (fun cq3 => ?_)
      · have c3 : inR n 0 (sl (hi h (x + 1)) j 5 + 1) = true := cq3
        obtain ⟨m, -, hm, rfl⟩ := inR_N (lo := 0) (hi := nt (sl (hi h (x + 1)) j 5) + 1) c3 (by rw [← nI_1, ← e5]) (by omega) (by omega)
        have hntm : nt (nI m) = m := nt_nI (by omega)
        first | refine x_aload_n eX9_edge_35 rfl rfl ?_ | refine x_aload_nN eX9_edge_35 rfl rfl ?_
        refine x_callV0 eX9_edge_36 lk_X9_75 (by assumption) (Nat.le_of_ble_eq_true rfl) (Nat.le_of_ble_eq_true rfl) ?_
        refine c_X9_act M K (fun _ => ?_)
        have M2 := M.acted la kp (hi h (x + 1))
        have hx2 : hk (acted h x la kp (hi h (x + 1))) x = 8 := hx
        first | refine x_aload_n eX9_edge_39 rfl rfl ?_ | refine x_aload_nN eX9_edge_39 rfl rfl ?_
        refine x_iload_n eX9_edge_40 rfl rfl ?_
        refine x_bipush (v := nI 16) eX9_edge_41 (by decide) ?_
        refine x_iload_n eX9_edge_43 rfl rfl ?_
        first | refine x_iaddN eX9_edge_44 (by with_reducible rfl) (by with_reducible rfl) ?_ | refine x_iadd eX9_edge_44 ?_
        refine x_iload_n eX9_edge_45 rfl rfl ?_
        refine x_callV3 eX9_edge_46 lk_X9_101 (by assumption) (Nat.le_of_ble_eq_true rfl) (Nat.le_of_ble_eq_true rfl) ?_
        refine Rn.deep (c_X9_putSail (d := d) M2.md (by omega) (fun _ => ?_)) (by omega)
        rw [acted_wi]
        refine x_iconst (v := nI 0) eX9_edge_49 (by decide) ?_
        refine x_istore eX9_edge_50 (by decide) rfl rfl ?_
        have q1 := hq1 (by rw [edgeOK, cq1, hnt, c2, c3]; rfl)
        rw [hnt, hnta, hntm] at q1
        have w := l_X9_edge (G := G) (d := d) (Q := Q) (la := la) (kp := kp) (g := upd0 (hi h (x + 1)) (5050 + 390 * j + (16 + ja)) (nI m)) (j := j) (a := ja) (m := m) M (by omega) (by omega) (by omega) q1 m 0 (by omega)
        rw [filG_0] at w
        refine Rn.weak (w) (by repeat' first | exact fun _ h => absurd h List.not_mem_nil | refine List.forall_mem_cons.mpr ⟨rfl, ?_⟩)
      · refine x_iconst (v := nI 0) eX9_edge_33 (by decide) ?_
        refine x_zret eX9_edge_34 rfl (by first | exact Or.inl rfl | exact Or.inr rfl | exact bI_or _ | assumption) ?_
        exact hq0 (by have c3 : inR n 0 (sl (hi h (x + 1)) j 5 + 1) = false := cq3; simp [edgeOK, hnt, c3])
set_option maxRecDepth 100000 in
set_option maxHeartbeats 4000000 in
theorem c_X9_stand {s a y v : Int32} (M : MD h x) (K : MK h x kp la) (W : GW (hi h (x + 1))) (hq0 : standOK (hi h (x + 1)) s a y v = false → Q (some (.int 0)) h) (hq1 : standOK (hi h (x + 1)) s a y v = true → Q (some (.int 1)) (acted h x la kp (gStand (hi h (x + 1)) (nt s) (nt a) (nt y) v))) : Rn G (d + 2) mX9_stand 0 [(0, .ref x), (1, .int s), (2, .int a), (3, .int y), (4, .int v)] [] h Q := by
  obtain ⟨⟨hx, hS, kS, nS⟩, -⟩ := id M
  first | refine x_aload_n eX9_stand_0 rfl rfl ?_ | refine x_aload_nN eX9_stand_0 rfl rfl ?_
  refine x_iload_n eX9_stand_1 rfl rfl ?_
  refine x_callV1 eX9_stand_2 lk_X9_104 (by assumption) (Nat.le_of_ble_eq_true rfl) (Nat.le_of_ble_eq_true rfl) ?_
  refine c_X9_isOpen M.md W.2.1 (fun _ => ?_)
  first | refine x_if_eqB (tgt := 48) eX9_stand_5 (by decide) (by with_reducible rfl) (fun cq1 => ?_) (fun cq1 => ?_) | refine x_if_eq (tgt := 48) eX9_stand_5 (by decide) (fun cq1 => ?_) (fun cq1 => ?_)
  · refine x_iconst (v := nI 0) eX9_stand_48 (by decide) ?_
    refine x_zret eX9_stand_49 rfl (by first | exact Or.inl rfl | exact Or.inr rfl | exact bI_or _ | assumption) ?_
    exact hq0 (by simp [standOK, cq1])
  · obtain ⟨j, hj, rfl⟩ := isS_spec W.2.1 (isO_S cq1)
    have h10 := W.2.1.2.2
    have hnt : nt (nI j) = j := nt_nI (by omega)
    have w := W.2.2.2 j hj
    refine x_iload_n eX9_stand_8 rfl rfl ?_
    refine x_iconst (v := nI 0) eX9_stand_9 (by decide) ?_
    refine x_iconst (v := nI 1) eX9_stand_10 (by decide) ?_
    refine x_callS3 eX9_stand_11 lk_X9_70 (Nat.le_of_ble_eq_true rfl) (Nat.le_of_ble_eq_true rfl) ?_
    refine Rn.deep (c_X9_isIn (d := d) (fun _ => ?_)) (by omega)
    first | refine x_if_eqB (tgt := 48) eX9_stand_14 (by decide) (by with_reducible rfl) (fun cq2 => ?_) (fun cq2 => ?_) | refine x_if_eq (tgt := 48) eX9_stand_14 (by decide) (fun cq2 => ?_) (fun cq2 => ?_)
    · refine x_iconst (v := nI 0) eX9_stand_48 (by decide) ?_
      refine x_zret eX9_stand_49 rfl (by first | exact Or.inl rfl | exact Or.inr rfl | exact bI_or _ | assumption) ?_
      exact hq0 (by have c2 : inR a 0 1 = false := cq2; simp [standOK, c2])
    · have c2 : inR a 0 1 = true := cq2
      obtain ⟨ja, -, ha, rfl⟩ := inR_N (lo := 0) (hi := 1) c2 rfl (by omega) (by omega)
      have hnta : nt (nI ja) = ja := nt_nI (by omega)
      refine x_iload_n eX9_stand_17 rfl rfl ?_
      refine x_if_lt (tgt := 48) eX9_stand_18 (by decide) (fun cq3 => ?_) (fun cq3 => ?_)
      · refine x_iconst (v := nI 0) eX9_stand_48 (by decide) ?_
        refine x_zret eX9_stand_49 rfl (by first | exact Or.inl rfl | exact Or.inr rfl | exact bI_or _ | assumption) ?_
        exact hq0 (by have : ¬ 0 ≤ y := Int32.not_le.mpr cq3; simp [standOK, this])
      · have c3 : 0 ≤ y := Int32.not_lt.mp cq3
        refine x_iload_n eX9_stand_21 rfl rfl ?_
        first | refine x_aload_n eX9_stand_22 rfl rfl ?_ | refine x_aload_nN eX9_stand_22 rfl rfl ?_
        refine x_iload_n eX9_stand_23 rfl rfl ?_
        refine x_bipush (v := nI 16) eX9_stand_24 (by decide) ?_
        refine x_iload_n eX9_stand_26 rfl rfl ?_
        first | refine x_iaddN eX9_stand_27 (by with_reducible rfl) (by with_reducible rfl) ?_ | refine x_iadd eX9_stand_27 ?_
        refine x_callV2 eX9_stand_28 lk_X9_57 (by assumption) (Nat.le_of_ble_eq_true rfl) (Nat.le_of_ble_eq_true rfl) ?_
        refine Rn.deep (c_X9_sail (d := d) M.md (by omega) (fun _ => ?_)) (by omega)
        first | refine x_icmp_geN (tgt := 48) eX9_stand_31 (by decide) (by with_reducible rfl) (by with_reducible rfl) (by omega) (by omega) (fun cq4 => ?_) (fun cq4 => ?_) | refine x_icmp_ge (tgt := 48) eX9_stand_31 (by decide) (fun cq4 => ?_) (fun cq4 => ?_)
        · refine x_iconst (v := nI 0) eX9_stand_48 (by decide) ?_
          refine x_zret eX9_stand_49 rfl (by first | exact Or.inl rfl | exact Or.inr rfl | exact bI_or _ | assumption) ?_
          exact hq0 (by have c4 : ¬ y < sl (hi h (x + 1)) j (16 + ja) := Int32.not_lt.mpr cq4; simp [standOK, hnt, hnta, c4])
        · have c4 : y < sl (hi h (x + 1)) j (16 + ja) := Int32.not_le.mp cq4
          have hrow : isN (sl (hi h (x + 1)) j (16 + ja)) 0 61 := by
            obtain ⟨-, -, -, -, -, -, -, -, -, -, -, r0, r1, -⟩ := w
            rcases (show ja = 0 ∨ ja = 1 by omega) with rfl | rfl
            · exact r0
            · exact r1
          obtain ⟨m, hm, rfl⟩ := lt_nI c3 c4 hrow (by omega)
          have hntm : nt (nI m) = m := nt_nI (by have := hrow.2.2; omega)
          have hr61 := hrow.2.2
          refine x_iload eX9_stand_34 rfl ?_
          refine x_sipush (v := (-200)) eX9_stand_36 (by decide) ?_
          refine x_sipush (v := nI 200) eX9_stand_39 (by decide) ?_
          refine x_callS3 eX9_stand_42 lk_X9_70 (Nat.le_of_ble_eq_true rfl) (Nat.le_of_ble_eq_true rfl) ?_
          refine Rn.deep (c_X9_isIn (d := d) (fun _ => ?_)) (by omega)
          first | refine x_if_neB (tgt := 50) eX9_stand_45 (by decide) (by with_reducible rfl) (fun cq5 => ?_) (fun cq5 => ?_) | refine x_if_ne (tgt := 50) eX9_stand_45 (by decide) (fun cq5 => ?_) (fun cq5 => ?_)
          · have c5 : inR v (-200) 200 = true := cq5
            first | refine x_aload_n eX9_stand_50 rfl rfl ?_ | refine x_aload_nN eX9_stand_50 rfl rfl ?_
            refine x_callV0 eX9_stand_51 lk_X9_75 (by assumption) (Nat.le_of_ble_eq_true rfl) (Nat.le_of_ble_eq_true rfl) ?_
            refine c_X9_act M K (fun _ => ?_)
            have M2 := M.acted la kp (hi h (x + 1))
            have hx2 : hk (acted h x la kp (hi h (x + 1))) x = 8 := hx
            first | refine x_aload_n eX9_stand_54 rfl rfl ?_ | refine x_aload_nN eX9_stand_54 rfl rfl ?_
            refine x_iload_n eX9_stand_55 rfl rfl ?_
            refine x_bipush (v := nI 18) eX9_stand_56 (by decide) ?_
            refine x_bipush (v := nI 61) eX9_stand_58 (by decide) ?_
            refine x_iload_n eX9_stand_60 rfl rfl ?_
            first | refine x_imulN eX9_stand_61 (by with_reducible rfl) (by with_reducible rfl) ?_ | refine x_imul eX9_stand_61 ?_
            first | refine x_iaddN eX9_stand_62 (by with_reducible rfl) (by with_reducible rfl) ?_ | refine x_iadd eX9_stand_62 ?_
            refine x_iload_n eX9_stand_63 rfl rfl ?_
            first | refine x_iaddN eX9_stand_64 (by with_reducible rfl) (by with_reducible rfl) ?_ | refine x_iadd eX9_stand_64 ?_
            refine x_iload eX9_stand_65 rfl ?_
            refine x_callV3 eX9_stand_67 lk_X9_101 (by assumption) (Nat.le_of_ble_eq_true rfl) (Nat.le_of_ble_eq_true rfl) ?_
            refine Rn.deep (c_X9_putSail (d := d) M2.md (by omega) (fun _ => ?_)) (by omega)
            rw [acted_wi]
            refine x_iconst (v := nI 1) eX9_stand_70 (by decide) ?_
            refine x_zret eX9_stand_71 rfl (by first | exact Or.inl rfl | exact Or.inr rfl | exact bI_or _ | assumption) ?_
            have q1 := hq1 (by rw [standOK, cq1, hnt, hnta, c2, decide_eq_true c3, decide_eq_true c4, c5]; rfl)
            rw [hnt, hnta, hntm] at q1
            exact q1
          · refine x_iconst (v := nI 0) eX9_stand_48 (by decide) ?_
            refine x_zret eX9_stand_49 rfl (by first | exact Or.inl rfl | exact Or.inr rfl | exact bI_or _ | assumption) ?_
            exact hq0 (by have c5 : inR v (-200) 200 = false := cq5; simp [standOK, c5])
set_option maxRecDepth 100000 in
set_option maxHeartbeats 4000000 in
theorem c_X9_narrow {s i v : Int32} (M : MD h x) (K : MK h x kp la) (W : GW (hi h (x + 1))) (hq0 : narOK (hi h (x + 1)) s i v = false → Q (some (.int 0)) h) (hq1 : narOK (hi h (x + 1)) s i v = true → Q (some (.int 1)) (acted h x la kp (gNar (hi h (x + 1)) (nt s) (nt i) v))) : Rn G (d + 2) mX9_narrow 0 [(0, .ref x), (1, .int s), (2, .int i), (3, .int v)] [] h Q := by
  obtain ⟨⟨hx, hS, kS, nS⟩, -⟩ := id M
  first | refine x_aload_n eX9_narrow_0 rfl rfl ?_ | refine x_aload_nN eX9_narrow_0 rfl rfl ?_
  refine x_iload_n eX9_narrow_1 rfl rfl ?_
  refine x_callV1 eX9_narrow_2 lk_X9_137 (by assumption) (Nat.le_of_ble_eq_true rfl) (Nat.le_of_ble_eq_true rfl) ?_
  refine c_X9_isCut M.md W.2.1 (fun _ => ?_)
  first | refine x_if_eqB (tgt := 35) eX9_narrow_5 (by decide) (by with_reducible rfl) (fun cq1 => ?_) (fun cq1 => ?_) | refine x_if_eq (tgt := 35) eX9_narrow_5 (by decide) (fun cq1 => ?_) (fun cq1 => ?_)
  · refine x_iconst (v := nI 0) eX9_narrow_35 (by decide) ?_
    refine x_zret eX9_narrow_36 rfl (by first | exact Or.inl rfl | exact Or.inr rfl | exact bI_or _ | assumption) ?_
    exact hq0 (by simp [narOK, cq1])
  · obtain ⟨j, hj, rfl⟩ := isS_spec W.2.1 (isC_S cq1)
    have h10 := W.2.1.2.2
    have hnt : nt (nI j) = j := nt_nI (by omega)
    obtain ⟨-, -, ⟨e8, l8, u8⟩, -⟩ := W.2.2.2 j hj
    refine x_iload_n eX9_narrow_8 rfl rfl ?_
    refine x_iconst (v := nI 0) eX9_narrow_9 (by decide) ?_
    first | refine x_aload_n eX9_narrow_10 rfl rfl ?_ | refine x_aload_nN eX9_narrow_10 rfl rfl ?_
    refine x_iload_n eX9_narrow_11 rfl rfl ?_
    refine x_bipush (v := nI 8) eX9_narrow_12 (by decide) ?_
    refine x_callV2 eX9_narrow_14 lk_X9_57 (by assumption) (Nat.le_of_ble_eq_true rfl) (Nat.le_of_ble_eq_true rfl) ?_
    refine Rn.deep (c_X9_sail (d := d) M.md (by omega) (fun _ => ?_)) (by omega)
    refine x_iconst (v := nI 2) eX9_narrow_17 (by decide) ?_
    first | refine x_isubN eX9_narrow_18 (by with_reducible rfl) (by with_reducible rfl) (by omega) ?_ | refine x_isub eX9_narrow_18 ?_
    refine x_callS3 eX9_narrow_19 lk_X9_70 (Nat.le_of_ble_eq_true rfl) (Nat.le_of_ble_eq_true rfl) ?_
    refine Rn.deep (c_X9_isIn (d := d) (fun _ => ?_)) (by omega)
    first | refine x_if_eqB (tgt := 35) eX9_narrow_22 (by decide) (by with_reducible rfl) (fun cq2 => ?_) (fun cq2 => ?_) | refine x_if_eq (tgt := 35) eX9_narrow_22 (by decide) (fun cq2 => ?_) (fun cq2 => ?_)
    · refine x_iconst (v := nI 0) eX9_narrow_35 (by decide) ?_
      refine x_zret eX9_narrow_36 rfl (by first | exact Or.inl rfl | exact Or.inr rfl | exact bI_or _ | assumption) ?_
      exact hq0 (by have c2 : inR i 0 (sl (hi h (x + 1)) j 8 - 2) = false := cq2; simp [narOK, hnt, c2])
    · have c2 : inR i 0 (sl (hi h (x + 1)) j 8 - 2) = true := cq2
      obtain ⟨m, hm, rfl⟩ : ∃ m, m + 2 ≤ nt (sl (hi h (x + 1)) j 8) ∧ i = nI m := by
        have c2' := c2
        simp only [inR, Bool.and_eq_true, decide_eq_true_eq] at c2'
        obtain ⟨m, m1, rfl⟩ := nI_of (Int32.not_lt.mpr c2'.1)
        refine ⟨m, ?_, rfl⟩
        by_cases z : 2 ≤ nt (sl (hi h (x + 1)) j 8)
        · have h2 := c2'.2
          rw [e8, show (2 : Int32) = nI 2 from rfl, pk_sub z, nI_leI m1 (by omega)] at h2
          omega
        · exfalso
          have h2 := Int32.le_trans c2'.1 c2'.2
          rw [e8] at h2
          rcases (show nt (sl (hi h (x + 1)) j 8) = 0 ∨ nt (sl (hi h (x + 1)) j 8) = 1 by omega) with y | y <;> (rw [y] at h2; exact absurd h2 (by decide))
      have hntm : nt (nI m) = m := nt_nI (by omega)
      refine x_iload_n eX9_narrow_25 rfl rfl ?_
      refine x_iconst (v := nI 0) eX9_narrow_26 (by decide) ?_
      refine x_bipush (v := nI 50) eX9_narrow_27 (by decide) ?_
      refine x_callS3 eX9_narrow_29 lk_X9_70 (Nat.le_of_ble_eq_true rfl) (Nat.le_of_ble_eq_true rfl) ?_
      refine Rn.deep (c_X9_isIn (d := d) (fun _ => ?_)) (by omega)
      first | refine x_if_neB (tgt := 37) eX9_narrow_32 (by decide) (by with_reducible rfl) (fun cq3 => ?_) (fun cq3 => ?_) | refine x_if_ne (tgt := 37) eX9_narrow_32 (by decide) (fun cq3 => ?_) (fun cq3 => ?_)
      · have c3 : inR v 0 50 = true := cq3
        first | refine x_aload_n eX9_narrow_37 rfl rfl ?_ | refine x_aload_nN eX9_narrow_37 rfl rfl ?_
        refine x_callV0 eX9_narrow_38 lk_X9_75 (by assumption) (Nat.le_of_ble_eq_true rfl) (Nat.le_of_ble_eq_true rfl) ?_
        refine c_X9_act M K (fun _ => ?_)
        have M2 := M.acted la kp (hi h (x + 1))
        have hx2 : hk (acted h x la kp (hi h (x + 1))) x = 8 := hx
        first | refine x_aload_n eX9_narrow_41 rfl rfl ?_ | refine x_aload_nN eX9_narrow_41 rfl rfl ?_
        refine x_iload_n eX9_narrow_42 rfl rfl ?_
        refine x_sipush (v := nI 140) eX9_narrow_43 (by decide) ?_
        refine x_iload_n eX9_narrow_46 rfl rfl ?_
        first | refine x_iaddN eX9_narrow_47 (by with_reducible rfl) (by with_reducible rfl) ?_ | refine x_iadd eX9_narrow_47 ?_
        refine x_iload_n eX9_narrow_48 rfl rfl ?_
        refine x_callV3 eX9_narrow_49 lk_X9_101 (by assumption) (Nat.le_of_ble_eq_true rfl) (Nat.le_of_ble_eq_true rfl) ?_
        refine Rn.deep (c_X9_putSail (d := d) M2.md (by omega) (fun _ => ?_)) (by omega)
        rw [acted_wi]
        refine x_iconst (v := nI 1) eX9_narrow_52 (by decide) ?_
        refine x_zret eX9_narrow_53 rfl (by first | exact Or.inl rfl | exact Or.inr rfl | exact bI_or _ | assumption) ?_
        have q1 := hq1 (by rw [narOK, cq1, hnt, c2, c3]; rfl)
        rw [hnt, hntm] at q1
        exact q1
      · refine x_iconst (v := nI 0) eX9_narrow_35 (by decide) ?_
        refine x_zret eX9_narrow_36 rfl (by first | exact Or.inl rfl | exact Or.inr rfl | exact bI_or _ | assumption) ?_
        exact hq0 (by have c3 : inR v 0 50 = false := cq3; simp [narOK, c3])
set_option maxRecDepth 100000 in
set_option maxHeartbeats 4000000 in
theorem c_X9_patch {s y b l : Int32} (M : MD h x) (K : MK h x kp la) (W : GW (hi h (x + 1))) (hq0 : patOK (hi h (x + 1)) s y b l = false → Q (some (.int (-1))) h) (hq1 : patOK (hi h (x + 1)) s y b l = true → Q (some (.int (nI (np (hi h (x + 1)) (nt s))))) (acted h x la kp (gPat (hi h (x + 1)) (nt s) y b l))) : Rn G (d + 2) mX9_patch 0 [(0, .ref x), (1, .int s), (2, .int y), (3, .int b), (4, .int l)] [] h Q := by
  obtain ⟨⟨hx, hS, kS, nS⟩, -⟩ := id M
  first | refine x_aload_n eX9_patch_0 rfl rfl ?_ | refine x_aload_nN eX9_patch_0 rfl rfl ?_
  refine x_iload_n eX9_patch_1 rfl rfl ?_
  refine x_callV1 eX9_patch_2 lk_X9_137 (by assumption) (Nat.le_of_ble_eq_true rfl) (Nat.le_of_ble_eq_true rfl) ?_
  refine c_X9_isCut M.md W.2.1 (fun _ => ?_)
  first | refine x_if_eqB (tgt := 55) eX9_patch_5 (by decide) (by with_reducible rfl) (fun cq1 => ?_) (fun cq1 => ?_) | refine x_if_eq (tgt := 55) eX9_patch_5 (by decide) (fun cq1 => ?_) (fun cq1 => ?_)
  · refine x_iconst (v := (-1)) eX9_patch_55 (by decide) ?_
    refine x_iret eX9_patch_56 rfl ?_
    exact hq0 (by simp [patOK, cq1])
  · obtain ⟨j, hj, rfl⟩ := isS_spec W.2.1 (isC_S cq1)
    have h10 := W.2.1.2.2
    have hnt : nt (nI j) = j := nt_nI (by omega)
    have w := W.2.2.2 j hj
    have hnp : np (hi h (x + 1)) j ≤ 40 := w.2.2.2.2.1
    refine x_iload_n eX9_patch_8 rfl rfl ?_
    refine x_iconst (v := nI 0) eX9_patch_9 (by decide) ?_
    first | refine x_aload_n eX9_patch_10 rfl rfl ?_ | refine x_aload_nN eX9_patch_10 rfl rfl ?_
    refine x_iload_n eX9_patch_11 rfl rfl ?_
    refine x_iconst (v := nI 5) eX9_patch_12 (by decide) ?_
    refine x_callV2 eX9_patch_13 lk_X9_57 (by assumption) (Nat.le_of_ble_eq_true rfl) (Nat.le_of_ble_eq_true rfl) ?_
    refine Rn.deep (c_X9_sail (d := d) M.md (by omega) (fun _ => ?_)) (by omega)
    refine x_iconst (v := nI 1) eX9_patch_16 (by decide) ?_
    first | refine x_isubN eX9_patch_17 (by with_reducible rfl) (by with_reducible rfl) (by omega) ?_ | refine x_isub eX9_patch_17 ?_
    refine x_callS3 eX9_patch_18 lk_X9_70 (Nat.le_of_ble_eq_true rfl) (Nat.le_of_ble_eq_true rfl) ?_
    refine Rn.deep (c_X9_isIn (d := d) (fun _ => ?_)) (by omega)
    first | refine x_if_eqB (tgt := 55) eX9_patch_21 (by decide) (by with_reducible rfl) (fun cq2 => ?_) (fun cq2 => ?_) | refine x_if_eq (tgt := 55) eX9_patch_21 (by decide) (fun cq2 => ?_) (fun cq2 => ?_)
    · refine x_iconst (v := (-1)) eX9_patch_55 (by decide) ?_
      refine x_iret eX9_patch_56 rfl ?_
      exact hq0 (by have c2 : inR y 0 (sl (hi h (x + 1)) j 5 - 1) = false := cq2; simp [patOK, hnt, c2])
    · have c2 : inR y 0 (sl (hi h (x + 1)) j 5 - 1) = true := cq2
      refine x_iload_n eX9_patch_24 rfl rfl ?_
      refine x_iconst (v := nI 1) eX9_patch_25 (by decide) ?_
      refine x_bipush (v := nI 20) eX9_patch_26 (by decide) ?_
      refine x_callS3 eX9_patch_28 lk_X9_70 (Nat.le_of_ble_eq_true rfl) (Nat.le_of_ble_eq_true rfl) ?_
      refine Rn.deep (c_X9_isIn (d := d) (fun _ => ?_)) (by omega)
      first | refine x_if_eqB (tgt := 55) eX9_patch_31 (by decide) (by with_reducible rfl) (fun cq3 => ?_) (fun cq3 => ?_) | refine x_if_eq (tgt := 55) eX9_patch_31 (by decide) (fun cq3 => ?_) (fun cq3 => ?_)
      · refine x_iconst (v := (-1)) eX9_patch_55 (by decide) ?_
        refine x_iret eX9_patch_56 rfl ?_
        exact hq0 (by have c3 : inR b 1 20 = false := cq3; simp [patOK, c3])
      · have c3 : inR b 1 20 = true := cq3
        refine x_iload eX9_patch_34 rfl ?_
        refine x_iconst (v := nI 1) eX9_patch_36 (by decide) ?_
        refine x_bipush (v := nI 100) eX9_patch_37 (by decide) ?_
        refine x_callS3 eX9_patch_39 lk_X9_70 (Nat.le_of_ble_eq_true rfl) (Nat.le_of_ble_eq_true rfl) ?_
        refine Rn.deep (c_X9_isIn (d := d) (fun _ => ?_)) (by omega)
        first | refine x_if_eqB (tgt := 55) eX9_patch_42 (by decide) (by with_reducible rfl) (fun cq4 => ?_) (fun cq4 => ?_) | refine x_if_eq (tgt := 55) eX9_patch_42 (by decide) (fun cq4 => ?_) (fun cq4 => ?_)
        · refine x_iconst (v := (-1)) eX9_patch_55 (by decide) ?_
          refine x_iret eX9_patch_56 rfl ?_
          exact hq0 (by have c4 : inR l 1 100 = false := cq4; simp [patOK, c4])
        · have c4 : inR l 1 100 = true := cq4
          first | refine x_aload_n eX9_patch_45 rfl rfl ?_ | refine x_aload_nN eX9_patch_45 rfl rfl ?_
          refine x_iload_n eX9_patch_46 rfl rfl ?_
          refine x_callV1 eX9_patch_47 lk_X9_82 (by assumption) (Nat.le_of_ble_eq_true rfl) (Nat.le_of_ble_eq_true rfl) ?_
          refine c_X9_piecesN M.md (by omega) w (fun _ => ?_)
          refine x_bipush (v := nI 40) eX9_patch_50 (by decide) ?_
          first | refine x_icmp_neN (tgt := 57) eX9_patch_52 (by decide) (by with_reducible rfl) (by with_reducible rfl) (by omega) (by omega) (fun cq5 => ?_) (fun cq5 => ?_) | refine x_icmp_ne (tgt := 57) eX9_patch_52 (by decide) (fun cq5 => ?_) (fun cq5 => ?_)
          · first | refine x_aload_n eX9_patch_57 rfl rfl ?_ | refine x_aload_nN eX9_patch_57 rfl rfl ?_
            refine x_callV0 eX9_patch_58 lk_X9_75 (by assumption) (Nat.le_of_ble_eq_true rfl) (Nat.le_of_ble_eq_true rfl) ?_
            refine c_X9_act M K (fun _ => ?_)
            have M2 := M.acted la kp (hi h (x + 1))
            have hx2 : hk (acted h x la kp (hi h (x + 1))) x = 8 := hx
            first | refine x_aload_n eX9_patch_61 rfl rfl ?_ | refine x_aload_nN eX9_patch_61 rfl rfl ?_
            refine x_iload_n eX9_patch_62 rfl rfl ?_
            refine x_callV1 eX9_patch_63 lk_X9_82 (by assumption) (Nat.le_of_ble_eq_true rfl) (Nat.le_of_ble_eq_true rfl) ?_
            refine c_X9_piecesN M2.md (by omega) (by rw [hi_acted]; exact w) (fun _ => ?_)
            rw [hi_acted]
            refine x_istore eX9_patch_66 (by decide) rfl rfl ?_
            first | refine x_aload_n eX9_patch_68 rfl rfl ?_ | refine x_aload_nN eX9_patch_68 rfl rfl ?_
            refine x_iload_n eX9_patch_69 rfl rfl ?_
            refine x_sipush (v := nI 180) eX9_patch_70 (by decide) ?_
            refine x_iload eX9_patch_73 rfl ?_
            first | refine x_iaddN eX9_patch_75 (by with_reducible rfl) (by with_reducible rfl) ?_ | refine x_iadd eX9_patch_75 ?_
            refine x_iload_n eX9_patch_76 rfl rfl ?_
            refine x_callV3 eX9_patch_77 lk_X9_101 (by assumption) (Nat.le_of_ble_eq_true rfl) (Nat.le_of_ble_eq_true rfl) ?_
            refine Rn.deep (c_X9_putSail (d := d) M2.md (by omega) (fun _ => ?_)) (by omega)
            rw [acted_wi]
            have hx3 : ∀ g, hk (acted h x la kp g) x = 8 := fun _ => hx
            have hx4 := hx3 (upd0 (hi h (x + 1)) (5050 + 390 * j + (180 + np (hi h (x + 1)) j)) y)
            first | refine x_aload_n eX9_patch_80 rfl rfl ?_ | refine x_aload_nN eX9_patch_80 rfl rfl ?_
            refine x_iload_n eX9_patch_81 rfl rfl ?_
            refine x_sipush (v := nI 220) eX9_patch_82 (by decide) ?_
            refine x_iload eX9_patch_85 rfl ?_
            first | refine x_iaddN eX9_patch_87 (by with_reducible rfl) (by with_reducible rfl) ?_ | refine x_iadd eX9_patch_87 ?_
            refine x_iload_n eX9_patch_88 rfl rfl ?_
            refine x_callV3 eX9_patch_89 lk_X9_101 (by assumption) (Nat.le_of_ble_eq_true rfl) (Nat.le_of_ble_eq_true rfl) ?_
            refine Rn.deep (c_X9_putSail (d := d) (M.acted la kp _).md (by omega) (fun _ => ?_)) (by omega)
            rw [acted_wi]
            first | refine x_aload_n eX9_patch_92 rfl rfl ?_ | refine x_aload_nN eX9_patch_92 rfl rfl ?_
            refine x_iload_n eX9_patch_93 rfl rfl ?_
            refine x_sipush (v := nI 260) eX9_patch_94 (by decide) ?_
            refine x_iload eX9_patch_97 rfl ?_
            first | refine x_iaddN eX9_patch_99 (by with_reducible rfl) (by with_reducible rfl) ?_ | refine x_iadd eX9_patch_99 ?_
            refine x_iload eX9_patch_100 rfl ?_
            refine x_callV3 eX9_patch_102 lk_X9_101 (by assumption) (Nat.le_of_ble_eq_true rfl) (Nat.le_of_ble_eq_true rfl) ?_
            refine Rn.deep (c_X9_putSail (d := d) (M.acted la kp _).md (by omega) (fun _ => ?_)) (by omega)
            rw [acted_wi]
            first | refine x_aload_n eX9_patch_105 rfl rfl ?_ | refine x_aload_nN eX9_patch_105 rfl rfl ?_
            refine x_iload_n eX9_patch_106 rfl rfl ?_
            refine x_bipush (v := nI 9) eX9_patch_107 (by decide) ?_
            first | refine x_aload_n eX9_patch_109 rfl rfl ?_ | refine x_aload_nN eX9_patch_109 rfl rfl ?_
            refine x_iload_n eX9_patch_110 rfl rfl ?_
            refine x_bipush (v := nI 9) eX9_patch_111 (by decide) ?_
            refine x_callV2 eX9_patch_113 lk_X9_57 (by assumption) (Nat.le_of_ble_eq_true rfl) (Nat.le_of_ble_eq_true rfl) ?_
            refine Rn.deep (c_X9_sail (d := d) (M.acted la kp _).md (by omega) (fun _ => ?_)) (by omega)
            rw [hi_acted]
            refine x_iconst (v := nI 1) eX9_patch_116 (by decide) ?_
            first | refine x_iaddN eX9_patch_117 (by with_reducible rfl) (by with_reducible rfl) ?_ | refine x_iadd eX9_patch_117 ?_
            refine x_callV3 eX9_patch_118 lk_X9_101 (by assumption) (Nat.le_of_ble_eq_true rfl) (Nat.le_of_ble_eq_true rfl) ?_
            refine Rn.deep (c_X9_putSail (d := d) (M.acted la kp _).md (by omega) (fun _ => ?_)) (by omega)
            rw [acted_wi]
            refine x_iload eX9_patch_121 rfl ?_
            refine x_iret eX9_patch_123 rfl ?_
            have q1 := hq1 (by rw [patOK, cq1, hnt, c2, c3, c4, decide_eq_false cq5]; rfl)
            rw [hnt] at q1
            have e9 : sl (upd0 (upd0 (upd0 (hi h (x + 1)) (5050 + 390 * j + (180 + np (hi h (x + 1)) j)) y) (5050 + 390 * j + (220 + np (hi h (x + 1)) j)) b) (5050 + 390 * j + (260 + np (hi h (x + 1)) j)) l) j 9 = sl (hi h (x + 1)) j 9 := by
              unfold sl
              rw [upd0_ne (by omega), upd0_ne (by omega), upd0_ne (by omega)]
            rw [e9]
            exact q1
          · refine x_iconst (v := (-1)) eX9_patch_55 (by decide) ?_
            refine x_iret eX9_patch_56 rfl ?_
            exact hq0 (by rw [patOK, hnt, decide_eq_true cq5]; simp)
end REF8

