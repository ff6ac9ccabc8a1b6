/-! ===== fewest: the packing ===== -/
def PkO (h : AH) (p a0 a1 a2 : Nat) : Prop := hk h p = 2 ∧ (hr h p 0 = some a0 ∧ hr h p 1 = some a1 ∧ hr h p 2 = some a2) ∧ (hk h a0 = 20 ∧ hn h a0 = 256) ∧ (hk h a1 = 20 ∧ hn h a1 = 256) ∧ (hk h a2 = 20 ∧ hn h a2 = 256) ∧ (a0 ≠ a1 ∧ a0 ≠ a2 ∧ a1 ≠ a2) ∧ p ≠ a0 ∧ p ≠ a1 ∧ p ≠ a2
section FEW3
variable {G : GG} {d : Nat} {h h1 h2 : AH} {Q : Option Value → AH → Prop} {p a0 a1 a2 a S T : Nat}
set_option maxRecDepth 100000 in
set_option maxHeartbeats 4000000 in
theorem c_X3_fits {l w : Int32} (P : PkO h p a0 a1 a2) (ka : hk h a = 1) (e0 : hi h a 0 = w) (e1 : hi h a 1 = l) (hS : S < 256) (hq : Q (some (.int (bI (decide (hi h a0 S ≤ l) && decide (hi h a1 S ≤ w))))) h) : Rn G d mX3_fits 0 [(0, .ref p), (1, .ref a), (2, .int (nI S))] [] h Q := by
  obtain ⟨kp, ⟨r0, r1, r2⟩, ⟨k0, n0⟩, ⟨k1, n1⟩, ⟨k2, n2⟩, -⟩ := id P
  first | refine x_aload_n eX3_fits_0 rfl rfl ?_ | refine x_aload_nN eX3_fits_0 rfl rfl ?_
  first | refine x_getR eX3_fits_1 fk_X3_11 rfl (by assumption) (by assumption) ?_ | refine x_getN eX3_fits_1 fk_X3_11 rfl (by assumption) (by assumption) ?_
  refine x_iload_n eX3_fits_4 rfl rfl ?_
  first | refine x_ialdN eX3_fits_5 (by with_reducible rfl) (by assumption) (by assumption) (by omega) (by omega) ?_ | refine x_sldN eX3_fits_5 (by with_reducible rfl) (by assumption) (by assumption) (by omega) (by omega) ?_ | refine x_iald eX3_fits_5 (by assumption) (by assumption) ?_
  first | refine x_aload_n eX3_fits_6 rfl rfl ?_ | refine x_aload_nN eX3_fits_6 rfl rfl ?_
  first | refine x_getIe eX3_fits_7 fk_X3_50 (by decide) (by assumption) (by assumption) ?_ | refine x_getI eX3_fits_7 fk_X3_50 (by decide) (by assumption) ?_
  first | refine x_icmp_gtN (tgt := 30) eX3_fits_10 (by decide) (by with_reducible rfl) (by with_reducible rfl) (by omega) (by omega) (fun cq1 => ?_) (fun cq1 => ?_) | refine x_icmp_gt (tgt := 30) eX3_fits_10 (by decide) (fun cq1 => ?_) (fun cq1 => ?_)
  · refine x_iconst (v := nI 0) eX3_fits_30 (by decide) ?_
    refine x_zret eX3_fits_31 rfl (by first | exact Or.inl rfl | exact Or.inr rfl | exact bI_or _ | assumption) ?_
    exact qi hq (bIf (by rw [decide_eq_false (Int32.not_le.mpr cq1)]; rfl)).symm
  · first | refine x_aload_n eX3_fits_13 rfl rfl ?_ | refine x_aload_nN eX3_fits_13 rfl rfl ?_
    first | refine x_getR eX3_fits_14 fk_X3_15 rfl (by assumption) (by assumption) ?_ | refine x_getN eX3_fits_14 fk_X3_15 rfl (by assumption) (by assumption) ?_
    refine x_iload_n eX3_fits_17 rfl rfl ?_
    first | refine x_ialdN eX3_fits_18 (by with_reducible rfl) (by assumption) (by assumption) (by omega) (by omega) ?_ | refine x_sldN eX3_fits_18 (by with_reducible rfl) (by assumption) (by assumption) (by omega) (by omega) ?_ | refine x_iald eX3_fits_18 (by assumption) (by assumption) ?_
    first | refine x_aload_n eX3_fits_19 rfl rfl ?_ | refine x_aload_nN eX3_fits_19 rfl rfl ?_
    first | refine x_getIe eX3_fits_20 fk_X3_53 (by decide) (by assumption) (by assumption) ?_ | refine x_getI eX3_fits_20 fk_X3_53 (by decide) (by assumption) ?_
    first | refine x_icmp_gtN (tgt := 30) eX3_fits_23 (by decide) (by with_reducible rfl) (by with_reducible rfl) (by omega) (by omega) (fun cq2 => ?_) (fun cq2 => ?_) | refine x_icmp_gt (tgt := 30) eX3_fits_23 (by decide) (fun cq2 => ?_) (fun cq2 => ?_)
    · refine x_iconst (v := nI 0) eX3_fits_30 (by decide) ?_
      refine x_zret eX3_fits_31 rfl (by first | exact Or.inl rfl | exact Or.inr rfl | exact bI_or _ | assumption) ?_
      exact qi hq (bIf (by rw [decide_eq_false (Int32.not_le.mpr cq2), Bool.and_false])).symm
    · refine x_iconst (v := nI 1) eX3_fits_26 (by decide) ?_
      refine x_goto (tgt := 31) eX3_fits_27 (by decide) ?_
      refine x_zret eX3_fits_31 rfl (by first | exact Or.inl rfl | exact Or.inr rfl | exact bI_or _ | assumption) ?_
      exact qi hq (bIt (by rw [decide_eq_true (Int32.not_lt.mp cq1), decide_eq_true (Int32.not_lt.mp cq2)]; rfl)).symm
set_option maxRecDepth 100000 in
set_option maxHeartbeats 4000000 in
theorem c_X3_betterBy {l w : Int32} {B : Nat → Nat} {fit : Nat → Bool} (P : PkO h p a0 a1 a2) (ka : hk h a = 1) (e0 : hi h a 0 = w) (e1 : hi h a 1 = l) (hT : T < 256) (hN : ∀ S, S ≤ T → hi h a2 S = nI (min (B S) 25)) (hfit : ∀ S, S < 256 → S ≠ 0 → fit S = (decide (hi h a0 S ≤ l) && decide (hi h a1 S ≤ w))) (hq : ∀ v, bst fit B T 0 v → Q none (wi h a2 T (nI v))) : Rn G (d + 1) mX3_betterBy 0 [(0, .ref p), (1, .ref a), (2, .int (nI T))] [] h Q := by
  obtain ⟨kp, ⟨r0, r1, r2⟩, ⟨k0, n0⟩, ⟨k1, n1⟩, ⟨k2, n2⟩, -⟩ := id P
  have loop : ∀ n q v, q < n → T &&& q = q → bst fit B T q v → Rn G (d + 1) mX3_betterBy 10 [(0, .ref p), (1, .ref a), (2, .int (nI T)), (3, .int (nI v)), (4, .int (nI q))] [] h Q := by
    intro n
    induction n with
    | zero => intro q v hq0; omega
    | succ n ih =>
      intro q v hqn hs b
      have lq := sub_le hs
      have hv := b.1
      rcases Nat.eq_zero_or_pos q with z | z
      · subst z
        have k := hq v b
        refine x_iload eX3_betterBy_10 rfl ?_
        refine x_if_le (tgt := 52) eX3_betterBy_12 (by decide) (fun cq1 => ?_) (fun cq1 => ?_)
        · first | refine x_aload_n eX3_betterBy_52 rfl rfl ?_ | refine x_aload_nN eX3_betterBy_52 rfl rfl ?_
          first | refine x_getR eX3_betterBy_53 fk_X3_18 rfl (by assumption) (by assumption) ?_ | refine x_getN eX3_betterBy_53 fk_X3_18 rfl (by assumption) (by assumption) ?_
          refine x_iload_n eX3_betterBy_56 rfl rfl ?_
          refine x_iload_n eX3_betterBy_57 rfl rfl ?_
          first | refine x_iastN eX3_betterBy_58 (by with_reducible rfl) (by assumption) (by assumption) (by omega) (by omega) ?_ | refine x_iast eX3_betterBy_58 (by assumption) (by assumption) ?_
          refine x_ret (rt := none) eX3_betterBy_59 rfl ?_
          exact k
        · exact absurd (show nI 0 ≤ 0 by decide) cq1
      · have ea := (and_n (a := q - 1) (b := T) (by omega) hT).1
        have st := bst.step hs (by omega) b
        have lq1 : (q - 1) &&& T ≤ q - 1 := Nat.and_le_left
        have sq : T &&& ((q - 1) &&& T) = (q - 1) &&& T := by rw [Nat.and_comm, Nat.and_assoc, Nat.and_self]
        have iw := ih ((q - 1) &&& T) _ (by omega) sq st
        have w41 : ∀ u, (if fit q then min v (1 + min (B (T - q)) 25) else v) = u → Rn G (d + 1) mX3_betterBy 41 [(0, .ref p), (1, .ref a), (2, .int (nI T)), (3, .int (nI u)), (4, .int (nI q))] [] h Q := fun u eu => by
          rw [eu] at iw
          refine x_iload eX3_betterBy_41 rfl ?_
          refine x_iconst (v := nI 1) eX3_betterBy_43 (by decide) ?_
          first | refine x_isubN eX3_betterBy_44 (by with_reducible rfl) (by with_reducible rfl) (by omega) ?_ | refine x_isub eX3_betterBy_44 ?_
          refine x_iload_n eX3_betterBy_45 rfl rfl ?_
          refine x_iand eX3_betterBy_46 ?_
          rw [ea]
          refine x_istore eX3_betterBy_47 (by decide) rfl rfl ?_
          refine x_goto (tgt := 10) eX3_betterBy_49 (by decide) ?_
          refine Rn.weak (iw) (by repeat' first | exact fun _ h => absurd h List.not_mem_nil | refine List.forall_mem_cons.mpr ⟨rfl, ?_⟩)
        have ef := hfit q (by omega) (by omega)
        have eN := hN (T - q) (by omega)
        obtain ⟨u, hu⟩ : ∃ u, u = min (B (T - q)) 25 := ⟨_, rfl⟩
        have u25 : u ≤ 25 := by omega
        rw [← hu] at eN w41
        have em : (if nI (u + 1) < nI v then nI (u + 1) else nI v) = nI (min v (1 + u)) := by
          by_cases y : u + 1 < v
          · rw [if_pos (nI_lt y (by omega)), Nat.min_eq_right (by omega), Nat.add_comm]
          · rw [if_neg (nI_nlt (by omega) (by omega)), Nat.min_eq_left (by omega)]
        refine x_iload eX3_betterBy_10 rfl ?_
        refine x_if_le (tgt := 52) eX3_betterBy_12 (by decide) (fun cq1 => ?_) (fun cq1 => ?_)
        · exact absurd cq1 (nI_nle z (by omega))
        · first | refine x_aload_n eX3_betterBy_15 rfl rfl ?_ | refine x_aload_nN eX3_betterBy_15 rfl rfl ?_
          first | refine x_aload_n eX3_betterBy_16 rfl rfl ?_ | refine x_aload_nN eX3_betterBy_16 rfl rfl ?_
          refine x_iload eX3_betterBy_17 rfl ?_
          first | refine x_callV2 eX3_betterBy_19 lk_X3_42 (by assumption) (Nat.le_of_ble_eq_true rfl) (Nat.le_of_ble_eq_true rfl) ?_ | refine x_callVw2 eX3_betterBy_19 lk_X3_42 (by assumption) (Nat.le_of_ble_eq_true rfl) (Nat.le_of_ble_eq_true rfl) (Nat.le_of_ble_eq_true rfl) ?_
          refine Rn.deep (c_X3_fits (d := d) P ka e0 e1 (by omega) (fun _ => ?_)) (by omega)
          rw [← ef]
          first | refine x_if_eqB (tgt := 41) eX3_betterBy_22 (by decide) (by with_reducible rfl) (fun cq2 => ?_) (fun cq2 => ?_) | refine x_if_eq (tgt := 41) eX3_betterBy_22 (by decide) (fun cq2 => ?_) (fun cq2 => ?_)
          · have w := w41 v (by rw [show fit q = false from cq2]; rfl)
            refine Rn.weak (w) (by repeat' first | exact fun _ h => absurd h List.not_mem_nil | refine List.forall_mem_cons.mpr ⟨rfl, ?_⟩)
          · have w := w41 (min v (1 + u)) (by rw [show fit q = true from cq2]; rfl)
            refine x_iload_n eX3_betterBy_25 rfl rfl ?_
            first | refine x_aload_n eX3_betterBy_26 rfl rfl ?_ | refine x_aload_nN eX3_betterBy_26 rfl rfl ?_
            first | refine x_getR eX3_betterBy_27 fk_X3_18 rfl (by assumption) (by assumption) ?_ | refine x_getN eX3_betterBy_27 fk_X3_18 rfl (by assumption) (by assumption) ?_
            refine x_iload_n eX3_betterBy_30 rfl rfl ?_
            refine x_iload eX3_betterBy_31 rfl ?_
            first | refine x_isubN eX3_betterBy_33 (by with_reducible rfl) (by with_reducible rfl) (by omega) ?_ | refine x_isub eX3_betterBy_33 ?_
            first | refine x_ialdN eX3_betterBy_34 (by with_reducible rfl) (by assumption) (by assumption) (by omega) (by omega) ?_ | refine x_sldN eX3_betterBy_34 (by with_reducible rfl) (by assumption) (by assumption) (by omega) (by omega) ?_ | refine x_iald eX3_betterBy_34 (by assumption) (by assumption) ?_
            rw [eN]
            refine x_iconst (v := nI 1) eX3_betterBy_35 (by decide) ?_
            first | refine x_iaddN eX3_betterBy_36 (by with_reducible rfl) (by with_reducible rfl) ?_ | refine x_iadd eX3_betterBy_36 ?_
            refine x_min eX3_betterBy_37 lk_X3_39 (Nat.le_of_ble_eq_true rfl) ?_
            rw [em]
            refine x_istore_n eX3_betterBy_40 rfl (by decide) rfl rfl ?_
            refine Rn.weak (w) (by repeat' first | exact fun _ h => absurd h List.not_mem_nil | refine List.forall_mem_cons.mpr ⟨rfl, ?_⟩)
  have w0 := loop (T + 1) T (min (B T) 25) (by omega) (Nat.and_self T) (bst.beg rfl)
  have eT := hN T (Nat.le_refl _)
  first | refine x_aload_n eX3_betterBy_0 rfl rfl ?_ | refine x_aload_nN eX3_betterBy_0 rfl rfl ?_
  first | refine x_getR eX3_betterBy_1 fk_X3_18 rfl (by assumption) (by assumption) ?_ | refine x_getN eX3_betterBy_1 fk_X3_18 rfl (by assumption) (by assumption) ?_
  refine x_iload_n eX3_betterBy_4 rfl rfl ?_
  first | refine x_ialdN eX3_betterBy_5 (by with_reducible rfl) (by assumption) (by assumption) (by omega) (by omega) ?_ | refine x_sldN eX3_betterBy_5 (by with_reducible rfl) (by assumption) (by assumption) (by omega) (by omega) ?_ | refine x_iald eX3_betterBy_5 (by assumption) (by assumption) ?_
  rw [eT]
  refine x_istore_n eX3_betterBy_6 rfl (by decide) rfl rfl ?_
  refine x_iload_n eX3_betterBy_7 rfl rfl ?_
  refine x_istore eX3_betterBy_8 (by decide) rfl rfl ?_
  refine Rn.weak (w0) (by repeat' first | exact fun _ h => absurd h List.not_mem_nil | refine List.forall_mem_cons.mpr ⟨rfl, ?_⟩)
end FEW3

