/-! ===== the class: small ones ===== -/
section CLS1
variable {G : GG} {d : Nat} {h : AH} {Q : Option Value → AH → Prop}
set_option maxRecDepth 100000 in
set_option maxHeartbeats 4000000 in
theorem c_X8_isWithin {v lo hi : Int32} (hq : Q (some (.int (bI (inR v lo hi)))) h) : Rn G d mX8_isWithin 0 [(0, .int v), (1, .int lo), (2, .int hi)] [] h Q := by
  refine x_iload_n eX8_isWithin_0 rfl rfl ?_
  refine x_iload_n eX8_isWithin_1 rfl rfl ?_
  first | refine x_icmp_ltN (tgt := 14) eX8_isWithin_2 (by decide) (by with_reducible rfl) (by with_reducible rfl) (by omega) (by omega) (fun cq1 => ?_) (fun cq1 => ?_) | refine x_icmp_lt (tgt := 14) eX8_isWithin_2 (by decide) (fun cq1 => ?_) (fun cq1 => ?_)
  · refine x_iconst (v := nI 0) eX8_isWithin_14 (by decide) ?_
    refine x_zret eX8_isWithin_15 rfl (by first | exact Or.inl rfl | exact Or.inr rfl | exact bI_or _ | assumption) ?_
    exact qi hq (by unfold inR; rw [decide_eq_false (Int32.not_le.mpr cq1)]; rfl)
  · refine x_iload_n eX8_isWithin_5 rfl rfl ?_
    refine x_iload_n eX8_isWithin_6 rfl rfl ?_
    first | refine x_icmp_gtN (tgt := 14) eX8_isWithin_7 (by decide) (by with_reducible rfl) (by with_reducible rfl) (by omega) (by omega) (fun cq2 => ?_) (fun cq2 => ?_) | refine x_icmp_gt (tgt := 14) eX8_isWithin_7 (by decide) (fun cq2 => ?_) (fun cq2 => ?_)
    · refine x_iconst (v := nI 0) eX8_isWithin_14 (by decide) ?_
      refine x_zret eX8_isWithin_15 rfl (by first | exact Or.inl rfl | exact Or.inr rfl | exact bI_or _ | assumption) ?_
      exact qi hq (by unfold inR; rw [decide_eq_false (Int32.not_le.mpr cq2), Bool.and_false]; rfl)
    · refine x_iconst (v := nI 1) eX8_isWithin_10 (by decide) ?_
      refine x_goto (tgt := 15) eX8_isWithin_11 (by decide) ?_
      refine x_zret eX8_isWithin_15 rfl (by first | exact Or.inl rfl | exact Or.inr rfl | exact bI_or _ | assumption) ?_
      exact qi hq (by unfold inR; rw [decide_eq_true (Int32.not_lt.mp cq1), decide_eq_true (Int32.not_lt.mp cq2)]; rfl)
set_option maxRecDepth 100000 in
set_option maxHeartbeats 4000000 in
theorem c_X2_areTold {b : Int32} (hq : Q (some (.int (bI (gOK b)))) h) : Rn G (d + 1) mX2_areTold 0 [(0, .int b)] [] h Q := by
  refine x_iload_n eX2_areTold_0 rfl rfl ?_
  refine x_ldc (v := -2147483648) eX2_areTold_1 kk_X2_9 ?_
  first | refine x_icmp_eqN (tgt := 16) eX2_areTold_3 (by decide) (by with_reducible rfl) (by with_reducible rfl) (by omega) (by omega) (fun cq1 => ?_) (fun cq1 => ?_) | refine x_icmp_eq (tgt := 16) eX2_areTold_3 (by decide) (fun cq1 => ?_) (fun cq1 => ?_)
  · refine x_iconst (v := nI 1) eX2_areTold_16 (by decide) ?_
    refine x_goto (tgt := 21) eX2_areTold_17 (by decide) ?_
    refine x_zret eX2_areTold_21 rfl (by first | exact Or.inl rfl | exact Or.inr rfl | exact bI_or _ | assumption) ?_
    exact qi hq (by unfold gOK; rw [decide_eq_true cq1]; rfl)
  · refine x_iload_n eX2_areTold_6 rfl rfl ?_
    refine x_iconst (v := nI 0) eX2_areTold_7 (by decide) ?_
    refine x_ldc (v := 1148846080) eX2_areTold_8 kk_X2_10 ?_
    refine x_callSN3 eX2_areTold_10 lk_X2_11 (Nat.le_of_ble_eq_true rfl) (Nat.le_of_ble_eq_true rfl) ?_
    refine c_X8_isWithin (fun _ => ?_)
    first | refine x_if_eqB (tgt := 20) eX2_areTold_13 (by decide) (by with_reducible rfl) (fun cq2 => ?_) (fun cq2 => ?_) | refine x_if_eq (tgt := 20) eX2_areTold_13 (by decide) (fun cq2 => ?_) (fun cq2 => ?_)
    · refine x_iconst (v := nI 0) eX2_areTold_20 (by decide) ?_
      refine x_zret eX2_areTold_21 rfl (by first | exact Or.inl rfl | exact Or.inr rfl | exact bI_or _ | assumption) ?_
      exact qi hq (by have c2 : inR b 0 1148846080 = false := cq2; unfold inR at c2; unfold gOK; rw [decide_eq_false cq1, c2]; rfl)
    · refine x_iconst (v := nI 1) eX2_areTold_16 (by decide) ?_
      refine x_goto (tgt := 21) eX2_areTold_17 (by decide) ?_
      refine x_zret eX2_areTold_21 rfl (by first | exact Or.inl rfl | exact Or.inr rfl | exact bI_or _ | assumption) ?_
      exact qi hq (by have c2 : inR b 0 1148846080 = true := cq2; unfold inR at c2; unfold gOK; rw [c2, Bool.or_true]; rfl)
end CLS1

