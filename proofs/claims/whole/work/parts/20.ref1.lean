/-! ===== the reference: what it reads ===== -/
set_option maxRecDepth 100000 in
set_option maxHeartbeats 4000000 in
theorem qi {Q : Option Value → AH → Prop} {h : AH} {x y : Int32} (hq : Q (some (.int x)) h) (e : y = x) : Q (some (.int y)) h := e ▸ hq
def inR (v lo hi : Int32) : Bool := decide (lo ≤ v) && decide (v ≤ hi)
/-- the reference's object and its state array -/
def Md (h : AH) (x S : Nat) : Prop := hk h x = 8 ∧ hr h x 0 = some S ∧ hk h S = 20 ∧ hn h S = 9000
def sl (g : Nat → Int32) (s k : Nat) : Int32 := g (5050 + 390 * s + k)
def bl (g : Nat → Int32) (b k : Nat) : Int32 := g (10 + 210 * b + k)
section REF1
variable {G : GG} {d : Nat} {h : AH} {Q : Option Value → AH → Prop} {x S : Nat}
set_option maxRecDepth 100000 in
set_option maxHeartbeats 4000000 in
theorem c_X9_isIn {v lo hi : Int32} (hq : Q (some (.int (bI (inR v lo hi)))) h) : Rn G d mX9_isIn 0 [(0, .int v), (1, .int lo), (2, .int hi)] [] h Q := by
  refine x_iload_n eX9_isIn_0 rfl rfl ?_
  refine x_iload_n eX9_isIn_1 rfl rfl ?_
  first | refine x_icmp_ltN (tgt := 14) eX9_isIn_2 (by decide) (by with_reducible rfl) (by with_reducible rfl) (by omega) (by omega) (fun cq1 => ?_) (fun cq1 => ?_) | refine x_icmp_lt (tgt := 14) eX9_isIn_2 (by decide) (fun cq1 => ?_) (fun cq1 => ?_)
  · refine x_iconst (v := nI 0) eX9_isIn_14 (by decide) ?_
    refine x_zret eX9_isIn_15 rfl (by first | exact Or.inl rfl | exact Or.inr rfl | exact bI_or _ | assumption) ?_
    exact qi hq (by have : decide (lo ≤ v) = false := decide_eq_false (Int32.not_le.mpr cq1); simp [inR, this]; rfl)
  · refine x_iload_n eX9_isIn_5 rfl rfl ?_
    refine x_iload_n eX9_isIn_6 rfl rfl ?_
    first | refine x_icmp_gtN (tgt := 14) eX9_isIn_7 (by decide) (by with_reducible rfl) (by with_reducible rfl) (by omega) (by omega) (fun cq2 => ?_) (fun cq2 => ?_) | refine x_icmp_gt (tgt := 14) eX9_isIn_7 (by decide) (fun cq2 => ?_) (fun cq2 => ?_)
    · refine x_iconst (v := nI 0) eX9_isIn_14 (by decide) ?_
      refine x_zret eX9_isIn_15 rfl (by first | exact Or.inl rfl | exact Or.inr rfl | exact bI_or _ | assumption) ?_
      exact qi hq (by have : decide (v ≤ hi) = false := decide_eq_false (Int32.not_le.mpr cq2); simp [inR, this]; rfl)
    · refine x_iconst (v := nI 1) eX9_isIn_10 (by decide) ?_
      refine x_goto (tgt := 15) eX9_isIn_11 (by decide) ?_
      refine x_zret eX9_isIn_15 rfl (by first | exact Or.inl rfl | exact Or.inr rfl | exact bI_or _ | assumption) ?_
      exact qi hq (by have a1 : lo ≤ v := Int32.not_lt.mp cq1; have a2 : v ≤ hi := Int32.not_lt.mp cq2; simp [inR, a1, a2]; rfl)
set_option maxRecDepth 100000 in
set_option maxHeartbeats 4000000 in
theorem c_X9_sail {s k : Nat} (M : Md h x S) (hi5 : 5050 + 390 * s + k < 9000) (hq : Q (some (.int (sl (hi h S) s k))) h) : Rn G d mX9_sail 0 [(0, .ref x), (1, .int (nI s)), (2, .int (nI k))] [] h Q := by
  obtain ⟨hx, hS, kS, nS⟩ := M
  first | refine x_aload_n eX9_sail_0 rfl rfl ?_ | refine x_aload_nN eX9_sail_0 rfl rfl ?_
  first | refine x_getR eX9_sail_1 fk_X9_7 rfl (by assumption) (by assumption) ?_ | refine x_getN eX9_sail_1 fk_X9_7 rfl (by assumption) (by assumption) ?_
  refine x_sipush (v := nI 5050) eX9_sail_4 (by decide) ?_
  refine x_sipush (v := nI 390) eX9_sail_7 (by decide) ?_
  refine x_iload_n eX9_sail_10 rfl rfl ?_
  first | refine x_imulN eX9_sail_11 (by with_reducible rfl) (by with_reducible rfl) ?_ | refine x_imul eX9_sail_11 ?_
  first | refine x_iaddN eX9_sail_12 (by with_reducible rfl) (by with_reducible rfl) ?_ | refine x_iadd eX9_sail_12 ?_
  refine x_iload_n eX9_sail_13 rfl rfl ?_
  first | refine x_iaddN eX9_sail_14 (by with_reducible rfl) (by with_reducible rfl) ?_ | refine x_iadd eX9_sail_14 ?_
  first | refine x_ialdN eX9_sail_15 (by with_reducible rfl) (by assumption) (by assumption) (by omega) (by omega) ?_ | refine x_sldN eX9_sail_15 (by with_reducible rfl) (by assumption) (by assumption) (by omega) (by omega) ?_ | refine x_iald eX9_sail_15 (by assumption) (by assumption) ?_
  refine x_iret eX9_sail_16 rfl ?_
  exact hq
set_option maxRecDepth 100000 in
set_option maxHeartbeats 4000000 in
theorem c_X9_bolt {s k : Nat} (M : Md h x S) (hi5 : 10 + 210 * s + k < 9000) (hq : Q (some (.int (bl (hi h S) s k))) h) : Rn G d mX9_bolt 0 [(0, .ref x), (1, .int (nI s)), (2, .int (nI k))] [] h Q := by
  obtain ⟨hx, hS, kS, nS⟩ := M
  first | refine x_aload_n eX9_bolt_0 rfl rfl ?_ | refine x_aload_nN eX9_bolt_0 rfl rfl ?_
  first | refine x_getR eX9_bolt_1 fk_X9_7 rfl (by assumption) (by assumption) ?_ | refine x_getN eX9_bolt_1 fk_X9_7 rfl (by assumption) (by assumption) ?_
  refine x_bipush (v := nI 10) eX9_bolt_4 (by decide) ?_
  refine x_sipush (v := nI 210) eX9_bolt_6 (by decide) ?_
  refine x_iload_n eX9_bolt_9 rfl rfl ?_
  first | refine x_imulN eX9_bolt_10 (by with_reducible rfl) (by with_reducible rfl) ?_ | refine x_imul eX9_bolt_10 ?_
  first | refine x_iaddN eX9_bolt_11 (by with_reducible rfl) (by with_reducible rfl) ?_ | refine x_iadd eX9_bolt_11 ?_
  refine x_iload_n eX9_bolt_12 rfl rfl ?_
  first | refine x_iaddN eX9_bolt_13 (by with_reducible rfl) (by with_reducible rfl) ?_ | refine x_iadd eX9_bolt_13 ?_
  first | refine x_ialdN eX9_bolt_14 (by with_reducible rfl) (by assumption) (by assumption) (by omega) (by omega) ?_ | refine x_sldN eX9_bolt_14 (by with_reducible rfl) (by assumption) (by assumption) (by omega) (by omega) ?_ | refine x_iald eX9_bolt_14 (by assumption) (by assumption) ?_
  refine x_iret eX9_bolt_15 rfl ?_
  exact hq
set_option maxRecDepth 100000 in
set_option maxHeartbeats 4000000 in
theorem c_X9_putSail {s k : Nat} {v : Int32} (M : Md h x S) (hi5 : 5050 + 390 * s + k < 9000) (hq : Q none (wi h S (5050 + 390 * s + k) v)) : Rn G d mX9_putSail 0 [(0, .ref x), (1, .int (nI s)), (2, .int (nI k)), (3, .int v)] [] h Q := by
  obtain ⟨hx, hS, kS, nS⟩ := M
  first | refine x_aload_n eX9_putSail_0 rfl rfl ?_ | refine x_aload_nN eX9_putSail_0 rfl rfl ?_
  first | refine x_getR eX9_putSail_1 fk_X9_7 rfl (by assumption) (by assumption) ?_ | refine x_getN eX9_putSail_1 fk_X9_7 rfl (by assumption) (by assumption) ?_
  refine x_sipush (v := nI 5050) eX9_putSail_4 (by decide) ?_
  refine x_sipush (v := nI 390) eX9_putSail_7 (by decide) ?_
  refine x_iload_n eX9_putSail_10 rfl rfl ?_
  first | refine x_imulN eX9_putSail_11 (by with_reducible rfl) (by with_reducible rfl) ?_ | refine x_imul eX9_putSail_11 ?_
  first | refine x_iaddN eX9_putSail_12 (by with_reducible rfl) (by with_reducible rfl) ?_ | refine x_iadd eX9_putSail_12 ?_
  refine x_iload_n eX9_putSail_13 rfl rfl ?_
  first | refine x_iaddN eX9_putSail_14 (by with_reducible rfl) (by with_reducible rfl) ?_ | refine x_iadd eX9_putSail_14 ?_
  refine x_iload_n eX9_putSail_15 rfl rfl ?_
  first | refine x_iastN eX9_putSail_16 (by with_reducible rfl) (by assumption) (by assumption) (by omega) (by omega) ?_ | refine x_iast eX9_putSail_16 (by assumption) (by assumption) ?_
  refine x_ret (rt := none) eX9_putSail_17 rfl ?_
  exact hq
set_option maxRecDepth 100000 in
set_option maxHeartbeats 4000000 in
theorem c_X9_putBolt {s k : Nat} {v : Int32} (M : Md h x S) (hi5 : 10 + 210 * s + k < 9000) (hq : Q none (wi h S (10 + 210 * s + k) v)) : Rn G d mX9_putBolt 0 [(0, .ref x), (1, .int (nI s)), (2, .int (nI k)), (3, .int v)] [] h Q := by
  obtain ⟨hx, hS, kS, nS⟩ := M
  first | refine x_aload_n eX9_putBolt_0 rfl rfl ?_ | refine x_aload_nN eX9_putBolt_0 rfl rfl ?_
  first | refine x_getR eX9_putBolt_1 fk_X9_7 rfl (by assumption) (by assumption) ?_ | refine x_getN eX9_putBolt_1 fk_X9_7 rfl (by assumption) (by assumption) ?_
  refine x_bipush (v := nI 10) eX9_putBolt_4 (by decide) ?_
  refine x_sipush (v := nI 210) eX9_putBolt_6 (by decide) ?_
  refine x_iload_n eX9_putBolt_9 rfl rfl ?_
  first | refine x_imulN eX9_putBolt_10 (by with_reducible rfl) (by with_reducible rfl) ?_ | refine x_imul eX9_putBolt_10 ?_
  first | refine x_iaddN eX9_putBolt_11 (by with_reducible rfl) (by with_reducible rfl) ?_ | refine x_iadd eX9_putBolt_11 ?_
  refine x_iload_n eX9_putBolt_12 rfl rfl ?_
  first | refine x_iaddN eX9_putBolt_13 (by with_reducible rfl) (by with_reducible rfl) ?_ | refine x_iadd eX9_putBolt_13 ?_
  refine x_iload_n eX9_putBolt_14 rfl rfl ?_
  first | refine x_iastN eX9_putBolt_15 (by with_reducible rfl) (by assumption) (by assumption) (by omega) (by omega) ?_ | refine x_iast eX9_putBolt_15 (by assumption) (by assumption) ?_
  refine x_ret (rt := none) eX9_putBolt_16 rfl ?_
  exact hq
set_option maxRecDepth 100000 in
set_option maxHeartbeats 4000000 in
theorem c_X9_pieces {s : Nat} (M : Md h x S) (hi5 : 5050 + 390 * s + 9 < 9000) (hq : Q (some (.int (sl (hi h S) s 8 + sl (hi h S) s 9))) h) : Rn G (d + 1) mX9_pieces 0 [(0, .ref x), (1, .int (nI s))] [] h Q := by
  obtain ⟨hx, hS, kS, nS⟩ := id M
  first | refine x_aload_n eX9_pieces_0 rfl rfl ?_ | refine x_aload_nN eX9_pieces_0 rfl rfl ?_
  refine x_iload_n eX9_pieces_1 rfl rfl ?_
  refine x_bipush (v := nI 8) eX9_pieces_2 (by decide) ?_
  refine x_callV2 eX9_pieces_4 lk_X9_57 (by assumption) (Nat.le_of_ble_eq_true rfl) (Nat.le_of_ble_eq_true rfl) ?_
  refine c_X9_sail M (by omega) (fun _ => ?_)
  first | refine x_aload_n eX9_pieces_7 rfl rfl ?_ | refine x_aload_nN eX9_pieces_7 rfl rfl ?_
  refine x_iload_n eX9_pieces_8 rfl rfl ?_
  refine x_bipush (v := nI 9) eX9_pieces_9 (by decide) ?_
  refine x_callV2 eX9_pieces_11 lk_X9_57 (by assumption) (Nat.le_of_ble_eq_true rfl) (Nat.le_of_ble_eq_true rfl) ?_
  refine c_X9_sail M (by omega) (fun _ => ?_)
  first | refine x_iaddN eX9_pieces_14 (by with_reducible rfl) (by with_reducible rfl) ?_ | refine x_iadd eX9_pieces_14 ?_
  refine x_iret eX9_pieces_15 rfl ?_
  exact hq
end REF1

