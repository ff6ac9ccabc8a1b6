/-! ===== the law: its loop ===== -/
section LAW15
variable {G : GG} {h : AH} {y x k : Nat} {Q : Option Value → AH → Prop}
set_option maxRecDepth 100000 in
set_option maxHeartbeats 4000000 in
theorem and31 (v : Int32) : ∃ c, c < 32 ∧ v &&& nI 31 = nI c := by
  have l1 : v.toBitVec.toNat &&& 31 ≤ 31 := Nat.and_le_right
  refine ⟨v.toBitVec.toNat &&& 31, by omega, ?_⟩
  apply Int32.toBitVec_inj.mp
  apply BitVec.eq_of_toNat_eq
  rw [Int32.toBitVec_and, BitVec.toNat_and, show (nI 31).toBitVec.toNat = 31 from rfl]
  show _ = (v.toBitVec.toNat &&& 31) % 2 ^ 32
  omega
set_option maxRecDepth 100000 in
set_option maxHeartbeats 4000000 in
theorem lw_case (S : St G y x k h) (hk6 : 6 * k + 6 ≤ gL G) (hL : gL G ≤ 3072) (kc : Kc G y x k Q) {v : Int32} : Rn G 10 mL_law 33 [(0, .ref (gb G)), (1, .ref y), (2, .ref x), (3, .int (nI (6 * k)))] [.int (v &&& nI 31)] h Q := by
  obtain ⟨o, kp, nx, la, ps, R, r⟩ := S
  obtain ⟨c, hc, ec⟩ := and31 v
  rw [ec]
  have h32 : c = 0 ∨ c = 1 ∨ c = 2 ∨ c = 3 ∨ c = 4 ∨ c = 5 ∨ c = 6 ∨ c = 7 ∨ c = 8 ∨ c = 9 ∨ c = 10 ∨ c = 11 ∨ c = 12 ∨ c = 13 ∨ c = 14 ∨ c = 15 ∨ c = 16 ∨ c = 17 ∨ c = 18 ∨ c = 19 ∨ c = 20 ∨ c = 21 ∨ c = 22 ∨ c = 23 ∨ c = 24 ∨ c = 25 ∨ c = 26 ∨ c = 27 ∨ c = 28 ∨ c = 29 ∨ c = 30 ∨ c = 31 := by omega
  rcases h32 with rfl | rfl | rfl | rfl | rfl | rfl | rfl | rfl | rfl | rfl | rfl | rfl | rfl | rfl | rfl | rfl | rfl | rfl | rfl | rfl | rfl | rfl | rfl | rfl | rfl | rfl | rfl | rfl | rfl | rfl | rfl | rfl
  · refine x_tabIn (off := 143) (tgt := 176) eL_law_33 (by decide) (by decide) (by decide) (by decide) ?_
    exact cs_0 R r hk6 hL kc
  · refine x_tabIn (off := 186) (tgt := 219) eL_law_33 (by decide) (by decide) (by decide) (by decide) ?_
    exact cs_1 R r hk6 hL kc
  · refine x_tabIn (off := 219) (tgt := 252) eL_law_33 (by decide) (by decide) (by decide) (by decide) ?_
    exact cs_2 R r hk6 hL kc
  · refine x_tabIn (off := 262) (tgt := 295) eL_law_33 (by decide) (by decide) (by decide) (by decide) ?_
    exact cs_3 R r hk6 hL kc
  · refine x_tabIn (off := 295) (tgt := 328) eL_law_33 (by decide) (by decide) (by decide) (by decide) ?_
    exact cs_4 R r hk6 hL kc
  · refine x_tabIn (off := 358) (tgt := 391) eL_law_33 (by decide) (by decide) (by decide) (by decide) ?_
    exact cs_5 R r hk6 hL kc
  · refine x_tabIn (off := 401) (tgt := 434) eL_law_33 (by decide) (by decide) (by decide) (by decide) ?_
    exact cs_6 R r hk6 hL kc
  · refine x_tabIn (off := 454) (tgt := 487) eL_law_33 (by decide) (by decide) (by decide) (by decide) ?_
    exact cs_7 R r hk6 hL kc
  · refine x_tabIn (off := 497) (tgt := 530) eL_law_33 (by decide) (by decide) (by decide) (by decide) ?_
    exact cs_8 R r hk6 hL kc
  · refine x_tabIn (off := 540) (tgt := 573) eL_law_33 (by decide) (by decide) (by decide) (by decide) ?_
    exact cs_9 R r hk6 hL kc
  · refine x_tabIn (off := 583) (tgt := 616) eL_law_33 (by decide) (by decide) (by decide) (by decide) ?_
    exact cs_10 R r hk6 hL kc
  · refine x_tabIn (off := 636) (tgt := 669) eL_law_33 (by decide) (by decide) (by decide) (by decide) ?_
    exact cs_11 R r hk6 hL kc
  · refine x_tabIn (off := 669) (tgt := 702) eL_law_33 (by decide) (by decide) (by decide) (by decide) ?_
    exact cs_12 R r hk6 hL kc
  · refine x_tabIn (off := 712) (tgt := 745) eL_law_33 (by decide) (by decide) (by decide) (by decide) ?_
    exact cs_13 R r hk6 hL kc
  · refine x_tabIn (off := 745) (tgt := 778) eL_law_33 (by decide) (by decide) (by decide) (by decide) ?_
    exact cs_14 R r hk6 hL kc
  · refine x_tabIn (off := 808) (tgt := 841) eL_law_33 (by decide) (by decide) (by decide) (by decide) ?_
    exact cs_15 R r hk6 hL kc
  · refine x_tabIn (off := 841) (tgt := 874) eL_law_33 (by decide) (by decide) (by decide) (by decide) ?_
    exact cs_16 R r hk6 hL kc
  · refine x_tabIn (off := 864) (tgt := 897) eL_law_33 (by decide) (by decide) (by decide) (by decide) ?_
    exact cs_17 R r hk6 hL kc
  · refine x_tabIn (off := 897) (tgt := 930) eL_law_33 (by decide) (by decide) (by decide) (by decide) ?_
    exact cs_18 R r hk6 hL kc
  · refine x_tabIn (off := 920) (tgt := 953) eL_law_33 (by decide) (by decide) (by decide) (by decide) ?_
    exact cs_19 R r hk6 hL kc
  · refine x_tabIn (off := 953) (tgt := 986) eL_law_33 (by decide) (by decide) (by decide) (by decide) ?_
    exact cs_20 R r hk6 hL kc
  · refine x_tabIn (off := 986) (tgt := 1019) eL_law_33 (by decide) (by decide) (by decide) (by decide) ?_
    exact cs_21 R r hk6 hL kc
  · refine x_tabIn (off := 1019) (tgt := 1052) eL_law_33 (by decide) (by decide) (by decide) (by decide) ?_
    exact cs_22 R r hk6 hL kc
  · refine x_tabIn (off := 1068) (tgt := 1101) eL_law_33 (by decide) (by decide) (by decide) (by decide) ?_
    exact cs_23 R r hk6 hL kc
  · refine x_tabIn (off := 1101) (tgt := 1134) eL_law_33 (by decide) (by decide) (by decide) (by decide) ?_
    exact cs_24 R r hk6 hL kc
  · refine x_tabIn (off := 1134) (tgt := 1167) eL_law_33 (by decide) (by decide) (by decide) (by decide) ?_
    exact cs_25 R r hk6 hL kc
  · refine x_tabIn (off := 1158) (tgt := 1191) eL_law_33 (by decide) (by decide) (by decide) (by decide) ?_
    exact cs_26 R r hk6 hL kc
  · refine x_tabIn (off := 1171) (tgt := 1204) eL_law_33 (by decide) (by decide) (by decide) (by decide) ?_
    exact cs_27 R r hk6 hL kc
  · refine x_tabIn (off := 1184) (tgt := 1217) eL_law_33 (by decide) (by decide) (by decide) (by decide) ?_
    exact cs_28 R r hk6 hL kc
  · refine x_tabIn (off := 1207) (tgt := 1240) eL_law_33 (by decide) (by decide) (by decide) (by decide) ?_
    exact cs_29 R r hk6 hL kc
  · refine x_tabIn (off := 1230) (tgt := 1263) eL_law_33 (by decide) (by decide) (by decide) (by decide) ?_
    exact cs_30 R r hk6 hL kc
  · refine x_tabIn (off := 1243) (tgt := 1276) eL_law_33 (by decide) (by decide) (by decide) (by decide) ?_
    exact cs_31 R r hk6 hL kc
set_option maxRecDepth 100000 in
set_option maxHeartbeats 4000000 in
theorem lw_loop (hL : gL G ≤ 3072) (hq : ∀ h, Q (some (.int 1)) h) : ∀ n k h, k + n = gL G / 6 → St G y x k h → Rn G 10 mL_law 18 [(0, .ref (gb G)), (1, .ref y), (2, .ref x), (3, .int (nI (6 * k)))] [] h Q := by
  intro n
  induction n with
  | zero =>
    intro k h hk0 S
    by_cases h6 : 6 ≤ gL G
    · skip
      refine x_iload_n eL_law_18 rfl rfl ?_
      first | refine x_aload_n eL_law_19 rfl rfl ?_ | refine x_aload_nN eL_law_19 rfl rfl ?_
      refine x_scl eL_law_20 ?_
      refine x_bipush (v := nI 6) eL_law_21 (by decide) ?_
      first | refine x_isubN eL_law_23 (by with_reducible rfl) (by with_reducible rfl) (by omega) ?_ | refine x_isub eL_law_23 ?_
      first | refine x_icmp_gtN (tgt := 1305) eL_law_24 (by decide) (by with_reducible rfl) (by with_reducible rfl) (by omega) (by omega) (fun cq1 => ?_) (fun cq1 => ?_) | refine x_icmp_gt (tgt := 1305) eL_law_24 (by decide) (fun cq1 => ?_) (fun cq1 => ?_)
      · refine x_iconst (v := nI 1) eL_law_1305 (by decide) ?_
        refine x_zret eL_law_1306 rfl (by first | exact Or.inl rfl | exact Or.inr rfl | exact bI_or _ | assumption) ?_
        exact hq _
      · exact absurd cq1 (by omega)
    · have ek : k = 0 := by omega
      subst ek
      refine x_iload_n eL_law_18 rfl rfl ?_
      first | refine x_aload_n eL_law_19 rfl rfl ?_ | refine x_aload_nN eL_law_19 rfl rfl ?_
      refine x_scl eL_law_20 ?_
      refine x_bipush (v := nI 6) eL_law_21 (by decide) ?_
      first | refine x_isubN eL_law_23 (by with_reducible rfl) (by with_reducible rfl) (by omega) ?_ | refine x_isub eL_law_23 ?_
      first | refine x_icmp_gtN (tgt := 1305) eL_law_24 (by decide) (by with_reducible rfl) (by with_reducible rfl) (by omega) (by omega) (fun cq1 => ?_) (fun cq1 => ?_) | refine x_icmp_gt (tgt := 1305) eL_law_24 (by decide) (fun cq1 => ?_) (fun cq1 => ?_)
      · refine x_iconst (v := nI 1) eL_law_1305 (by decide) ?_
        refine x_zret eL_law_1306 rfl (by first | exact Or.inl rfl | exact Or.inr rfl | exact bI_or _ | assumption) ?_
        exact hq _
      · refine absurd (Int32.lt_iff_toInt_lt.mpr ?_) cq1
        rw [sub_nI (by omega) (by omega), nI_toInt (by omega)]
        omega
  | succ n ih =>
    intro k h hk0 S
    have h6 : 6 ≤ gL G := by omega
    have hk6 : 6 * k + 6 ≤ gL G := by omega
    have kc : Kc G y x k Q := fun h' S' => by
      have iw := ih (k + 1) h' (by omega) S'
      refine x_iinc eL_law_1299 rfl rfl (by decide) rfl rfl ?_
      refine x_goto (tgt := 18) eL_law_1302 (by decide) ?_
      rw [show nI (6 * k) + Int32.ofInt 6 = nI (6 * (k + 1)) from nI_add (6 * k) 6]
      refine Rn.weak (iw) (by repeat' first | exact fun _ h => absurd h List.not_mem_nil | refine List.forall_mem_cons.mpr ⟨rfl, ?_⟩)
    have w := lw_case (v := gx G (6 * k)) S hk6 hL kc
    refine x_iload_n eL_law_18 rfl rfl ?_
    first | refine x_aload_n eL_law_19 rfl rfl ?_ | refine x_aload_nN eL_law_19 rfl rfl ?_
    refine x_scl eL_law_20 ?_
    refine x_bipush (v := nI 6) eL_law_21 (by decide) ?_
    first | refine x_isubN eL_law_23 (by with_reducible rfl) (by with_reducible rfl) (by omega) ?_ | refine x_isub eL_law_23 ?_
    first | refine x_icmp_gtN (tgt := 1305) eL_law_24 (by decide) (by with_reducible rfl) (by with_reducible rfl) (by omega) (by omega) (fun cq1 => ?_) (fun cq1 => ?_) | refine x_icmp_gt (tgt := 1305) eL_law_24 (by decide) (fun cq1 => ?_) (fun cq1 => ?_)
    · exact absurd cq1 (by omega)
    · first | refine x_aload_n eL_law_27 rfl rfl ?_ | refine x_aload_nN eL_law_27 rfl rfl ?_
      refine x_iload_n eL_law_28 rfl rfl ?_
      refine x_scr eL_law_29 (by with_reducible rfl) (by omega) (by omega) ?_
      refine x_bipush (v := nI 31) eL_law_30 (by decide) ?_
      refine x_iand eL_law_32 ?_
      exact w
end LAW15

