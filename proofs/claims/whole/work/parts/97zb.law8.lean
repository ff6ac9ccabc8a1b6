/-! ===== the law: cases that only read ===== -/
section LAW10
variable {G : GG} {h : AH} {y x kp nx la k : Nat} {o : Nat → Nat} {ps : Nat → Nat → Int32} {Q : Option Value → AH → Prop}
set_option maxRecDepth 100000 in
set_option maxHeartbeats 4000000 in
theorem cs_3 (R : Rel h y x o kp nx la ps) (r : Ro G k h) (hk6 : 6 * k + 6 ≤ gL G) (hL : gL G ≤ 3072) (kc : Kc G y x k Q) : Rn G 10 mL_law 295 [(0, .ref (gb G)), (1, .ref y), (2, .ref x), (3, .int (nI (6 * k)))] [] h Q := by
  have ky := R.ky
  have kx := R.kx
  have hk5 : k < 512 := by omega
  have rm := r.rm hk5
  obtain ⟨⟨M, K, T⟩, C, A, ⟨I, B⟩, H⟩ := id R
  first | refine x_aload_n eL_law_295 rfl rfl ?_ | refine x_aload_nN eL_law_295 rfl rfl ?_
  first | refine x_aload_n eL_law_296 rfl rfl ?_ | refine x_aload_nN eL_law_296 rfl rfl ?_
  refine x_iload_n eL_law_297 rfl rfl ?_
  refine x_iconst (v := nI 1) eL_law_298 (by decide) ?_
  first | refine x_iaddN eL_law_299 (by with_reducible rfl) (by with_reducible rfl) ?_ | refine x_iadd eL_law_299 ?_
  refine x_scr eL_law_300 (by with_reducible rfl) (by omega) (by omega) ?_
  first | refine x_aload_n eL_law_301 rfl rfl ?_ | refine x_aload_nN eL_law_301 rfl rfl ?_
  refine x_iload_n eL_law_302 rfl rfl ?_
  refine x_iconst (v := nI 2) eL_law_303 (by decide) ?_
  first | refine x_iaddN eL_law_304 (by with_reducible rfl) (by with_reducible rfl) ?_ | refine x_iadd eL_law_304 ?_
  refine x_scr eL_law_305 (by with_reducible rfl) (by omega) (by omega) ?_
  first | refine x_callV2 eL_law_306 lk_L_28 (by assumption) (Nat.le_of_ble_eq_true rfl) (Nat.le_of_ble_eq_true rfl) ?_ | refine x_callVw2 eL_law_306 lk_L_28 (by assumption) (Nat.le_of_ble_eq_true rfl) (Nat.le_of_ble_eq_true rfl) (Nat.le_of_ble_eq_true rfl) ?_
  refine Rn.deep (c_X8_worn (d := 0) C I (fun _ => ?_)) (by omega)
  first | refine x_aload_n eL_law_309 rfl rfl ?_ | refine x_aload_nN eL_law_309 rfl rfl ?_
  first | refine x_aload_n eL_law_310 rfl rfl ?_ | refine x_aload_nN eL_law_310 rfl rfl ?_
  refine x_iload_n eL_law_311 rfl rfl ?_
  refine x_iconst (v := nI 1) eL_law_312 (by decide) ?_
  first | refine x_iaddN eL_law_313 (by with_reducible rfl) (by with_reducible rfl) ?_ | refine x_iadd eL_law_313 ?_
  refine x_scr eL_law_314 (by with_reducible rfl) (by omega) (by omega) ?_
  first | refine x_aload_n eL_law_315 rfl rfl ?_ | refine x_aload_nN eL_law_315 rfl rfl ?_
  refine x_iload_n eL_law_316 rfl rfl ?_
  refine x_iconst (v := nI 2) eL_law_317 (by decide) ?_
  first | refine x_iaddN eL_law_318 (by with_reducible rfl) (by with_reducible rfl) ?_ | refine x_iadd eL_law_318 ?_
  refine x_scr eL_law_319 (by with_reducible rfl) (by omega) (by omega) ?_
  first | refine x_callV2 eL_law_320 lk_L_32 (by assumption) (Nat.le_of_ble_eq_true rfl) (Nat.le_of_ble_eq_true rfl) ?_ | refine x_callVw2 eL_law_320 lk_L_32 (by assumption) (Nat.le_of_ble_eq_true rfl) (Nat.le_of_ble_eq_true rfl) (Nat.le_of_ble_eq_true rfl) ?_
  refine Rn.deep (c_X9_worn (d := 0) M.md I.gw (fun _ => ?_)) (by omega)
  first | refine x_icmp_eqN (tgt := 1299) eL_law_323 (by decide) (by with_reducible rfl) (by with_reducible rfl) (by omega) (by omega) (fun cq1 => ?_) (fun cq1 => ?_) | refine x_icmp_eq (tgt := 1299) eL_law_323 (by decide) (fun cq1 => ?_) (fun cq1 => ?_)
  · refine Rn.weak (kc _ (St.same R r hk5)) (by repeat' first | exact fun _ h => absurd h List.not_mem_nil | refine List.forall_mem_cons.mpr ⟨rfl, ?_⟩)
  · exact absurd rfl cq1
set_option maxRecDepth 100000 in
set_option maxHeartbeats 4000000 in
theorem cs_7 (R : Rel h y x o kp nx la ps) (r : Ro G k h) (hk6 : 6 * k + 6 ≤ gL G) (hL : gL G ≤ 3072) (kc : Kc G y x k Q) : Rn G 10 mL_law 487 [(0, .ref (gb G)), (1, .ref y), (2, .ref x), (3, .int (nI (6 * k)))] [] h Q := by
  have ky := R.ky
  have kx := R.kx
  have hk5 : k < 512 := by omega
  have rm := r.rm hk5
  obtain ⟨⟨M, K, T⟩, C, A, ⟨I, B⟩, H⟩ := id R
  first | refine x_aload_n eL_law_487 rfl rfl ?_ | refine x_aload_nN eL_law_487 rfl rfl ?_
  first | refine x_aload_n eL_law_488 rfl rfl ?_ | refine x_aload_nN eL_law_488 rfl rfl ?_
  refine x_iload_n eL_law_489 rfl rfl ?_
  refine x_iconst (v := nI 1) eL_law_490 (by decide) ?_
  first | refine x_iaddN eL_law_491 (by with_reducible rfl) (by with_reducible rfl) ?_ | refine x_iadd eL_law_491 ?_
  refine x_scr eL_law_492 (by with_reducible rfl) (by omega) (by omega) ?_
  first | refine x_aload_n eL_law_493 rfl rfl ?_ | refine x_aload_nN eL_law_493 rfl rfl ?_
  refine x_iload_n eL_law_494 rfl rfl ?_
  refine x_iconst (v := nI 2) eL_law_495 (by decide) ?_
  first | refine x_iaddN eL_law_496 (by with_reducible rfl) (by with_reducible rfl) ?_ | refine x_iadd eL_law_496 ?_
  refine x_scr eL_law_497 (by with_reducible rfl) (by omega) (by omega) ?_
  first | refine x_aload_n eL_law_498 rfl rfl ?_ | refine x_aload_nN eL_law_498 rfl rfl ?_
  refine x_iload_n eL_law_499 rfl rfl ?_
  refine x_iconst (v := nI 3) eL_law_500 (by decide) ?_
  first | refine x_iaddN eL_law_501 (by with_reducible rfl) (by with_reducible rfl) ?_ | refine x_iadd eL_law_501 ?_
  refine x_scr eL_law_502 (by with_reducible rfl) (by omega) (by omega) ?_
  refine x_callV3 eL_law_503 lk_L_47 (by assumption) (Nat.le_of_ble_eq_true rfl) (Nat.le_of_ble_eq_true rfl) ?_
  refine Rn.deep (c_X8_at (d := 0) C I (fun _ => ?_)) (by omega)
  first | refine x_aload_n eL_law_506 rfl rfl ?_ | refine x_aload_nN eL_law_506 rfl rfl ?_
  first | refine x_aload_n eL_law_507 rfl rfl ?_ | refine x_aload_nN eL_law_507 rfl rfl ?_
  refine x_iload_n eL_law_508 rfl rfl ?_
  refine x_iconst (v := nI 1) eL_law_509 (by decide) ?_
  first | refine x_iaddN eL_law_510 (by with_reducible rfl) (by with_reducible rfl) ?_ | refine x_iadd eL_law_510 ?_
  refine x_scr eL_law_511 (by with_reducible rfl) (by omega) (by omega) ?_
  first | refine x_aload_n eL_law_512 rfl rfl ?_ | refine x_aload_nN eL_law_512 rfl rfl ?_
  refine x_iload_n eL_law_513 rfl rfl ?_
  refine x_iconst (v := nI 2) eL_law_514 (by decide) ?_
  first | refine x_iaddN eL_law_515 (by with_reducible rfl) (by with_reducible rfl) ?_ | refine x_iadd eL_law_515 ?_
  refine x_scr eL_law_516 (by with_reducible rfl) (by omega) (by omega) ?_
  first | refine x_aload_n eL_law_517 rfl rfl ?_ | refine x_aload_nN eL_law_517 rfl rfl ?_
  refine x_iload_n eL_law_518 rfl rfl ?_
  refine x_iconst (v := nI 3) eL_law_519 (by decide) ?_
  first | refine x_iaddN eL_law_520 (by with_reducible rfl) (by with_reducible rfl) ?_ | refine x_iadd eL_law_520 ?_
  refine x_scr eL_law_521 (by with_reducible rfl) (by omega) (by omega) ?_
  refine x_callV3 eL_law_522 lk_L_50 (by assumption) (Nat.le_of_ble_eq_true rfl) (Nat.le_of_ble_eq_true rfl) ?_
  refine Rn.deep (c_X9_at (d := 0) M.md I.gw (fun _ => ?_)) (by omega)
  first | refine x_icmp_eqN (tgt := 1299) eL_law_525 (by decide) (by with_reducible rfl) (by with_reducible rfl) (by omega) (by omega) (fun cq1 => ?_) (fun cq1 => ?_) | refine x_icmp_eq (tgt := 1299) eL_law_525 (by decide) (fun cq1 => ?_) (fun cq1 => ?_)
  · refine Rn.weak (kc _ (St.same R r hk5)) (by repeat' first | exact fun _ h => absurd h List.not_mem_nil | refine List.forall_mem_cons.mpr ⟨rfl, ?_⟩)
  · exact absurd rfl cq1
set_option maxRecDepth 100000 in
set_option maxHeartbeats 4000000 in
theorem cs_11 (R : Rel h y x o kp nx la ps) (r : Ro G k h) (hk6 : 6 * k + 6 ≤ gL G) (hL : gL G ≤ 3072) (kc : Kc G y x k Q) : Rn G 10 mL_law 669 [(0, .ref (gb G)), (1, .ref y), (2, .ref x), (3, .int (nI (6 * k)))] [] h Q := by
  have ky := R.ky
  have kx := R.kx
  have hk5 : k < 512 := by omega
  have rm := r.rm hk5
  obtain ⟨⟨M, K, T⟩, C, A, ⟨I, B⟩, H⟩ := id R
  first | refine x_aload_n eL_law_669 rfl rfl ?_ | refine x_aload_nN eL_law_669 rfl rfl ?_
  first | refine x_aload_n eL_law_670 rfl rfl ?_ | refine x_aload_nN eL_law_670 rfl rfl ?_
  refine x_iload_n eL_law_671 rfl rfl ?_
  refine x_iconst (v := nI 1) eL_law_672 (by decide) ?_
  first | refine x_iaddN eL_law_673 (by with_reducible rfl) (by with_reducible rfl) ?_ | refine x_iadd eL_law_673 ?_
  refine x_scr eL_law_674 (by with_reducible rfl) (by omega) (by omega) ?_
  first | refine x_aload_n eL_law_675 rfl rfl ?_ | refine x_aload_nN eL_law_675 rfl rfl ?_
  refine x_iload_n eL_law_676 rfl rfl ?_
  refine x_iconst (v := nI 2) eL_law_677 (by decide) ?_
  first | refine x_iaddN eL_law_678 (by with_reducible rfl) (by with_reducible rfl) ?_ | refine x_iadd eL_law_678 ?_
  refine x_scr eL_law_679 (by with_reducible rfl) (by omega) (by omega) ?_
  first | refine x_callV2 eL_law_680 lk_L_64 (by assumption) (Nat.le_of_ble_eq_true rfl) (Nat.le_of_ble_eq_true rfl) ?_ | refine x_callVw2 eL_law_680 lk_L_64 (by assumption) (Nat.le_of_ble_eq_true rfl) (Nat.le_of_ble_eq_true rfl) (Nat.le_of_ble_eq_true rfl) ?_
  refine Rn.deep (c_X8_told (d := 0) C I (fun _ => ?_)) (by omega)
  first | refine x_aload_n eL_law_683 rfl rfl ?_ | refine x_aload_nN eL_law_683 rfl rfl ?_
  first | refine x_aload_n eL_law_684 rfl rfl ?_ | refine x_aload_nN eL_law_684 rfl rfl ?_
  refine x_iload_n eL_law_685 rfl rfl ?_
  refine x_iconst (v := nI 1) eL_law_686 (by decide) ?_
  first | refine x_iaddN eL_law_687 (by with_reducible rfl) (by with_reducible rfl) ?_ | refine x_iadd eL_law_687 ?_
  refine x_scr eL_law_688 (by with_reducible rfl) (by omega) (by omega) ?_
  first | refine x_aload_n eL_law_689 rfl rfl ?_ | refine x_aload_nN eL_law_689 rfl rfl ?_
  refine x_iload_n eL_law_690 rfl rfl ?_
  refine x_iconst (v := nI 2) eL_law_691 (by decide) ?_
  first | refine x_iaddN eL_law_692 (by with_reducible rfl) (by with_reducible rfl) ?_ | refine x_iadd eL_law_692 ?_
  refine x_scr eL_law_693 (by with_reducible rfl) (by omega) (by omega) ?_
  first | refine x_callV2 eL_law_694 lk_L_67 (by assumption) (Nat.le_of_ble_eq_true rfl) (Nat.le_of_ble_eq_true rfl) ?_ | refine x_callVw2 eL_law_694 lk_L_67 (by assumption) (Nat.le_of_ble_eq_true rfl) (Nat.le_of_ble_eq_true rfl) (Nat.le_of_ble_eq_true rfl) ?_
  refine Rn.deep (c_X9_told (d := 0) M I.gw (fun b hb => (I.2.1 b hb).2.1) (fun _ => ?_)) (by omega)
  first | refine x_icmp_eqN (tgt := 1299) eL_law_697 (by decide) (by with_reducible rfl) (by with_reducible rfl) (by omega) (by omega) (fun cq1 => ?_) (fun cq1 => ?_) | refine x_icmp_eq (tgt := 1299) eL_law_697 (by decide) (fun cq1 => ?_) (fun cq1 => ?_)
  · refine Rn.weak (kc _ (St.same R r hk5)) (by repeat' first | exact fun _ h => absurd h List.not_mem_nil | refine List.forall_mem_cons.mpr ⟨rfl, ?_⟩)
  · exact absurd rfl cq1
set_option maxRecDepth 100000 in
set_option maxHeartbeats 4000000 in
theorem cs_12 (R : Rel h y x o kp nx la ps) (r : Ro G k h) (hk6 : 6 * k + 6 ≤ gL G) (hL : gL G ≤ 3072) (kc : Kc G y x k Q) : Rn G 10 mL_law 702 [(0, .ref (gb G)), (1, .ref y), (2, .ref x), (3, .int (nI (6 * k)))] [] h Q := by
  have ky := R.ky
  have kx := R.kx
  have hk5 : k < 512 := by omega
  have rm := r.rm hk5
  obtain ⟨⟨M, K, T⟩, C, A, ⟨I, B⟩, H⟩ := id R
  first | refine x_aload_n eL_law_702 rfl rfl ?_ | refine x_aload_nN eL_law_702 rfl rfl ?_
  first | refine x_aload_n eL_law_703 rfl rfl ?_ | refine x_aload_nN eL_law_703 rfl rfl ?_
  refine x_iload_n eL_law_704 rfl rfl ?_
  refine x_iconst (v := nI 1) eL_law_705 (by decide) ?_
  first | refine x_iaddN eL_law_706 (by with_reducible rfl) (by with_reducible rfl) ?_ | refine x_iadd eL_law_706 ?_
  refine x_scr eL_law_707 (by with_reducible rfl) (by omega) (by omega) ?_
  first | refine x_aload_n eL_law_708 rfl rfl ?_ | refine x_aload_nN eL_law_708 rfl rfl ?_
  refine x_iload_n eL_law_709 rfl rfl ?_
  refine x_iconst (v := nI 2) eL_law_710 (by decide) ?_
  first | refine x_iaddN eL_law_711 (by with_reducible rfl) (by with_reducible rfl) ?_ | refine x_iadd eL_law_711 ?_
  refine x_scr eL_law_712 (by with_reducible rfl) (by omega) (by omega) ?_
  first | refine x_aload_n eL_law_713 rfl rfl ?_ | refine x_aload_nN eL_law_713 rfl rfl ?_
  refine x_iload_n eL_law_714 rfl rfl ?_
  refine x_iconst (v := nI 3) eL_law_715 (by decide) ?_
  first | refine x_iaddN eL_law_716 (by with_reducible rfl) (by with_reducible rfl) ?_ | refine x_iadd eL_law_716 ?_
  refine x_scr eL_law_717 (by with_reducible rfl) (by omega) (by omega) ?_
  refine x_callV3 eL_law_718 lk_L_68 (by assumption) (Nat.le_of_ble_eq_true rfl) (Nat.le_of_ble_eq_true rfl) ?_
  refine Rn.deep (c_X8_panel (d := 0) C I (fun _ => ?_)) (by omega)
  first | refine x_aload_n eL_law_721 rfl rfl ?_ | refine x_aload_nN eL_law_721 rfl rfl ?_
  first | refine x_aload_n eL_law_722 rfl rfl ?_ | refine x_aload_nN eL_law_722 rfl rfl ?_
  refine x_iload_n eL_law_723 rfl rfl ?_
  refine x_iconst (v := nI 1) eL_law_724 (by decide) ?_
  first | refine x_iaddN eL_law_725 (by with_reducible rfl) (by with_reducible rfl) ?_ | refine x_iadd eL_law_725 ?_
  refine x_scr eL_law_726 (by with_reducible rfl) (by omega) (by omega) ?_
  first | refine x_aload_n eL_law_727 rfl rfl ?_ | refine x_aload_nN eL_law_727 rfl rfl ?_
  refine x_iload_n eL_law_728 rfl rfl ?_
  refine x_iconst (v := nI 2) eL_law_729 (by decide) ?_
  first | refine x_iaddN eL_law_730 (by with_reducible rfl) (by with_reducible rfl) ?_ | refine x_iadd eL_law_730 ?_
  refine x_scr eL_law_731 (by with_reducible rfl) (by omega) (by omega) ?_
  first | refine x_aload_n eL_law_732 rfl rfl ?_ | refine x_aload_nN eL_law_732 rfl rfl ?_
  refine x_iload_n eL_law_733 rfl rfl ?_
  refine x_iconst (v := nI 3) eL_law_734 (by decide) ?_
  first | refine x_iaddN eL_law_735 (by with_reducible rfl) (by with_reducible rfl) ?_ | refine x_iadd eL_law_735 ?_
  refine x_scr eL_law_736 (by with_reducible rfl) (by omega) (by omega) ?_
  refine x_callV3 eL_law_737 lk_L_71 (by assumption) (Nat.le_of_ble_eq_true rfl) (Nat.le_of_ble_eq_true rfl) ?_
  refine Rn.deep (c_X9_panel (d := 0) M I.gw (fun b hb => (I.2.1 b hb).2.1) (fun _ => ?_)) (by omega)
  first | refine x_icmp_eqN (tgt := 1299) eL_law_740 (by decide) (by with_reducible rfl) (by with_reducible rfl) (by omega) (by omega) (fun cq1 => ?_) (fun cq1 => ?_) | refine x_icmp_eq (tgt := 1299) eL_law_740 (by decide) (fun cq1 => ?_) (fun cq1 => ?_)
  · refine Rn.weak (kc _ (St.same R r hk5)) (by repeat' first | exact fun _ h => absurd h List.not_mem_nil | refine List.forall_mem_cons.mpr ⟨rfl, ?_⟩)
  · exact absurd rfl cq1
set_option maxRecDepth 100000 in
set_option maxHeartbeats 4000000 in
theorem cs_13 (R : Rel h y x o kp nx la ps) (r : Ro G k h) (hk6 : 6 * k + 6 ≤ gL G) (hL : gL G ≤ 3072) (kc : Kc G y x k Q) : Rn G 10 mL_law 745 [(0, .ref (gb G)), (1, .ref y), (2, .ref x), (3, .int (nI (6 * k)))] [] h Q := by
  have ky := R.ky
  have kx := R.kx
  have hk5 : k < 512 := by omega
  have rm := r.rm hk5
  obtain ⟨⟨M, K, T⟩, C, A, ⟨I, B⟩, H⟩ := id R
  first | refine x_aload_n eL_law_745 rfl rfl ?_ | refine x_aload_nN eL_law_745 rfl rfl ?_
  first | refine x_aload_n eL_law_746 rfl rfl ?_ | refine x_aload_nN eL_law_746 rfl rfl ?_
  refine x_iload_n eL_law_747 rfl rfl ?_
  refine x_iconst (v := nI 1) eL_law_748 (by decide) ?_
  first | refine x_iaddN eL_law_749 (by with_reducible rfl) (by with_reducible rfl) ?_ | refine x_iadd eL_law_749 ?_
  refine x_scr eL_law_750 (by with_reducible rfl) (by omega) (by omega) ?_
  first | refine x_aload_n eL_law_751 rfl rfl ?_ | refine x_aload_nN eL_law_751 rfl rfl ?_
  refine x_iload_n eL_law_752 rfl rfl ?_
  refine x_iconst (v := nI 2) eL_law_753 (by decide) ?_
  first | refine x_iaddN eL_law_754 (by with_reducible rfl) (by with_reducible rfl) ?_ | refine x_iadd eL_law_754 ?_
  refine x_scr eL_law_755 (by with_reducible rfl) (by omega) (by omega) ?_
  first | refine x_callV2 eL_law_756 lk_L_72 (by assumption) (Nat.le_of_ble_eq_true rfl) (Nat.le_of_ble_eq_true rfl) ?_ | refine x_callVw2 eL_law_756 lk_L_72 (by assumption) (Nat.le_of_ble_eq_true rfl) (Nat.le_of_ble_eq_true rfl) (Nat.le_of_ble_eq_true rfl) ?_
  refine Rn.deep (c_X8_full (d := 0) C I (fun _ => ?_)) (by omega)
  first | refine x_aload_n eL_law_759 rfl rfl ?_ | refine x_aload_nN eL_law_759 rfl rfl ?_
  first | refine x_aload_n eL_law_760 rfl rfl ?_ | refine x_aload_nN eL_law_760 rfl rfl ?_
  refine x_iload_n eL_law_761 rfl rfl ?_
  refine x_iconst (v := nI 1) eL_law_762 (by decide) ?_
  first | refine x_iaddN eL_law_763 (by with_reducible rfl) (by with_reducible rfl) ?_ | refine x_iadd eL_law_763 ?_
  refine x_scr eL_law_764 (by with_reducible rfl) (by omega) (by omega) ?_
  first | refine x_aload_n eL_law_765 rfl rfl ?_ | refine x_aload_nN eL_law_765 rfl rfl ?_
  refine x_iload_n eL_law_766 rfl rfl ?_
  refine x_iconst (v := nI 2) eL_law_767 (by decide) ?_
  first | refine x_iaddN eL_law_768 (by with_reducible rfl) (by with_reducible rfl) ?_ | refine x_iadd eL_law_768 ?_
  refine x_scr eL_law_769 (by with_reducible rfl) (by omega) (by omega) ?_
  first | refine x_callV2 eL_law_770 lk_L_75 (by assumption) (Nat.le_of_ble_eq_true rfl) (Nat.le_of_ble_eq_true rfl) ?_ | refine x_callVw2 eL_law_770 lk_L_75 (by assumption) (Nat.le_of_ble_eq_true rfl) (Nat.le_of_ble_eq_true rfl) (Nat.le_of_ble_eq_true rfl) ?_
  refine Rn.deep (c_X9_full (d := 0) M I.gw (fun j hj e => (I.2.2.1 j hj).2.2.1 (by rw [e]; decide)) (fun _ => ?_)) (by omega)
  first | refine x_icmp_eqN (tgt := 1299) eL_law_773 (by decide) (by with_reducible rfl) (by with_reducible rfl) (by omega) (by omega) (fun cq1 => ?_) (fun cq1 => ?_) | refine x_icmp_eq (tgt := 1299) eL_law_773 (by decide) (fun cq1 => ?_) (fun cq1 => ?_)
  · refine Rn.weak (kc _ (St.same R r hk5)) (by repeat' first | exact fun _ h => absurd h List.not_mem_nil | refine List.forall_mem_cons.mpr ⟨rfl, ?_⟩)
  · exact absurd rfl cq1
set_option maxRecDepth 100000 in
set_option maxHeartbeats 4000000 in
theorem cs_16 (R : Rel h y x o kp nx la ps) (r : Ro G k h) (hk6 : 6 * k + 6 ≤ gL G) (hL : gL G ≤ 3072) (kc : Kc G y x k Q) : Rn G 10 mL_law 874 [(0, .ref (gb G)), (1, .ref y), (2, .ref x), (3, .int (nI (6 * k)))] [] h Q := by
  have ky := R.ky
  have kx := R.kx
  have hk5 : k < 512 := by omega
  have rm := r.rm hk5
  obtain ⟨⟨M, K, T⟩, C, A, ⟨I, B⟩, H⟩ := id R
  first | refine x_aload_n eL_law_874 rfl rfl ?_ | refine x_aload_nN eL_law_874 rfl rfl ?_
  first | refine x_aload_n eL_law_875 rfl rfl ?_ | refine x_aload_nN eL_law_875 rfl rfl ?_
  refine x_iload_n eL_law_876 rfl rfl ?_
  refine x_iconst (v := nI 1) eL_law_877 (by decide) ?_
  first | refine x_iaddN eL_law_878 (by with_reducible rfl) (by with_reducible rfl) ?_ | refine x_iadd eL_law_878 ?_
  refine x_scr eL_law_879 (by with_reducible rfl) (by omega) (by omega) ?_
  refine x_callV1 eL_law_880 lk_L_85 (by assumption) (Nat.le_of_ble_eq_true rfl) (Nat.le_of_ble_eq_true rfl) ?_
  refine Rn.deep (c_X8_left (d := 0) C I (fun _ => ?_)) (by omega)
  first | refine x_aload_n eL_law_883 rfl rfl ?_ | refine x_aload_nN eL_law_883 rfl rfl ?_
  first | refine x_aload_n eL_law_884 rfl rfl ?_ | refine x_aload_nN eL_law_884 rfl rfl ?_
  refine x_iload_n eL_law_885 rfl rfl ?_
  refine x_iconst (v := nI 1) eL_law_886 (by decide) ?_
  first | refine x_iaddN eL_law_887 (by with_reducible rfl) (by with_reducible rfl) ?_ | refine x_iadd eL_law_887 ?_
  refine x_scr eL_law_888 (by with_reducible rfl) (by omega) (by omega) ?_
  refine x_callV1 eL_law_889 lk_L_89 (by assumption) (Nat.le_of_ble_eq_true rfl) (Nat.le_of_ble_eq_true rfl) ?_
  refine Rn.deep (c_X9_left (d := 0) M I.gw (fun _ => ?_)) (by omega)
  first | refine x_icmp_eqN (tgt := 1299) eL_law_892 (by decide) (by with_reducible rfl) (by with_reducible rfl) (by omega) (by omega) (fun cq1 => ?_) (fun cq1 => ?_) | refine x_icmp_eq (tgt := 1299) eL_law_892 (by decide) (fun cq1 => ?_) (fun cq1 => ?_)
  · refine Rn.weak (kc _ (St.same R r hk5)) (by repeat' first | exact fun _ h => absurd h List.not_mem_nil | refine List.forall_mem_cons.mpr ⟨rfl, ?_⟩)
  · exact absurd rfl cq1
set_option maxRecDepth 100000 in
set_option maxHeartbeats 4000000 in
theorem cs_17 (R : Rel h y x o kp nx la ps) (r : Ro G k h) (hk6 : 6 * k + 6 ≤ gL G) (hL : gL G ≤ 3072) (kc : Kc G y x k Q) : Rn G 10 mL_law 897 [(0, .ref (gb G)), (1, .ref y), (2, .ref x), (3, .int (nI (6 * k)))] [] h Q := by
  have ky := R.ky
  have kx := R.kx
  have hk5 : k < 512 := by omega
  have rm := r.rm hk5
  obtain ⟨⟨M, K, T⟩, C, A, ⟨I, B⟩, H⟩ := id R
  first | refine x_aload_n eL_law_897 rfl rfl ?_ | refine x_aload_nN eL_law_897 rfl rfl ?_
  first | refine x_aload_n eL_law_898 rfl rfl ?_ | refine x_aload_nN eL_law_898 rfl rfl ?_
  refine x_iload_n eL_law_899 rfl rfl ?_
  refine x_iconst (v := nI 1) eL_law_900 (by decide) ?_
  first | refine x_iaddN eL_law_901 (by with_reducible rfl) (by with_reducible rfl) ?_ | refine x_iadd eL_law_901 ?_
  refine x_scr eL_law_902 (by with_reducible rfl) (by omega) (by omega) ?_
  first | refine x_aload_n eL_law_903 rfl rfl ?_ | refine x_aload_nN eL_law_903 rfl rfl ?_
  refine x_iload_n eL_law_904 rfl rfl ?_
  refine x_iconst (v := nI 2) eL_law_905 (by decide) ?_
  first | refine x_iaddN eL_law_906 (by with_reducible rfl) (by with_reducible rfl) ?_ | refine x_iadd eL_law_906 ?_
  refine x_scr eL_law_907 (by with_reducible rfl) (by omega) (by omega) ?_
  first | refine x_callV2 eL_law_908 lk_L_90 (by assumption) (Nat.le_of_ble_eq_true rfl) (Nat.le_of_ble_eq_true rfl) ?_ | refine x_callVw2 eL_law_908 lk_L_90 (by assumption) (Nat.le_of_ble_eq_true rfl) (Nat.le_of_ble_eq_true rfl) (Nat.le_of_ble_eq_true rfl) ?_
  refine Rn.deep (c_X8_over (d := 0) C I (fun _ => ?_)) (by omega)
  first | refine x_aload_n eL_law_911 rfl rfl ?_ | refine x_aload_nN eL_law_911 rfl rfl ?_
  first | refine x_aload_n eL_law_912 rfl rfl ?_ | refine x_aload_nN eL_law_912 rfl rfl ?_
  refine x_iload_n eL_law_913 rfl rfl ?_
  refine x_iconst (v := nI 1) eL_law_914 (by decide) ?_
  first | refine x_iaddN eL_law_915 (by with_reducible rfl) (by with_reducible rfl) ?_ | refine x_iadd eL_law_915 ?_
  refine x_scr eL_law_916 (by with_reducible rfl) (by omega) (by omega) ?_
  first | refine x_aload_n eL_law_917 rfl rfl ?_ | refine x_aload_nN eL_law_917 rfl rfl ?_
  refine x_iload_n eL_law_918 rfl rfl ?_
  refine x_iconst (v := nI 2) eL_law_919 (by decide) ?_
  first | refine x_iaddN eL_law_920 (by with_reducible rfl) (by with_reducible rfl) ?_ | refine x_iadd eL_law_920 ?_
  refine x_scr eL_law_921 (by with_reducible rfl) (by omega) (by omega) ?_
  first | refine x_callV2 eL_law_922 lk_L_93 (by assumption) (Nat.le_of_ble_eq_true rfl) (Nat.le_of_ble_eq_true rfl) ?_ | refine x_callVw2 eL_law_922 lk_L_93 (by assumption) (Nat.le_of_ble_eq_true rfl) (Nat.le_of_ble_eq_true rfl) (Nat.le_of_ble_eq_true rfl) ?_
  refine Rn.deep (c_X9_over (d := 0) M.md I.gw (fun _ => ?_)) (by omega)
  first | refine x_icmp_eqN (tgt := 1299) eL_law_925 (by decide) (by with_reducible rfl) (by with_reducible rfl) (by omega) (by omega) (fun cq1 => ?_) (fun cq1 => ?_) | refine x_icmp_eq (tgt := 1299) eL_law_925 (by decide) (fun cq1 => ?_) (fun cq1 => ?_)
  · refine Rn.weak (kc _ (St.same R r hk5)) (by repeat' first | exact fun _ h => absurd h List.not_mem_nil | refine List.forall_mem_cons.mpr ⟨rfl, ?_⟩)
  · exact absurd rfl cq1
set_option maxRecDepth 100000 in
set_option maxHeartbeats 4000000 in
theorem cs_29 (R : Rel h y x o kp nx la ps) (r : Ro G k h) (hk6 : 6 * k + 6 ≤ gL G) (hL : gL G ≤ 3072) (kc : Kc G y x k Q) : Rn G 10 mL_law 1240 [(0, .ref (gb G)), (1, .ref y), (2, .ref x), (3, .int (nI (6 * k)))] [] h Q := by
  have ky := R.ky
  have kx := R.kx
  have hk5 : k < 512 := by omega
  have rm := r.rm hk5
  obtain ⟨⟨M, K, T⟩, C, A, ⟨I, B⟩, H⟩ := id R
  first | refine x_aload_n eL_law_1240 rfl rfl ?_ | refine x_aload_nN eL_law_1240 rfl rfl ?_
  first | refine x_aload_n eL_law_1241 rfl rfl ?_ | refine x_aload_nN eL_law_1241 rfl rfl ?_
  refine x_iload_n eL_law_1242 rfl rfl ?_
  refine x_iconst (v := nI 1) eL_law_1243 (by decide) ?_
  first | refine x_iaddN eL_law_1244 (by with_reducible rfl) (by with_reducible rfl) ?_ | refine x_iadd eL_law_1244 ?_
  refine x_scr eL_law_1245 (by with_reducible rfl) (by omega) (by omega) ?_
  refine x_callV1 eL_law_1246 lk_L_141 (by assumption) (Nat.le_of_ble_eq_true rfl) (Nat.le_of_ble_eq_true rfl) ?_
  refine Rn.deep (c_X8_old (d := 0) C I (fun _ => ?_)) (by omega)
  first | refine x_aload_n eL_law_1249 rfl rfl ?_ | refine x_aload_nN eL_law_1249 rfl rfl ?_
  first | refine x_aload_n eL_law_1250 rfl rfl ?_ | refine x_aload_nN eL_law_1250 rfl rfl ?_
  refine x_iload_n eL_law_1251 rfl rfl ?_
  refine x_iconst (v := nI 1) eL_law_1252 (by decide) ?_
  first | refine x_iaddN eL_law_1253 (by with_reducible rfl) (by with_reducible rfl) ?_ | refine x_iadd eL_law_1253 ?_
  refine x_scr eL_law_1254 (by with_reducible rfl) (by omega) (by omega) ?_
  refine x_callV1 eL_law_1255 lk_L_144 (by assumption) (Nat.le_of_ble_eq_true rfl) (Nat.le_of_ble_eq_true rfl) ?_
  refine Rn.deep (c_X9_old (d := 0) M.md I.gw (fun _ => ?_)) (by omega)
  first | refine x_icmp_eqN (tgt := 1299) eL_law_1258 (by decide) (by with_reducible rfl) (by with_reducible rfl) (by omega) (by omega) (fun cq1 => ?_) (fun cq1 => ?_) | refine x_icmp_eq (tgt := 1299) eL_law_1258 (by decide) (fun cq1 => ?_) (fun cq1 => ?_)
  · refine Rn.weak (kc _ (St.same R r hk5)) (by repeat' first | exact fun _ h => absurd h List.not_mem_nil | refine List.forall_mem_cons.mpr ⟨rfl, ?_⟩)
  · exact absurd rfl cq1
end LAW10

