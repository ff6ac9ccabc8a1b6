/-! ===== the law: cases 10 to 28, acts ===== -/
section LAW9
variable {G : GG} {h : AH} {y x kp nx la k : Nat} {o : Nat → Nat} {ps : Nat → Nat → Int32} {Q : Option Value → AH → Prop}
set_option maxRecDepth 100000 in
set_option maxHeartbeats 4000000 in
theorem cs_10 (R : Rel h y x o kp nx la ps) (r : Ro G k h) (hk6 : 6 * k + 6 ≤ gL G) (hL : gL G ≤ 3072) (kc : Kc G y x k Q) : Rn G 10 mL_law 616 [(0, .ref (gb G)), (1, .ref y), (2, .ref x), (3, .int (nI (6 * k)))] [] h Q := by
  have ky := R.ky
  have kx := R.kx
  have hk5 : k < 512 := by omega
  have rm := r.rm hk5
  obtain ⟨⟨M, K, T⟩, C, A, ⟨I, B⟩, H⟩ := id R
  first | refine x_aload_n eL_law_616 rfl rfl ?_ | refine x_aload_nN eL_law_616 rfl rfl ?_
  first | refine x_aload_n eL_law_617 rfl rfl ?_ | refine x_aload_nN eL_law_617 rfl rfl ?_
  refine x_iload_n eL_law_618 rfl rfl ?_
  refine x_iconst (v := nI 1) eL_law_619 (by decide) ?_
  first | refine x_iaddN eL_law_620 (by with_reducible rfl) (by with_reducible rfl) ?_ | refine x_iadd eL_law_620 ?_
  refine x_scr eL_law_621 (by with_reducible rfl) (by omega) (by omega) ?_
  first | refine x_aload_n eL_law_622 rfl rfl ?_ | refine x_aload_nN eL_law_622 rfl rfl ?_
  refine x_iload_n eL_law_623 rfl rfl ?_
  refine x_iconst (v := nI 2) eL_law_624 (by decide) ?_
  first | refine x_iaddN eL_law_625 (by with_reducible rfl) (by with_reducible rfl) ?_ | refine x_iadd eL_law_625 ?_
  refine x_scr eL_law_626 (by with_reducible rfl) (by omega) (by omega) ?_
  first | refine x_aload_n eL_law_627 rfl rfl ?_ | refine x_aload_nN eL_law_627 rfl rfl ?_
  refine x_iload_n eL_law_628 rfl rfl ?_
  refine x_iconst (v := nI 3) eL_law_629 (by decide) ?_
  first | refine x_iaddN eL_law_630 (by with_reducible rfl) (by with_reducible rfl) ?_ | refine x_iadd eL_law_630 ?_
  refine x_scr eL_law_631 (by with_reducible rfl) (by omega) (by omega) ?_
  first | refine x_aload_n eL_law_632 rfl rfl ?_ | refine x_aload_nN eL_law_632 rfl rfl ?_
  refine x_iload_n eL_law_633 rfl rfl ?_
  refine x_iconst (v := nI 4) eL_law_634 (by decide) ?_
  first | refine x_iaddN eL_law_635 (by with_reducible rfl) (by with_reducible rfl) ?_ | refine x_iadd eL_law_635 ?_
  refine x_scr eL_law_636 (by with_reducible rfl) (by omega) (by omega) ?_
  refine x_callV4 eL_law_637 lk_L_59 (by assumption) (Nat.le_of_ble_eq_true rfl) (Nat.le_of_ble_eq_true rfl) ?_
  refine Rn.deep (c_X8_patch (d := 0) C A I rm (fun z _ => ?_) (fun z h2 P x1 => ?_)) (by omega)
  · first | refine x_aload_n eL_law_640 rfl rfl ?_ | refine x_aload_nN eL_law_640 rfl rfl ?_
    first | refine x_aload_n eL_law_641 rfl rfl ?_ | refine x_aload_nN eL_law_641 rfl rfl ?_
    refine x_iload_n eL_law_642 rfl rfl ?_
    refine x_iconst (v := nI 1) eL_law_643 (by decide) ?_
    first | refine x_iaddN eL_law_644 (by with_reducible rfl) (by with_reducible rfl) ?_ | refine x_iadd eL_law_644 ?_
    refine x_scr eL_law_645 (by with_reducible rfl) (by omega) (by omega) ?_
    first | refine x_aload_n eL_law_646 rfl rfl ?_ | refine x_aload_nN eL_law_646 rfl rfl ?_
    refine x_iload_n eL_law_647 rfl rfl ?_
    refine x_iconst (v := nI 2) eL_law_648 (by decide) ?_
    first | refine x_iaddN eL_law_649 (by with_reducible rfl) (by with_reducible rfl) ?_ | refine x_iadd eL_law_649 ?_
    refine x_scr eL_law_650 (by with_reducible rfl) (by omega) (by omega) ?_
    first | refine x_aload_n eL_law_651 rfl rfl ?_ | refine x_aload_nN eL_law_651 rfl rfl ?_
    refine x_iload_n eL_law_652 rfl rfl ?_
    refine x_iconst (v := nI 3) eL_law_653 (by decide) ?_
    first | refine x_iaddN eL_law_654 (by with_reducible rfl) (by with_reducible rfl) ?_ | refine x_iadd eL_law_654 ?_
    refine x_scr eL_law_655 (by with_reducible rfl) (by omega) (by omega) ?_
    first | refine x_aload_n eL_law_656 rfl rfl ?_ | refine x_aload_nN eL_law_656 rfl rfl ?_
    refine x_iload_n eL_law_657 rfl rfl ?_
    refine x_iconst (v := nI 4) eL_law_658 (by decide) ?_
    first | refine x_iaddN eL_law_659 (by with_reducible rfl) (by with_reducible rfl) ?_ | refine x_iadd eL_law_659 ?_
    refine x_scr eL_law_660 (by with_reducible rfl) (by omega) (by omega) ?_
    refine x_callV4 eL_law_661 lk_L_63 (by assumption) (Nat.le_of_ble_eq_true rfl) (Nat.le_of_ble_eq_true rfl) ?_
    refine Rn.deep (c_X9_patch (d := 0) M K I.gw (fun z2 _ => ?_) (fun z2 => absurd (z2.symm.trans z) (by decide))) (by omega)
    first | refine x_icmp_eqN (tgt := 1299) eL_law_664 (by decide) (by with_reducible rfl) (by with_reducible rfl) (by omega) (by omega) (fun cq1 => ?_) (fun cq1 => ?_) | refine x_icmp_eq (tgt := 1299) eL_law_664 (by decide) (fun cq1 => ?_) (fun cq1 => ?_)
    · refine Rn.weak (kc _ (St.same R r hk5)) (by repeat' first | exact fun _ h => absurd h List.not_mem_nil | refine List.forall_mem_cons.mpr ⟨rfl, ?_⟩)
    · exact absurd rfl cq1
  · obtain ⟨o2, -, -, Z, -, -⟩ := id P
    obtain ⟨M2, K2, T2, E2, kx2⟩ := R.mid Z
    have e1 : hi h2 (x + 1) = hi h (x + 1) := E2 1 (by omega)
    first | refine x_aload_n eL_law_640 rfl rfl ?_ | refine x_aload_nN eL_law_640 rfl rfl ?_
    first | refine x_aload_n eL_law_641 rfl rfl ?_ | refine x_aload_nN eL_law_641 rfl rfl ?_
    refine x_iload_n eL_law_642 rfl rfl ?_
    refine x_iconst (v := nI 1) eL_law_643 (by decide) ?_
    first | refine x_iaddN eL_law_644 (by with_reducible rfl) (by with_reducible rfl) ?_ | refine x_iadd eL_law_644 ?_
    refine x_scr eL_law_645 (by with_reducible rfl) (by omega) (by omega) ?_
    first | refine x_aload_n eL_law_646 rfl rfl ?_ | refine x_aload_nN eL_law_646 rfl rfl ?_
    refine x_iload_n eL_law_647 rfl rfl ?_
    refine x_iconst (v := nI 2) eL_law_648 (by decide) ?_
    first | refine x_iaddN eL_law_649 (by with_reducible rfl) (by with_reducible rfl) ?_ | refine x_iadd eL_law_649 ?_
    refine x_scr eL_law_650 (by with_reducible rfl) (by omega) (by omega) ?_
    first | refine x_aload_n eL_law_651 rfl rfl ?_ | refine x_aload_nN eL_law_651 rfl rfl ?_
    refine x_iload_n eL_law_652 rfl rfl ?_
    refine x_iconst (v := nI 3) eL_law_653 (by decide) ?_
    first | refine x_iaddN eL_law_654 (by with_reducible rfl) (by with_reducible rfl) ?_ | refine x_iadd eL_law_654 ?_
    refine x_scr eL_law_655 (by with_reducible rfl) (by omega) (by omega) ?_
    first | refine x_aload_n eL_law_656 rfl rfl ?_ | refine x_aload_nN eL_law_656 rfl rfl ?_
    refine x_iload_n eL_law_657 rfl rfl ?_
    refine x_iconst (v := nI 4) eL_law_658 (by decide) ?_
    first | refine x_iaddN eL_law_659 (by with_reducible rfl) (by with_reducible rfl) ?_ | refine x_iadd eL_law_659 ?_
    refine x_scr eL_law_660 (by with_reducible rfl) (by omega) (by omega) ?_
    refine x_callV4 eL_law_661 lk_L_63 (by assumption) (Nat.le_of_ble_eq_true rfl) (Nat.le_of_ble_eq_true rfl) ?_
    refine Rn.deep (c_X9_patch (d := 0) M2 K2 (by rw [e1]; exact I.gw) (fun z2 => by rw [e1, z] at z2; cases z2) (fun z2 _ => ?_)) (by omega)
    skip
    rw [e1]
    first | refine x_icmp_eqN (tgt := 1299) eL_law_664 (by decide) (by with_reducible rfl) (by with_reducible rfl) (by omega) (by omega) (fun cq2 => ?_) (fun cq2 => ?_) | refine x_icmp_eq (tgt := 1299) eL_law_664 (by decide) (fun cq2 => ?_) (fun cq2 => ?_)
    · refine Rn.weak (kc _ (St.act R r hk5 x1 P (GO_pat I B z))) (by repeat' first | exact fun _ h => absurd h List.not_mem_nil | refine List.forall_mem_cons.mpr ⟨rfl, ?_⟩)
    · exact absurd rfl cq2
set_option maxRecDepth 100000 in
set_option maxHeartbeats 4000000 in
theorem cs_14 (R : Rel h y x o kp nx la ps) (r : Ro G k h) (hk6 : 6 * k + 6 ≤ gL G) (hL : gL G ≤ 3072) (kc : Kc G y x k Q) : Rn G 10 mL_law 778 [(0, .ref (gb G)), (1, .ref y), (2, .ref x), (3, .int (nI (6 * k)))] [] h Q := by
  have ky := R.ky
  have kx := R.kx
  have hk5 : k < 512 := by omega
  have rm := r.rm hk5
  obtain ⟨⟨M, K, T⟩, C, A, ⟨I, B⟩, H⟩ := id R
  first | refine x_aload_n eL_law_778 rfl rfl ?_ | refine x_aload_nN eL_law_778 rfl rfl ?_
  first | refine x_aload_n eL_law_779 rfl rfl ?_ | refine x_aload_nN eL_law_779 rfl rfl ?_
  refine x_iload_n eL_law_780 rfl rfl ?_
  refine x_iconst (v := nI 1) eL_law_781 (by decide) ?_
  first | refine x_iaddN eL_law_782 (by with_reducible rfl) (by with_reducible rfl) ?_ | refine x_iadd eL_law_782 ?_
  refine x_scr eL_law_783 (by with_reducible rfl) (by omega) (by omega) ?_
  first | refine x_aload_n eL_law_784 rfl rfl ?_ | refine x_aload_nN eL_law_784 rfl rfl ?_
  refine x_iload_n eL_law_785 rfl rfl ?_
  refine x_iconst (v := nI 2) eL_law_786 (by decide) ?_
  first | refine x_iaddN eL_law_787 (by with_reducible rfl) (by with_reducible rfl) ?_ | refine x_iadd eL_law_787 ?_
  refine x_scr eL_law_788 (by with_reducible rfl) (by omega) (by omega) ?_
  first | refine x_aload_n eL_law_789 rfl rfl ?_ | refine x_aload_nN eL_law_789 rfl rfl ?_
  refine x_iload_n eL_law_790 rfl rfl ?_
  refine x_iconst (v := nI 3) eL_law_791 (by decide) ?_
  first | refine x_iaddN eL_law_792 (by with_reducible rfl) (by with_reducible rfl) ?_ | refine x_iadd eL_law_792 ?_
  refine x_scr eL_law_793 (by with_reducible rfl) (by omega) (by omega) ?_
  first | refine x_aload_n eL_law_794 rfl rfl ?_ | refine x_aload_nN eL_law_794 rfl rfl ?_
  refine x_iload_n eL_law_795 rfl rfl ?_
  refine x_iconst (v := nI 4) eL_law_796 (by decide) ?_
  first | refine x_iaddN eL_law_797 (by with_reducible rfl) (by with_reducible rfl) ?_ | refine x_iadd eL_law_797 ?_
  refine x_scr eL_law_798 (by with_reducible rfl) (by omega) (by omega) ?_
  first | refine x_aload_n eL_law_799 rfl rfl ?_ | refine x_aload_nN eL_law_799 rfl rfl ?_
  refine x_iload_n eL_law_800 rfl rfl ?_
  refine x_iconst (v := nI 5) eL_law_801 (by decide) ?_
  first | refine x_iaddN eL_law_802 (by with_reducible rfl) (by with_reducible rfl) ?_ | refine x_iadd eL_law_802 ?_
  refine x_scr eL_law_803 (by with_reducible rfl) (by omega) (by omega) ?_
  refine x_callV5 eL_law_804 lk_L_76 (by assumption) (Nat.le_of_ble_eq_true rfl) (Nat.le_of_ble_eq_true rfl) ?_
  refine Rn.deep (c_X8_lay (d := 0) C A I rm (fun z _ => ?_) (fun z h2 P x1 => ?_)) (by omega)
  · first | refine x_aload_n eL_law_807 rfl rfl ?_ | refine x_aload_nN eL_law_807 rfl rfl ?_
    first | refine x_aload_n eL_law_808 rfl rfl ?_ | refine x_aload_nN eL_law_808 rfl rfl ?_
    refine x_iload_n eL_law_809 rfl rfl ?_
    refine x_iconst (v := nI 1) eL_law_810 (by decide) ?_
    first | refine x_iaddN eL_law_811 (by with_reducible rfl) (by with_reducible rfl) ?_ | refine x_iadd eL_law_811 ?_
    refine x_scr eL_law_812 (by with_reducible rfl) (by omega) (by omega) ?_
    first | refine x_aload_n eL_law_813 rfl rfl ?_ | refine x_aload_nN eL_law_813 rfl rfl ?_
    refine x_iload_n eL_law_814 rfl rfl ?_
    refine x_iconst (v := nI 2) eL_law_815 (by decide) ?_
    first | refine x_iaddN eL_law_816 (by with_reducible rfl) (by with_reducible rfl) ?_ | refine x_iadd eL_law_816 ?_
    refine x_scr eL_law_817 (by with_reducible rfl) (by omega) (by omega) ?_
    first | refine x_aload_n eL_law_818 rfl rfl ?_ | refine x_aload_nN eL_law_818 rfl rfl ?_
    refine x_iload_n eL_law_819 rfl rfl ?_
    refine x_iconst (v := nI 3) eL_law_820 (by decide) ?_
    first | refine x_iaddN eL_law_821 (by with_reducible rfl) (by with_reducible rfl) ?_ | refine x_iadd eL_law_821 ?_
    refine x_scr eL_law_822 (by with_reducible rfl) (by omega) (by omega) ?_
    first | refine x_aload_n eL_law_823 rfl rfl ?_ | refine x_aload_nN eL_law_823 rfl rfl ?_
    refine x_iload_n eL_law_824 rfl rfl ?_
    refine x_iconst (v := nI 4) eL_law_825 (by decide) ?_
    first | refine x_iaddN eL_law_826 (by with_reducible rfl) (by with_reducible rfl) ?_ | refine x_iadd eL_law_826 ?_
    refine x_scr eL_law_827 (by with_reducible rfl) (by omega) (by omega) ?_
    first | refine x_aload_n eL_law_828 rfl rfl ?_ | refine x_aload_nN eL_law_828 rfl rfl ?_
    refine x_iload_n eL_law_829 rfl rfl ?_
    refine x_iconst (v := nI 5) eL_law_830 (by decide) ?_
    first | refine x_iaddN eL_law_831 (by with_reducible rfl) (by with_reducible rfl) ?_ | refine x_iadd eL_law_831 ?_
    refine x_scr eL_law_832 (by with_reducible rfl) (by omega) (by omega) ?_
    refine x_callV5 eL_law_833 lk_L_80 (by assumption) (Nat.le_of_ble_eq_true rfl) (Nat.le_of_ble_eq_true rfl) ?_
    refine Rn.deep (c_X9_lay (d := 0) M K I.gw I.iv.2.2 (fun z2 _ => ?_) (fun z2 => absurd (z2.symm.trans z) (by decide))) (by omega)
    first | refine x_icmp_eqN (tgt := 1299) eL_law_836 (by decide) (by with_reducible rfl) (by with_reducible rfl) (by omega) (by omega) (fun cq1 => ?_) (fun cq1 => ?_) | refine x_icmp_eq (tgt := 1299) eL_law_836 (by decide) (fun cq1 => ?_) (fun cq1 => ?_)
    · refine Rn.weak (kc _ (St.same R r hk5)) (by repeat' first | exact fun _ h => absurd h List.not_mem_nil | refine List.forall_mem_cons.mpr ⟨rfl, ?_⟩)
    · exact absurd rfl cq1
  · obtain ⟨o2, -, -, Z, -, -⟩ := id P
    obtain ⟨M2, K2, T2, E2, kx2⟩ := R.mid Z
    have e1 : hi h2 (x + 1) = hi h (x + 1) := E2 1 (by omega)
    first | refine x_aload_n eL_law_807 rfl rfl ?_ | refine x_aload_nN eL_law_807 rfl rfl ?_
    first | refine x_aload_n eL_law_808 rfl rfl ?_ | refine x_aload_nN eL_law_808 rfl rfl ?_
    refine x_iload_n eL_law_809 rfl rfl ?_
    refine x_iconst (v := nI 1) eL_law_810 (by decide) ?_
    first | refine x_iaddN eL_law_811 (by with_reducible rfl) (by with_reducible rfl) ?_ | refine x_iadd eL_law_811 ?_
    refine x_scr eL_law_812 (by with_reducible rfl) (by omega) (by omega) ?_
    first | refine x_aload_n eL_law_813 rfl rfl ?_ | refine x_aload_nN eL_law_813 rfl rfl ?_
    refine x_iload_n eL_law_814 rfl rfl ?_
    refine x_iconst (v := nI 2) eL_law_815 (by decide) ?_
    first | refine x_iaddN eL_law_816 (by with_reducible rfl) (by with_reducible rfl) ?_ | refine x_iadd eL_law_816 ?_
    refine x_scr eL_law_817 (by with_reducible rfl) (by omega) (by omega) ?_
    first | refine x_aload_n eL_law_818 rfl rfl ?_ | refine x_aload_nN eL_law_818 rfl rfl ?_
    refine x_iload_n eL_law_819 rfl rfl ?_
    refine x_iconst (v := nI 3) eL_law_820 (by decide) ?_
    first | refine x_iaddN eL_law_821 (by with_reducible rfl) (by with_reducible rfl) ?_ | refine x_iadd eL_law_821 ?_
    refine x_scr eL_law_822 (by with_reducible rfl) (by omega) (by omega) ?_
    first | refine x_aload_n eL_law_823 rfl rfl ?_ | refine x_aload_nN eL_law_823 rfl rfl ?_
    refine x_iload_n eL_law_824 rfl rfl ?_
    refine x_iconst (v := nI 4) eL_law_825 (by decide) ?_
    first | refine x_iaddN eL_law_826 (by with_reducible rfl) (by with_reducible rfl) ?_ | refine x_iadd eL_law_826 ?_
    refine x_scr eL_law_827 (by with_reducible rfl) (by omega) (by omega) ?_
    first | refine x_aload_n eL_law_828 rfl rfl ?_ | refine x_aload_nN eL_law_828 rfl rfl ?_
    refine x_iload_n eL_law_829 rfl rfl ?_
    refine x_iconst (v := nI 5) eL_law_830 (by decide) ?_
    first | refine x_iaddN eL_law_831 (by with_reducible rfl) (by with_reducible rfl) ?_ | refine x_iadd eL_law_831 ?_
    refine x_scr eL_law_832 (by with_reducible rfl) (by omega) (by omega) ?_
    refine x_callV5 eL_law_833 lk_L_80 (by assumption) (Nat.le_of_ble_eq_true rfl) (Nat.le_of_ble_eq_true rfl) ?_
    refine Rn.deep (c_X9_lay (d := 0) M2 K2 (by rw [e1]; exact I.gw) (by rw [e1]; exact I.iv.2.2) (fun z2 => by rw [e1, z] at z2; cases z2) (fun z2 _ => ?_)) (by omega)
    skip
    rw [e1]
    first | refine x_icmp_eqN (tgt := 1299) eL_law_836 (by decide) (by with_reducible rfl) (by with_reducible rfl) (by omega) (by omega) (fun cq2 => ?_) (fun cq2 => ?_) | refine x_icmp_eq (tgt := 1299) eL_law_836 (by decide) (fun cq2 => ?_) (fun cq2 => ?_)
    · refine Rn.weak (kc _ (St.act R r hk5 x1 P (GO_lay I B z))) (by repeat' first | exact fun _ h => absurd h List.not_mem_nil | refine List.forall_mem_cons.mpr ⟨rfl, ?_⟩)
    · exact absurd rfl cq2
set_option maxRecDepth 100000 in
set_option maxHeartbeats 4000000 in
theorem cs_15 (R : Rel h y x o kp nx la ps) (r : Ro G k h) (hk6 : 6 * k + 6 ≤ gL G) (hL : gL G ≤ 3072) (kc : Kc G y x k Q) : Rn G 10 mL_law 841 [(0, .ref (gb G)), (1, .ref y), (2, .ref x), (3, .int (nI (6 * k)))] [] h Q := by
  have ky := R.ky
  have kx := R.kx
  have hk5 : k < 512 := by omega
  have rm := r.rm hk5
  obtain ⟨⟨M, K, T⟩, C, A, ⟨I, B⟩, H⟩ := id R
  first | refine x_aload_n eL_law_841 rfl rfl ?_ | refine x_aload_nN eL_law_841 rfl rfl ?_
  first | refine x_aload_n eL_law_842 rfl rfl ?_ | refine x_aload_nN eL_law_842 rfl rfl ?_
  refine x_iload_n eL_law_843 rfl rfl ?_
  refine x_iconst (v := nI 1) eL_law_844 (by decide) ?_
  first | refine x_iaddN eL_law_845 (by with_reducible rfl) (by with_reducible rfl) ?_ | refine x_iadd eL_law_845 ?_
  refine x_scr eL_law_846 (by with_reducible rfl) (by omega) (by omega) ?_
  first | refine x_aload_n eL_law_847 rfl rfl ?_ | refine x_aload_nN eL_law_847 rfl rfl ?_
  refine x_iload_n eL_law_848 rfl rfl ?_
  refine x_iconst (v := nI 2) eL_law_849 (by decide) ?_
  first | refine x_iaddN eL_law_850 (by with_reducible rfl) (by with_reducible rfl) ?_ | refine x_iadd eL_law_850 ?_
  refine x_scr eL_law_851 (by with_reducible rfl) (by omega) (by omega) ?_
  first | refine x_callV2 eL_law_852 lk_L_81 (by assumption) (Nat.le_of_ble_eq_true rfl) (Nat.le_of_ble_eq_true rfl) ?_ | refine x_callVw2 eL_law_852 lk_L_81 (by assumption) (Nat.le_of_ble_eq_true rfl) (Nat.le_of_ble_eq_true rfl) (Nat.le_of_ble_eq_true rfl) ?_
  refine Rn.deep (c_X8_lift (d := 0) C A I rm (fun z _ => ?_) (fun z h2 P x1 => ?_)) (by omega)
  · first | refine x_aload_n eL_law_855 rfl rfl ?_ | refine x_aload_nN eL_law_855 rfl rfl ?_
    first | refine x_aload_n eL_law_856 rfl rfl ?_ | refine x_aload_nN eL_law_856 rfl rfl ?_
    refine x_iload_n eL_law_857 rfl rfl ?_
    refine x_iconst (v := nI 1) eL_law_858 (by decide) ?_
    first | refine x_iaddN eL_law_859 (by with_reducible rfl) (by with_reducible rfl) ?_ | refine x_iadd eL_law_859 ?_
    refine x_scr eL_law_860 (by with_reducible rfl) (by omega) (by omega) ?_
    first | refine x_aload_n eL_law_861 rfl rfl ?_ | refine x_aload_nN eL_law_861 rfl rfl ?_
    refine x_iload_n eL_law_862 rfl rfl ?_
    refine x_iconst (v := nI 2) eL_law_863 (by decide) ?_
    first | refine x_iaddN eL_law_864 (by with_reducible rfl) (by with_reducible rfl) ?_ | refine x_iadd eL_law_864 ?_
    refine x_scr eL_law_865 (by with_reducible rfl) (by omega) (by omega) ?_
    first | refine x_callV2 eL_law_866 lk_L_84 (by assumption) (Nat.le_of_ble_eq_true rfl) (Nat.le_of_ble_eq_true rfl) ?_ | refine x_callVw2 eL_law_866 lk_L_84 (by assumption) (Nat.le_of_ble_eq_true rfl) (Nat.le_of_ble_eq_true rfl) (Nat.le_of_ble_eq_true rfl) ?_
    refine Rn.deep (c_X9_lift (d := 0) M K I.gw (fun z2 _ => ?_) (fun z2 => absurd (z2.symm.trans z) (by decide))) (by omega)
    first | refine x_icmp_eqN (tgt := 1299) eL_law_869 (by decide) (by with_reducible rfl) (by with_reducible rfl) (by omega) (by omega) (fun cq1 => ?_) (fun cq1 => ?_) | refine x_icmp_eq (tgt := 1299) eL_law_869 (by decide) (fun cq1 => ?_) (fun cq1 => ?_)
    · refine Rn.weak (kc _ (St.same R r hk5)) (by repeat' first | exact fun _ h => absurd h List.not_mem_nil | refine List.forall_mem_cons.mpr ⟨rfl, ?_⟩)
    · exact absurd rfl cq1
  · obtain ⟨o2, -, -, Z, -, -⟩ := id P
    obtain ⟨M2, K2, T2, E2, kx2⟩ := R.mid Z
    have e1 : hi h2 (x + 1) = hi h (x + 1) := E2 1 (by omega)
    first | refine x_aload_n eL_law_855 rfl rfl ?_ | refine x_aload_nN eL_law_855 rfl rfl ?_
    first | refine x_aload_n eL_law_856 rfl rfl ?_ | refine x_aload_nN eL_law_856 rfl rfl ?_
    refine x_iload_n eL_law_857 rfl rfl ?_
    refine x_iconst (v := nI 1) eL_law_858 (by decide) ?_
    first | refine x_iaddN eL_law_859 (by with_reducible rfl) (by with_reducible rfl) ?_ | refine x_iadd eL_law_859 ?_
    refine x_scr eL_law_860 (by with_reducible rfl) (by omega) (by omega) ?_
    first | refine x_aload_n eL_law_861 rfl rfl ?_ | refine x_aload_nN eL_law_861 rfl rfl ?_
    refine x_iload_n eL_law_862 rfl rfl ?_
    refine x_iconst (v := nI 2) eL_law_863 (by decide) ?_
    first | refine x_iaddN eL_law_864 (by with_reducible rfl) (by with_reducible rfl) ?_ | refine x_iadd eL_law_864 ?_
    refine x_scr eL_law_865 (by with_reducible rfl) (by omega) (by omega) ?_
    first | refine x_callV2 eL_law_866 lk_L_84 (by assumption) (Nat.le_of_ble_eq_true rfl) (Nat.le_of_ble_eq_true rfl) ?_ | refine x_callVw2 eL_law_866 lk_L_84 (by assumption) (Nat.le_of_ble_eq_true rfl) (Nat.le_of_ble_eq_true rfl) (Nat.le_of_ble_eq_true rfl) ?_
    refine Rn.deep (c_X9_lift (d := 0) M2 K2 (by rw [e1]; exact I.gw) (fun z2 => by rw [e1, z] at z2; cases z2) (fun z2 _ => ?_)) (by omega)
    skip
    rw [e1]
    first | refine x_icmp_eqN (tgt := 1299) eL_law_869 (by decide) (by with_reducible rfl) (by with_reducible rfl) (by omega) (by omega) (fun cq2 => ?_) (fun cq2 => ?_) | refine x_icmp_eq (tgt := 1299) eL_law_869 (by decide) (fun cq2 => ?_) (fun cq2 => ?_)
    · refine Rn.weak (kc _ (St.act R r hk5 x1 P (GO_lift I B z))) (by repeat' first | exact fun _ h => absurd h List.not_mem_nil | refine List.forall_mem_cons.mpr ⟨rfl, ?_⟩)
    · exact absurd rfl cq2
set_option maxRecDepth 100000 in
set_option maxHeartbeats 4000000 in
theorem cs_23 (R : Rel h y x o kp nx la ps) (r : Ro G k h) (hk6 : 6 * k + 6 ≤ gL G) (hL : gL G ≤ 3072) (kc : Kc G y x k Q) : Rn G 10 mL_law 1101 [(0, .ref (gb G)), (1, .ref y), (2, .ref x), (3, .int (nI (6 * k)))] [] h Q := by
  have ky := R.ky
  have kx := R.kx
  have hk5 : k < 512 := by omega
  have rm := r.rm hk5
  obtain ⟨⟨M, K, T⟩, C, A, ⟨I, B⟩, H⟩ := id R
  first | refine x_aload_n eL_law_1101 rfl rfl ?_ | refine x_aload_nN eL_law_1101 rfl rfl ?_
  first | refine x_aload_n eL_law_1102 rfl rfl ?_ | refine x_aload_nN eL_law_1102 rfl rfl ?_
  refine x_iload_n eL_law_1103 rfl rfl ?_
  refine x_iconst (v := nI 1) eL_law_1104 (by decide) ?_
  first | refine x_iaddN eL_law_1105 (by with_reducible rfl) (by with_reducible rfl) ?_ | refine x_iadd eL_law_1105 ?_
  refine x_scr eL_law_1106 (by with_reducible rfl) (by omega) (by omega) ?_
  first | refine x_aload_n eL_law_1107 rfl rfl ?_ | refine x_aload_nN eL_law_1107 rfl rfl ?_
  refine x_iload_n eL_law_1108 rfl rfl ?_
  refine x_iconst (v := nI 2) eL_law_1109 (by decide) ?_
  first | refine x_iaddN eL_law_1110 (by with_reducible rfl) (by with_reducible rfl) ?_ | refine x_iadd eL_law_1110 ?_
  refine x_scr eL_law_1111 (by with_reducible rfl) (by omega) (by omega) ?_
  first | refine x_callV2 eL_law_1112 lk_L_115 (by assumption) (Nat.le_of_ble_eq_true rfl) (Nat.le_of_ble_eq_true rfl) ?_ | refine x_callVw2 eL_law_1112 lk_L_115 (by assumption) (Nat.le_of_ble_eq_true rfl) (Nat.le_of_ble_eq_true rfl) (Nat.le_of_ble_eq_true rfl) ?_
  refine Rn.deep (c_X8_reef (d := 0) C A I rm (fun z _ => ?_) (fun z h2 P x1 => ?_)) (by omega)
  · first | refine x_aload_n eL_law_1115 rfl rfl ?_ | refine x_aload_nN eL_law_1115 rfl rfl ?_
    first | refine x_aload_n eL_law_1116 rfl rfl ?_ | refine x_aload_nN eL_law_1116 rfl rfl ?_
    refine x_iload_n eL_law_1117 rfl rfl ?_
    refine x_iconst (v := nI 1) eL_law_1118 (by decide) ?_
    first | refine x_iaddN eL_law_1119 (by with_reducible rfl) (by with_reducible rfl) ?_ | refine x_iadd eL_law_1119 ?_
    refine x_scr eL_law_1120 (by with_reducible rfl) (by omega) (by omega) ?_
    first | refine x_aload_n eL_law_1121 rfl rfl ?_ | refine x_aload_nN eL_law_1121 rfl rfl ?_
    refine x_iload_n eL_law_1122 rfl rfl ?_
    refine x_iconst (v := nI 2) eL_law_1123 (by decide) ?_
    first | refine x_iaddN eL_law_1124 (by with_reducible rfl) (by with_reducible rfl) ?_ | refine x_iadd eL_law_1124 ?_
    refine x_scr eL_law_1125 (by with_reducible rfl) (by omega) (by omega) ?_
    first | refine x_callV2 eL_law_1126 lk_L_118 (by assumption) (Nat.le_of_ble_eq_true rfl) (Nat.le_of_ble_eq_true rfl) ?_ | refine x_callVw2 eL_law_1126 lk_L_118 (by assumption) (Nat.le_of_ble_eq_true rfl) (Nat.le_of_ble_eq_true rfl) (Nat.le_of_ble_eq_true rfl) ?_
    refine Rn.deep (c_X9_reef (d := 0) M K I.gw (fun z2 _ => ?_) (fun z2 => absurd (z2.symm.trans z) (by decide))) (by omega)
    first | refine x_icmp_eqN (tgt := 1299) eL_law_1129 (by decide) (by with_reducible rfl) (by with_reducible rfl) (by omega) (by omega) (fun cq1 => ?_) (fun cq1 => ?_) | refine x_icmp_eq (tgt := 1299) eL_law_1129 (by decide) (fun cq1 => ?_) (fun cq1 => ?_)
    · refine Rn.weak (kc _ (St.same R r hk5)) (by repeat' first | exact fun _ h => absurd h List.not_mem_nil | refine List.forall_mem_cons.mpr ⟨rfl, ?_⟩)
    · exact absurd rfl cq1
  · obtain ⟨o2, -, -, Z, -, -⟩ := id P
    obtain ⟨M2, K2, T2, E2, kx2⟩ := R.mid Z
    have e1 : hi h2 (x + 1) = hi h (x + 1) := E2 1 (by omega)
    first | refine x_aload_n eL_law_1115 rfl rfl ?_ | refine x_aload_nN eL_law_1115 rfl rfl ?_
    first | refine x_aload_n eL_law_1116 rfl rfl ?_ | refine x_aload_nN eL_law_1116 rfl rfl ?_
    refine x_iload_n eL_law_1117 rfl rfl ?_
    refine x_iconst (v := nI 1) eL_law_1118 (by decide) ?_
    first | refine x_iaddN eL_law_1119 (by with_reducible rfl) (by with_reducible rfl) ?_ | refine x_iadd eL_law_1119 ?_
    refine x_scr eL_law_1120 (by with_reducible rfl) (by omega) (by omega) ?_
    first | refine x_aload_n eL_law_1121 rfl rfl ?_ | refine x_aload_nN eL_law_1121 rfl rfl ?_
    refine x_iload_n eL_law_1122 rfl rfl ?_
    refine x_iconst (v := nI 2) eL_law_1123 (by decide) ?_
    first | refine x_iaddN eL_law_1124 (by with_reducible rfl) (by with_reducible rfl) ?_ | refine x_iadd eL_law_1124 ?_
    refine x_scr eL_law_1125 (by with_reducible rfl) (by omega) (by omega) ?_
    first | refine x_callV2 eL_law_1126 lk_L_118 (by assumption) (Nat.le_of_ble_eq_true rfl) (Nat.le_of_ble_eq_true rfl) ?_ | refine x_callVw2 eL_law_1126 lk_L_118 (by assumption) (Nat.le_of_ble_eq_true rfl) (Nat.le_of_ble_eq_true rfl) (Nat.le_of_ble_eq_true rfl) ?_
    refine Rn.deep (c_X9_reef (d := 0) M2 K2 (by rw [e1]; exact I.gw) (fun z2 => by rw [e1, z] at z2; cases z2) (fun z2 _ => ?_)) (by omega)
    skip
    rw [e1]
    first | refine x_icmp_eqN (tgt := 1299) eL_law_1129 (by decide) (by with_reducible rfl) (by with_reducible rfl) (by omega) (by omega) (fun cq2 => ?_) (fun cq2 => ?_) | refine x_icmp_eq (tgt := 1299) eL_law_1129 (by decide) (fun cq2 => ?_) (fun cq2 => ?_)
    · refine Rn.weak (kc _ (St.act R r hk5 x1 P (GO_reef I B z))) (by repeat' first | exact fun _ h => absurd h List.not_mem_nil | refine List.forall_mem_cons.mpr ⟨rfl, ?_⟩)
    · exact absurd rfl cq2
set_option maxRecDepth 100000 in
set_option maxHeartbeats 4000000 in
theorem cs_24 (R : Rel h y x o kp nx la ps) (r : Ro G k h) (hk6 : 6 * k + 6 ≤ gL G) (hL : gL G ≤ 3072) (kc : Kc G y x k Q) : Rn G 10 mL_law 1134 [(0, .ref (gb G)), (1, .ref y), (2, .ref x), (3, .int (nI (6 * k)))] [] h Q := by
  have ky := R.ky
  have kx := R.kx
  have hk5 : k < 512 := by omega
  have rm := r.rm hk5
  obtain ⟨⟨M, K, T⟩, C, A, ⟨I, B⟩, H⟩ := id R
  first | refine x_aload_n eL_law_1134 rfl rfl ?_ | refine x_aload_nN eL_law_1134 rfl rfl ?_
  first | refine x_aload_n eL_law_1135 rfl rfl ?_ | refine x_aload_nN eL_law_1135 rfl rfl ?_
  refine x_iload_n eL_law_1136 rfl rfl ?_
  refine x_iconst (v := nI 1) eL_law_1137 (by decide) ?_
  first | refine x_iaddN eL_law_1138 (by with_reducible rfl) (by with_reducible rfl) ?_ | refine x_iadd eL_law_1138 ?_
  refine x_scr eL_law_1139 (by with_reducible rfl) (by omega) (by omega) ?_
  first | refine x_aload_n eL_law_1140 rfl rfl ?_ | refine x_aload_nN eL_law_1140 rfl rfl ?_
  refine x_iload_n eL_law_1141 rfl rfl ?_
  refine x_iconst (v := nI 2) eL_law_1142 (by decide) ?_
  first | refine x_iaddN eL_law_1143 (by with_reducible rfl) (by with_reducible rfl) ?_ | refine x_iadd eL_law_1143 ?_
  refine x_scr eL_law_1144 (by with_reducible rfl) (by omega) (by omega) ?_
  first | refine x_callV2 eL_law_1145 lk_L_119 (by assumption) (Nat.le_of_ble_eq_true rfl) (Nat.le_of_ble_eq_true rfl) ?_ | refine x_callVw2 eL_law_1145 lk_L_119 (by assumption) (Nat.le_of_ble_eq_true rfl) (Nat.le_of_ble_eq_true rfl) (Nat.le_of_ble_eq_true rfl) ?_
  refine Rn.deep (c_X8_line (d := 0) C A I rm (fun z _ => ?_) (fun z h2 P x1 => ?_)) (by omega)
  · first | refine x_aload_n eL_law_1148 rfl rfl ?_ | refine x_aload_nN eL_law_1148 rfl rfl ?_
    first | refine x_aload_n eL_law_1149 rfl rfl ?_ | refine x_aload_nN eL_law_1149 rfl rfl ?_
    refine x_iload_n eL_law_1150 rfl rfl ?_
    refine x_iconst (v := nI 1) eL_law_1151 (by decide) ?_
    first | refine x_iaddN eL_law_1152 (by with_reducible rfl) (by with_reducible rfl) ?_ | refine x_iadd eL_law_1152 ?_
    refine x_scr eL_law_1153 (by with_reducible rfl) (by omega) (by omega) ?_
    first | refine x_aload_n eL_law_1154 rfl rfl ?_ | refine x_aload_nN eL_law_1154 rfl rfl ?_
    refine x_iload_n eL_law_1155 rfl rfl ?_
    refine x_iconst (v := nI 2) eL_law_1156 (by decide) ?_
    first | refine x_iaddN eL_law_1157 (by with_reducible rfl) (by with_reducible rfl) ?_ | refine x_iadd eL_law_1157 ?_
    refine x_scr eL_law_1158 (by with_reducible rfl) (by omega) (by omega) ?_
    first | refine x_callV2 eL_law_1159 lk_L_122 (by assumption) (Nat.le_of_ble_eq_true rfl) (Nat.le_of_ble_eq_true rfl) ?_ | refine x_callVw2 eL_law_1159 lk_L_122 (by assumption) (Nat.le_of_ble_eq_true rfl) (Nat.le_of_ble_eq_true rfl) (Nat.le_of_ble_eq_true rfl) ?_
    refine Rn.deep (c_X9_line (d := 0) M K I.gw (fun z2 _ => ?_) (fun z2 => absurd (z2.symm.trans z) (by decide))) (by omega)
    first | refine x_icmp_eqN (tgt := 1299) eL_law_1162 (by decide) (by with_reducible rfl) (by with_reducible rfl) (by omega) (by omega) (fun cq1 => ?_) (fun cq1 => ?_) | refine x_icmp_eq (tgt := 1299) eL_law_1162 (by decide) (fun cq1 => ?_) (fun cq1 => ?_)
    · refine Rn.weak (kc _ (St.same R r hk5)) (by repeat' first | exact fun _ h => absurd h List.not_mem_nil | refine List.forall_mem_cons.mpr ⟨rfl, ?_⟩)
    · exact absurd rfl cq1
  · obtain ⟨o2, -, -, Z, -, -⟩ := id P
    obtain ⟨M2, K2, T2, E2, kx2⟩ := R.mid Z
    have e1 : hi h2 (x + 1) = hi h (x + 1) := E2 1 (by omega)
    first | refine x_aload_n eL_law_1148 rfl rfl ?_ | refine x_aload_nN eL_law_1148 rfl rfl ?_
    first | refine x_aload_n eL_law_1149 rfl rfl ?_ | refine x_aload_nN eL_law_1149 rfl rfl ?_
    refine x_iload_n eL_law_1150 rfl rfl ?_
    refine x_iconst (v := nI 1) eL_law_1151 (by decide) ?_
    first | refine x_iaddN eL_law_1152 (by with_reducible rfl) (by with_reducible rfl) ?_ | refine x_iadd eL_law_1152 ?_
    refine x_scr eL_law_1153 (by with_reducible rfl) (by omega) (by omega) ?_
    first | refine x_aload_n eL_law_1154 rfl rfl ?_ | refine x_aload_nN eL_law_1154 rfl rfl ?_
    refine x_iload_n eL_law_1155 rfl rfl ?_
    refine x_iconst (v := nI 2) eL_law_1156 (by decide) ?_
    first | refine x_iaddN eL_law_1157 (by with_reducible rfl) (by with_reducible rfl) ?_ | refine x_iadd eL_law_1157 ?_
    refine x_scr eL_law_1158 (by with_reducible rfl) (by omega) (by omega) ?_
    first | refine x_callV2 eL_law_1159 lk_L_122 (by assumption) (Nat.le_of_ble_eq_true rfl) (Nat.le_of_ble_eq_true rfl) ?_ | refine x_callVw2 eL_law_1159 lk_L_122 (by assumption) (Nat.le_of_ble_eq_true rfl) (Nat.le_of_ble_eq_true rfl) (Nat.le_of_ble_eq_true rfl) ?_
    refine Rn.deep (c_X9_line (d := 0) M2 K2 (by rw [e1]; exact I.gw) (fun z2 => by rw [e1, z] at z2; cases z2) (fun z2 _ => ?_)) (by omega)
    skip
    rw [e1]
    first | refine x_icmp_eqN (tgt := 1299) eL_law_1162 (by decide) (by with_reducible rfl) (by with_reducible rfl) (by omega) (by omega) (fun cq2 => ?_) (fun cq2 => ?_) | refine x_icmp_eq (tgt := 1299) eL_law_1162 (by decide) (fun cq2 => ?_) (fun cq2 => ?_)
    · refine Rn.weak (kc _ (St.act R r hk5 x1 P (GO_line I B z))) (by repeat' first | exact fun _ h => absurd h List.not_mem_nil | refine List.forall_mem_cons.mpr ⟨rfl, ?_⟩)
    · exact absurd rfl cq2
set_option maxRecDepth 100000 in
set_option maxHeartbeats 4000000 in
theorem cs_28 (R : Rel h y x o kp nx la ps) (r : Ro G k h) (hk6 : 6 * k + 6 ≤ gL G) (hL : gL G ≤ 3072) (kc : Kc G y x k Q) : Rn G 10 mL_law 1217 [(0, .ref (gb G)), (1, .ref y), (2, .ref x), (3, .int (nI (6 * k)))] [] h Q := by
  have ky := R.ky
  have kx := R.kx
  have hk5 : k < 512 := by omega
  have rm := r.rm hk5
  obtain ⟨⟨M, K, T⟩, C, A, ⟨I, B⟩, H⟩ := id R
  first | refine x_aload_n eL_law_1217 rfl rfl ?_ | refine x_aload_nN eL_law_1217 rfl rfl ?_
  first | refine x_aload_n eL_law_1218 rfl rfl ?_ | refine x_aload_nN eL_law_1218 rfl rfl ?_
  refine x_iload_n eL_law_1219 rfl rfl ?_
  refine x_iconst (v := nI 1) eL_law_1220 (by decide) ?_
  first | refine x_iaddN eL_law_1221 (by with_reducible rfl) (by with_reducible rfl) ?_ | refine x_iadd eL_law_1221 ?_
  refine x_scr eL_law_1222 (by with_reducible rfl) (by omega) (by omega) ?_
  refine x_callV1 eL_law_1223 lk_L_137 (by assumption) (Nat.le_of_ble_eq_true rfl) (Nat.le_of_ble_eq_true rfl) ?_
  refine Rn.deep (c_X8_take (d := 0) C A I B.1 rm (fun z _ => ?_) (fun z h2 P x1 => ?_)) (by omega)
  · first | refine x_aload_n eL_law_1226 rfl rfl ?_ | refine x_aload_nN eL_law_1226 rfl rfl ?_
    first | refine x_aload_n eL_law_1227 rfl rfl ?_ | refine x_aload_nN eL_law_1227 rfl rfl ?_
    refine x_iload_n eL_law_1228 rfl rfl ?_
    refine x_iconst (v := nI 1) eL_law_1229 (by decide) ?_
    first | refine x_iaddN eL_law_1230 (by with_reducible rfl) (by with_reducible rfl) ?_ | refine x_iadd eL_law_1230 ?_
    refine x_scr eL_law_1231 (by with_reducible rfl) (by omega) (by omega) ?_
    refine x_callV1 eL_law_1232 lk_L_140 (by assumption) (Nat.le_of_ble_eq_true rfl) (Nat.le_of_ble_eq_true rfl) ?_
    refine Rn.deep (c_X9_take (d := 0) M K I.gw (fun z2 _ => ?_) (fun z2 => absurd (z2.symm.trans z) (by decide))) (by omega)
    first | refine x_icmp_eqN (tgt := 1299) eL_law_1235 (by decide) (by with_reducible rfl) (by with_reducible rfl) (by omega) (by omega) (fun cq1 => ?_) (fun cq1 => ?_) | refine x_icmp_eq (tgt := 1299) eL_law_1235 (by decide) (fun cq1 => ?_) (fun cq1 => ?_)
    · refine Rn.weak (kc _ (St.same R r hk5)) (by repeat' first | exact fun _ h => absurd h List.not_mem_nil | refine List.forall_mem_cons.mpr ⟨rfl, ?_⟩)
    · exact absurd rfl cq1
  · obtain ⟨o2, -, -, Z, -, -⟩ := id P
    obtain ⟨M2, K2, T2, E2, kx2⟩ := R.mid Z
    have e1 : hi h2 (x + 1) = hi h (x + 1) := E2 1 (by omega)
    first | refine x_aload_n eL_law_1226 rfl rfl ?_ | refine x_aload_nN eL_law_1226 rfl rfl ?_
    first | refine x_aload_n eL_law_1227 rfl rfl ?_ | refine x_aload_nN eL_law_1227 rfl rfl ?_
    refine x_iload_n eL_law_1228 rfl rfl ?_
    refine x_iconst (v := nI 1) eL_law_1229 (by decide) ?_
    first | refine x_iaddN eL_law_1230 (by with_reducible rfl) (by with_reducible rfl) ?_ | refine x_iadd eL_law_1230 ?_
    refine x_scr eL_law_1231 (by with_reducible rfl) (by omega) (by omega) ?_
    refine x_callV1 eL_law_1232 lk_L_140 (by assumption) (Nat.le_of_ble_eq_true rfl) (Nat.le_of_ble_eq_true rfl) ?_
    refine Rn.deep (c_X9_take (d := 0) M2 K2 (by rw [e1]; exact I.gw) (fun z2 => by rw [e1, z] at z2; cases z2) (fun z2 _ => ?_)) (by omega)
    skip
    rw [e1]
    first | refine x_icmp_eqN (tgt := 1299) eL_law_1235 (by decide) (by with_reducible rfl) (by with_reducible rfl) (by omega) (by omega) (fun cq2 => ?_) (fun cq2 => ?_) | refine x_icmp_eq (tgt := 1299) eL_law_1235 (by decide) (fun cq2 => ?_) (fun cq2 => ?_)
    · refine Rn.weak (kc _ (St.act R r hk5 x1 P (GO_take I B z))) (by repeat' first | exact fun _ h => absurd h List.not_mem_nil | refine List.forall_mem_cons.mpr ⟨rfl, ?_⟩)
    · exact absurd rfl cq2
end LAW9

