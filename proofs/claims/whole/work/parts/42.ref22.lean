/-! ===== the reference: fewest, whole ===== -/
section REF22
variable {G : GG} {d : Nat} {h : AH} {Q : Option Value → AH → Prop} {x la kp : Nat}
set_option maxRecDepth 100000 in
set_option maxHeartbeats 4000000 in
theorem c_X9_fewest {s w : Int32} (M : MD h x) (W : GW (hi h (x + 1))) (hq : ∀ v m b, Q (some (.int (fewV (hi h (x + 1)) s w))) (mbH (ovH h (x + 6) v) x m b)) : Rn G (d + 6) mX9_fewest 0 [(0, .ref x), (1, .int s), (2, .int w)] [] h Q := by
  obtain ⟨⟨hx, hS, kS, nS⟩, -⟩ := id M
  have hqs : fewV (hi h (x + 1)) s w = -1 → Q (some (.int (-1))) h := fun z => by
    have q1 := hq (hi h (x + 6)) (hi h (x + 7)) (hi h (x + 8))
    rw [ovH_self, mb_self, z] at q1
    exact q1
  first | refine x_aload_n eX9_fewest_0 rfl rfl ?_ | refine x_aload_nN eX9_fewest_0 rfl rfl ?_
  refine x_iload_n eX9_fewest_1 rfl rfl ?_
  refine x_callV1 eX9_fewest_2 lk_X9_137 (by assumption) (Nat.le_of_ble_eq_true rfl) (Nat.le_of_ble_eq_true rfl) ?_
  refine Rn.deep (c_X9_isCut (d := d) M.md W.2.1 (fun _ => ?_)) (by omega)
  first | refine x_if_eqB (tgt := 18) eX9_fewest_5 (by decide) (by with_reducible rfl) (fun cq1 => ?_) (fun cq1 => ?_) | refine x_if_eq (tgt := 18) eX9_fewest_5 (by decide) (fun cq1 => ?_) (fun cq1 => ?_)
  · refine x_iconst (v := (-1)) eX9_fewest_18 (by decide) ?_
    refine x_iret eX9_fewest_19 rfl ?_
    exact hqs (by simp [fewV, cq1])
  · obtain ⟨j, hj, rfl⟩ := isS_spec W.2.1 (isC_S cq1)
    have h10 := W.2.1.2.2
    have h24 := W.1.2.2
    have hnt : nt (nI j) = j := nt_nI (by omega)
    have sw := W.2.2.2 j hj
    have h40 : np (hi h (x + 1)) j ≤ 40 := sw.2.2.2.2.1
    refine x_iload_n eX9_fewest_8 rfl rfl ?_
    refine x_iconst (v := nI 0) eX9_fewest_9 (by decide) ?_
    refine x_bipush (v := nI 100) eX9_fewest_10 (by decide) ?_
    refine x_callS3 eX9_fewest_12 lk_X9_70 (Nat.le_of_ble_eq_true rfl) (Nat.le_of_ble_eq_true rfl) ?_
    refine Rn.deep (c_X9_isIn (d := d) (fun _ => ?_)) (by omega)
    first | refine x_if_neB (tgt := 20) eX9_fewest_15 (by decide) (by with_reducible rfl) (fun cq2 => ?_) (fun cq2 => ?_) | refine x_if_ne (tgt := 20) eX9_fewest_15 (by decide) (fun cq2 => ?_) (fun cq2 => ?_)
    · have c2 : inR w 0 100 = true := cq2
      have hcl := cntN_le (lsP (hi h (x + 1)) j) (np (hi h (x + 1)) j)
      have k76 : ∀ v, (∀ i, i < cntN (lsP (hi h (x + 1)) j) (np (hi h (x + 1)) j) → i < 8 → v i = nI (loV (hi h (x + 1)) j i) ∧ loV (hi h (x + 1)) j i < 40) → Rn G (d + 6) mX9_fewest 76 [(0, .ref x), (1, .int (nI j)), (2, .int w), (3, .int (nI (cntN (lsP (hi h (x + 1)) j) (np (hi h (x + 1)) j))))] [] (ovH h (x + 6) v) Q := by
        intro v hv
        have M2 : MD (ovH h (x + 6) v) x := M
        have e1 := ovH_ne h v (show x + 1 ≠ x + 6 by omega)
        have e6 := ovH_b h (x + 6) v
        have hq2 := hq v
        rw [fewV, cq1, c2, hnt] at hq2
        generalize cntN (lsP (hi h (x + 1)) j) (np (hi h (x + 1)) j) = c at hv hq2 hcl
        refine x_iload_n eX9_fewest_76 rfl rfl ?_
        refine x_bipush (v := nI 8) eX9_fewest_77 (by decide) ?_
        first | refine x_icmp_leN (tgt := 84) eX9_fewest_79 (by decide) (by with_reducible rfl) (by with_reducible rfl) (by omega) (by omega) (fun cq1 => ?_) (fun cq1 => ?_) | refine x_icmp_le (tgt := 84) eX9_fewest_79 (by decide) (fun cq1 => ?_) (fun cq1 => ?_)
        · have c3 : c ≤ 8 := cq1
          have hN : 2 ^ c ≤ 256 := Nat.pow_le_pow_right (n := 2) (i := c) (j := 8) (by decide) c3
          have hpos : 0 < 2 ^ c := Nat.two_pow_pos c
          have k322 : ∀ m bf, (∀ T, T < 2 ^ c → m T = nI (ftL (hi (ovH h (x + 6) v) (x + 1)) j w c (nt (hi h (x + 1) 0)) T)) → Rn G (d + 6) mX9_fewest 322 [(0, .ref x), (1, .int (nI j)), (2, .int w), (3, .int (nI c))] [] (mbH (ovH h (x + 6) v) x m bf) Q := by
            intro m bf hm
            have M3 : MD (mbH (ovH h (x + 6) v) x m bf) x := M
            obtain ⟨⟨hx, hS0, kS, nS⟩, -, -, -, -, -, ⟨h8, k8, n8⟩, -⟩ := id M3
            have em := hm (2 ^ c - 1) (by omega)
            rw [e1] at em
            have lt99 := ftL_le (hi h (x + 1)) j w c (nt (hi h (x + 1) 0)) (2 ^ c - 1)
            have hq3 := hq2 m bf
            rw [decide_eq_true c3] at hq3
            first | refine x_aload_n eX9_fewest_322 rfl rfl ?_ | refine x_aload_nN eX9_fewest_322 rfl rfl ?_
            first | refine x_getR eX9_fewest_323 fk_X9_30 rfl (by assumption) (by assumption) ?_ | refine x_getN eX9_fewest_323 fk_X9_30 rfl (by assumption) (by assumption) ?_
            refine x_iconst (v := nI 1) eX9_fewest_326 (by decide) ?_
            refine x_iload_n eX9_fewest_327 rfl rfl ?_
            refine x_ishl eX9_fewest_328 ?_
            rw [shl_n (by omega)]
            refine x_iconst (v := nI 1) eX9_fewest_329 (by decide) ?_
            first | refine x_isubN eX9_fewest_330 (by with_reducible rfl) (by with_reducible rfl) (by omega) ?_ | refine x_isub eX9_fewest_330 ?_
            first | refine x_ialdN eX9_fewest_331 (by with_reducible rfl) (by assumption) (by assumption) (by omega) (by omega) ?_ | refine x_sldN eX9_fewest_331 (by with_reducible rfl) (by assumption) (by assumption) (by omega) (by omega) ?_ | refine x_iald eX9_fewest_331 (by assumption) (by assumption) ?_
            rw [mb_7, em]
            refine x_istore eX9_fewest_332 (by decide) rfl rfl ?_
            refine x_iload eX9_fewest_334 rfl ?_
            refine x_bipush (v := nI 24) eX9_fewest_336 (by decide) ?_
            first | refine x_icmp_leN (tgt := 345) eX9_fewest_338 (by decide) (by with_reducible rfl) (by with_reducible rfl) (by omega) (by omega) (fun cq1 => ?_) (fun cq1 => ?_) | refine x_icmp_le (tgt := 345) eX9_fewest_338 (by decide) (fun cq1 => ?_) (fun cq1 => ?_)
            · rw [decide_eq_true cq1] at hq3
              refine x_iload eX9_fewest_345 rfl ?_
              refine x_iret eX9_fewest_347 rfl ?_
              exact hq3
            · rw [decide_eq_false (Nat.not_le.mpr cq1)] at hq3
              refine x_iconst (v := (-1)) eX9_fewest_341 (by decide) ?_
              refine x_goto (tgt := 347) eX9_fewest_342 (by decide) ?_
              refine x_iret eX9_fewest_347 rfl ?_
              exact hq3
          have k119 : ∀ m b, (∀ T, T < 2 ^ c → m T = nI (if T = 0 then 0 else 99)) → Rn G (d + 6) mX9_fewest 119 [(0, .ref x), (1, .int (nI j)), (2, .int w), (3, .int (nI c))] [] (mbH (ovH h (x + 6) v) x m b) Q := by
            intro m b hm
            refine x_iconst (v := nI 0) eX9_fewest_119 (by decide) ?_
            refine x_istore eX9_fewest_120 (by decide) rfl rfl ?_
            refine Rn.weak (l_X9_few2 M2 (by rw [e1]; exact W) (by rw [e1]; exact hj) c3 (by rw [e1]) (by rw [e1, e6]; exact fun i hi0 => hv i hi0 (by omega)) k322 (nt (hi h (x + 1) 0)) 0 m b (Nat.zero_add _) hm) (by repeat' first | exact fun _ h => absurd h List.not_mem_nil | refine List.forall_mem_cons.mpr ⟨rfl, ?_⟩)
          have w1 := l_X9_few1 (G := G) (d := d + 1) (Q := Q) M2 c3 k119 (2 ^ c) 0 (hi (ovH h (x + 6) v) (x + 7)) (hi (ovH h (x + 6) v) (x + 8)) (Nat.zero_add _) (fun T hT => absurd hT (by omega))
          rw [mb_self] at w1
          refine x_iconst (v := nI 0) eX9_fewest_84 (by decide) ?_
          refine x_istore eX9_fewest_85 (by decide) rfl rfl ?_
          refine Rn.weak (w1) (by repeat' first | exact fun _ h => absurd h List.not_mem_nil | refine List.forall_mem_cons.mpr ⟨rfl, ?_⟩)
        · have q1 := hq2 (hi (ovH h (x + 6) v) (x + 7)) (hi (ovH h (x + 6) v) (x + 8))
          rw [mb_self, decide_eq_false (Nat.not_le.mpr cq1)] at q1
          refine x_iconst (v := (-1)) eX9_fewest_82 (by decide) ?_
          refine x_iret eX9_fewest_83 rfl ?_
          exact q1
      have w0 := l_X9_few0 (G := G) (d := d + 1) (Q := Q) M (by omega) sw k76 (np (hi h (x + 1)) j) 0 (hi h (x + 6)) (Nat.zero_add _) (fun i hi0 => absurd hi0 (by unfold cntN; omega))
      rw [ovH_self] at w0
      refine x_iconst (v := nI 0) eX9_fewest_20 (by decide) ?_
      refine x_istore_n eX9_fewest_21 rfl (by decide) rfl rfl ?_
      refine x_iconst (v := nI 0) eX9_fewest_22 (by decide) ?_
      refine x_istore eX9_fewest_23 (by decide) rfl rfl ?_
      refine Rn.weak (w0) (by repeat' first | exact fun _ h => absurd h List.not_mem_nil | refine List.forall_mem_cons.mpr ⟨rfl, ?_⟩)
    · refine x_iconst (v := (-1)) eX9_fewest_18 (by decide) ?_
      refine x_iret eX9_fewest_19 rfl ?_
      exact hqs (by have c2 : inR w 0 100 = false := cq2; simp [fewV, c2])
end REF22

