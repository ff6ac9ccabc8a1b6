/-! ===== fewest: a bolt is offered ===== -/
section FEW4
variable {G : GG} {d : Nat} {h h1 h2 : AH} {Q : Option Value → AH → Prop} {p a0 a1 a2 a S T c : Nat}
set_option maxRecDepth 100000 in
set_option maxHeartbeats 4000000 in
theorem c_X3_offer {l w : Int32} {B : Nat → Nat} {fit : Nat → Bool} {M : Nat} (P : PkO h p a0 a1 a2) (e3 : hi h p 3 = nI M) (hM1 : 1 ≤ M) (hM : M ≤ 256) (hB : fpos B) (ka : hk h a = 1) (e0 : hi h a 0 = w) (e1 : hi h a 1 = l) (na : a ≠ a2) (hN : ∀ S, S < M → hi h a2 S = nI (min (B S) 25)) (hfit : ∀ S, S < 256 → S ≠ 0 → fit S = (decide (hi h a0 S ≤ l) && decide (hi h a1 S ≤ w))) (hq : ∀ N, (∀ S, S < M → N S = nI (min (mnS fit B S M) 25)) → Q none (ovH h a2 N)) : Rn G (d + 2) mX3_offer 0 [(0, .ref p), (1, .ref a)] [] h Q := by
  obtain ⟨kp, ⟨r0, r1, r2⟩, ⟨k0, n0⟩, ⟨k1, n1⟩, ⟨k2, n2⟩, ⟨d1, d2, d3⟩, f1, f2, f3⟩ := id P
  have loop : ∀ k N, k < M → (∀ S, S ≤ k → N S = nI (min (B S) 25)) → (∀ S, k < S → S < M → N S = nI (min (mnS fit B S M) 25)) → Rn G (d + 2) mX3_offer 13 [(0, .ref p), (1, .ref a), (2, .int (nI k))] [] (ovH h a2 N) Q := by
    intro k
    induction k with
    | zero =>
      intro N hkM hlo hhi
      have k := hq N (fun S hS => by
        rcases Nat.eq_zero_or_pos S with z | z
        · subst z
          rw [hlo 0 (Nat.le_refl _), hB.1, show mnS fit B 0 M = 0 from (hB.mnS (fit := fit) M).1]
        · exact hhi S z hS)
      refine x_iload_n eX3_offer_13 rfl rfl ?_
      refine x_if_le (tgt := 58) eX3_offer_14 (by decide) (fun cq1 => ?_) (fun cq1 => ?_)
      · refine x_ret (rt := none) eX3_offer_58 rfl ?_
        exact k
      · exact absurd (show nI 0 ≤ 0 by decide) cq1
    | succ k ih =>
      intro N hkM hlo hhi
      have P' : PkO (ovH h a2 N) p a0 a1 a2 := P
      have kp' : hk (ovH h a2 N) p = 2 := kp
      have ka' : hk (ovH h a2 N) a = 1 := ka
      have r2' : hr (ovH h a2 N) p 2 = some a2 := r2
      have k2' : hk (ovH h a2 N) a2 = 20 := k2
      have n2' : hn (ovH h a2 N) a2 = 256 := n2
      have e0' : hi (ovH h a2 N) a 0 = w := by rw [ovH_ne h N na]; exact e0
      have e1' : hi (ovH h a2 N) a 1 = l := by rw [ovH_ne h N na]; exact e1
      have eN : hi (ovH h a2 N) a2 = N := ovH_b _ _ _
      have ef : ∀ S, S < 256 → S ≠ 0 → fit S = (decide (hi (ovH h a2 N) a0 S ≤ l) && decide (hi (ovH h a2 N) a1 S ≤ w)) := fun S h1 h2 => by rw [ovH_ne h N d2, ovH_ne h N d3]; exact hfit S h1 h2
      have m8 : k + 1 < 256 := by omega
      have next : ∀ v, v = min (mnS fit B (k + 1) M) 25 → Rn G (d + 2) mX3_offer 52 [(0, .ref p), (1, .ref a), (2, .int (nI (k + 1)))] [] (ovH h a2 (upd0 N (k + 1) (nI v))) Q := fun v ev => by
        have iw := ih (upd0 N (k + 1) (nI v)) (by omega) (fun S hS => by rw [upd0_ne (by omega)]; exact hlo S (by omega)) (fun S h1 h2 => by
          by_cases z : S = k + 1
          · rw [z, upd0_same, ev]
          · rw [upd0_ne z]
            exact hhi S (by omega) h2)
        have em : nI (k + 1) + Int32.ofInt (-1) = nI k := by
          show nI (k + 1) + (-1) = _
          rw [← nI_add, Int32.add_assoc]
          show nI k + (nI 1 + -1) = _
          rw [show nI 1 + -1 = (0 : Int32) by decide, Int32.add_zero]
        refine x_iinc eX3_offer_52 rfl rfl (by decide) rfl rfl ?_
        rw [em]
        refine x_goto (tgt := 13) eX3_offer_55 (by decide) ?_
        refine Rn.weak (iw) (by repeat' first | exact fun _ h => absurd h List.not_mem_nil | refine List.forall_mem_cons.mpr ⟨rfl, ?_⟩)
      have same : mnS fit B (k + 1) M = B (k + 1) → Rn G (d + 2) mX3_offer 52 [(0, .ref p), (1, .ref a), (2, .int (nI (k + 1)))] [] (ovH h a2 N) Q := fun e => by
        have n52 := next (min (mnS fit B (k + 1) M) 25) rfl
        rw [e, ← hlo (k + 1) (Nat.le_refl _), show upd0 N (k + 1) (N (k + 1)) = N from funext fun j => by unfold upd0; split <;> simp_all] at n52
        exact n52
      refine x_iload_n eX3_offer_13 rfl rfl ?_
      refine x_if_le (tgt := 58) eX3_offer_14 (by decide) (fun cq1 => ?_) (fun cq1 => ?_)
      · exact absurd cq1 (nI_nle (by omega) (by omega))
      · first | refine x_aload_n eX3_offer_17 rfl rfl ?_ | refine x_aload_nN eX3_offer_17 rfl rfl ?_
        first | refine x_aload_n eX3_offer_18 rfl rfl ?_ | refine x_aload_nN eX3_offer_18 rfl rfl ?_
        refine x_iload_n eX3_offer_19 rfl rfl ?_
        first | refine x_callV2 eX3_offer_20 lk_X3_42 (by assumption) (Nat.le_of_ble_eq_true rfl) (Nat.le_of_ble_eq_true rfl) ?_ | refine x_callVw2 eX3_offer_20 lk_X3_42 (by assumption) (Nat.le_of_ble_eq_true rfl) (Nat.le_of_ble_eq_true rfl) (Nat.le_of_ble_eq_true rfl) ?_
        refine Rn.deep (c_X3_fits (d := d) P' ka' e0' e1' m8 (fun _ => ?_)) (by omega)
        rw [← ef (k + 1) m8 (by omega)]
        first | refine x_if_eqB (tgt := 36) eX3_offer_23 (by decide) (by with_reducible rfl) (fun cq2 => ?_) (fun cq2 => ?_) | refine x_if_eq (tgt := 36) eX3_offer_23 (by decide) (fun cq2 => ?_) (fun cq2 => ?_)
        · have hf : fit (k + 1) = false := cq2
          first | refine x_aload_n eX3_offer_36 rfl rfl ?_ | refine x_aload_nN eX3_offer_36 rfl rfl ?_
          first | refine x_getR eX3_offer_37 fk_X3_18 rfl (by assumption) (by assumption) ?_ | refine x_getN eX3_offer_37 fk_X3_18 rfl (by assumption) (by assumption) ?_
          refine x_iload_n eX3_offer_40 rfl rfl ?_
          first | refine x_ialdN eX3_offer_41 (by with_reducible rfl) (by assumption) (by assumption) (by omega) (by omega) ?_ | refine x_sldN eX3_offer_41 (by with_reducible rfl) (by assumption) (by assumption) (by omega) (by omega) ?_ | refine x_iald eX3_offer_41 (by assumption) (by assumption) ?_
          rw [eN, hlo (k + 1) (Nat.le_refl _)]
          refine x_iconst (v := nI 2) eX3_offer_42 (by decide) ?_
          first | refine x_icmp_leN (tgt := 52) eX3_offer_43 (by decide) (by with_reducible rfl) (by with_reducible rfl) (by omega) (by omega) (fun cq3 => ?_) (fun cq3 => ?_) | refine x_icmp_le (tgt := 52) eX3_offer_43 (by decide) (fun cq3 => ?_) (fun cq3 => ?_)
          · have hle : min (B (k + 1)) 25 ≤ 2 := cq3
            have w := same (mnS_small hB m8 hf (by omega))
            refine Rn.weak (w) (by repeat' first | exact fun _ h => absurd h List.not_mem_nil | refine List.forall_mem_cons.mpr ⟨rfl, ?_⟩)
          · first | refine x_aload_n eX3_offer_46 rfl rfl ?_ | refine x_aload_nN eX3_offer_46 rfl rfl ?_
            first | refine x_aload_n eX3_offer_47 rfl rfl ?_ | refine x_aload_nN eX3_offer_47 rfl rfl ?_
            refine x_iload_n eX3_offer_48 rfl rfl ?_
            first | refine x_callV2 eX3_offer_49 lk_X3_46 (by assumption) (Nat.le_of_ble_eq_true rfl) (Nat.le_of_ble_eq_true rfl) ?_ | refine x_callVw2 eX3_offer_49 lk_X3_46 (by assumption) (Nat.le_of_ble_eq_true rfl) (Nat.le_of_ble_eq_true rfl) (Nat.le_of_ble_eq_true rfl) ?_
            refine Rn.deep (c_X3_betterBy (d := d) (h := ovH h a2 N) (B := B) (fit := fit) P' ka' e0' e1' m8 (fun S hS => by rw [eN]; exact hlo S hS) ef (fun v hv _ => ?_)) (by omega)
            have w := next v (hv.end_ m8 (by omega))
            rw [ovH_wi]
            refine Rn.weak (w) (by repeat' first | exact fun _ h => absurd h List.not_mem_nil | refine List.forall_mem_cons.mpr ⟨rfl, ?_⟩)
        · have hf : fit (k + 1) = true := cq2
          have w := next 1 (by rw [mnS_fits hB (by omega) hkM m8 hf]; rfl)
          have e1n : nI 1 = 1 := rfl
          first | refine x_aload_n eX3_offer_26 rfl rfl ?_ | refine x_aload_nN eX3_offer_26 rfl rfl ?_
          first | refine x_getR eX3_offer_27 fk_X3_18 rfl (by assumption) (by assumption) ?_ | refine x_getN eX3_offer_27 fk_X3_18 rfl (by assumption) (by assumption) ?_
          refine x_iload_n eX3_offer_30 rfl rfl ?_
          refine x_iconst (v := nI 1) eX3_offer_31 (by decide) ?_
          first | refine x_iastN eX3_offer_32 (by with_reducible rfl) (by assumption) (by assumption) (by omega) (by omega) ?_ | refine x_iast eX3_offer_32 (by assumption) (by assumption) ?_
          rw [ovH_wi]
          refine x_goto (tgt := 52) eX3_offer_33 (by decide) ?_
          refine Rn.weak (w) (by repeat' first | exact fun _ h => absurd h List.not_mem_nil | refine List.forall_mem_cons.mpr ⟨rfl, ?_⟩)
  have w0 := loop (M - 1) (hi h a2) (by omega) (fun S hS => hN S (by omega)) (fun S h1 h2 => absurd h1 (by omega))
  rw [ovH_self] at w0
  have em : (if nI 256 < nI M then nI 256 else nI M) = nI M := if_neg (nI_nlt hM (by omega))
  first | refine x_aload_n eX3_offer_0 rfl rfl ?_ | refine x_aload_nN eX3_offer_0 rfl rfl ?_
  first | refine x_getIe eX3_offer_1 fk_X3_21 (by decide) (by assumption) (by assumption) ?_ | refine x_getI eX3_offer_1 fk_X3_21 (by decide) (by assumption) ?_
  refine x_sipush (v := nI 256) eX3_offer_4 (by decide) ?_
  refine x_min eX3_offer_7 lk_X3_39 (Nat.le_of_ble_eq_true rfl) ?_
  rw [em]
  refine x_iconst (v := nI 1) eX3_offer_10 (by decide) ?_
  first | refine x_isubN eX3_offer_11 (by with_reducible rfl) (by with_reducible rfl) (by omega) ?_ | refine x_isub eX3_offer_11 ?_
  refine x_istore_n eX3_offer_12 rfl (by decide) rfl rfl ?_
  refine Rn.weak (w0) (by repeat' first | exact fun _ h => absurd h List.not_mem_nil | refine List.forall_mem_cons.mpr ⟨rfl, ?_⟩)
set_option maxRecDepth 100000 in
set_option maxHeartbeats 4000000 in
theorem c_X3_neededForAll {M : Nat} {v : Nat} (P : PkO h p a0 a1 a2) (e3 : hi h p 3 = nI M) (hM1 : 1 ≤ M) (hM : M ≤ 256) (hv : hi h a2 (M - 1) = nI (min v 25)) (hq : Q (some (.int (if v ≤ 24 then nI v else -1))) h) : Rn G (d + 2) mX3_neededForAll 0 [(0, .ref p)] [] h Q := by
  obtain ⟨kp, ⟨r0, r1, r2⟩, ⟨k0, n0⟩, ⟨k1, n1⟩, ⟨k2, n2⟩, ⟨d1, d2, d3⟩, f1, f2, f3⟩ := id P
  have em : (if nI 256 < nI M then nI 256 else nI M) = nI M := if_neg (nI_nlt hM (by omega))
  first | refine x_aload_n eX3_neededForAll_0 rfl rfl ?_ | refine x_aload_nN eX3_neededForAll_0 rfl rfl ?_
  first | refine x_getIe eX3_neededForAll_1 fk_X3_21 (by decide) (by assumption) (by assumption) ?_ | refine x_getI eX3_neededForAll_1 fk_X3_21 (by decide) (by assumption) ?_
  refine x_sipush (v := nI 256) eX3_neededForAll_4 (by decide) ?_
  refine x_min eX3_neededForAll_7 lk_X3_39 (Nat.le_of_ble_eq_true rfl) ?_
  rw [em]
  refine x_iconst (v := nI 1) eX3_neededForAll_10 (by decide) ?_
  first | refine x_isubN eX3_neededForAll_11 (by with_reducible rfl) (by with_reducible rfl) (by omega) ?_ | refine x_isub eX3_neededForAll_11 ?_
  refine x_istore_n eX3_neededForAll_12 rfl (by decide) rfl rfl ?_
  refine x_iload_n eX3_neededForAll_13 rfl rfl ?_
  refine x_if_lt (tgt := 28) eX3_neededForAll_14 (by decide) (fun cq1 => ?_) (fun cq1 => ?_)
  · exact absurd cq1 (nI_pos (by omega))
  · first | refine x_aload_n eX3_neededForAll_17 rfl rfl ?_ | refine x_aload_nN eX3_neededForAll_17 rfl rfl ?_
    first | refine x_getR eX3_neededForAll_18 fk_X3_18 rfl (by assumption) (by assumption) ?_ | refine x_getN eX3_neededForAll_18 fk_X3_18 rfl (by assumption) (by assumption) ?_
    refine x_iload_n eX3_neededForAll_21 rfl rfl ?_
    first | refine x_ialdN eX3_neededForAll_22 (by with_reducible rfl) (by assumption) (by assumption) (by omega) (by omega) ?_ | refine x_sldN eX3_neededForAll_22 (by with_reducible rfl) (by assumption) (by assumption) (by omega) (by omega) ?_ | refine x_iald eX3_neededForAll_22 (by assumption) (by assumption) ?_
    rw [hv]
    refine x_bipush (v := nI 25) eX3_neededForAll_23 (by decide) ?_
    first | refine x_icmp_ltN (tgt := 32) eX3_neededForAll_25 (by decide) (by with_reducible rfl) (by with_reducible rfl) (by omega) (by omega) (fun cq2 => ?_) (fun cq2 => ?_) | refine x_icmp_lt (tgt := 32) eX3_neededForAll_25 (by decide) (fun cq2 => ?_) (fun cq2 => ?_)
    · have hlt : min v 25 < 25 := cq2
      rw [if_pos (by omega)] at hq
      first | refine x_aload_n eX3_neededForAll_32 rfl rfl ?_ | refine x_aload_nN eX3_neededForAll_32 rfl rfl ?_
      first | refine x_getR eX3_neededForAll_33 fk_X3_18 rfl (by assumption) (by assumption) ?_ | refine x_getN eX3_neededForAll_33 fk_X3_18 rfl (by assumption) (by assumption) ?_
      refine x_iload_n eX3_neededForAll_36 rfl rfl ?_
      first | refine x_ialdN eX3_neededForAll_37 (by with_reducible rfl) (by assumption) (by assumption) (by omega) (by omega) ?_ | refine x_sldN eX3_neededForAll_37 (by with_reducible rfl) (by assumption) (by assumption) (by omega) (by omega) ?_ | refine x_iald eX3_neededForAll_37 (by assumption) (by assumption) ?_
      rw [hv, Nat.min_eq_left (by omega)]
      refine x_iret eX3_neededForAll_38 rfl ?_
      exact hq
    · rw [if_neg (by have : 25 ≤ min v 25 := cq2; omega)] at hq
      refine x_iconst (v := (-1)) eX3_neededForAll_28 (by decide) ?_
      refine x_goto (tgt := 38) eX3_neededForAll_29 (by decide) ?_
      refine x_iret eX3_neededForAll_38 rfl ?_
      exact hq
end FEW4

