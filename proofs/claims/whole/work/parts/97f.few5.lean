/-! ===== fewest: a piece more ===== -/
section FEW5
variable {G : GG} {d : Nat} {h h1 h2 : AH} {Q : Option Value → AH → Prop} {p a0 a1 a2 a q S T c M : Nat}
def adP (h : AH) (F : Nat → Nat → Int32) (a0 a1 a2 M : Nat) (ln br : Int32) (k : Nat) : Prop := (∀ r, r ≠ a0 → r ≠ a1 → r ≠ a2 → F r = hi h r) ∧ (∀ S, S < M → F a0 S = hi h a0 S ∧ F a1 S = hi h a1 S ∧ F a2 S = hi h a2 S) ∧ ∀ S, S < k → F a0 (S + M) = hi h a0 S + ln ∧ F a1 (S + M) = (if hi h a1 S < br then br else hi h a1 S) ∧ F a2 (S + M) = nI 25
set_option maxRecDepth 100000 in
set_option maxHeartbeats 4000000 in
theorem c_X3_addPiece {ln br : Int32} (P : PkO h p a0 a1 a2) (e3 : hi h p 3 = nI M) (hM1 : 1 ≤ M) (hM : M ≤ 128) (kq : hk h q = 3) (l3 : hi h q 3 = ln) (l4 : hi h q 4 = br) (q0 : q ≠ a0) (q1 : q ≠ a1) (q2 : q ≠ a2) (hq : ∀ F, adP h F a0 a1 a2 M ln br M → Q none (wi (setI h F) p 3 (nI (2 * M)))) : Rn G (d + 1) mX3_addPiece 0 [(0, .ref p), (1, .ref q)] [] h Q := by
  obtain ⟨kp, ⟨r0, r1, r2⟩, ⟨k0, n0⟩, ⟨k1, n1⟩, ⟨k2, n2⟩, ⟨d1, d2, d3⟩, f1, f2, f3⟩ := id P
  have loop : ∀ m k F, k + m = M → adP h F a0 a1 a2 M ln br k → Rn G (d + 1) mX3_addPiece 21 [(0, .ref p), (1, .ref q), (2, .int (nI k))] [] (setI h F) Q := by
    intro m
    induction m with
    | zero =>
      intro k F hkm A
      have ekm : k = M := by omega
      subst ekm
      have kf := hq F A
      have eM : hi (setI h F) p 3 = nI k := by
        show F p 3 = _
        rw [A.1 p f1 f2 f3]
        exact e3
      refine x_iload_n eX3_addPiece_21 rfl rfl ?_
      first | refine x_aload_n eX3_addPiece_22 rfl rfl ?_ | refine x_aload_nN eX3_addPiece_22 rfl rfl ?_
      first | refine x_getIe eX3_addPiece_23 fk_X3_21 (by decide) (by assumption) (by assumption) ?_ | refine x_getI eX3_addPiece_23 fk_X3_21 (by decide) (by assumption) ?_
      first | refine x_icmp_geN (tgt := 86) eX3_addPiece_26 (by decide) (by with_reducible rfl) (by with_reducible rfl) (by omega) (by omega) (fun cq1 => ?_) (fun cq1 => ?_) | refine x_icmp_ge (tgt := 86) eX3_addPiece_26 (by decide) (fun cq1 => ?_) (fun cq1 => ?_)
      · first | refine x_aload_n eX3_addPiece_86 rfl rfl ?_ | refine x_aload_nN eX3_addPiece_86 rfl rfl ?_
        refine x_iconst (v := nI 2) eX3_addPiece_87 (by decide) ?_
        first | refine x_aload_n eX3_addPiece_88 rfl rfl ?_ | refine x_aload_nN eX3_addPiece_88 rfl rfl ?_
        first | refine x_getIe eX3_addPiece_89 fk_X3_21 (by decide) (by assumption) (by assumption) ?_ | refine x_getI eX3_addPiece_89 fk_X3_21 (by decide) (by assumption) ?_
        first | refine x_imulN eX3_addPiece_92 (by with_reducible rfl) (by with_reducible rfl) ?_ | refine x_imul eX3_addPiece_92 ?_
        refine x_putI eX3_addPiece_93 fk_X3_21 (by decide) rfl ⟨_, rfl, Or.inl rfl⟩ (by assumption) ?_
        refine x_ret (rt := none) eX3_addPiece_96 rfl ?_
        exact kf
      · omega
    | succ m ih =>
      intro k F hkm A
      obtain ⟨A1, A2, A3⟩ := id A
      obtain ⟨s0, s1, s2⟩ := A2 k (by omega)
      have eM : hi (setI h F) p 3 = nI M := by
        show F p 3 = _
        rw [A1 p f1 f2 f3]
        exact e3
      have el3 : hi (setI h F) q 3 = ln := by
        show F q 3 = _
        rw [A1 q q0 q1 q2]
        exact l3
      have el4 : hi (wi (setI h F) a0 (k + M) (F a0 k + ln)) q 4 = br := by
        show up2 F a0 _ _ q 4 = _
        rw [up2_a q0, A1 q q0 q1 q2]
        exact l4
      have iw := ih (k + 1) (up2 (up2 (up2 F a0 (k + M) (F a0 k + ln)) a1 (k + M) (if up2 F a0 (k + M) (F a0 k + ln) a1 k < br then br else up2 F a0 (k + M) (F a0 k + ln) a1 k)) a2 (k + M) (nI 25)) (by omega) (by
        have u0 : ∀ S, up2 (up2 (up2 F a0 (k + M) (F a0 k + ln)) a1 (k + M) (if up2 F a0 (k + M) (F a0 k + ln) a1 k < br then br else up2 F a0 (k + M) (F a0 k + ln) a1 k)) a2 (k + M) (nI 25) a0 S = up2 F a0 (k + M) (F a0 k + ln) a0 S := fun S => by rw [up2_a d2, up2_a d1]
        have u1 : ∀ S, up2 (up2 (up2 F a0 (k + M) (F a0 k + ln)) a1 (k + M) (if up2 F a0 (k + M) (F a0 k + ln) a1 k < br then br else up2 F a0 (k + M) (F a0 k + ln) a1 k)) a2 (k + M) (nI 25) a1 S = up2 F a1 (k + M) (if F a1 k < br then br else F a1 k) a1 S := fun S => by
          rw [up2_a d3, show up2 F a0 (k + M) (F a0 k + ln) a1 k = F a1 k by rw [up2_a (Ne.symm d1)]]
          by_cases z : S = k + M
          · rw [z, up2_same, up2_same]
          · rw [up2_k z, up2_k z, up2_a (Ne.symm d1)]
        have u2 : ∀ S, S ≠ k + M → up2 (up2 (up2 F a0 (k + M) (F a0 k + ln)) a1 (k + M) (if up2 F a0 (k + M) (F a0 k + ln) a1 k < br then br else up2 F a0 (k + M) (F a0 k + ln) a1 k)) a2 (k + M) (nI 25) a2 S = F a2 S := fun S hS => by rw [up2_k hS, up2_a (Ne.symm d3), up2_a (Ne.symm d2)]
        refine ⟨fun r h0 h1 h2 => ?_, fun S hS => ?_, fun S hS => ?_⟩
        · rw [show up2 (up2 (up2 F a0 (k + M) (F a0 k + ln)) a1 (k + M) (if up2 F a0 (k + M) (F a0 k + ln) a1 k < br then br else up2 F a0 (k + M) (F a0 k + ln) a1 k)) a2 (k + M) (nI 25) r = F r by rw [up2_a h2, up2_a h1, up2_a h0]]
          exact A1 r h0 h1 h2
        · rw [u0, u1, u2 S (by omega), up2_k (by omega), up2_k (by omega)]
          exact A2 S hS
        · by_cases z : S = k
          · subst z
            rw [u0, u1, up2_same, up2_same, up2_same, s0, s1]
            exact ⟨rfl, rfl, rfl⟩
          · rw [u0, u1, u2 _ (by omega), up2_k (by omega), up2_k (by omega)]
            exact A3 S (by omega))
      refine x_iload_n eX3_addPiece_21 rfl rfl ?_
      first | refine x_aload_n eX3_addPiece_22 rfl rfl ?_ | refine x_aload_nN eX3_addPiece_22 rfl rfl ?_
      first | refine x_getIe eX3_addPiece_23 fk_X3_21 (by decide) (by assumption) (by assumption) ?_ | refine x_getI eX3_addPiece_23 fk_X3_21 (by decide) (by assumption) ?_
      first | refine x_icmp_geN (tgt := 86) eX3_addPiece_26 (by decide) (by with_reducible rfl) (by with_reducible rfl) (by omega) (by omega) (fun cq1 => ?_) (fun cq1 => ?_) | refine x_icmp_ge (tgt := 86) eX3_addPiece_26 (by decide) (fun cq1 => ?_) (fun cq1 => ?_)
      · omega
      · refine x_iload_n eX3_addPiece_29 rfl rfl ?_
        first | refine x_aload_n eX3_addPiece_30 rfl rfl ?_ | refine x_aload_nN eX3_addPiece_30 rfl rfl ?_
        first | refine x_getIe eX3_addPiece_31 fk_X3_21 (by decide) (by assumption) (by assumption) ?_ | refine x_getI eX3_addPiece_31 fk_X3_21 (by decide) (by assumption) ?_
        first | refine x_iaddN eX3_addPiece_34 (by with_reducible rfl) (by with_reducible rfl) ?_ | refine x_iadd eX3_addPiece_34 ?_
        refine x_istore_n eX3_addPiece_35 rfl (by decide) rfl rfl ?_
        first | refine x_aload_n eX3_addPiece_36 rfl rfl ?_ | refine x_aload_nN eX3_addPiece_36 rfl rfl ?_
        first | refine x_getR eX3_addPiece_37 fk_X3_11 rfl (by assumption) (by assumption) ?_ | refine x_getN eX3_addPiece_37 fk_X3_11 rfl (by assumption) (by assumption) ?_
        refine x_iload_n eX3_addPiece_40 rfl rfl ?_
        first | refine x_aload_n eX3_addPiece_41 rfl rfl ?_ | refine x_aload_nN eX3_addPiece_41 rfl rfl ?_
        first | refine x_getR eX3_addPiece_42 fk_X3_11 rfl (by assumption) (by assumption) ?_ | refine x_getN eX3_addPiece_42 fk_X3_11 rfl (by assumption) (by assumption) ?_
        refine x_iload_n eX3_addPiece_45 rfl rfl ?_
        first | refine x_ialdN eX3_addPiece_46 (by with_reducible rfl) (by assumption) (by assumption) (by omega) (by omega) ?_ | refine x_sldN eX3_addPiece_46 (by with_reducible rfl) (by assumption) (by assumption) (by omega) (by omega) ?_ | refine x_iald eX3_addPiece_46 (by assumption) (by assumption) ?_
        first | refine x_aload_n eX3_addPiece_47 rfl rfl ?_ | refine x_aload_nN eX3_addPiece_47 rfl rfl ?_
        first | refine x_getIe eX3_addPiece_48 fk_X3_25 (by decide) (by assumption) (by assumption) ?_ | refine x_getI eX3_addPiece_48 fk_X3_25 (by decide) (by assumption) ?_
        first | refine x_iaddN eX3_addPiece_51 (by with_reducible rfl) (by with_reducible rfl) ?_ | refine x_iadd eX3_addPiece_51 ?_
        first | refine x_iastN eX3_addPiece_52 (by with_reducible rfl) (by assumption) (by assumption) (by omega) (by omega) ?_ | refine x_iast eX3_addPiece_52 (by assumption) (by assumption) ?_
        first | refine x_aload_n eX3_addPiece_53 rfl rfl ?_ | refine x_aload_nN eX3_addPiece_53 rfl rfl ?_
        first | refine x_getR eX3_addPiece_54 fk_X3_15 rfl (by assumption) (by assumption) ?_ | refine x_getN eX3_addPiece_54 fk_X3_15 rfl (by assumption) (by assumption) ?_
        refine x_iload_n eX3_addPiece_57 rfl rfl ?_
        first | refine x_aload_n eX3_addPiece_58 rfl rfl ?_ | refine x_aload_nN eX3_addPiece_58 rfl rfl ?_
        first | refine x_getR eX3_addPiece_59 fk_X3_15 rfl (by assumption) (by assumption) ?_ | refine x_getN eX3_addPiece_59 fk_X3_15 rfl (by assumption) (by assumption) ?_
        refine x_iload_n eX3_addPiece_62 rfl rfl ?_
        first | refine x_ialdN eX3_addPiece_63 (by with_reducible rfl) (by assumption) (by assumption) (by omega) (by omega) ?_ | refine x_sldN eX3_addPiece_63 (by with_reducible rfl) (by assumption) (by assumption) (by omega) (by omega) ?_ | refine x_iald eX3_addPiece_63 (by assumption) (by assumption) ?_
        first | refine x_aload_n eX3_addPiece_64 rfl rfl ?_ | refine x_aload_nN eX3_addPiece_64 rfl rfl ?_
        first | refine x_getIe eX3_addPiece_65 fk_X3_30 (by decide) (by assumption) (by assumption) ?_ | refine x_getI eX3_addPiece_65 fk_X3_30 (by decide) (by assumption) ?_
        refine x_max eX3_addPiece_68 lk_X3_33 (Nat.le_of_ble_eq_true rfl) ?_
        first | refine x_iastN eX3_addPiece_71 (by with_reducible rfl) (by assumption) (by assumption) (by omega) (by omega) ?_ | refine x_iast eX3_addPiece_71 (by assumption) (by assumption) ?_
        first | refine x_aload_n eX3_addPiece_72 rfl rfl ?_ | refine x_aload_nN eX3_addPiece_72 rfl rfl ?_
        first | refine x_getR eX3_addPiece_73 fk_X3_18 rfl (by assumption) (by assumption) ?_ | refine x_getN eX3_addPiece_73 fk_X3_18 rfl (by assumption) (by assumption) ?_
        refine x_iload_n eX3_addPiece_76 rfl rfl ?_
        refine x_bipush (v := nI 25) eX3_addPiece_77 (by decide) ?_
        first | refine x_iastN eX3_addPiece_79 (by with_reducible rfl) (by assumption) (by assumption) (by omega) (by omega) ?_ | refine x_iast eX3_addPiece_79 (by assumption) (by assumption) ?_
        first | refine x_iincN eX3_addPiece_80 rfl (by with_reducible rfl) (by decide) rfl rfl ?_ | refine x_iinc eX3_addPiece_80 rfl rfl (by decide) rfl rfl ?_
        refine x_goto (tgt := 21) eX3_addPiece_83 (by decide) ?_
        refine Rn.weak (iw) (by repeat' first | exact fun _ h => absurd h List.not_mem_nil | refine List.forall_mem_cons.mpr ⟨rfl, ?_⟩)
  have w0 := loop M 0 (hi h) (Nat.zero_add _) ⟨fun _ _ _ _ => rfl, fun _ _ => ⟨rfl, rfl, rfl⟩, fun S hS => absurd hS (by omega)⟩
  first | refine x_aload_n eX3_addPiece_0 rfl rfl ?_ | refine x_aload_nN eX3_addPiece_0 rfl rfl ?_
  first | refine x_getIe eX3_addPiece_1 fk_X3_21 (by decide) (by assumption) (by assumption) ?_ | refine x_getI eX3_addPiece_1 fk_X3_21 (by decide) (by assumption) ?_
  refine x_iconst (v := nI 1) eX3_addPiece_4 (by decide) ?_
  first | refine x_icmp_ltN (tgt := 18) eX3_addPiece_5 (by decide) (by with_reducible rfl) (by with_reducible rfl) (by omega) (by omega) (fun cq1 => ?_) (fun cq1 => ?_) | refine x_icmp_lt (tgt := 18) eX3_addPiece_5 (by decide) (fun cq1 => ?_) (fun cq1 => ?_)
  · omega
  · first | refine x_aload_n eX3_addPiece_8 rfl rfl ?_ | refine x_aload_nN eX3_addPiece_8 rfl rfl ?_
    first | refine x_getIe eX3_addPiece_9 fk_X3_21 (by decide) (by assumption) (by assumption) ?_ | refine x_getI eX3_addPiece_9 fk_X3_21 (by decide) (by assumption) ?_
    refine x_sipush (v := nI 128) eX3_addPiece_12 (by decide) ?_
    first | refine x_icmp_leN (tgt := 19) eX3_addPiece_15 (by decide) (by with_reducible rfl) (by with_reducible rfl) (by omega) (by omega) (fun cq2 => ?_) (fun cq2 => ?_) | refine x_icmp_le (tgt := 19) eX3_addPiece_15 (by decide) (fun cq2 => ?_) (fun cq2 => ?_)
    · refine x_iconst (v := nI 0) eX3_addPiece_19 (by decide) ?_
      refine x_istore_n eX3_addPiece_20 rfl (by decide) rfl rfl ?_
      refine Rn.weak (w0) (by repeat' first | exact fun _ h => absurd h List.not_mem_nil | refine List.forall_mem_cons.mpr ⟨rfl, ?_⟩)
    · omega
set_option maxRecDepth 100000 in
set_option maxHeartbeats 4000000 in
theorem c_X3_begin (P : PkO h p a0 a1 a2) (hq : Q none (wi (wi (wi (wi h p 3 (nI 1)) a0 0 (nI 0)) a1 0 (nI 0)) a2 0 (nI 0))) : Rn G d mX3_begin 0 [(0, .ref p)] [] h Q := by
  obtain ⟨kp, ⟨r0, r1, r2⟩, ⟨k0, n0⟩, ⟨k1, n1⟩, ⟨k2, n2⟩, ⟨d1, d2, d3⟩, f1, f2, f3⟩ := id P
  first | refine x_aload_n eX3_begin_0 rfl rfl ?_ | refine x_aload_nN eX3_begin_0 rfl rfl ?_
  refine x_iconst (v := nI 1) eX3_begin_1 (by decide) ?_
  refine x_putI eX3_begin_2 fk_X3_21 (by decide) rfl ⟨_, rfl, Or.inl rfl⟩ (by assumption) ?_
  first | refine x_aload_n eX3_begin_5 rfl rfl ?_ | refine x_aload_nN eX3_begin_5 rfl rfl ?_
  first | refine x_getR eX3_begin_6 fk_X3_11 rfl (by assumption) (by assumption) ?_ | refine x_getN eX3_begin_6 fk_X3_11 rfl (by assumption) (by assumption) ?_
  refine x_iconst (v := nI 0) eX3_begin_9 (by decide) ?_
  refine x_iconst (v := nI 0) eX3_begin_10 (by decide) ?_
  first | refine x_iastN eX3_begin_11 (by with_reducible rfl) (by assumption) (by assumption) (by omega) (by omega) ?_ | refine x_iast eX3_begin_11 (by assumption) (by assumption) ?_
  first | refine x_aload_n eX3_begin_12 rfl rfl ?_ | refine x_aload_nN eX3_begin_12 rfl rfl ?_
  first | refine x_getR eX3_begin_13 fk_X3_15 rfl (by assumption) (by assumption) ?_ | refine x_getN eX3_begin_13 fk_X3_15 rfl (by assumption) (by assumption) ?_
  refine x_iconst (v := nI 0) eX3_begin_16 (by decide) ?_
  refine x_iconst (v := nI 0) eX3_begin_17 (by decide) ?_
  first | refine x_iastN eX3_begin_18 (by with_reducible rfl) (by assumption) (by assumption) (by omega) (by omega) ?_ | refine x_iast eX3_begin_18 (by assumption) (by assumption) ?_
  first | refine x_aload_n eX3_begin_19 rfl rfl ?_ | refine x_aload_nN eX3_begin_19 rfl rfl ?_
  first | refine x_getR eX3_begin_20 fk_X3_18 rfl (by assumption) (by assumption) ?_ | refine x_getN eX3_begin_20 fk_X3_18 rfl (by assumption) (by assumption) ?_
  refine x_iconst (v := nI 0) eX3_begin_23 (by decide) ?_
  refine x_iconst (v := nI 0) eX3_begin_24 (by decide) ?_
  first | refine x_iastN eX3_begin_25 (by with_reducible rfl) (by assumption) (by assumption) (by omega) (by omega) ?_ | refine x_iast eX3_begin_25 (by assumption) (by assumption) ?_
  refine x_ret (rt := none) eX3_begin_26 rfl ?_
  exact hq
end FEW5

