/-! ===== the law: plan ===== -/
section LAW13
variable {G : GG} {h : AH} {y x kp nx la k : Nat} {o : Nat → Nat} {ps : Nat → Nat → Int32} {Q : Option Value → AH → Prop}
set_option maxRecDepth 100000 in
set_option maxHeartbeats 4000000 in
theorem acted_ov (h2 : AH) (x la kp : Nat) (fr g2 : Nat → Int32) : acted (ovH h2 (x + 5) fr) x la kp g2 = ovH (acted h2 x la kp g2) (x + 5) fr := by
  show setI h2 (ST (actF (ovF (hi h2) (x + 5) fr) x la kp) x g2) = setI h2 (ovF (ST (actF (hi h2) x la kp) x g2) (x + 5) fr)
  congr 1
  funext a j
  unfold ovF ST actF up2 cpyF
  by_cases z5 : a = x + 5
  · subst z5
    simp
  · by_cases z1 : a = x + 1
    · simp [z1]
    · simp [z5, z1]
set_option maxRecDepth 100000 in
set_option maxHeartbeats 4000000 in
theorem St.ov {h : AH} {fr : Nat → Int32} (S : St G y x k h) : St G y x k (ovH h (x + 5) fr) := by
  obtain ⟨o, kp, nx, la, ps, R, r⟩ := S
  obtain ⟨o2, R2⟩ := R.still (G := G) (F := ovF (hi h) (x + 5) fr) R.self_ (fun a ha => ovF_ne (by omega))
  exact ⟨o2, kp, nx, la, ps, R2, r⟩
set_option maxRecDepth 100000 in
set_option maxHeartbeats 4000000 in
theorem cs_18 (R : Rel h y x o kp nx la ps) (r : Ro G k h) (hk6 : 6 * k + 6 ≤ gL G) (hL : gL G ≤ 3072) (kc : Kc G y x k Q) : Rn G 10 mL_law 930 [(0, .ref (gb G)), (1, .ref y), (2, .ref x), (3, .int (nI (6 * k)))] [] h Q := by
  have ky := R.ky
  have kx := R.kx
  have hk5 : k < 512 := by omega
  have rm := r.rm hk5
  obtain ⟨⟨M, K, T⟩, C, A, ⟨I, B⟩, H⟩ := id R
  first | refine x_aload_n eL_law_930 rfl rfl ?_ | refine x_aload_nN eL_law_930 rfl rfl ?_
  first | refine x_aload_n eL_law_931 rfl rfl ?_ | refine x_aload_nN eL_law_931 rfl rfl ?_
  refine x_iload_n eL_law_932 rfl rfl ?_
  refine x_iconst (v := nI 1) eL_law_933 (by decide) ?_
  first | refine x_iaddN eL_law_934 (by with_reducible rfl) (by with_reducible rfl) ?_ | refine x_iadd eL_law_934 ?_
  refine x_scr eL_law_935 (by with_reducible rfl) (by omega) (by omega) ?_
  refine x_callV1 eL_law_936 lk_L_94 (by assumption) (Nat.le_of_ble_eq_true rfl) (Nat.le_of_ble_eq_true rfl) ?_
  refine Rn.deep (c_X8_plan (d := 0) C A I rm (fun z _ => ?_) (fun z g2 a2 c e I2 h2 P x1 => ?_)) (by omega)
  · first | refine x_aload_n eL_law_939 rfl rfl ?_ | refine x_aload_nN eL_law_939 rfl rfl ?_
    first | refine x_aload_n eL_law_940 rfl rfl ?_ | refine x_aload_nN eL_law_940 rfl rfl ?_
    refine x_iload_n eL_law_941 rfl rfl ?_
    refine x_iconst (v := nI 1) eL_law_942 (by decide) ?_
    first | refine x_iaddN eL_law_943 (by with_reducible rfl) (by with_reducible rfl) ?_ | refine x_iadd eL_law_943 ?_
    refine x_scr eL_law_944 (by with_reducible rfl) (by omega) (by omega) ?_
    refine x_callV1 eL_law_945 lk_L_97 (by assumption) (Nat.le_of_ble_eq_true rfl) (Nat.le_of_ble_eq_true rfl) ?_
    refine Rn.deep (c_X9_plan (d := 0) M K I.iv (fun z2 _ => ?_) (fun z2 => absurd (z2.symm.trans z) (by decide))) (by omega)
    first | refine x_icmp_eqN (tgt := 1299) eL_law_948 (by decide) (by with_reducible rfl) (by with_reducible rfl) (by omega) (by omega) (fun cq1 => ?_) (fun cq1 => ?_) | refine x_icmp_eq (tgt := 1299) eL_law_948 (by decide) (fun cq1 => ?_) (fun cq1 => ?_)
    · refine Rn.weak (kc _ (St.same R r hk5)) (by repeat' first | exact fun _ h => absurd h List.not_mem_nil | refine List.forall_mem_cons.mpr ⟨rfl, ?_⟩)
    · exact absurd rfl cq1
  · have Pz : ∃ o2, Zk o h o2 h2 := by
      cases a2 with
      | true =>
        obtain ⟨o2, -, -, Z, -⟩ := (show Ps G y o h g2 (hi h (x + 3)) (hi h (x + 4)) (kpS kp) ((nx + 1) % 16) (cns (hi h (x + 1)) ps) h2 from P)
        exact ⟨o2, Z⟩
      | false =>
        obtain ⟨-, o2, -, -, Z, -⟩ := (show g2 = hi h (x + 1) ∧ Ps G y o h (hi h (x + 1)) (hi h (x + 3)) (hi h (x + 4)) kp nx ps h2 from P)
        exact ⟨o2, Z⟩
    obtain ⟨o2, Z⟩ := Pz
    obtain ⟨M2, K2, T2, E2, kx2⟩ := R.mid Z
    have e1 : hi h2 (x + 1) = hi h (x + 1) := E2 1 (by omega)
    first | refine x_aload_n eL_law_939 rfl rfl ?_ | refine x_aload_nN eL_law_939 rfl rfl ?_
    first | refine x_aload_n eL_law_940 rfl rfl ?_ | refine x_aload_nN eL_law_940 rfl rfl ?_
    refine x_iload_n eL_law_941 rfl rfl ?_
    refine x_iconst (v := nI 1) eL_law_942 (by decide) ?_
    first | refine x_iaddN eL_law_943 (by with_reducible rfl) (by with_reducible rfl) ?_ | refine x_iadd eL_law_943 ?_
    refine x_scr eL_law_944 (by with_reducible rfl) (by omega) (by omega) ?_
    refine x_callV1 eL_law_945 lk_L_97 (by assumption) (Nat.le_of_ble_eq_true rfl) (Nat.le_of_ble_eq_true rfl) ?_
    refine Rn.deep (c_X9_plan (d := 0) M2 K2 (by rw [e1]; exact I.iv) (fun z2 => absurd (z2.symm.trans z) (by decide)) (fun z2 g3 a3 fr c3 e3 _ => ?_)) (by omega)
    rw [e1, e] at e3
    obtain ⟨rfl, rfl, rfl⟩ : g2 = g3 ∧ a2 = a3 ∧ c = c3 := by
      injection e3 with q1 q2
      injection q2 with q2 q3
      exact ⟨q1, q2, q3⟩
    have S3 : St G y x (k + 1) (plH h2 x la kp a2 fr g2) := by
      cases a2 with
      | true =>
        show St G y x (k + 1) (acted (ovH h2 (x + 5) fr) x la kp g2)
        rw [acted_ov]
        exact St.ov (St.act R r hk5 x1 P ⟨I2, BO_plan I e B⟩)
      | false =>
        exact St.still (h2 := h2) (F := ovF (hi h2) (x + 5) fr) R r hk5 x1 P.2 (fun a ha => ovF_ne (by omega))
    first | refine x_icmp_eqN (tgt := 1299) eL_law_948 (by decide) (by with_reducible rfl) (by with_reducible rfl) (by omega) (by omega) (fun cq2 => ?_) (fun cq2 => ?_) | refine x_icmp_eq (tgt := 1299) eL_law_948 (by decide) (fun cq2 => ?_) (fun cq2 => ?_)
    · refine Rn.weak (kc _ S3) (by repeat' first | exact fun _ h => absurd h List.not_mem_nil | refine List.forall_mem_cons.mpr ⟨rfl, ?_⟩)
    · exact absurd (by cases c <;> rfl) cq2
end LAW13

