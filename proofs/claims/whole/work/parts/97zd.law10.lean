/-! ===== the law: push, bears, least ===== -/
section LAW12
variable {G : GG} {h : AH} {y x kp nx la k : Nat} {o : Nat → Nat} {ps : Nat → Nat → Int32} {Q : Option Value → AH → Prop}
set_option maxRecDepth 100000 in
set_option maxHeartbeats 4000000 in
theorem asF_rd (j : Nat) (hj : j < nt (hi h (x + 1) 1)) : asF (hi h) x (nt (hi h (x + 1) 1)) (x + 9) j = sl (hi h (x + 1)) j 10 := if_pos ⟨rfl, hj⟩
set_option maxRecDepth 100000 in
set_option maxHeartbeats 4000000 in
theorem rfF_ne {F : Nat → Nat → Int32} {a : Nat} {v : Nat → Int32} (hne : a ≠ x + 9) : rfF F x v a = F a := funext fun j => if_neg hne
set_option maxRecDepth 100000 in
set_option maxHeartbeats 4000000 in
theorem lg_same (a : Int64) : lg_cmp a a = 0 := by
  unfold lg_cmp
  simp
set_option maxRecDepth 100000 in
set_option maxHeartbeats 4000000 in
theorem GI.lns {g : Nat → Int32} (I : GI g) : (∀ s n, s < nt (g 1) → n < nt (sl g s 12) → isN (sl g s (13 + n)) 0 60) ∧ ∀ s n, n < nt (sl g s 12) → ¬ sl g s (13 + n) = -1 := by
  have key : ∀ s n, s < nt (g 1) → n < nt (sl g s 12) → isN (sl g s (13 + n)) 1 60 := fun s n hs hn4 => by
    obtain ⟨w, sx⟩ := I.2.2.1 s hs
    exact (sx.2.2.2.2.2.1 n hn4).mono (Nat.le_refl _) w.2.1.2.2
  refine ⟨fun s n hs hn4 => (key s n hs hn4).mono (Nat.zero_le _) (Nat.le_refl _), fun s n hn4 e => ?_⟩
  by_cases hs : s < nt (g 1)
  · obtain ⟨k1, k2, k3⟩ := key s n hs hn4
    rw [k1] at e
    exact nI_m1 (by omega) e
  · have z : sl g s 12 = 0 := I.2.2.2.2.2 _ (by have := I.1.2.2.2; show 5050 + 390 * nt (g 1) ≤ 5050 + 390 * s + 12; omega)
    rw [z] at hn4
    rw [show nt (0 : Int32) = 0 from nt_nI (n := 0) (by omega)] at hn4
    omega
set_option maxRecDepth 100000 in
set_option maxHeartbeats 4000000 in
theorem cs_25 (R : Rel h y x o kp nx la ps) (r : Ro G k h) (hk6 : 6 * k + 6 ≤ gL G) (hL : gL G ≤ 3072) (kc : Kc G y x k Q) : Rn G 10 mL_law 1167 [(0, .ref (gb G)), (1, .ref y), (2, .ref x), (3, .int (nI (6 * k)))] [] h Q := by
  have ky := R.ky
  have kx := R.kx
  have hk5 : k < 512 := by omega
  have rm := r.rm hk5
  obtain ⟨⟨M, K, T⟩, C, A, ⟨I, B⟩, H⟩ := id R
  first | refine x_aload_n eL_law_1167 rfl rfl ?_ | refine x_aload_nN eL_law_1167 rfl rfl ?_
  first | refine x_aload_n eL_law_1168 rfl rfl ?_ | refine x_aload_nN eL_law_1168 rfl rfl ?_
  refine x_iload_n eL_law_1169 rfl rfl ?_
  refine x_iconst (v := nI 1) eL_law_1170 (by decide) ?_
  first | refine x_iaddN eL_law_1171 (by with_reducible rfl) (by with_reducible rfl) ?_ | refine x_iadd eL_law_1171 ?_
  refine x_scr eL_law_1172 (by with_reducible rfl) (by omega) (by omega) ?_
  refine x_callV1 eL_law_1173 lk_L_123 (by assumption) (Nat.le_of_ble_eq_true rfl) (Nat.le_of_ble_eq_true rfl) ?_
  refine Rn.deep (c_X8_push (d := 0) C A I B.2 (fun h2 P x1 => ?_)) (by omega)
  obtain ⟨o2, -, -, Z, -, -⟩ := id P
  obtain ⟨M2, K2, T2, E2, kx2⟩ := R.mid Z
  have e1 : hi h2 (x + 1) = hi h (x + 1) := E2 1 (by omega)
  have e3 : hi h2 (x + 3) = hi h (x + 3) := E2 3 (by omega)
  have e4 : hi h2 (x + 4) = hi h (x + 4) := E2 4 (by omega)
  first | refine x_aload_n eL_law_1176 rfl rfl ?_ | refine x_aload_nN eL_law_1176 rfl rfl ?_
  first | refine x_aload_n eL_law_1177 rfl rfl ?_ | refine x_aload_nN eL_law_1177 rfl rfl ?_
  refine x_iload_n eL_law_1178 rfl rfl ?_
  refine x_iconst (v := nI 1) eL_law_1179 (by decide) ?_
  first | refine x_iaddN eL_law_1180 (by with_reducible rfl) (by with_reducible rfl) ?_ | refine x_iadd eL_law_1180 ?_
  refine x_scr eL_law_1181 (by with_reducible rfl) (by omega) (by omega) ?_
  refine x_callV1 eL_law_1182 lk_L_127 (by assumption) (Nat.le_of_ble_eq_true rfl) (Nat.le_of_ble_eq_true rfl) ?_
  refine Rn.deep (c_X9_push (d := 0) M2 (by rw [e1]; exact I.gw) (fun rf _ => ?_)) (by omega)
  rw [psh_cg (asF_rd (h := h2)) _, e1, e4]
  refine x_lcmp eL_law_1185 ?_
  rw [lg_same]
  first | refine x_if_eqB (tgt := 1299) eL_law_1186 (by decide) (by with_reducible rfl) (fun cq1 => ?_) (fun cq1 => ?_) | refine x_if_eq (tgt := 1299) eL_law_1186 (by decide) (fun cq1 => ?_) (fun cq1 => ?_)
  · refine Rn.weak (kc (setI h2 (rfF (hi h2) x rf)) (St.still (h2 := h2) (F := rfF (hi h2) x rf) R r hk5 x1 P (fun a ha => rfF_ne (by omega)))) (by repeat' first | exact fun _ h => absurd h List.not_mem_nil | refine List.forall_mem_cons.mpr ⟨rfl, ?_⟩)
  · exact absurd rfl cq1
set_option maxRecDepth 100000 in
set_option maxHeartbeats 4000000 in
theorem cs_26 (R : Rel h y x o kp nx la ps) (r : Ro G k h) (hk6 : 6 * k + 6 ≤ gL G) (hL : gL G ≤ 3072) (kc : Kc G y x k Q) : Rn G 10 mL_law 1191 [(0, .ref (gb G)), (1, .ref y), (2, .ref x), (3, .int (nI (6 * k)))] [] h Q := by
  have ky := R.ky
  have kx := R.kx
  have hk5 : k < 512 := by omega
  have rm := r.rm hk5
  obtain ⟨⟨M, K, T⟩, C, A, ⟨I, B⟩, H⟩ := id R
  first | refine x_aload_n eL_law_1191 rfl rfl ?_ | refine x_aload_nN eL_law_1191 rfl rfl ?_
  refine x_callV0 eL_law_1192 lk_L_128 (by assumption) (Nat.le_of_ble_eq_true rfl) (Nat.le_of_ble_eq_true rfl) ?_
  refine Rn.deep (c_X8_bears (d := 0) C A I B.2 (fun h2 P x1 => ?_)) (by omega)
  obtain ⟨o2, -, -, Z, -, -⟩ := id P
  obtain ⟨M2, K2, T2, E2, kx2⟩ := R.mid Z
  have e1 : hi h2 (x + 1) = hi h (x + 1) := E2 1 (by omega)
  have e3 : hi h2 (x + 3) = hi h (x + 3) := E2 3 (by omega)
  have e4 : hi h2 (x + 4) = hi h (x + 4) := E2 4 (by omega)
  first | refine x_aload_n eL_law_1195 rfl rfl ?_ | refine x_aload_nN eL_law_1195 rfl rfl ?_
  refine x_callV0 eL_law_1196 lk_L_132 (by assumption) (Nat.le_of_ble_eq_true rfl) (Nat.le_of_ble_eq_true rfl) ?_
  refine Rn.deep (c_X9_bears (d := 0) M2 (by rw [e1]; exact I.gw) (fun rf _ => ?_)) (by omega)
  rw [brk_cg (asF_rd (h := h2)), e1, e4, e3]
  first | refine x_icmp_eqN (tgt := 1299) eL_law_1199 (by decide) (by with_reducible rfl) (by with_reducible rfl) (by omega) (by omega) (fun cq1 => ?_) (fun cq1 => ?_) | refine x_icmp_eq (tgt := 1299) eL_law_1199 (by decide) (fun cq1 => ?_) (fun cq1 => ?_)
  · refine Rn.weak (kc (setI h2 (rfF (hi h2) x rf)) (St.still (h2 := h2) (F := rfF (hi h2) x rf) R r hk5 x1 P (fun a ha => rfF_ne (by omega)))) (by repeat' first | exact fun _ h => absurd h List.not_mem_nil | refine List.forall_mem_cons.mpr ⟨rfl, ?_⟩)
  · exact absurd rfl cq1
set_option maxRecDepth 100000 in
set_option maxHeartbeats 4000000 in
theorem cs_27 (R : Rel h y x o kp nx la ps) (r : Ro G k h) (hk6 : 6 * k + 6 ≤ gL G) (hL : gL G ≤ 3072) (kc : Kc G y x k Q) : Rn G 10 mL_law 1204 [(0, .ref (gb G)), (1, .ref y), (2, .ref x), (3, .int (nI (6 * k)))] [] h Q := by
  have ky := R.ky
  have kx := R.kx
  have hk5 : k < 512 := by omega
  have rm := r.rm hk5
  obtain ⟨⟨M, K, T⟩, C, A, ⟨I, B⟩, H⟩ := id R
  first | refine x_aload_n eL_law_1204 rfl rfl ?_ | refine x_aload_nN eL_law_1204 rfl rfl ?_
  refine x_callV0 eL_law_1205 lk_L_133 (by assumption) (Nat.le_of_ble_eq_true rfl) (Nat.le_of_ble_eq_true rfl) ?_
  refine Rn.deep (c_X8_least (d := 0) C A I B.2 (fun h2 P x1 => ?_)) (by omega)
  obtain ⟨o2, -, -, Z, -, -⟩ := id P
  obtain ⟨M2, K2, T2, E2, kx2⟩ := R.mid Z
  have e1 : hi h2 (x + 1) = hi h (x + 1) := E2 1 (by omega)
  have e3 : hi h2 (x + 3) = hi h (x + 3) := E2 3 (by omega)
  have e4 : hi h2 (x + 4) = hi h (x + 4) := E2 4 (by omega)
  first | refine x_aload_n eL_law_1208 rfl rfl ?_ | refine x_aload_nN eL_law_1208 rfl rfl ?_
  refine x_callV0 eL_law_1209 lk_L_136 (by assumption) (Nat.le_of_ble_eq_true rfl) (Nat.le_of_ble_eq_true rfl) ?_
  refine Rn.deep (c_X9_least (d := 0) M2 (by rw [e1]; exact I.gw) (by rw [e1]; exact I.lns.1) (by rw [e1]; exact I.lns.2) (fun rf _ => ?_)) (by omega)
  rw [lstV_cg (asF_rd (h := h2)), e1, e4, e3]
  first | refine x_icmp_eqN (tgt := 1299) eL_law_1212 (by decide) (by with_reducible rfl) (by with_reducible rfl) (by omega) (by omega) (fun cq1 => ?_) (fun cq1 => ?_) | refine x_icmp_eq (tgt := 1299) eL_law_1212 (by decide) (fun cq1 => ?_) (fun cq1 => ?_)
  · refine Rn.weak (kc (setI h2 (rfF (hi h2) x rf)) (St.still (h2 := h2) (F := rfF (hi h2) x rf) R r hk5 x1 P (fun a ha => rfF_ne (by omega)))) (by repeat' first | exact fun _ h => absurd h List.not_mem_nil | refine List.forall_mem_cons.mpr ⟨rfl, ?_⟩)
  · exact absurd rfl cq1
end LAW12

