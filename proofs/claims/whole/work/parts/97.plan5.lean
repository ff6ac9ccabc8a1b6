/-! ===== plan ===== -/
section PLAN5
variable {G : GG} {d : Nat} {h h1 h2 : AH} {Q : Option Value → AH → Prop} {ow o2 : Nat → Nat} {y kp nx la m : Nat} {g g2 ld wd : Nat → Int32} {ps : Nat → Nat → Int32} {w : Int32} {n : Nat} {sq iq : Nat → Nat}
set_option maxRecDepth 100000 in
set_option maxHeartbeats 4000000 in
theorem lo_bound (I : GI g) : ∀ k, k ≤ nt (g 1) → loN2 g k ≤ 40 * k := by
  intro k
  induction k with
  | zero => intro _; exact Nat.le_refl _
  | succ k ih =>
    intro hk
    have z := ih (by omega)
    have z2 := cntN_le (lsP g k) (np g k)
    have z4 : np g k ≤ 40 := (I.gw.2.2.2 k (by omega)).2.2.2.2.1
    unfold loN2
    split <;> omega
set_option maxRecDepth 100000 in
set_option maxHeartbeats 4000000 in
/-- nothing was laid -/
theorem plan_fin0 (C : Core ow h y g ld wd) (K : Acts ow h y g kp nx ps) (rm : Rm G h 100 6000) (hm4 : m ≤ 400) (J : PlJ G (upd0 ow (hz h) (2300 + nx)) (nw h 20 m) y g ld wd nx (hz h) m g2 0 sq iq h2) : g2 = g ∧ Ps G y ow h g ld wd kp nx ps h2 := by
  obtain ⟨J1, J2, J3, ⟨J4, J5, J6⟩, ⟨J7, J8, J9⟩, J10, J11, J12, J13⟩ := J
  have eg : g2 = g := J11
  rw [eg] at J1
  have F : Fr (plT nx 0) ow h (upd0 ow (hz h) (2300 + nx)) h2 := (Fr.nw C.1).tr J3
  have oy := C.2.1.1.2.2.2.2.2
  have o7 := C.2.1.2.2.2.2.2.2.2.2.2
  have q1 := F.at_ oy (by decide) (fun z => by unfold plT puT at z; omega)
  have q7 := F.at_ o7 (by decide) (fun z => by unfold plT puT at z; omega)
  refine ⟨eg, _, J1, K.fr F (fun t ht z => by unfold plT puT at z; omega) q7.2.2.2.2.1 (by rw [q1.2.2.2.1]) (by rw [q1.2.2.2.1]), F.zk (fun z => by unfold plT puT at z; omega), ?_, ?_⟩
  · rw [J5]
    show hz h + 1 ≤ _
    omega
  · rw [J6, us_nw rm.1]
    omega
set_option maxRecDepth 100000 in
set_option maxHeartbeats 4000000 in
/-- something was -/
theorem plan_fin1 (C : Core ow h y g ld wd) (K : Acts ow h y g kp nx ps) (rm : Rm G h 100 6000) (hm4 : m ≤ 400) (hn0 : 0 < n) (hnm : n ≤ m) (J : PlJ G (upd0 ow (hz h) (2300 + nx)) (nw h 20 m) y g ld wd nx (hz h) m g2 n sq iq h2) : Ps G y ow h g2 ld wd (kpS kp) ((nx + 1) % 16) (cns g ps) (rmH (wq (mkA h2 (nI 11) (-1) (nI n) (nI 0)) (hz h2) 7 (some (hz h))) y nx kp (hz h2)) := by
  obtain ⟨J1, J2, J3, ⟨J4, J5, J6⟩, ⟨J7, J8, J9⟩, J10, J11, J12, J13⟩ := J
  obtain ⟨k6, k7, hnx, hkp, -⟩ := id K
  have oy := C.2.1.1.2.2.2.2.2
  have o7 := C.2.1.2.2.2.2.2.2.2.2.2
  have ez : hz h2 = hz h + 1 := J5
  have l7 := (C.1 (y + 7) (by omega)).1
  have n7 : y + 7 ≠ hz h2 := by omega
  have nl : hz h ≠ hz h2 := by omega
  have F : Fr (plT nx n) ow h (upd0 ow (hz h) (2300 + nx)) h2 := (Fr.nw C.1).tr J3
  have q7 := F.at_ o7 (by decide) (fun z => by unfold plT puT at z; omega)
  have e1 := mkA_v h2 (nI 11) (-1) (nI n) (nI 0)
  have FA : ∀ T : Nat → Prop, T (2000 + nx) → Fr T (upd0 ow (hz h) (2300 + nx)) h2 (upd0 (upd0 ow (hz h) (2300 + nx)) (hz h2) (2000 + nx)) (wq (mkA h2 (nI 11) (-1) (nI n) (nI 0)) (hz h2) 7 (some (hz h))) := fun T hT => (mkA_fr J1.1).tr (Fr.wq (by rw [upd0_same]; exact hT))
  have ql := (FA (fun t => t = 2000 + nx) rfl).at_ J7 (by omega) (by omega)
  have ya : y ≠ hz h2 := by have := (C.1 y (by omega)).1; omega
  refine Ps.rm (X := puT) (J1.frame J2.gw (FA (fun t => t = 2000 + nx) rfl) (fun t ht => by omega) ((mkA_x h2 _ _ _ _).tr (Ext.wq _ _ _ _)) (mkA_lv (k := nI 11) (o := -1) (i := nI n) (b := nI 0) J1.1) (To.nw J1.1)) J2.gw K ((F.mono (fun t ht => ?_)).tr (FA _ (Or.inr (Or.inr (Or.inl (Or.inl rfl)))))) (fun t ht => by unfold puT at ht; omega) ?_ ?_ ?_ ?_
  · unfold plT at ht
    rcases ht with z | ⟨z, -⟩
    · exact Or.inr (Or.inr (Or.inr z))
    · exact Or.inr (Or.inr (Or.inl (by unfold aT; omega)))
  · show hr (wq (mkA h2 (nI 11) (-1) (nI n) (nI 0)) (hz h2) 7 (some (hz h))) (y + 7) = _
    rw [show hr (wq (mkA h2 (nI 11) (-1) (nI n) (nI 0)) (hz h2) 7 (some (hz h))) (y + 7) = hr (mkA h2 (nI 11) (-1) (nI n) (nI 0)) (y + 7) from up2_a (f := hr _) n7, (mkA_ne n7).2.2.1]
    exact q7.2.2.2.2.1
  · have ria : ∀ k, hi (rmH (wq (mkA h2 (nI 11) (-1) (nI n) (nI 0)) (hz h2) 7 (some (hz h))) y nx kp (hz h2)) (hz h2) k = hi (mkA h2 (nI 11) (-1) (nI n) (nI 0)) (hz h2) k := fun k => by
      show up2 (up2 (hi (mkA h2 (nI 11) (-1) (nI n) (nI 0))) y 6 _) y 7 _ (hz h2) k = _
      rw [up2_a (Ne.symm ya), up2_a (Ne.symm ya)]
    have ril : ∀ k, hi (rmH (wq (mkA h2 (nI 11) (-1) (nI n) (nI 0)) (hz h2) 7 (some (hz h))) y nx kp (hz h2)) (hz h) k = hi h2 (hz h) k := fun k => by
      show up2 (up2 (hi (mkA h2 (nI 11) (-1) (nI n) (nI 0))) y 6 _) y 7 _ (hz h) k = _
      have yl : hz h ≠ y := by have := (C.1 y (by omega)).1; omega
      rw [up2_a yl, up2_a yl, (mkA_ne nl).2.1]
    refine ⟨upd0_same _ _ _, hk_nw' (h := h2), Or.inr (Or.inr (Or.inr ⟨(ria 0).trans e1.1, n, m, hz h, sq, iq, (ria 2).trans e1.2.2.1, ?_, ql.1, ql.2.1.trans J8, ql.2.2.1.trans J9, hnm, hm4, fun j hj => ?_, J11.symm⟩))⟩
    · show up2 (up2 (hr (mkA h2 (nI 11) (-1) (nI n) (nI 0))) (hz h2) 7 (some (hz h))) (y + 7) nx _ (hz h2) 7 = _
      rw [up2_a (Ne.symm n7), up2_same]
    · obtain ⟨z1, z2, z3⟩ := J10 j hj
      exact ⟨(ril j).trans z1, by rw [J12]; exact z2, by rw [J13]; exact z3⟩
  · show hz h2 + 1 ≤ _
    omega
  · show us G (mkA h2 (nI 11) (-1) (nI n) (nI 0)) ≤ _
    rw [mkA_us (by have := rm.1; omega), J6, us_nw rm.1]
    omega
set_option maxRecDepth 100000 in
set_option maxHeartbeats 4000000 in
theorem c_X8_plan (C : Core ow h y g ld wd) (K : Acts ow h y g kp nx ps) (I : GI g) (rm : Rm G h 100 6000) (hq0 : inR w 0 100 = false → Q (some (.int (-2))) h) (hq1 : inR w 0 100 = true → ∀ g2 a2 c, plV g w = (g2, a2, c) → GI g2 → ∀ h2, (if a2 then Ps G y ow h g2 ld wd (kpS kp) ((nx + 1) % 16) (cns g ps) h2 else g2 = g ∧ Ps G y ow h g ld wd kp nx ps h2) → Q (some (.int (stV c))) h2) : Rn G (d + 5) mX8_plan 0 [(0, .ref y), (1, .int w)] [] h Q := by
  obtain ⟨C1, C2, C3, -⟩ := id C
  have W := I.gw
  have h10 := W.2.1.2.2
  obtain ⟨⟨s1, s2, s3, s4, s5, s6⟩, -, -, -, -, -, -, ⟨t1, t2, t3⟩⟩ := id C2
  obtain ⟨k6, k7, hnx, hkp, -⟩ := id K
  obtain ⟨m, hm⟩ : ∃ m, m = loN2 g (nt (g 1)) := ⟨_, rfl⟩
  have hm4 : m ≤ 400 := by have := lo_bound I _ (Nat.le_refl _); omega
  have ky := s1
  refine x_iload_n eX8_plan_0 rfl rfl ?_
  refine x_iconst (v := nI 0) eX8_plan_1 (by decide) ?_
  refine x_bipush (v := nI 100) eX8_plan_2 (by decide) ?_
  refine x_callS3 eX8_plan_4 lk_X8_51 (Nat.le_of_ble_eq_true rfl) (Nat.le_of_ble_eq_true rfl) ?_
  refine Rn.deep (c_X8_isWithin (d := d) (fun _ => ?_)) (by omega)
  first | refine x_if_neB (tgt := 13) eX8_plan_7 (by decide) (by with_reducible rfl) (fun cq1 => ?_) (fun cq1 => ?_) | refine x_if_ne (tgt := 13) eX8_plan_7 (by decide) (fun cq1 => ?_) (fun cq1 => ?_)
  · have hw : inR w 0 100 = true := cq1
    have J0 : PlJ G (upd0 ow (hz h) (2300 + nx)) (nw h 20 m) y g ld wd nx (hz h) m g 0 (fun _ => 0) (fun _ => 0) (nw h 20 m) := ⟨C.frame W (Fr.nw (T := fun t => t = 2300 + nx) C1) (fun t ht => by omega) (Ext.nw _ _ _) (Lv.nw C1 (fun z => by cases z)) (To.nw C1), I, Fr.rf, ⟨Ext.rf _, rfl, rfl⟩, ⟨upd0_same _ _ _, hk_nw', hn_nw'⟩, fun j hj => absurd hj (by omega), rfl, rfl, fun _ => rfl⟩
    have hr1 : hz h < gB G + 600000 ∧ us G h + m ≤ 7302250 := ⟨by have := rm.2.1; omega, by have := rm.2.2; omega⟩
    have w28 := l_plan0 (G := G) (d := d) (Q := Q) (w := w) (la := hz h) (m := m) I hnx hm hm4 rfl (nt (g 1)) 0 0 _ _ g (nw h 20 m) (Nat.zero_add _) J0 (Nat.zero_le _) (fun _ _ _ _ => rfl) (fun _ _ _ _ => rfl) (fun g2 c n2 sq2 iq2 h2 e hn2 J => by
      have q1 := hq1 hw g2 (decide (0 < n2)) c e J.2.1
      rcases Nat.eq_zero_or_pos n2 with z | z
      · subst z
        have q1 := q1 h2 (plan_fin0 C K rm hm4 J)
        refine x_iload_n eX8_plan_136 rfl rfl ?_
        refine x_if_le (tgt := 166) eX8_plan_137 (by decide) (fun cq1 => ?_) (fun cq1 => ?_)
        · refine x_iload eX8_plan_166 rfl ?_
          refine x_iret eX8_plan_168 rfl ?_
          exact q1
        · exact absurd (show nI 0 ≤ 0 by decide) cq1
      · rw [decide_eq_true z] at q1
        have q1 := q1 _ (plan_fin1 C K rm hm4 z hn2 J)
        obtain ⟨J1, J2, J3, ⟨J4, J5, J6⟩, ⟨J7, J8, J9⟩, -⟩ := id J
        have ez : hz h2 = hz h + 1 := J5
        have eu : us G h2 = us G h + m := by rw [J6, us_nw rm.1]
        have hr2 : hz h2 < gB G + 600000 ∧ us G h2 + 8 ≤ 7302250 := ⟨by have := rm.2.1; omega, by have := rm.2.2; omega⟩
        obtain ⟨⟨j1, j2, j3, j4, j5, j6⟩, -, -, -, -, -, -, ⟨v1, v2, v3⟩⟩ := id J1.2.1
        have l7 := (J1.1 (y + 7) (by omega)).1
        have ly := (J1.1 y (by omega)).1
        have knN : hk (nw h2 0 8) (hz h2) = 0 := hk_nw'
        have kyN : hk (nw h2 0 8) y = 7 := by rw [hk_nw (by omega)]; exact j1
        have q0 := ((Fr.nw (T := plT nx n2) C1).tr J3).at_ s6 (by decide) (fun z => by unfold plT puT at z; omega)
        have i6 : hi h2 y 6 = nI nx := by rw [q0.2.2.2.1]; exact k6
        have i7 : hi h2 y 7 = nI kp := by rw [q0.2.2.2.1]; exact k7
        refine x_iload_n eX8_plan_136 rfl rfl ?_
        refine x_if_le (tgt := 166) eX8_plan_137 (by decide) (fun cq1 => ?_) (fun cq1 => ?_)
        · exact absurd cq1 (nI_nle z (by omega))
        · refine x_new (ci := 0) eX8_plan_140 rfl ck_X8_35 (by first | assumption | omega) ?_
          refine x_dup eX8_plan_143 rfl ?_
          refine x_bipush (v := nI 11) eX8_plan_144 (by decide) ?_
          refine x_iconst (v := (-1)) eX8_plan_146 (by decide) ?_
          refine x_iload_n eX8_plan_147 rfl rfl ?_
          refine x_iconst (v := nI 0) eX8_plan_148 (by decide) ?_
          refine x_callI4 eX8_plan_149 lk_X8_69 (Nat.le_of_ble_eq_true rfl) (Nat.le_of_ble_eq_true rfl) ?_
          refine Rn.deep (c_X0_init (d := d) knN (fun _ => ?_)) (by omega)
          first | refine x_astore eX8_plan_152 (by decide) rfl rfl ?_ | refine x_astoreN eX8_plan_152 (by decide) rfl rfl ?_
          first | refine x_aload eX8_plan_154 rfl ?_ | refine x_aloadN eX8_plan_154 rfl ?_
          first | refine x_aload_n eX8_plan_156 rfl rfl ?_ | refine x_aload_nN eX8_plan_156 rfl rfl ?_
          first | refine x_putR eX8_plan_157 fk_X8_264 (by decide) rfl ⟨_, rfl, Or.inl rfl⟩ (by assumption) ?_ | refine x_putN eX8_plan_157 fk_X8_264 (by decide) rfl ⟨_, rfl, Or.inl rfl⟩ (by assumption) ?_
          first | refine x_aload_n eX8_plan_160 rfl rfl ?_ | refine x_aload_nN eX8_plan_160 rfl rfl ?_
          first | refine x_aload eX8_plan_161 rfl ?_ | refine x_aloadN eX8_plan_161 rfl ?_
          refine x_callV1 eX8_plan_163 lk_X8_72 (by assumption) (Nat.le_of_ble_eq_true rfl) (Nat.le_of_ble_eq_true rfl) ?_
          refine Rn.deep (c_X8_remember (d := d) (h := wq (mkA h2 (nI 11) (-1) (nI n2) (nI 0)) (hz h2) 7 (some (hz h))) (y := y) (nx := nx) (kp := kp) (a := hz h2) kyN (by show up2 (hr (mkA h2 (nI 11) (-1) (nI n2) (nI 0))) (hz h2) 7 _ y 5 = _; rw [up2_a (by omega), (mkA_ne (by omega)).2.2.1]; exact j5) (by show hk (nw h2 0 8) (y + 7) = _; rw [hk_nw (by omega)]; exact v1) (by show hn (nw h2 0 8) (y + 7) = _; rw [hn_nw l7]; exact v2) (by show hi (mkA h2 (nI 11) (-1) (nI n2) (nI 0)) y 6 = _; rw [(mkA_ne (by omega)).2.1]; exact i6) (by show hi (mkA h2 (nI 11) (-1) (nI n2) (nI 0)) y 7 = _; rw [(mkA_ne (by omega)).2.1]; exact i7) hnx hkp knN (fun _ => ?_)) (by omega)
          refine x_iload eX8_plan_166 rfl ?_
          refine x_iret eX8_plan_168 rfl ?_
          exact q1)
    first | refine x_aload_n eX8_plan_13 rfl rfl ?_ | refine x_aload_nN eX8_plan_13 rfl rfl ?_
    refine x_callV0 eX8_plan_14 lk_X8_247 (by assumption) (Nat.le_of_ble_eq_true rfl) (Nat.le_of_ble_eq_true rfl) ?_
    refine Rn.deep (c_X8_countLoose (d := d) C I (fun _ => ?_)) (by omega)
    rw [← hm]
    refine x_newaN (kd := 20) eX8_plan_17 (by decide) rfl ak_20 (by with_reducible rfl) (by omega) (by first | assumption | omega) ?_
    first | refine x_astore_n eX8_plan_19 rfl (by decide) rfl rfl ?_ | refine x_astore_nN eX8_plan_19 rfl (by decide) rfl rfl ?_
    refine x_iconst (v := nI 0) eX8_plan_20 (by decide) ?_
    refine x_istore_n eX8_plan_21 rfl (by decide) rfl rfl ?_
    refine x_iconst (v := (-1)) eX8_plan_22 (by decide) ?_
    refine x_istore eX8_plan_23 (by decide) rfl rfl ?_
    refine x_iconst (v := nI 0) eX8_plan_25 (by decide) ?_
    refine x_istore eX8_plan_26 (by decide) rfl rfl ?_
    refine Rn.weak (w28) (by repeat' first | exact fun _ h => absurd h List.not_mem_nil | refine List.forall_mem_cons.mpr ⟨rfl, ?_⟩)
  · refine x_bipush (v := (-2)) eX8_plan_10 (by decide) ?_
    refine x_iret eX8_plan_12 rfl ?_
    exact hq0 cq1
end PLAN5

