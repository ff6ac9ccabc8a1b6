/-! ===== acts on a sail: reef, narrow, line, patch ===== -/
section ACT2
variable {G : GG} {d : Nat} {h h2 : AH} {Q : Option Value → AH → Prop} {ow o2 : Nat → Nat} {y : Nat} {g g2 ld wd : Nat → Int32} {kp nx s a : Nat} {ps : Nat → Nat → Int32} {T : Nat → Prop}
set_option maxRecDepth 100000 in
set_option maxHeartbeats 4000000 in
theorem SailC.mod2 (F : Fr T ow h o2 h2) (hT1 : ¬ T (450 + s)) (hT2 : ¬ T (460 + s)) (w : SW g s) (en : np g2 s = np g s) (ee : EE g g2 s) (hP : ∀ i p, i < np g s → (∃ pa, hr h a 4 = some pa ∧ hr h pa i = some p) → PieceP ow h g s i p → PieceP o2 h2 g2 s i p) (r4 : hr h2 a 4 = hr h a 4) (r7 : hr h2 a 7 = hr h a 7) (i3 : hi h2 a 3 = sl g2 s 0) (i5 : hi h2 a 5 = sl g2 s 8) (i6 : hi h2 a 6 = nI (np g2 s)) (h0 : sl g2 s 0 = 0 ↔ sl g s 0 = 0) (C : SailC ow h g s a) : SailC o2 h2 g2 s a := by
  obtain ⟨c1, c2, c3, c4⟩ := C
  have u5 := w.2.1.2.2
  refine ⟨i3, i5, i6, ?_⟩
  rw [r4, r7]
  rcases c4 with ⟨z1, z2, z3⟩ | ⟨z, ⟨pa, p1, p2, p3, p4, p5⟩, st, s1, s2, s3, s4, s5⟩
  · exact Or.inl ⟨h0.mpr z1, z2, z3⟩
  · obtain ⟨x1, x2, x3, x4, x5, -⟩ := F.at_ p2 (by omega) hT1
    obtain ⟨y1, y2, y3, y4, -⟩ := F.at_ s2 (by omega) hT2
    refine Or.inr ⟨fun q => z (h0.mp q), ⟨pa, p1, x1, x2.trans p3, x3.trans p4, fun i hi => ?_⟩, st, s1, y1, y2.trans s3, by rw [y3, s4, ee.1 5 (by omega) (by omega)], fun k hk => ?_⟩
    · rw [en] at hi
      obtain ⟨p, hp, P⟩ := p5 i hi
      exact ⟨p, by rw [x5]; exact hp, hP i p hi ⟨pa, p1, hp⟩ P⟩
    · rw [ee.1 5 (by omega) (by omega)] at hk
      rw [y4, s5 k hk, ee.tp (by omega)]
set_option maxRecDepth 100000 in
set_option maxHeartbeats 4000000 in
theorem act_only {X : Nat → Prop} {k o i b : Int32} (L : Lv ow h) (S : Sk ow h y) :
    Fr (oT nx X) ow h (upd0 ow (hz h) (2000 + nx)) (raH h y nx kp k o i b) ∧ Ext h (raH h y nx kp k o i b) ∧ Lv (upd0 ow (hz h) (2000 + nx)) (raH h y nx kp k o i b) ∧ To ow (upd0 ow (hz h) (2000 + nx)) ∧
    (∀ q, hr (raH h y nx kp k o i b) y q = hr h y q) ∧ hr (raH h y nx kp k o i b) (y + 7) = upd0 (hr h (y + 7)) nx (some (hz h)) ∧
    (∀ q, q ≠ 6 → q ≠ 7 → hi (raH h y nx kp k o i b) y q = hi h y q) ∧ hi (raH h y nx kp k o i b) y 6 = nI ((nx + 1) % 16) ∧ hi (raH h y nx kp k o i b) y 7 = nI (kpS kp) ∧
    (∀ q, q ≠ y → q ≠ hz h → hi (raH h y nx kp k o i b) q = hi h q) ∧ (∀ q, q ≠ y + 7 → q ≠ hz h → hr (raH h y nx kp k o i b) q = hr h q) ∧
    upd0 ow (hz h) (2000 + nx) (hz h) = 2000 + nx ∧ hk (raH h y nx kp k o i b) (hz h) = 0 ∧ (hi (raH h y nx kp k o i b) (hz h) = hi (mkA h k o i b) (hz h)) ∧ ∀ q, q ≠ hz h → hk (raH h y nx kp k o i b) q = hk h q := by
  obtain ⟨⟨a1, a2, a3, a4, a5, a6⟩, ⟨b1, b2, b3⟩, ⟨c1, c2, c3⟩, ⟨d1, d2, d3, d4, d5⟩, ⟨e1, e2, e3⟩, ⟨f1, f2, f3⟩, ⟨g1, g2, g3⟩, ⟨h1, h2', h3⟩⟩ := S
  have ly := (L y (by omega)).1
  have l7 := (L (y + 7) (by omega)).1
  have oy : upd0 ow (hz h) (2000 + nx) y = 1 := by rw [upd0_ne (by omega)]; exact a6
  have o7 : upd0 ow (hz h) (2000 + nx) (y + 7) = 4 := by rw [upd0_ne (by omega)]; exact h3
  refine ⟨Fr.tr (mkA_fr L) (rmH_fr oy o7), mkA_x h k o i b, mkA_lv (k := k) (o := o) (i := i) (b := b) L, To.nw L, fun q => ?_, ?_, fun q q6 q7 => ?_, rmH_6, rmH_7, fun q q1 q2 => ?_, fun q q1 q2 => ?_, upd0_same _ _ _, hk_nw', rmH_i (by omega), fun q hq => hk_nw hq⟩
  · show hr (rmH (mkA h k o i b) y nx kp (hz h)) y q = _
    rw [rmH_r (by omega), (mkA_ne (by omega)).2.2.1]
  · show hr (rmH (mkA h k o i b) y nx kp (hz h)) (y + 7) = _
    rw [rmH_a, (mkA_ne (by omega)).2.2.1]
  · show hi (rmH (mkA h k o i b) y nx kp (hz h)) y q = _
    rw [rmH_y q6 q7, (mkA_ne (by omega)).2.1]
  · show hi (rmH (mkA h k o i b) y nx kp (hz h)) q = _
    rw [rmH_i q1, (mkA_ne q2).2.1]
  · show hr (rmH (mkA h k o i b) y nx kp (hz h)) q = _
    rw [rmH_r q1, (mkA_ne q2).2.2.1]
set_option maxRecDepth 100000 in
set_option maxHeartbeats 4000000 in
/-- new Act(..) and remember, from a heap on which the root stands -/
theorem c_remember {k o i b : Int32} (L : Lv ow h) (S : Sk ow h y) (k6 : hi h y 6 = nI nx) (k7 : hi h y 7 = nI kp) (hnx : nx < 16) (hkp : kp ≤ 16) (hq : Q none (raH h y nx kp k o i b)) : Rn G (d + 1) mX8_remember 0 [(0, .ref y), (1, .ref (hz h))] [] (mkA h k o i b) Q := by
  obtain ⟨⟨a1, a2, a3, a4, a5, a6⟩, -, -, -, -, -, -, ⟨h1, h2', h3⟩⟩ := S
  have ly := (L y (by omega)).1
  have l7 := (L (y + 7) (by omega)).1
  have t1N : hk (nw h 0 8) (y + 7) = 30 := by rw [hk_nw (by omega)]; exact h1
  have t2N : hn (nw h 0 8) (y + 7) = 16 := by rw [hn_nw l7]; exact h2'
  have kyN : hk (nw h 0 8) y = 7 := by rw [hk_nw (by omega)]; exact a1
  exact c_X8_remember (h := mkA h k o i b) kyN (by rw [(mkA_ne (by omega)).2.2.1]; exact a5) t1N t2N (by rw [(mkA_ne (by omega)).2.1]; exact k6) (by rw [(mkA_ne (by omega)).2.1]; exact k7) hnx hkp hk_nw' hq
set_option maxRecDepth 100000 in
set_option maxHeartbeats 4000000 in
theorem c_X8_reef {v z : Int32} (C : Core ow h y g ld wd) (K : Acts ow h y g kp nx ps) (I : GI g) (rm : Rm G h 100 6000) (hq0 : reefOK g v z = false → Q (some (.int 0)) h) (hq1 : reefOK g v z = true → ∀ h2, Ps G y ow h (gReef g (nt v) z) ld wd (kpS kp) ((nx + 1) % 16) (cns g ps) h2 → Q (some (.int 1)) h2) : Rn G (d + 3) mX8_reef 0 [(0, .ref y), (1, .int v), (2, .int z)] [] h Q := by
  obtain ⟨C1, C2, -⟩ := id C
  have W := I.gw
  have h10 := W.2.1.2.2
  obtain ⟨⟨s1, s2, s3, s4, s5, s6⟩, -, -, -, -, -, -, ⟨t1, t2, t3⟩⟩ := id C2
  obtain ⟨k6, k7, hnx, hkp, -⟩ := id K
  have l7 := (C1 (y + 7) (by omega)).1
  have hroom : hz h < gB G + 600000 ∧ us G h + 8 ≤ 7302250 := ⟨by have := rm.2.1; omega, by have := rm.2.2; omega⟩
  first | refine x_aload_n eX8_reef_0 rfl rfl ?_ | refine x_aload_nN eX8_reef_0 rfl rfl ?_
  refine x_iload_n eX8_reef_1 rfl rfl ?_
  refine x_iconst (v := nI 1) eX8_reef_2 (by decide) ?_
  refine x_callV2 eX8_reef_3 lk_X8_120 (by assumption) (Nat.le_of_ble_eq_true rfl) (Nat.le_of_ble_eq_true rfl) ?_
  refine c_X8_sailInState C W (fun q _ => ?_) (fun j a ej hj h1 ha P _ => ?_)
  · first | refine x_astore_n eX8_reef_6 rfl (by decide) rfl rfl ?_ | refine x_astore_nN eX8_reef_6 rfl (by decide) rfl rfl ?_
    first | refine x_aload_n eX8_reef_7 rfl rfl ?_ | refine x_aload_nN eX8_reef_7 rfl rfl ?_
    refine x_ifnullN (tgt := 31) eX8_reef_8 (by decide) ?_
    refine x_iconst (v := nI 0) eX8_reef_31 (by decide) ?_
    refine x_zret eX8_reef_32 rfl (by first | exact Or.inl rfl | exact Or.inr rfl | exact bI_or _ | assumption) ?_
    exact hq0 (by unfold reefOK isC; rw [show (isS g v && decide (sl g (nt v) 0 = 1)) = false from q]; rfl)
  · subst ej
    obtain ⟨E, Cc, Ll⟩ := id P
    obtain ⟨oa, ka, -, -, e2⟩ := id E
    obtain ⟨e8, e9, e11, -⟩ := id Ll
    have hS : nt (nI j) = j := nt_nI (by omega)
    have hB := isC_of W hj h1
    obtain ⟨sw, sx⟩ := I.2.2.1 j hj
    have la := (C1 a (by omega)).1
    have kaN : hk (nw h 0 8) a = 4 := by rw [hk_nw (by omega)]; exact ka
    have e8N : hi (nw h 0 8) a 8 = sl g j 10 := by rw [(nw_ne (by omega)).2.1]; exact e8
    have kyN : hk (nw h 0 8) y = 7 := by rw [hk_nw (by omega)]; exact s1
    have knN : hk (nw h 0 8) (hz h) = 0 := hk_nw'
    first | refine x_astore_n eX8_reef_6 rfl (by decide) rfl rfl ?_ | refine x_astore_nN eX8_reef_6 rfl (by decide) rfl rfl ?_
    first | refine x_aload_n eX8_reef_7 rfl rfl ?_ | refine x_aload_nN eX8_reef_7 rfl rfl ?_
    refine x_ifnullR eX8_reef_8 ?_
    refine x_iload_n eX8_reef_11 rfl rfl ?_
    refine x_iconst (v := nI 0) eX8_reef_12 (by decide) ?_
    first | refine x_aload_n eX8_reef_13 rfl rfl ?_ | refine x_aload_nN eX8_reef_13 rfl rfl ?_
    first | refine x_getIe eX8_reef_14 fk_X8_124 (by decide) (by assumption) (by assumption) ?_ | refine x_getI eX8_reef_14 fk_X8_124 (by decide) (by assumption) ?_
    refine x_callS3 eX8_reef_17 lk_X8_51 (Nat.le_of_ble_eq_true rfl) (Nat.le_of_ble_eq_true rfl) ?_
    refine Rn.deep (c_X8_isWithin (d := d) (fun _ => ?_)) (by omega)
    first | refine x_if_eqB (tgt := 31) eX8_reef_20 (by decide) (by with_reducible rfl) (fun cq1 => ?_) (fun cq1 => ?_) | refine x_if_eq (tgt := 31) eX8_reef_20 (by decide) (fun cq1 => ?_) (fun cq1 => ?_)
    · refine x_iconst (v := nI 0) eX8_reef_31 (by decide) ?_
      refine x_zret eX8_reef_32 rfl (by first | exact Or.inl rfl | exact Or.inr rfl | exact bI_or _ | assumption) ?_
      exact hq0 (by unfold reefOK; rw [hS, show inR z 0 (sl g j 5) = false from cq1]; simp)
    · first | refine x_aload_n eX8_reef_23 rfl rfl ?_ | refine x_aload_nN eX8_reef_23 rfl rfl ?_
      first | refine x_getIe eX8_reef_24 fk_X8_192 (by decide) (by assumption) (by assumption) ?_ | refine x_getI eX8_reef_24 fk_X8_192 (by decide) (by assumption) ?_
      refine x_iload_n eX8_reef_27 rfl rfl ?_
      first | refine x_icmp_neN (tgt := 33) eX8_reef_28 (by decide) (by with_reducible rfl) (by with_reducible rfl) (by omega) (by omega) (fun cq2 => ?_) (fun cq2 => ?_) | refine x_icmp_ne (tgt := 33) eX8_reef_28 (by decide) (fun cq2 => ?_) (fun cq2 => ?_)
      · have hok : reefOK g (nI j) z = true := by
          unfold reefOK
          rw [hB, hS, decide_eq_false cq2, show inR z 0 (sl g j 5) = true from cq1]
          rfl
        first | refine x_aload_n eX8_reef_33 rfl rfl ?_ | refine x_aload_nN eX8_reef_33 rfl rfl ?_
        refine x_new (ci := 0) eX8_reef_34 rfl ck_X8_35 (by first | assumption | omega) ?_
        refine x_dup eX8_reef_37 rfl ?_
        refine x_bipush (v := nI 13) eX8_reef_38 (by decide) ?_
        refine x_iload_n eX8_reef_40 rfl rfl ?_
        refine x_iconst (v := nI 0) eX8_reef_41 (by decide) ?_
        first | refine x_aload_n eX8_reef_42 rfl rfl ?_ | refine x_aload_nN eX8_reef_42 rfl rfl ?_
        first | refine x_getIe eX8_reef_43 fk_X8_192 (by decide) (by assumption) (by assumption) ?_ | refine x_getI eX8_reef_43 fk_X8_192 (by decide) (by assumption) ?_
        refine x_callI4 eX8_reef_46 lk_X8_69 (Nat.le_of_ble_eq_true rfl) (Nat.le_of_ble_eq_true rfl) ?_
        refine Rn.deep (c_X0_init (d := d) knN (fun _ => ?_)) (by omega)
        refine x_callV1 eX8_reef_49 lk_X8_72 (by assumption) (Nat.le_of_ble_eq_true rfl) (Nat.le_of_ble_eq_true rfl) ?_
        refine Rn.deep (c_remember (d := d) (k := nI 13) (o := nI j) (i := nI 0) (b := sl g j 10) C1 C2 k6 k7 hnx hkp (fun _ => ?_)) (by omega)
        first | refine x_aload_n eX8_reef_52 rfl rfl ?_ | refine x_aload_nN eX8_reef_52 rfl rfl ?_
        refine x_iload_n eX8_reef_53 rfl rfl ?_
        refine x_putI eX8_reef_54 fk_X8_192 (by decide) rfl ⟨_, rfl, Or.inl rfl⟩ (by assumption) ?_
        refine x_iconst (v := nI 1) eX8_reef_57 (by decide) ?_
        refine x_zret eX8_reef_58 rfl (by first | exact Or.inl rfl | exact Or.inr rfl | exact bI_or _ | assumption) ?_
        refine hq1 hok _ ?_
        rw [hS]
        obtain ⟨F, x, L2, to, r, er, ry, r6, r7, ia, ra, oA, oN, kN, iN, r2, kA⟩ := act_then (nx := nx) (kp := kp) (k := nI 13) (o := nI j) (i := nI 0) (b := sl g j 10) (f := 8) (v := z) (X := fun t => t = 400 + j) C1 C2 oa (by omega) rfl
        have sc : ∀ c, c ≠ 10 → c < 390 → sl (gReef g j z) j c = sl g j c := fun c hc h3 => upd0_ne (by omega)
        have s11 : sl (gReef g j z) j 10 = z := upd0_same g (5050 + 390 * j + 10) _
        have le : LE g (gReef g j z) j := ⟨by unfold np; rw [sc 8 (by omega) (by omega), sc 9 (by omega) (by omega)], fun i hi => by
          have h40 : np g j ≤ 40 := sw.2.2.2.2.1
          exact ⟨⟨fun c h1 h2 => sc c (by omega) (by omega), fun c h1 h2 => sc c (by omega) (by omega), sc _ (by omega) (by omega), sc _ (by omega) (by omega), sc _ (by omega) (by omega)⟩, sc _ (by omega) (by omega), sc _ (by omega) (by omega)⟩⟩
        have ee : EE g (gReef g j z) j := ⟨fun c h1 h2 => sc c (by omega) (by omega), fun c h1 h2 => sc c (by omega) (by omega)⟩
        have ge : ∀ q, (q < 5050 + 390 * j ∨ 5050 + 390 * j + 390 ≤ q) → gReef g j z q = g q := fun q hq => upd0_ne (by omega)
        have h40 : np g j ≤ 40 := sw.2.2.2.2.1
        refine Ps.sail C K I hj (F.mono (oT_mono (fun t ht => Or.inl ht))) x L2 to r (ry 1 (by decide) (by decide)) (ry 3 (by decide) (by decide)) r6 r7 er ge (fun i k _ _ => LE.one W hj ge le) ⟨a, by rw [r2]; exact ha, ?_, ?_, ?_⟩ ⟨oN, kN, ?_⟩ ?_ ?_
        · exact E.fr2 F (fun q => by unfold oT aT at q; omega) (fun q => by unfold oT aT at q; omega) (fun q => by unfold oT aT at q; omega) (fun q => by unfold oT aT at q; omega) oA (kA.trans ka) (by rw [ra]) (by rw [ra]) (by rw [ia]; exact upd0_ne (by decide)) sw ee
        · exact Cc.mod F (fun q => by unfold oT aT at q; omega) (fun q => by unfold oT aT at q; omega) (fun i hi q => by unfold oT aT at q; omega) sw le ee (fun i hi => sc _ (by omega) (by omega)) (by rw [ra]) (by rw [ra]) (by rw [ia, upd0_ne (by decide), Cc.1, sc 0 (by omega) (by omega)]) (by rw [ia, upd0_ne (by decide), Cc.2.1, sc 8 (by omega) (by omega)]) (by rw [ia, upd0_ne (by decide), Cc.2.2.1, le.1]) (by rw [sc 0 (by omega) (by omega)])
        · exact Ll.mod F (fun q => by unfold oT aT at q; omega) sw (by rw [ra]) (by rw [ia, upd0_same, s11]) (by rw [ia, upd0_ne (by decide), e9, sc 11 (by omega) (by omega)]) (by rw [ia, upd0_ne (by decide)]) (fun c h1 h2 => sc c (by omega) (by omega))
        · rw [iN]
          obtain ⟨m0, m1, m2, m3, m4⟩ := mkA_v h (nI 13) (nI j) (nI 0) (sl g j 10)
          exact Or.inl (lk_reef ⟨m0, j, z, m1, m3, hj, rfl⟩)
        · show hz h + 1 ≤ _
          omega
        · show us G (mkA h (nI 13) (nI j) (nI 0) (sl g j 10)) ≤ _
          rw [mkA_us rm.1]
          omega
      · refine x_iconst (v := nI 0) eX8_reef_31 (by decide) ?_
        refine x_zret eX8_reef_32 rfl (by first | exact Or.inl rfl | exact Or.inr rfl | exact bI_or _ | assumption) ?_
        exact hq0 (by unfold reefOK; rw [hS, decide_eq_true cq2]; simp)
set_option maxRecDepth 100000 in
set_option maxHeartbeats 4000000 in
theorem c_X8_narrow {v i z : Int32} (C : Core ow h y g ld wd) (K : Acts ow h y g kp nx ps) (I : GI g) (rm : Rm G h 100 6000) (hq0 : narOK g v i z = false → Q (some (.int 0)) h) (hq1 : narOK g v i z = true → ∀ h2, Ps G y ow h (gNar g (nt v) (nt i) z) ld wd (kpS kp) ((nx + 1) % 16) (cns g ps) h2 → Q (some (.int 1)) h2) : Rn G (d + 3) mX8_narrow 0 [(0, .ref y), (1, .int v), (2, .int i), (3, .int z)] [] h Q := by
  obtain ⟨C1, C2, -⟩ := id C
  have W := I.gw
  have h10 := W.2.1.2.2
  obtain ⟨⟨s1, s2, s3, s4, s5, s6⟩, -, -, -, -, -, -, ⟨t1, t2, t3⟩⟩ := id C2
  obtain ⟨k6, k7, hnx, hkp, -⟩ := id K
  have l7 := (C1 (y + 7) (by omega)).1
  have hroom : hz h < gB G + 600000 ∧ us G h + 8 ≤ 7302250 := ⟨by have := rm.2.1; omega, by have := rm.2.2; omega⟩
  first | refine x_aload_n eX8_narrow_0 rfl rfl ?_ | refine x_aload_nN eX8_narrow_0 rfl rfl ?_
  refine x_iload_n eX8_narrow_1 rfl rfl ?_
  refine x_iconst (v := nI 1) eX8_narrow_2 (by decide) ?_
  refine x_callV2 eX8_narrow_3 lk_X8_120 (by assumption) (Nat.le_of_ble_eq_true rfl) (Nat.le_of_ble_eq_true rfl) ?_
  refine c_X8_sailInState C W (fun q _ => ?_) (fun j a ej hj h1 ha P _ => ?_)
  · first | refine x_astore eX8_narrow_6 (by decide) rfl rfl ?_ | refine x_astoreN eX8_narrow_6 (by decide) rfl rfl ?_
    first | refine x_aload eX8_narrow_8 rfl ?_ | refine x_aloadN eX8_narrow_8 rfl ?_
    refine x_ifnullN (tgt := 38) eX8_narrow_10 (by decide) ?_
    refine x_iconst (v := nI 0) eX8_narrow_38 (by decide) ?_
    refine x_zret eX8_narrow_39 rfl (by first | exact Or.inl rfl | exact Or.inr rfl | exact bI_or _ | assumption) ?_
    exact hq0 (by unfold narOK isC; rw [show (isS g v && decide (sl g (nt v) 0 = 1)) = false from q]; rfl)
  · subst ej
    obtain ⟨E, Cc, Ll⟩ := id P
    obtain ⟨oa, ka, -, -, e2⟩ := id E
    obtain ⟨e3, e5, e6, -⟩ := id Cc
    obtain ⟨e8, e9, e11, -⟩ := id Ll
    have hS : nt (nI j) = j := nt_nI (by omega)
    have hB := isC_of W hj h1
    obtain ⟨sw, sx⟩ := I.2.2.1 j hj
    have la := (C1 a (by omega)).1
    have n1 := sx.2.1 (by rw [h1]; decide)
    obtain ⟨w8, w81, w82⟩ := sw.2.2.1
    have h40 : np g j ≤ 40 := sw.2.2.2.2.1
    have hle : nt (sl g j 8) ≤ np g j := Nat.le_add_right _ _
    have kyN : hk (nw h 0 8) y = 7 := by rw [hk_nw (by omega)]; exact s1
    have knN : hk (nw h 0 8) (hz h) = 0 := hk_nw'
    first | refine x_astore eX8_narrow_6 (by decide) rfl rfl ?_ | refine x_astoreN eX8_narrow_6 (by decide) rfl rfl ?_
    first | refine x_aload eX8_narrow_8 rfl ?_ | refine x_aloadN eX8_narrow_8 rfl ?_
    refine x_ifnullR eX8_narrow_10 ?_
    refine x_iload_n eX8_narrow_13 rfl rfl ?_
    refine x_iconst (v := nI 0) eX8_narrow_14 (by decide) ?_
    first | refine x_aload eX8_narrow_15 rfl ?_ | refine x_aloadN eX8_narrow_15 rfl ?_
    first | refine x_getIe eX8_narrow_17 fk_X8_167 (by decide) (by assumption) (by assumption) ?_ | refine x_getI eX8_narrow_17 fk_X8_167 (by decide) (by assumption) ?_
    refine x_iconst (v := nI 2) eX8_narrow_20 (by decide) ?_
    first | refine x_isubN eX8_narrow_21 (by with_reducible rfl) (by with_reducible rfl) (by omega) ?_ | refine x_isub eX8_narrow_21 ?_
    refine x_callS3 eX8_narrow_22 lk_X8_51 (Nat.le_of_ble_eq_true rfl) (Nat.le_of_ble_eq_true rfl) ?_
    refine Rn.deep (c_X8_isWithin (d := d) (fun _ => ?_)) (by omega)
    first | refine x_if_eqB (tgt := 38) eX8_narrow_25 (by decide) (by with_reducible rfl) (fun cq1 => ?_) (fun cq1 => ?_) | refine x_if_eq (tgt := 38) eX8_narrow_25 (by decide) (fun cq1 => ?_) (fun cq1 => ?_)
    · refine x_iconst (v := nI 0) eX8_narrow_38 (by decide) ?_
      refine x_zret eX8_narrow_39 rfl (by first | exact Or.inl rfl | exact Or.inr rfl | exact bI_or _ | assumption) ?_
      exact hq0 (by unfold narOK; rw [hS, show inR i 0 (sl g j 8 - 2) = false from cq1]; simp)
    · obtain ⟨m, m1, rfl⟩ : ∃ m, m + 1 < nt (sl g j 8) ∧ i = nI m := by
        have c1 : inR i (nI 0) (sl g j 8 - nI 2) = true := cq1
        by_cases z2 : 2 ≤ nt (sl g j 8)
        · rw [w8, pk_sub z2] at c1
          obtain ⟨m, -, m2, e⟩ := inR_N c1 rfl (by omega) (by omega)
          exact ⟨m, by omega, e⟩
        · rw [w8, show nt (sl g j 8) = 1 by omega] at c1
          unfold inR at c1
          simp only [Bool.and_eq_true, decide_eq_true_eq] at c1
          exact absurd (Int32.le_trans c1.1 c1.2) (by decide)
      have hM : nt (nI m) = m := nt_nI (by omega)
      refine x_iload_n eX8_narrow_28 rfl rfl ?_
      refine x_iconst (v := nI 0) eX8_narrow_29 (by decide) ?_
      refine x_bipush (v := nI 50) eX8_narrow_30 (by decide) ?_
      refine x_callS3 eX8_narrow_32 lk_X8_51 (Nat.le_of_ble_eq_true rfl) (Nat.le_of_ble_eq_true rfl) ?_
      refine Rn.deep (c_X8_isWithin (d := d) (fun _ => ?_)) (by omega)
      first | refine x_if_neB (tgt := 40) eX8_narrow_35 (by decide) (by with_reducible rfl) (fun cq2 => ?_) (fun cq2 => ?_) | refine x_if_ne (tgt := 40) eX8_narrow_35 (by decide) (fun cq2 => ?_) (fun cq2 => ?_)
      · have hok : narOK g (nI j) (nI m) z = true := by
          unfold narOK
          rw [hB, hS, show inR (nI m) 0 (sl g j 8 - 2) = true from cq1, show inR z 0 50 = true from cq2]
          rfl
        first | refine x_aload eX8_narrow_40 rfl ?_ | refine x_aloadN eX8_narrow_40 rfl ?_
        refine x_iload_n eX8_narrow_42 rfl rfl ?_
        refine x_callV1 eX8_narrow_43 lk_X8_170 (by assumption) (Nat.le_of_ble_eq_true rfl) (Nat.le_of_ble_eq_true rfl) ?_
        refine Rn.deep (c_X5_pieceNumbered2 (d := d) ka Cc h40 sx.np0 (fun q _ => ?_) (fun m' p em hm hpa R _ => ?_)) (by omega)
        · rw [hpV_nI (by omega) (by omega), decide_eq_false_iff_not] at q
          omega
        · have emm : m = m' := (nI_eq (by omega) (by omega)).mp em
          subst emm
          obtain ⟨op, kpp, p0, p1, p2, p3, p4, p5, p6, p7, p8⟩ := id R
          have hP : isP g j m = true := decide_eq_true (by omega)
          rw [if_pos hP] at p6
          have lp := (C1 p (by omega)).1
          have kpN : hk (nw h 0 8) p = 3 := by rw [hk_nw (by omega)]; exact kpp
          have p6N : hi (nw h 0 8) p 6 = sl g j (140 + m) := by rw [(nw_ne (by omega)).2.1]; exact p6
          first | refine x_astore eX8_narrow_46 (by decide) rfl rfl ?_ | refine x_astoreN eX8_narrow_46 (by decide) rfl rfl ?_
          first | refine x_aload eX8_narrow_48 rfl ?_ | refine x_aloadN eX8_narrow_48 rfl ?_
          refine x_ifnonnullR (tgt := 55) eX8_narrow_50 (by decide) ?_
          first | refine x_aload_n eX8_narrow_55 rfl rfl ?_ | refine x_aload_nN eX8_narrow_55 rfl rfl ?_
          refine x_new (ci := 0) eX8_narrow_56 rfl ck_X8_35 (by first | assumption | omega) ?_
          refine x_dup eX8_narrow_59 rfl ?_
          refine x_bipush (v := nI 7) eX8_narrow_60 (by decide) ?_
          refine x_iload_n eX8_narrow_62 rfl rfl ?_
          refine x_iload_n eX8_narrow_63 rfl rfl ?_
          first | refine x_aload eX8_narrow_64 rfl ?_ | refine x_aloadN eX8_narrow_64 rfl ?_
          first | refine x_getIe eX8_narrow_66 fk_X8_174 (by decide) (by assumption) (by assumption) ?_ | refine x_getI eX8_narrow_66 fk_X8_174 (by decide) (by assumption) ?_
          refine x_callI4 eX8_narrow_69 lk_X8_69 (Nat.le_of_ble_eq_true rfl) (Nat.le_of_ble_eq_true rfl) ?_
          refine Rn.deep (c_X0_init (d := d) knN (fun _ => ?_)) (by omega)
          refine x_callV1 eX8_narrow_72 lk_X8_72 (by assumption) (Nat.le_of_ble_eq_true rfl) (Nat.le_of_ble_eq_true rfl) ?_
          refine Rn.deep (c_remember (d := d) (k := nI 7) (o := nI j) (i := nI m) (b := sl g j (140 + m)) C1 C2 k6 k7 hnx hkp (fun _ => ?_)) (by omega)
          first | refine x_aload eX8_narrow_75 rfl ?_ | refine x_aloadN eX8_narrow_75 rfl ?_
          refine x_iload_n eX8_narrow_77 rfl rfl ?_
          refine x_putI eX8_narrow_78 fk_X8_174 (by decide) rfl ⟨_, rfl, Or.inl rfl⟩ (by assumption) ?_
          refine x_iconst (v := nI 1) eX8_narrow_81 (by decide) ?_
          refine x_zret eX8_narrow_82 rfl (by first | exact Or.inl rfl | exact Or.inr rfl | exact bI_or _ | assumption) ?_
          refine hq1 hok _ ?_
          rw [hS, hM]
          obtain ⟨F, x, L2, to, r, er, ry, r6, r7, ia, ra, oA, oN, kN, iN, r2, kA⟩ := act_then (nx := nx) (kp := kp) (k := nI 7) (o := nI j) (i := nI m) (b := sl g j (140 + m)) (f := 6) (v := z) (X := fun t => t = 1000 + 40 * j + m) C1 C2 op (by omega) rfl
          have sc : ∀ c, c ≠ 140 + m → c < 390 → sl (gNar g j m z) j c = sl g j c := fun c hc h3 => upd0_ne (by omega)
          have s14 : sl (gNar g j m z) j (140 + m) = z := upd0_same g (5050 + 390 * j + (140 + m)) _
          have le : LE g (gNar g j m z) j := ⟨by unfold np; rw [sc 8 (by omega) (by omega), sc 9 (by omega) (by omega)], fun i hi => by
            exact ⟨⟨fun c h1 h2 => sc c (by omega) (by omega), fun c h1 h2 => sc c (by omega) (by omega), sc _ (by omega) (by omega), sc _ (by omega) (by omega), sc _ (by omega) (by omega)⟩, sc _ (by omega) (by omega), sc _ (by omega) (by omega)⟩⟩
          have ee : EE g (gNar g j m z) j := ⟨fun c h1 h2 => sc c (by omega) (by omega), fun c h1 h2 => sc c (by omega) (by omega)⟩
          have ge : ∀ q, (q < 5050 + 390 * j ∨ 5050 + 390 * j + 390 ≤ q) → gNar g j m z q = g q := fun q hq => upd0_ne (by omega)
          obtain ⟨f1, f2, f3, f4, f5, -⟩ := F.at_ oa (by omega) (fun q => by unfold oT aT at q; omega)
          refine Ps.sail C K I hj (F.mono (oT_mono (fun t ht => by unfold sT; omega))) x L2 to r (ry 1 (by decide) (by decide)) (ry 3 (by decide) (by decide)) r6 r7 er ge (fun i k _ _ => LE.one W hj ge le) ⟨a, by rw [r2]; exact ha, ?_, ?_, ?_⟩ ⟨oN, kN, ?_⟩ ?_ ?_
          · exact E.fr2 F (fun q => by unfold oT aT at q; omega) (fun q => by unfold oT aT at q; omega) (fun q => by unfold oT aT at q; omega) (fun q => by unfold oT aT at q; omega) f1 (f2.trans ka) (by rw [f5]) (by rw [f5]) (by rw [f4]) sw ee
          · refine Cc.mod2 F (fun q => by unfold oT aT at q; omega) (fun q => by unfold oT aT at q; omega) sw le.1 ee (fun i' p' hi' hpa' P' => ?_) (by rw [f5]) (by rw [f5]) (by rw [f4, Cc.1, sc 0 (by omega) (by omega)]) (by rw [f4, Cc.2.1, sc 8 (by omega) (by omega)]) (by rw [f4, Cc.2.2.1, le.1]) (by rw [sc 0 (by omega) (by omega)])
            by_cases em : i' = m
            · subst em
              obtain ⟨pa, a1, a2⟩ := hpa
              obtain ⟨pb, b1, b2⟩ := hpa'
              cases a1.symm.trans b1
              cases a2.symm.trans b2
              have e := (le.2 i' hi').1
              refine ⟨oA, kA.trans kpp, ?_⟩
              rw [ia, e.ip, e.lw, e.hg, e.ln sw, e.br, e.ar sw, if_pos hP, s14, (le.2 i' hi').2.1, (le.2 i' hi').2.2]
              exact ⟨(upd0_ne (by decide)).trans p0, (upd0_ne (by decide)).trans p1, (upd0_ne (by decide)).trans p2, (upd0_ne (by decide)).trans p3, (upd0_ne (by decide)).trans p4, (upd0_ne (by decide)).trans p5, upd0_same _ _ _, (upd0_ne (by decide)).trans p7, (upd0_ne (by decide)).trans p8⟩
            · exact P'.fr F (fun q => by unfold oT aT at q; omega) sw (le.2 i' hi').1 (sc _ (by omega) (by omega)) (le.2 i' hi').2.1 (le.2 i' hi').2.2
          · exact Ll.mod F (fun q => by unfold oT aT at q; omega) sw (by rw [f5]) (by rw [f4, e8, sc 10 (by omega) (by omega)]) (by rw [f4, e9, sc 11 (by omega) (by omega)]) (by rw [f4]) (fun c h1 h2 => sc c (by omega) (by omega))
          · rw [iN]
            obtain ⟨m0, m1', m2, m3, m4⟩ := mkA_v h (nI 7) (nI j) (nI m) (sl g j (140 + m))
            exact Or.inl (lk_narrow ⟨m0, j, m, z, m1', m2, m3, hj, h1, m1, rfl⟩)
          · show hz h + 1 ≤ _
            omega
          · show us G (mkA h (nI 7) (nI j) (nI m) (sl g j (140 + m))) ≤ _
            rw [mkA_us rm.1]
            omega
      · refine x_iconst (v := nI 0) eX8_narrow_38 (by decide) ?_
        refine x_zret eX8_narrow_39 rfl (by first | exact Or.inl rfl | exact Or.inr rfl | exact bI_or _ | assumption) ?_
        exact hq0 (by unfold narOK; rw [show inR z 0 50 = false from cq2]; simp)
end ACT2

