/-! ===== acts on a bolt: row, wear ===== -/
section ACT5
variable {G : GG} {d : Nat} {h h2 : AH} {Q : Option Value → AH → Prop} {ow o2 : Nat → Nat} {y : Nat} {g g2 ld wd : Nat → Int32} {kp nx s a : Nat} {ps : Nat → Nat → Int32} {T : Nat → Prop}
set_option maxRecDepth 100000 in
set_option maxHeartbeats 4000000 in
theorem Ps.bolt {aa b : Nat} (C : Core ow h y g ld wd) (K : Acts ow h y g kp nx ps) (I : GI g) (hb : b < nt (g 0)) (F : Fr (oT nx (fun t => t = 100 + b ∨ t = 300 + b)) ow h o2 h2) (x : Ext h h2) (L2 : Lv o2 h2) (to : To ow o2) (r : ∀ k, hr h2 y k = hr h y k) (e1 : hi h2 y 1 = hi h y 1) (e3 : hi h2 y 3 = hi h y 3) (e6 : hi h2 y 6 = nI ((nx + 1) % 16)) (e7 : hi h2 y 7 = nI (kpS kp)) (er : hr h2 (y + 7) = upd0 (hr h (y + 7)) nx (some aa)) (ge : ∀ j, (j < 10 + 210 * b ∨ 10 + 210 * b + 210 ≤ j) → g2 j = g j) (hc : ∀ a c, hr h (y + 1) b = some a → hr h a 6 = some c → o2 a = 100 + b ∧ hr h2 a 6 = some c) (B : BoltR o2 h2 y g2 b) (N : Link o2 h2 aa nx g g2) (hz2 : hz h2 ≤ hz h + 100) (us2 : us G h2 ≤ us G h + 6000) : Ps G y ow h g2 ld wd (kpS kp) ((nx + 1) % 16) (cns g ps) h2 := by
  have h24 := I.1.1.2.2
  have h10 := I.1.2.2.2
  exact ⟨o2, C.bolt I.gw hb F x L2 to r (e1.trans C.2.2.1.1) (e3.trans C.2.2.1.2) ge (fun i k => LE.lies I.gw (ge 1 (by omega)) (fun t ht => LE.all (fun c hc => ge _ (by omega)) (I.gw.2.2.2 t ht).2.2.2.2.1)) hc B, K.push F (fun t ht => by omega) er e6 e7 N, F.zk (fun z => by unfold oT aT at z; omega), hz2, us2⟩
set_option maxRecDepth 100000 in
set_option maxHeartbeats 4000000 in
theorem gRow_bl {j n c : Nat} (hc : c < 206) (hn2 : n ≤ 200) : bl (gRow g j n) j c = if c = 3 then nI n else if 6 ≤ c ∧ c < 6 + n then 0 else bl g j c := by
  unfold bl gRow filG
  by_cases z : c = 3
  · rw [if_pos z, if_neg (by omega), z, upd0_same]
  · rw [if_neg z]
    by_cases z2 : 6 ≤ c ∧ c < 6 + n
    · rw [if_pos z2, if_pos (by omega)]
    · rw [if_neg z2, if_neg (by omega), upd0_ne (by omega)]
set_option maxRecDepth 100000 in
set_option maxHeartbeats 4000000 in
theorem row_fin {j n : Nat} {rn : Option Nat} {hB : AH} {oB : Nat → Nat} (C : Core ow h y g ld wd) (K : Acts ow h y g kp nx ps) (I : GI g) (rm : Rm G h 100 6000) (hj : j < nt (g 0)) (hn2 : n ≤ 200) (ha : hr h (y + 1) j = some a) (P : BoltP ow h a j (bl g j) (fun k => liesV g (nI j) (nI k)))
    (FB : Fr (oT nx (fun t => t = 100 + j ∨ t = 300 + j)) (upd0 ow (hz h) (2000 + nx)) (wq (mkA h (nI 1) (nI j) (nI 0) (nI 0)) (hz h) 5 (hr h a 4)) oB hB) (xB : Ext (wq (mkA h (nI 1) (nI j) (nI 0) (nI 0)) (hz h) 5 (hr h a 4)) hB) (LB : Lv oB hB) (toB : To (upd0 ow (hz h) (2000 + nx)) oB)
    (same : ∀ q, q < hz h + 1 → hi hB q = hi (wq (mkA h (nI 1) (nI j) (nI 0) (nI 0)) (hz h) 5 (hr h a 4)) q ∧ hr hB q = hr (wq (mkA h (nI 1) (nI j) (nI 0) (nI 0)) (hz h) 5 (hr h a 4)) q ∧ hf hB q = hf (wq (mkA h (nI 1) (nI j) (nI 0) (nI 0)) (hz h) 5 (hr h a 4)) q ∧ oB q = upd0 ow (hz h) (2000 + nx) q)
    (row2 : (rn = none ∧ n = 0) ∨ ∃ rr, rn = some rr ∧ rr = hz h + 1 ∧ oB rr = 300 + j ∧ hk hB rr = 21 ∧ hn hB rr = n ∧ 0 < n ∧ ∀ k, k < n → hi hB rr k = 0) (hzB : hz hB ≤ hz h + 2) (usB : us G hB ≤ us G h + 300) : Ps G y ow h (gRow g j n) ld wd (kpS kp) ((nx + 1) % 16) (cns g ps) (rmH (wq hB a 4 rn) y nx kp (hz h)) := by
  obtain ⟨C1, C2, -⟩ := id C
  have W := I.gw
  have h24 := W.1.2.2
  obtain ⟨⟨s1, s2, s3, s4, s5, s6⟩, ⟨-, -, b3⟩, -, -, -, -, -, ⟨t1, t2, t3⟩⟩ := id C2
  obtain ⟨k6, k7, hnx, hkp, -⟩ := id K
  have l7 := (C1 (y + 7) (by omega)).1
  obtain ⟨oa, ka, e0, e1, ef, e3, hrow, c, ec, oc, kc, nc, e5, eL⟩ := id P
  obtain ⟨w0, w1, w3⟩ := W.2.2.1 j hj
  have u1 := w1.2.2
  have u3 := w3.2.2
  have la := (C1 a (by omega)).1
  have nya : y ≠ a := fun z => by rw [z, oa] at s6; omega
  have n7a : y + 7 ≠ a := fun z => by rw [z, oa] at t3; omega
  have n1a : y + 1 ≠ a := fun z => by rw [z, oa] at b3; omega
  have hzA : hz (wq (mkA h (nI 1) (nI j) (nI 0) (nI 0)) (hz h) 5 (hr h a 4)) = hz h + 1 := rfl
  have xA : Ext h (wq (mkA h (nI 1) (nI j) (nI 0) (nI 0)) (hz h) 5 (hr h a 4)) := mkA_x h (nI 1) (nI j) (nI 0) (nI 0)
  have iAq : ∀ q, q ≠ hz h → hi (wq (mkA h (nI 1) (nI j) (nI 0) (nI 0)) (hz h) 5 (hr h a 4)) q = hi h q := fun q hq => (mkA_ne (k := nI 1) (o := nI j) (i := nI 0) (b := nI 0) hq).2.1
  have rAq : ∀ q, q ≠ hz h → hr (wq (mkA h (nI 1) (nI j) (nI 0) (nI 0)) (hz h) 5 (hr h a 4)) q = hr h q := fun q hq => by
    show up2 (hr (mkA h (nI 1) (nI j) (nI 0) (nI 0))) (hz h) 5 _ q = _
    rw [up2_a hq, (mkA_ne hq).2.2.1]
  have fAq : ∀ q, q ≠ hz h → hf (wq (mkA h (nI 1) (nI j) (nI 0) (nI 0)) (hz h) 5 (hr h a 4)) q = hf h q := fun q hq => (mkA_ne (k := nI 1) (o := nI j) (i := nI 0) (b := nI 0) hq).2.2.2.2
  have rA5 : hr (wq (mkA h (nI 1) (nI j) (nI 0) (nI 0)) (hz h) 5 (hr h a 4)) (hz h) 5 = hr h a 4 := by
    show up2 (hr (mkA h (nI 1) (nI j) (nI 0) (nI 0))) (hz h) 5 _ (hz h) 5 = _
    rw [up2_same]
  have FA : Fr (oT nx (fun t => t = 100 + j ∨ t = 300 + j)) ow h (upd0 ow (hz h) (2000 + nx)) (wq (mkA h (nI 1) (nI j) (nI 0) (nI 0)) (hz h) 5 (hr h a 4)) := Fr.tr (mkA_fr C1) (Fr.wq (by rw [upd0_same]; exact Or.inr (Or.inr (Or.inl (Or.inl rfl)))))
  have oBq : ∀ q, q ≠ hz h → q < hz h → oB q = ow q := fun q h1 h2 => by rw [(same q (by omega)).2.2.2, upd0_ne h1]
  have oBa : oB a = 100 + j := by rw [oBq a (by omega) la]; exact oa
  have oBy : oB y = 1 := by rw [oBq y (by omega) (by omega)]; exact s6
  have oB7 : oB (y + 7) = 4 := by rw [oBq (y + 7) (by omega) l7]; exact t3
  have m0 := mkA_v h (nI 1) (nI j) (nI 0) (nI 0)
  -- the heap at the end, without the tags
  have F3 : Fr (oT nx (fun t => t = 100 + j ∨ t = 300 + j)) ow h oB (rmH (wq hB a 4 rn) y nx kp (hz h)) := Fr.tr FA (Fr.tr FB (Fr.tr (Fr.wq (by rw [oBa]; exact Or.inr (Or.inr (Or.inr (Or.inl rfl))))) (rmH_fr oBy oB7)))
  have x3 : Ext h (rmH (wq hB a 4 rn) y nx kp (hz h)) := xA.tr (xB.tr ⟨Nat.le_refl _, fun _ _ => rfl⟩)
  have i3 : ∀ q, q < hz h → q ≠ y → hi (rmH (wq hB a 4 rn) y nx kp (hz h)) q = hi h q := fun q h1 h2 => by
    rw [rmH_i h2]
    show hi hB q = _
    rw [(same q (by omega)).1, iAq q (by omega)]
  have r3 : ∀ q, q < hz h → q ≠ y + 7 → q ≠ a → hr (rmH (wq hB a 4 rn) y nx kp (hz h)) q = hr h q := fun q h1 h2 h3 => by
    rw [rmH_r h2]
    show up2 (hr hB) a 4 rn q = _
    rw [up2_a h3, (same q (by omega)).2.1, rAq q (by omega)]
  have ra : hr (rmH (wq hB a 4 rn) y nx kp (hz h)) a = upd0 (hr h a) 4 rn := by
    rw [rmH_r (fun z => n7a z.symm)]
    show up2 (hr hB) a 4 rn a = _
    rw [up2_at, (same a (by omega)).2.1, rAq a (by omega)]
  have r7 : hr (rmH (wq hB a 4 rn) y nx kp (hz h)) (y + 7) = upd0 (hr h (y + 7)) nx (some (hz h)) := by
    rw [rmH_a]
    show upd0 (up2 (hr hB) a 4 rn (y + 7)) nx _ = _
    rw [up2_a n7a, (same (y + 7) (by omega)).2.1, rAq (y + 7) (by omega)]
  have y3 : ∀ q, q ≠ 6 → q ≠ 7 → hi (rmH (wq hB a 4 rn) y nx kp (hz h)) y q = hi h y q := fun q h1 h2 => by
    rw [rmH_y h1 h2]
    show hi hB y q = _
    rw [(same y (by omega)).1, iAq y (by omega)]
  have iN : hi (rmH (wq hB a 4 rn) y nx kp (hz h)) (hz h) = hi (mkA h (nI 1) (nI j) (nI 0) (nI 0)) (hz h) := by
    rw [rmH_i (by omega)]
    exact (same (hz h) (by omega)).1
  have rN5 : hr (rmH (wq hB a 4 rn) y nx kp (hz h)) (hz h) 5 = hr h a 4 := by
    rw [rmH_r (by omega)]
    show up2 (hr hB) a 4 rn (hz h) 5 = _
    rw [up2_a (by omega), (same (hz h) (by omega)).2.1]
    exact rA5
  have kN : hk (rmH (wq hB a 4 rn) y nx kp (hz h)) (hz h) = 0 := by
    show hk hB (hz h) = 0
    rw [xB.k (by omega)]
    exact hk_nw'
  have oN : oB (hz h) = 2000 + nx := by rw [(same (hz h) (by omega)).2.2.2, upd0_same]
  have fa : hf (rmH (wq hB a 4 rn) y nx kp (hz h)) a = hf h a := by
    show hf hB a = _
    rw [(same a (by omega)).2.2.1, fAq a (by omega)]
  have gb := fun c (hc : c < 206) => gRow_bl (g := g) (j := j) hc hn2
  have gl : nt (bl (gRow g j n) j 1) = nt (bl g j 1) := by rw [gb 1 (by omega), if_neg (by omega), if_neg (by omega)]
  have g3 : bl (gRow g j n) j 3 = nI n := by rw [gb 3 (by omega), if_pos rfl]
  have ge : ∀ q, (q < 10 + 210 * j ∨ 10 + 210 * j + 210 ≤ q) → gRow g j n q = g q := fun q hq => by
    unfold gRow filG
    rw [if_neg (by omega), upd0_ne (by omega)]
  have h10 := W.2.1.2.2
  have el : ∀ i k, liesV (gRow g j n) i k = liesV g i k := fun i k => LE.lies W (ge 1 (by omega)) (fun t ht => LE.all (fun c hc => ge _ (by omega)) (W.2.2.2 t ht).2.2.2.2.1)
  obtain ⟨cf1, cf2, cf3, cf4, -⟩ := F3.at_ oc (by omega) (fun q => by unfold oT aT at q; omega)
  -- with any tags that differ at an old row alone
  have go : ∀ oF : Nat → Nat, Fr (oT nx (fun t => t = 100 + j ∨ t = 300 + j)) ow h oF (rmH (wq hB a 4 rn) y nx kp (hz h)) → Lv oF (rmH (wq hB a 4 rn) y nx kp (hz h)) → To ow oF → (∀ q, some q ≠ hr h a 4 → oF q = oB q) → RowR oF (rmH (wq hB a 4 rn) y nx kp (hz h)) 21 (2100 + nx) (hr h a 4) (nt (bl g j 3)) (fun k => bl g j (6 + k)) → Ps G y ow h (gRow g j n) ld wd (kpS kp) ((nx + 1) % 16) (cns g ps) (rmH (wq hB a 4 rn) y nx kp (hz h)) := by
    intro oF F L to oq old
    have nr : ∀ q, (hk h q ≠ 21 ∨ hz h ≤ q) → some q ≠ hr h a 4 := fun q hq z => by
      rcases hrow with ⟨r1, -⟩ | ⟨r, r1, r2, r4, -⟩
      · rw [r1] at z
        cases z
      · rw [r1] at z
        cases z
        rcases hq with hq | hq
        · exact hq r4
        · have := (C1 q (by omega)).1
          omega
    refine Ps.bolt C K I hj F x3 L to (fun k => by rw [r3 y (by omega) (by omega) nya]) (y3 1 (by decide) (by decide)) (y3 3 (by decide) (by decide)) rmH_6 rmH_7 r7 ge (fun a' c' h1 h2 => ?_) ⟨a, by rw [r3 (y + 1) (by omega) (by omega) n1a]; exact ha, ?_⟩ ⟨by rw [oq _ (nr _ (Or.inr (Nat.le_refl _)))]; exact oN, kN, ?_⟩ ?_ ?_
    · cases ha.symm.trans h1
      cases ec.symm.trans h2
      refine ⟨by rw [oq a (nr a (Or.inl (by rw [ka]; decide)))]; exact oBa, ?_⟩
      rw [ra, upd0_ne (by decide)]
      exact ec
    · refine ⟨by rw [oq a (nr a (Or.inl (by rw [ka]; decide)))]; exact oBa, (x3.k la).trans ka, by rw [i3 a la (fun z => nya z.symm), e0, gb 0 (by omega), if_neg (by omega), if_neg (by omega)], by rw [i3 a la (fun z => nya z.symm), e1, gb 1 (by omega), if_neg (by omega), if_neg (by omega)], by rw [fa, ef, gb 2 (by omega), if_neg (by omega), if_neg (by omega)], by rw [i3 a la (fun z => nya z.symm), e3, gb 4 (by omega), if_neg (by omega), if_neg (by omega)], ?_, c, by rw [ra, upd0_ne (by decide)]; exact ec, by rw [oq c (nr c (Or.inl (by rw [kc]; decide)))]; exact cf1, cf2.trans kc, cf3.trans nc, by rw [i3 a la (fun z => nya z.symm), cf4, e5, gl], fun k hk => ?_⟩
      · rw [ra, upd0_same, g3, nt_nI (by omega)]
        rcases row2 with ⟨z1, z2⟩ | ⟨rr, z1, z0, z2, z3, z4, z5, z6⟩
        · exact Or.inl ⟨z1, z2⟩
        · refine Or.inr ⟨rr, z1, by rw [oq rr (nr rr (Or.inr (by omega)))]; exact z2, z3, z4, z5, fun k hk => ?_⟩
          show _ = bl (gRow g j n) j (6 + k)
          rw [rmH_i (by omega), gb (6 + k) (by omega), if_neg (by omega), if_pos (by omega)]
          exact z6 k hk
      · rw [gl] at hk
        show _ = liesV (gRow g j n) (nI j) (nI k)
        rw [cf4, el]
        exact eL k hk
    · rw [iN]
      exact Or.inr (Or.inl ⟨m0.1, j, n, m0.2.1, hj, hn2, rfl, by rw [rN5]; exact old⟩)
    · exact Nat.le_trans hzB (by omega)
    · exact Nat.le_trans usB (by omega)
  rcases hrow with ⟨r1, r2⟩ | ⟨r, r1, r2, r4, r5, r6, r8⟩
  · exact go oB F3 LB ((To.nw C1).tr toB) (fun _ _ => rfl) (Or.inl ⟨r1, r2⟩)
  · have lr := (C1 r (by omega)).1
    have oBr : oB r = 300 + j := by rw [oBq r (by omega) lr]; exact r2
    have nyr : r ≠ y := fun z => by rw [z, s6] at r2; omega
    refine go (upd0 oB r (2100 + nx)) (Fr.tr F3 (Fr.tag (by rw [oBr]; exact Or.inr (Or.inr (Or.inr (Or.inr rfl)))))) (Lv.tag (h := rmH (wq hB a 4 rn) y nx kp (hz h)) LB (by rw [oBr]; omega) (by rw [x3.k lr, r4]; decide)) (((To.nw C1).tr toB).tr (To.tag (by rw [oBr]; omega))) (fun q hq => upd0_ne (fun z => hq (by rw [z]; exact r1.symm))) (Or.inr ⟨r, r1, upd0_same _ _ _, (x3.k lr).trans r4, (x3.n lr).trans r5, r6, fun k hk => ?_⟩)
    rw [i3 r lr nyr]
    exact r8 k hk
set_option maxRecDepth 100000 in
set_option maxHeartbeats 4000000 in
theorem c_X8_row {v u : Int32} (C : Core ow h y g ld wd) (K : Acts ow h y g kp nx ps) (I : GI g) (rm : Rm G h 100 6000) (hq0 : rowOK g v u = false → Q (some (.int 0)) h) (hq1 : rowOK g v u = true → ∀ h2, Ps G y ow h (gRow g (nt v) (nt u)) ld wd (kpS kp) ((nx + 1) % 16) (cns g ps) h2 → Q (some (.int 1)) h2) : Rn G (d + 3) mX8_row 0 [(0, .ref y), (1, .int v), (2, .int u)] [] h Q := by
  obtain ⟨C1, C2, -⟩ := id C
  have W := I.gw
  have h24 := W.1.2.2
  obtain ⟨⟨s1, s2, s3, s4, s5, s6⟩, ⟨-, -, b3⟩, -, -, -, -, -, ⟨t1, t2, t3⟩⟩ := id C2
  obtain ⟨k6, k7, hnx, hkp, -⟩ := id K
  have l7 := (C1 (y + 7) (by omega)).1
  first | refine x_aload_n eX8_row_0 rfl rfl ?_ | refine x_aload_nN eX8_row_0 rfl rfl ?_
  refine x_iload_n eX8_row_1 rfl rfl ?_
  refine x_callV1 eX8_row_2 lk_X8_76 (by assumption) (Nat.le_of_ble_eq_true rfl) (Nat.le_of_ble_eq_true rfl) ?_
  refine Rn.deep (c_X8_boltNumbered (d := d) C W (fun q _ => ?_) (fun j a ej hj ha P _ => ?_)) (by omega)
  · first | refine x_astore_n eX8_row_5 rfl (by decide) rfl rfl ?_ | refine x_astore_nN eX8_row_5 rfl (by decide) rfl rfl ?_
    first | refine x_aload_n eX8_row_6 rfl rfl ?_ | refine x_aload_nN eX8_row_6 rfl rfl ?_
    refine x_ifnullN (tgt := 29) eX8_row_7 (by decide) ?_
    refine x_iconst (v := nI 0) eX8_row_29 (by decide) ?_
    refine x_zret eX8_row_30 rfl (by first | exact Or.inl rfl | exact Or.inr rfl | exact bI_or _ | assumption) ?_
    exact hq0 (by unfold rowOK; rw [q]; rfl)
  · subst ej
    obtain ⟨oa, ka, e0, e1, ef, e3, hrow, c, ec, oc, kc, nc, e5', eL⟩ := id P
    obtain ⟨cv, e5, hcv, hbare⟩ := cov_bare I hj P
    have hS : nt (nI j) = j := nt_nI (by omega)
    have hB := isB_of W hj
    obtain ⟨w0, w1, w3⟩ := W.2.2.1 j hj
    have u1 := w1.2.2
    have la := (C1 a (by omega)).1
    have nya : y ≠ a := fun z => by rw [z, oa] at s6; omega
    have n7a : y + 7 ≠ a := fun z => by rw [z, oa] at t3; omega
    have n1a : y + 1 ≠ a := fun z => by rw [z, oa] at b3; omega
    first | refine x_astore_n eX8_row_5 rfl (by decide) rfl rfl ?_ | refine x_astore_nN eX8_row_5 rfl (by decide) rfl rfl ?_
    first | refine x_aload_n eX8_row_6 rfl rfl ?_ | refine x_aload_nN eX8_row_6 rfl rfl ?_
    refine x_ifnullR eX8_row_7 ?_
    refine x_iload_n eX8_row_10 rfl rfl ?_
    refine x_iconst (v := nI 0) eX8_row_11 (by decide) ?_
    first | refine x_aload_n eX8_row_12 rfl rfl ?_ | refine x_aload_nN eX8_row_12 rfl rfl ?_
    first | refine x_getIe eX8_row_13 fk_X8_80 (by decide) (by assumption) (by assumption) ?_ | refine x_getI eX8_row_13 fk_X8_80 (by decide) (by assumption) ?_
    refine x_callS3 eX8_row_16 lk_X8_51 (Nat.le_of_ble_eq_true rfl) (Nat.le_of_ble_eq_true rfl) ?_
    refine Rn.deep (c_X8_isWithin (d := d) (fun _ => ?_)) (by omega)
    first | refine x_if_eqB (tgt := 29) eX8_row_19 (by decide) (by with_reducible rfl) (fun cq1 => ?_) (fun cq1 => ?_) | refine x_if_eq (tgt := 29) eX8_row_19 (by decide) (fun cq1 => ?_) (fun cq1 => ?_)
    · refine x_iconst (v := nI 0) eX8_row_29 (by decide) ?_
      refine x_zret eX8_row_30 rfl (by first | exact Or.inl rfl | exact Or.inr rfl | exact bI_or _ | assumption) ?_
      exact hq0 (by unfold rowOK; rw [hS, show inR u 0 (bl g j 1) = false from cq1]; simp)
    · obtain ⟨n, -, hn1, rfl⟩ := inR_N (lo := 0) cq1 w1.1 (by omega) (by omega)
      have hN : nt (nI n) = n := nt_nI (by omega)
      clear e5'
      first | refine x_aload_n eX8_row_22 rfl rfl ?_ | refine x_aload_nN eX8_row_22 rfl rfl ?_
      first | refine x_getIe eX8_row_23 fk_X8_83 (by decide) (by assumption) (by assumption) ?_ | refine x_getI eX8_row_23 fk_X8_83 (by decide) (by assumption) ?_
      refine x_if_le (tgt := 31) eX8_row_26 (by decide) (fun cq2 => ?_) (fun cq2 => ?_)
      · have hcv0 : cv = 0 := by
          rcases Nat.eq_zero_or_pos cv with z | z
          · exact z
          · exact absurd cq2 (nI_nle z (by omega))
        have hok : rowOK g (nI j) (nI n) = true := by
          unfold rowOK
          rw [hB, hS, show inR (nI n) 0 (bl g j 1) = true from cq1, hbare.mp hcv0]
          rfl
        have hr1 : hz h < gB G + 600000 ∧ us G h + 8 ≤ 7302250 := ⟨by have := rm.2.1; omega, by have := rm.2.2; omega⟩
        have knN : hk (nw h 0 8) (hz h) = 0 := hk_nw'
        have kaN : hk (nw h 0 8) a = 1 := by rw [hk_nw (by omega)]; exact ka
        have kyN : hk (nw h 0 8) y = 7 := by rw [hk_nw (by omega)]; exact s1
        have raN : hr (mkA h (nI 1) (nI j) (nI 0) (nI 0)) a 4 = hr h a 4 := by rw [(mkA_ne (by omega)).2.2.1]
        have hzA : hz (mkA h (nI 1) (nI j) (nI 0) (nI 0)) = hz h + 1 := rfl
        have usA : us G (mkA h (nI 1) (nI j) (nI 0) (nI 0)) = us G h + 8 := mkA_us rm.1
        have L1 := mkA_lv (t := 2000 + nx) (k := nI 1) (o := nI j) (i := nI 0) (b := nI 0) C1
        have hq1' := hq1 hok
        rw [hS, hN] at hq1'
        have fin1 : ∀ ro : Option Nat, ro = hr h a 4 → n = 0 → Q (some (.int 1)) (rmH (wq (wq (mkA h (nI 1) (nI j) (nI 0) (nI 0)) (hz h) 5 ro) a 4 none) y nx kp (hz h)) := fun ro ero en => by
          subst ero
          exact hq1' _ (row_fin C K I rm hj (by omega) ha P Fr.rf (Ext.rf _) L1 To.rf (fun q hq => ⟨rfl, rfl, rfl, rfl⟩) (Or.inl ⟨rfl, en⟩) (by show hz h + 1 ≤ _; omega) (by show us G (mkA h (nI 1) (nI j) (nI 0) (nI 0)) ≤ _; omega))
        have fin2 : ∀ ro : Option Nat, ro = hr h a 4 → 0 < n → Q (some (.int 1)) (rmH (wq (nw (wq (mkA h (nI 1) (nI j) (nI 0) (nI 0)) (hz h) 5 ro) 21 n) a 4 (some (hz h + 1))) y nx kp (hz h)) := fun ro ero en => by
          subst ero
          refine hq1' _ (row_fin C K I rm hj (by omega) ha P (Fr.nw (t := 300 + j) L1) (Ext.nw _ 21 n) (Lv.nw L1 (fun z => by cases z)) (To.nw L1) (fun q hq => ?_) (Or.inr ⟨hz h + 1, rfl, rfl, upd0_same _ _ _, hk_nw', hn_nw', en, fun k hk => ?_⟩) (by show hz h + 1 + 1 ≤ _; omega) ?_)
          · have e := nw_ne (h := wq (mkA h (nI 1) (nI j) (nI 0) (nI 0)) (hz h) 5 (hr h a 4)) (kd := 21) (n := n) (b := q) (by show q ≠ hz h + 1; omega)
            exact ⟨e.2.1, e.2.2.1, e.2.2.2.2, upd0_ne (by show q ≠ hz h + 1; omega)⟩
          · exact if_pos rfl
          · rw [us_nw (by show gB G ≤ hz h + 1; have := rm.1; omega)]
            show us G (mkA h (nI 1) (nI j) (nI 0) (nI 0)) + n ≤ _
            omega
        have c_rm : ∀ (hB : AH) (rn : Option Nat), hk hB y = 7 → hr hB y 5 = some (y + 7) → hk hB (y + 7) = 30 → hn hB (y + 7) = 16 → hi hB y 6 = nI nx → hi hB y 7 = nI kp → hk hB (hz h) = 0 → Q (some (.int 1)) (rmH (wq hB a 4 rn) y nx kp (hz h)) → Rn G (d + 3) mX8_row 68 [(0, .ref y), (1, .int (nI j)), (2, .int (nI n)), (3, .ref a), (4, .ref (hz h))] [] (wq hB a 4 rn) Q := fun hB rn q1 q2 q3 q4 q5 q6 q7 q8 => by
          have q1' : hk (wq hB a 4 rn) y = 7 := q1
          first | refine x_aload_n eX8_row_68 rfl rfl ?_ | refine x_aload_nN eX8_row_68 rfl rfl ?_
          first | refine x_aload eX8_row_69 rfl ?_ | refine x_aloadN eX8_row_69 rfl ?_
          refine x_callV1 eX8_row_71 lk_X8_72 (by assumption) (Nat.le_of_ble_eq_true rfl) (Nat.le_of_ble_eq_true rfl) ?_
          refine Rn.deep (c_X8_remember (d := d) (h := wq hB a 4 rn) q1 (by show up2 (hr hB) a 4 rn y 5 = _; rw [up2_a nya]; exact q2) q3 q4 q5 q6 hnx hkp q7 (fun _ => ?_)) (by omega)
          refine x_iconst (v := nI 1) eX8_row_74 (by decide) ?_
          refine x_zret eX8_row_75 rfl (by first | exact Or.inl rfl | exact Or.inr rfl | exact bI_or _ | assumption) ?_
          exact q8
        have t1N : hk (nw h 0 8) (y + 7) = 30 := by rw [hk_nw (by omega)]; exact t1
        have t2N : hn (nw h 0 8) (y + 7) = 16 := by rw [hn_nw l7]; exact t2
        have c_no : ∀ ro : Option Nat, ro = hr h a 4 → n = 0 → Rn G (d + 3) mX8_row 68 [(0, .ref y), (1, .int (nI j)), (2, .int (nI n)), (3, .ref a), (4, .ref (hz h))] [] (wq (wq (mkA h (nI 1) (nI j) (nI 0) (nI 0)) (hz h) 5 ro) a 4 none) Q := fun ro ero en => c_rm (wq (mkA h (nI 1) (nI j) (nI 0) (nI 0)) (hz h) 5 ro) none kyN (by show up2 (hr (mkA h (nI 1) (nI j) (nI 0) (nI 0))) (hz h) 5 ro y 5 = _; rw [up2_a (by omega), (mkA_ne (by omega)).2.2.1]; exact s5) t1N t2N (by show hi (mkA h (nI 1) (nI j) (nI 0) (nI 0)) y 6 = _; rw [(mkA_ne (by omega)).2.1]; exact k6) (by show hi (mkA h (nI 1) (nI j) (nI 0) (nI 0)) y 7 = _; rw [(mkA_ne (by omega)).2.1]; exact k7) knN (fin1 ro ero en)
        have c_new : ∀ ro : Option Nat, ro = hr h a 4 → 0 < n → Rn G (d + 3) mX8_row 68 [(0, .ref y), (1, .int (nI j)), (2, .int (nI n)), (3, .ref a), (4, .ref (hz h))] [] (wq (nw (wq (mkA h (nI 1) (nI j) (nI 0) (nI 0)) (hz h) 5 ro) 21 n) a 4 (some (hz h + 1))) Q := fun ro ero en => by
          have nq : ∀ q, q < hz h + 1 → q ≠ hz (wq (mkA h (nI 1) (nI j) (nI 0) (nI 0)) (hz h) 5 ro) := fun q hq => by show q ≠ hz h + 1; omega
          refine c_rm (nw (wq (mkA h (nI 1) (nI j) (nI 0) (nI 0)) (hz h) 5 ro) 21 n) (some (hz h + 1)) ?_ ?_ ?_ ?_ ?_ ?_ ?_ (fin2 ro ero en)
          · rw [hk_nw (nq y (by omega))]; exact kyN
          · rw [(nw_ne (nq y (by omega))).2.2.1]
            show up2 (hr (mkA h (nI 1) (nI j) (nI 0) (nI 0))) (hz h) 5 ro y 5 = _
            rw [up2_a (by omega), (mkA_ne (by omega)).2.2.1]
            exact s5
          · rw [hk_nw (nq (y + 7) (by omega))]; exact t1N
          · rw [hn_nw (by show y + 7 < hz h + 1; omega)]; exact t2N
          · rw [(nw_ne (nq y (by omega))).2.1]
            show hi (mkA h (nI 1) (nI j) (nI 0) (nI 0)) y 6 = _
            rw [(mkA_ne (by omega)).2.1]
            exact k6
          · rw [(nw_ne (nq y (by omega))).2.1]
            show hi (mkA h (nI 1) (nI j) (nI 0) (nI 0)) y 7 = _
            rw [(mkA_ne (by omega)).2.1]
            exact k7
          · rw [hk_nw (nq (hz h) (by omega))]; exact knN
        have kaM : ∀ ro : Option Nat, hk (nw (wq (mkA h (nI 1) (nI j) (nI 0) (nI 0)) (hz h) 5 ro) 21 n) a = 1 := fun ro => by
          rw [hk_nw (by show a ≠ hz h + 1; omega)]
          exact kaN
        have hr2 : ∀ ro : Option Nat, hz (wq (mkA h (nI 1) (nI j) (nI 0) (nI 0)) (hz h) 5 ro) < gB G + 600000 ∧ us G (wq (mkA h (nI 1) (nI j) (nI 0) (nI 0)) (hz h) 5 ro) + n ≤ 7302250 := fun ro => ⟨by show hz h + 1 < _; have := rm.2.1; omega, by show us G (mkA h (nI 1) (nI j) (nI 0) (nI 0)) + n ≤ _; have := rm.2.2; omega⟩
        rcases hrow with ⟨er, -⟩ | ⟨ro, er, -⟩
        · rw [er] at raN
          have w68 := c_no none er.symm
          have w69 := c_new none er.symm
          have kaM := kaM none
          have hr2 := hr2 none
          refine x_new (ci := 0) eX8_row_31 rfl ck_X8_35 (by first | assumption | omega) ?_
          refine x_dup eX8_row_34 rfl ?_
          refine x_iconst (v := nI 1) eX8_row_35 (by decide) ?_
          refine x_iload_n eX8_row_36 rfl rfl ?_
          refine x_iconst (v := nI 0) eX8_row_37 (by decide) ?_
          refine x_iconst (v := nI 0) eX8_row_38 (by decide) ?_
          refine x_callI4 eX8_row_39 lk_X8_69 (Nat.le_of_ble_eq_true rfl) (Nat.le_of_ble_eq_true rfl) ?_
          refine Rn.deep (c_X0_init (d := d) knN (fun _ => ?_)) (by omega)
          first | refine x_astore eX8_row_42 (by decide) rfl rfl ?_ | refine x_astoreN eX8_row_42 (by decide) rfl rfl ?_
          first | refine x_aload eX8_row_44 rfl ?_ | refine x_aloadN eX8_row_44 rfl ?_
          first | refine x_aload_n eX8_row_46 rfl rfl ?_ | refine x_aload_nN eX8_row_46 rfl rfl ?_
          first | refine x_getR eX8_row_47 fk_X8_86 rfl (by assumption) (by assumption) ?_ | refine x_getN eX8_row_47 fk_X8_86 rfl (by assumption) (by assumption) ?_
          first | refine x_putR eX8_row_50 fk_X8_90 (by decide) rfl ⟨_, rfl, Or.inl rfl⟩ (by assumption) ?_ | refine x_putN eX8_row_50 fk_X8_90 (by decide) rfl ⟨_, rfl, Or.inl rfl⟩ (by assumption) ?_
          first | refine x_aload_n eX8_row_53 rfl rfl ?_ | refine x_aload_nN eX8_row_53 rfl rfl ?_
          refine x_iload_n eX8_row_54 rfl rfl ?_
          refine x_if_le (tgt := 64) eX8_row_55 (by decide) (fun cq1 => ?_) (fun cq1 => ?_)
          · refine x_null eX8_row_64 ?_
            first | refine x_putR eX8_row_65 fk_X8_86 (by decide) rfl ⟨_, rfl, Or.inl rfl⟩ (by assumption) ?_ | refine x_putN eX8_row_65 fk_X8_86 (by decide) rfl ⟨_, rfl, Or.inl rfl⟩ (by assumption) ?_
            refine Rn.weak (w68 (by rcases Nat.eq_zero_or_pos n with z | z; exact z; exact absurd cq1 (nI_nle z (by omega)))) (by repeat' first | exact fun _ h => absurd h List.not_mem_nil | refine List.forall_mem_cons.mpr ⟨rfl, ?_⟩)
          · refine x_iload_n eX8_row_58 rfl rfl ?_
            refine x_newaN (kd := 21) eX8_row_59 (by decide) rfl ak_21 (by with_reducible rfl) (by omega) (by first | assumption | omega) ?_
            refine x_goto (tgt := 65) eX8_row_61 (by decide) ?_
            first | refine x_putR eX8_row_65 fk_X8_86 (by decide) rfl ⟨_, rfl, Or.inl rfl⟩ (by assumption) ?_ | refine x_putN eX8_row_65 fk_X8_86 (by decide) rfl ⟨_, rfl, Or.inl rfl⟩ (by assumption) ?_
            refine Rn.weak (w69 (by rcases Nat.eq_zero_or_pos n with z | z; exact absurd (show nI n ≤ 0 by rw [z]; decide) cq1; exact z)) (by repeat' first | exact fun _ h => absurd h List.not_mem_nil | refine List.forall_mem_cons.mpr ⟨rfl, ?_⟩)
        · rw [er] at raN
          have w68 := c_no (some ro) er.symm
          have w69 := c_new (some ro) er.symm
          have kaM := kaM (some ro)
          have hr2 := hr2 (some ro)
          refine x_new (ci := 0) eX8_row_31 rfl ck_X8_35 (by first | assumption | omega) ?_
          refine x_dup eX8_row_34 rfl ?_
          refine x_iconst (v := nI 1) eX8_row_35 (by decide) ?_
          refine x_iload_n eX8_row_36 rfl rfl ?_
          refine x_iconst (v := nI 0) eX8_row_37 (by decide) ?_
          refine x_iconst (v := nI 0) eX8_row_38 (by decide) ?_
          refine x_callI4 eX8_row_39 lk_X8_69 (Nat.le_of_ble_eq_true rfl) (Nat.le_of_ble_eq_true rfl) ?_
          refine Rn.deep (c_X0_init (d := d) knN (fun _ => ?_)) (by omega)
          first | refine x_astore eX8_row_42 (by decide) rfl rfl ?_ | refine x_astoreN eX8_row_42 (by decide) rfl rfl ?_
          first | refine x_aload eX8_row_44 rfl ?_ | refine x_aloadN eX8_row_44 rfl ?_
          first | refine x_aload_n eX8_row_46 rfl rfl ?_ | refine x_aload_nN eX8_row_46 rfl rfl ?_
          first | refine x_getR eX8_row_47 fk_X8_86 rfl (by assumption) (by assumption) ?_ | refine x_getN eX8_row_47 fk_X8_86 rfl (by assumption) (by assumption) ?_
          first | refine x_putR eX8_row_50 fk_X8_90 (by decide) rfl ⟨_, rfl, Or.inl rfl⟩ (by assumption) ?_ | refine x_putN eX8_row_50 fk_X8_90 (by decide) rfl ⟨_, rfl, Or.inl rfl⟩ (by assumption) ?_
          first | refine x_aload_n eX8_row_53 rfl rfl ?_ | refine x_aload_nN eX8_row_53 rfl rfl ?_
          refine x_iload_n eX8_row_54 rfl rfl ?_
          refine x_if_le (tgt := 64) eX8_row_55 (by decide) (fun cq2 => ?_) (fun cq2 => ?_)
          · refine x_null eX8_row_64 ?_
            first | refine x_putR eX8_row_65 fk_X8_86 (by decide) rfl ⟨_, rfl, Or.inl rfl⟩ (by assumption) ?_ | refine x_putN eX8_row_65 fk_X8_86 (by decide) rfl ⟨_, rfl, Or.inl rfl⟩ (by assumption) ?_
            refine Rn.weak (w68 (by rcases Nat.eq_zero_or_pos n with z | z; exact z; exact absurd cq2 (nI_nle z (by omega)))) (by repeat' first | exact fun _ h => absurd h List.not_mem_nil | refine List.forall_mem_cons.mpr ⟨rfl, ?_⟩)
          · refine x_iload_n eX8_row_58 rfl rfl ?_
            refine x_newaN (kd := 21) eX8_row_59 (by decide) rfl ak_21 (by with_reducible rfl) (by omega) (by first | assumption | omega) ?_
            refine x_goto (tgt := 65) eX8_row_61 (by decide) ?_
            first | refine x_putR eX8_row_65 fk_X8_86 (by decide) rfl ⟨_, rfl, Or.inl rfl⟩ (by assumption) ?_ | refine x_putN eX8_row_65 fk_X8_86 (by decide) rfl ⟨_, rfl, Or.inl rfl⟩ (by assumption) ?_
            refine Rn.weak (w69 (by rcases Nat.eq_zero_or_pos n with z | z; exact absurd (show nI n ≤ 0 by rw [z]; decide) cq2; exact z)) (by repeat' first | exact fun _ h => absurd h List.not_mem_nil | refine List.forall_mem_cons.mpr ⟨rfl, ?_⟩)
      · have hcv0 : ¬ cv = 0 := fun z => cq2 (by rw [z]; decide)
        refine x_iconst (v := nI 0) eX8_row_29 (by decide) ?_
        refine x_zret eX8_row_30 rfl (by first | exact Or.inl rfl | exact Or.inr rfl | exact bI_or _ | assumption) ?_
        exact hq0 (by
          unfold rowOK
          cases z : bareV g (nI j) with
          | false => simp
          | true => exact absurd (hbare.mpr z) hcv0)
end ACT5

