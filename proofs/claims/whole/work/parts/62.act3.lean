/-! ===== acts on a sail: line, patch ===== -/
set_option maxRecDepth 100000 in
set_option maxHeartbeats 4000000 in
theorem liesV_eq0 {g g2 : Nat → Int32} {b k : Int32} (e1 : g2 1 = g 1) (e : ∀ s, s < nt (g 1) → fstN (onB g2 b k s) (np g2 s) = fstN (onB g b k s) (np g s)) : liesV g2 b k = liesV g b k := by
  have e2 : fstN (fun s => (fstN (onB g2 b k s) (np g2 s)).isSome) (nt (g2 1)) = fstN (fun s => (fstN (onB g b k s) (np g s)).isSome) (nt (g 1)) := by
    rw [e1]
    exact fstN_eq (fun s hs => by rw [e s hs])
  unfold liesV
  rw [e2]
  rcases fstN_spec (P := fun s => (fstN (onB g b k s) (np g s)).isSome) (n := nt (g 1)) with ⟨z, -⟩ | ⟨i, z, z1, -, -⟩
  · rw [z]
  · rw [z]
    show nI (100 * i + (fstN (onB g2 b k i) (np g2 i)).getD 0) = nI (100 * i + (fstN (onB g b k i) (np g i)).getD 0)
    rw [e i z1]
set_option maxRecDepth 100000 in
set_option maxHeartbeats 4000000 in
theorem fstN_f {P : Nat → Bool} {n : Nat} (h : P n = false) : fstN P (n + 1) = fstN P n := by
  rw [fstN, h]
  cases fstN P n <;> rfl
set_option maxRecDepth 100000 in
set_option maxHeartbeats 4000000 in
theorem onB_m1 {g : Nat → Int32} {b s i : Nat} {k : Int32} (hb : b < 2 ^ 31) (h : sl g s (300 + i) = -1) : onB g (nI b) k s i = false := by
  unfold onB
  rw [h, decide_eq_false, Bool.false_and]
  intro z
  have := nI_pos' hb
  rw [← z] at this
  exact absurd this (by decide)
section ACT3
variable {G : GG} {d : Nat} {h h2 : AH} {Q : Option Value → AH → Prop} {ow o2 : Nat → Nat} {y : Nat} {g g2 ld wd : Nat → Int32} {kp nx s a : Nat} {ps : Nat → Nat → Int32} {T : Nat → Prop}
set_option maxRecDepth 100000 in
set_option maxHeartbeats 4000000 in
theorem c_X8_line {v z : Int32} (C : Core ow h y g ld wd) (K : Acts ow h y g kp nx ps) (I : GI g) (rm : Rm G h 100 6000) (hq0 : lineOK g v z = false → Q (some (.int (-1))) h) (hq1 : lineOK g v z = true → ∀ h2, Ps G y ow h (gLine g (nt v) z) ld wd (kpS kp) ((nx + 1) % 16) (cns g ps) h2 → Q (some (.int (nI (nt (sl g (nt v) 12) + 1)))) h2) : Rn G (d + 3) mX8_line 0 [(0, .ref y), (1, .int v), (2, .int z)] [] h Q := by
  obtain ⟨C1, C2, -⟩ := id C
  have W := I.gw
  have h10 := W.2.1.2.2
  obtain ⟨⟨s1, s2, s3, s4, s5, s6⟩, -, ⟨-, -, b3⟩, -, -, -, -, ⟨t1, t2, t3⟩⟩ := id C2
  obtain ⟨k6, k7, hnx, hkp, -⟩ := id K
  have l7 := (C1 (y + 7) (by omega)).1
  first | refine x_aload_n eX8_line_0 rfl rfl ?_ | refine x_aload_nN eX8_line_0 rfl rfl ?_
  refine x_iload_n eX8_line_1 rfl rfl ?_
  refine x_callV1 eX8_line_2 lk_X8_149 (by assumption) (Nat.le_of_ble_eq_true rfl) (Nat.le_of_ble_eq_true rfl) ?_
  refine Rn.deep (c_X8_sailNumbered (d := d) C W (fun q _ => ?_) (fun j a ej hj ha P _ => ?_)) (by omega)
  · first | refine x_astore_n eX8_line_5 rfl (by decide) rfl rfl ?_ | refine x_astore_nN eX8_line_5 rfl (by decide) rfl rfl ?_
    first | refine x_aload_n eX8_line_6 rfl rfl ?_ | refine x_aload_nN eX8_line_6 rfl rfl ?_
    refine x_ifnullN (tgt := 38) eX8_line_7 (by decide) ?_
    refine x_iconst (v := (-1)) eX8_line_38 (by decide) ?_
    refine x_iret eX8_line_39 rfl ?_
    exact hq0 (by unfold lineOK; rw [q]; rfl)
  · subst ej
    obtain ⟨E, Cc, Ll⟩ := id P
    obtain ⟨oa, ka, -, -, e2⟩ := id E
    obtain ⟨e3, e5, e6, -⟩ := id Cc
    obtain ⟨e8, e9, e11, q, eq0, oq, kq, nq, eqv⟩ := id Ll
    have hS : nt (nI j) = j := nt_nI (by omega)
    have hB := isS_of W hj
    obtain ⟨sw, sx⟩ := I.2.2.1 j hj
    have la := (C1 a (by omega)).1
    have lq := (C1 q (by omega)).1
    obtain ⟨w12, -, u12⟩ := sw.2.2.2.2.2.2.2.2.2.2.1
    obtain ⟨n, hn⟩ : ∃ n, n = nt (sl g j 12) := ⟨_, rfl⟩
    rw [← hn] at w12 u12 eqv
    have e11 : hi h a 11 = nI n := e11.trans w12
    have evl : (if n = 0 then 0 else hi h q (n - 1)) = if n = 0 then 0 else sl g j (13 + n - 1) := by
      by_cases z : n = 0
      · rw [if_pos z, if_pos z]
      · rw [if_neg z, if_neg z, eqv (n - 1) (by omega), show 13 + (n - 1) = 13 + n - 1 by omega]
    have ok4 : inR z 1 (sl g j 5) = true → (!decide (sl g j 12 = 3) && (decide (sl g j 12 ≤ 0) || decide (sl g j (13 + nt (sl g j 12) - 1) < z))) = (decide (n < 3) && decide ((if n = 0 then 0 else hi h q (n - 1)) < z)) := fun hin => by
      have d3 : decide (sl g j 12 = 3) = decide (n = 3) := by
        rw [w12]
        exact decide_eq_decide.mpr (nI_eq (b := 3) (by omega) (by omega))
      rw [evl, ← hn, d3]
      rcases Nat.eq_zero_or_pos n with z0 | z0
      · have hz1 : (0 : Int32) < z := by
          unfold inR at hin
          simp only [Bool.and_eq_true, decide_eq_true_eq] at hin
          exact Int32.lt_of_lt_of_le (by decide) hin.1
        rw [if_pos z0, w12, z0, decide_eq_true hz1, decide_eq_true (show nI 0 ≤ 0 by decide)]
        rfl
      · rw [if_neg (by omega), w12, decide_eq_false (nI_nle z0 (by omega)), Bool.false_or]
        congr 1
        by_cases z3 : n = 3
        · rw [decide_eq_true z3, decide_eq_false (by omega)]
          rfl
        · rw [decide_eq_false z3, decide_eq_true (by omega)]
          rfl
    first | refine x_astore_n eX8_line_5 rfl (by decide) rfl rfl ?_ | refine x_astore_nN eX8_line_5 rfl (by decide) rfl rfl ?_
    first | refine x_aload_n eX8_line_6 rfl rfl ?_ | refine x_aload_nN eX8_line_6 rfl rfl ?_
    refine x_ifnullR eX8_line_7 ?_
    first | refine x_aload_n eX8_line_10 rfl rfl ?_ | refine x_aload_nN eX8_line_10 rfl rfl ?_
    first | refine x_getIe eX8_line_11 fk_X8_186 (by decide) (by assumption) (by assumption) ?_ | refine x_getI eX8_line_11 fk_X8_186 (by decide) (by assumption) ?_
    refine x_iconst (v := nI 2) eX8_line_14 (by decide) ?_
    first | refine x_icmp_eqN (tgt := 38) eX8_line_15 (by decide) (by with_reducible rfl) (by with_reducible rfl) (by omega) (by omega) (fun cq1 => ?_) (fun cq1 => ?_) | refine x_icmp_eq (tgt := 38) eX8_line_15 (by decide) (fun cq1 => ?_) (fun cq1 => ?_)
    · refine x_iconst (v := (-1)) eX8_line_38 (by decide) ?_
      refine x_iret eX8_line_39 rfl ?_
      exact hq0 (by unfold lineOK; rw [hS, show decide (sl g j 0 = 2) = true from decide_eq_true cq1]; simp)
    · refine x_iload_n eX8_line_18 rfl rfl ?_
      refine x_iconst (v := nI 1) eX8_line_19 (by decide) ?_
      first | refine x_aload_n eX8_line_20 rfl rfl ?_ | refine x_aload_nN eX8_line_20 rfl rfl ?_
      first | refine x_getIe eX8_line_21 fk_X8_124 (by decide) (by assumption) (by assumption) ?_ | refine x_getI eX8_line_21 fk_X8_124 (by decide) (by assumption) ?_
      refine x_callS3 eX8_line_24 lk_X8_51 (Nat.le_of_ble_eq_true rfl) (Nat.le_of_ble_eq_true rfl) ?_
      refine Rn.deep (c_X8_isWithin (d := d) (fun _ => ?_)) (by omega)
      first | refine x_if_eqB (tgt := 38) eX8_line_27 (by decide) (by with_reducible rfl) (fun cq2 => ?_) (fun cq2 => ?_) | refine x_if_eq (tgt := 38) eX8_line_27 (by decide) (fun cq2 => ?_) (fun cq2 => ?_)
      · refine x_iconst (v := (-1)) eX8_line_38 (by decide) ?_
        refine x_iret eX8_line_39 rfl ?_
        exact hq0 (by unfold lineOK; rw [hS, show inR z 1 (sl g j 5) = false from cq2]; simp)
      · have hin : inR z 1 (sl g j 5) = true := cq2
        have ev : lineOK g (nI j) z = (decide (n < 3) && decide ((if n = 0 then 0 else hi h q (n - 1)) < z)) := by
          rw [← ok4 hin]
          unfold lineOK
          rw [hB, hS, show decide (sl g j 0 = 2) = false from decide_eq_false cq1, hin]
          rfl
        first | refine x_aload_n eX8_line_30 rfl rfl ?_ | refine x_aload_nN eX8_line_30 rfl rfl ?_
        refine x_iload_n eX8_line_31 rfl rfl ?_
        refine x_callV1 eX8_line_32 lk_X8_300 (by assumption) (Nat.le_of_ble_eq_true rfl) (Nat.le_of_ble_eq_true rfl) ?_
        refine Rn.deep (c_X5_addLine (d := d) ka e11 u12 eq0 kq nq (fun q1 _ => ?_) (fun q1 q2 _ => ?_)) (by omega)
        · first | refine x_if_neB (tgt := 40) eX8_line_35 (by decide) (by with_reducible rfl) (fun cq3 => ?_) (fun cq3 => ?_) | refine x_if_ne (tgt := 40) eX8_line_35 (by decide) (fun cq3 => ?_) (fun cq3 => ?_)
          · exact absurd rfl cq3
          · refine x_iconst (v := (-1)) eX8_line_38 (by decide) ?_
            refine x_iret eX8_line_39 rfl ?_
            refine hq0 ?_
            rw [ev]
            rcases q1 with q1 | q1
            · rw [decide_eq_false (by omega), Bool.false_and]
            · rw [decide_eq_false (Int32.not_lt.mpr q1), Bool.and_false]
        · have hok : lineOK g (nI j) z = true := by rw [ev, decide_eq_true q1, decide_eq_true q2]; rfl
          have naq : a ≠ q := fun z => by rw [z, oq] at oa; omega
          have nya : y ≠ a := fun z => by rw [z, oa] at s6; omega
          have nyq : y ≠ q := fun z => by rw [z, oq] at s6; omega
          have hMi : ∀ b, b ≠ a → b ≠ q → hi (wi (wi h q n z) a 11 (nI (n + 1))) b = hi h b := fun b h1 h2 => by
            show up2 (up2 (hi h) q n z) a 11 _ b = _
            rw [up2_a h1, up2_a h2]
          have hMa : hi (wi (wi h q n z) a 11 (nI (n + 1))) a = upd0 (hi h a) 11 (nI (n + 1)) := by
            show up2 (up2 (hi h) q n z) a 11 _ a = _
            rw [up2_at, up2_a naq]
          have hMq : hi (wi (wi h q n z) a 11 (nI (n + 1))) q = upd0 (hi h q) n z := by
            show up2 (up2 (hi h) q n z) a 11 _ q = _
            rw [up2_a (fun z => naq z.symm), up2_at]
          have k6M : hi (wi (wi h q n z) a 11 (nI (n + 1))) y 6 = nI nx := by rw [hMi y nya nyq]; exact k6
          have k7M : hi (wi (wi h q n z) a 11 (nI (n + 1))) y 7 = nI kp := by rw [hMi y nya nyq]; exact k7
          have FM : Fr (oT nx (fun t => t = 400 + j ∨ t = 470 + j)) ow h ow (wi (wi h q n z) a 11 (nI (n + 1))) := Fr.tr (Fr.wi (by rw [oq]; exact Or.inr (Or.inr (Or.inr (Or.inr rfl))))) (Fr.wi (by rw [oa]; exact Or.inr (Or.inr (Or.inr (Or.inl rfl)))))
          have hroom : hz (wi (wi h q n z) a 11 (nI (n + 1))) < gB G + 600000 ∧ us G (wi (wi h q n z) a 11 (nI (n + 1))) + 8 ≤ 7302250 := ⟨by show hz h < _; have := rm.2.1; omega, by show us G h + 8 ≤ _; have := rm.2.2; omega⟩
          have C1M : Lv ow (wi (wi h q n z) a 11 (nI (n + 1))) := C1
          have C2M : Sk ow (wi (wi h q n z) a 11 (nI (n + 1))) y := C2
          have hzM : hz (wi (wi h q n z) a 11 (nI (n + 1))) = hz h := rfl
          have usM : us G (wi (wi h q n z) a 11 (nI (n + 1))) = us G h := rfl
          have xM : Ext h (wi (wi h q n z) a 11 (nI (n + 1))) := (Ext.wi _ _ _ _).tr (Ext.wi _ _ _ _)
          have rM : ∀ b, hr (wi (wi h q n z) a 11 (nI (n + 1))) b = hr h b := fun _ => rfl
          have kM : ∀ b, hk (wi (wi h q n z) a 11 (nI (n + 1))) b = hk h b := fun _ => rfl
          generalize hMdef : wi (wi h q n z) a 11 (nI (n + 1)) = hM at *
          obtain ⟨F, x, L2, to, r, er, ry, r6, r7, ia, ra, oN, kN, iN, kA⟩ := act_only (nx := nx) (kp := kp) (k := nI 14) (o := nI j) (i := nI 0) (b := nI 0) (X := fun t => t = 400 + j ∨ t = 470 + j) C1M C2M
          have kyM : hk hM y = 7 := (kM y).trans s1
          have kaM : hk hM a = 4 := (kM a).trans ka
          have kyN : hk (nw hM 0 8) y = 7 := by rw [hk_nw (by omega)]; exact kyM
          have kaN : hk (raH hM y nx kp (nI 14) (nI j) (nI 0) (nI 0)) a = 4 := by rw [kA a (by omega)]; exact kaM
          have knN : hk (nw hM 0 8) (hz hM) = 0 := hk_nw'
          have i11 : hi (raH hM y nx kp (nI 14) (nI j) (nI 0) (nI 0)) a 11 = nI (n + 1) := by
            rw [ia a (fun z => nya z.symm) (by omega), hMa]
            exact upd0_same _ _ _
          first | refine x_if_neB (tgt := 40) eX8_line_35 (by decide) (by with_reducible rfl) (fun cq4 => ?_) (fun cq4 => ?_) | refine x_if_ne (tgt := 40) eX8_line_35 (by decide) (fun cq4 => ?_) (fun cq4 => ?_)
          · first | refine x_aload_n eX8_line_40 rfl rfl ?_ | refine x_aload_nN eX8_line_40 rfl rfl ?_
            refine x_new (ci := 0) eX8_line_41 rfl ck_X8_35 (by first | assumption | omega) ?_
            refine x_dup eX8_line_44 rfl ?_
            refine x_bipush (v := nI 14) eX8_line_45 (by decide) ?_
            refine x_iload_n eX8_line_47 rfl rfl ?_
            refine x_iconst (v := nI 0) eX8_line_48 (by decide) ?_
            refine x_iconst (v := nI 0) eX8_line_49 (by decide) ?_
            refine x_callI4 eX8_line_50 lk_X8_69 (Nat.le_of_ble_eq_true rfl) (Nat.le_of_ble_eq_true rfl) ?_
            refine Rn.deep (c_X0_init (d := d) knN (fun _ => ?_)) (by omega)
            refine x_callV1 eX8_line_53 lk_X8_72 (by assumption) (Nat.le_of_ble_eq_true rfl) (Nat.le_of_ble_eq_true rfl) ?_
            refine Rn.deep (c_remember (d := d) (k := nI 14) (o := nI j) (i := nI 0) (b := nI 0) C1M C2M k6M k7M hnx hkp (fun _ => ?_)) (by omega)
            first | refine x_aload_n eX8_line_56 rfl rfl ?_ | refine x_aload_nN eX8_line_56 rfl rfl ?_
            first | refine x_getIe eX8_line_57 fk_X8_203 (by decide) (by assumption) (by assumption) ?_ | refine x_getI eX8_line_57 fk_X8_203 (by decide) (by assumption) ?_
            refine x_iret eX8_line_60 rfl ?_
            have hq1' := hq1 hok
            rw [hS, ← hn] at hq1'
            refine hq1' _ ?_
            have F2 := Fr.tr FM F
            have sc : ∀ c, c ≠ 12 → c ≠ 13 + n → c < 390 → sl (gLine g j z) j c = sl g j c := fun c hc hc2 h3 => by
              unfold sl gLine
              rw [← hn, upd0_ne (by omega), upd0_ne (by omega)]
            have s12 : sl (gLine g j z) j 12 = nI (n + 1) := by
              unfold sl gLine
              rw [upd0_same, hn]
            have s13 : sl (gLine g j z) j (13 + n) = z := by
              unfold sl gLine
              rw [← hn, upd0_ne (by omega), upd0_same]
            have h40 : np g j ≤ 40 := sw.2.2.2.2.1
            have le : LE g (gLine g j z) j := ⟨by unfold np; rw [sc 8 (by omega) (by omega) (by omega), sc 9 (by omega) (by omega) (by omega)], fun i hi => by
              exact ⟨⟨fun c h1 h2 => sc c (by omega) (by omega) (by omega), fun c h1 h2 => sc c (by omega) (by omega) (by omega), sc _ (by omega) (by omega) (by omega), sc _ (by omega) (by omega) (by omega), sc _ (by omega) (by omega) (by omega)⟩, sc _ (by omega) (by omega) (by omega), sc _ (by omega) (by omega) (by omega)⟩⟩
            have ee : EE g (gLine g j z) j := ⟨fun c h1 h2 => sc c (by omega) (by omega) (by omega), fun c h1 h2 => sc c (by omega) (by omega) (by omega)⟩
            have ge : ∀ q, (q < 5050 + 390 * j ∨ 5050 + 390 * j + 390 ≤ q) → gLine g j z q = g q := fun q hq => by
              unfold gLine
              rw [← hn, upd0_ne (by omega), upd0_ne (by omega)]
            have n7a : a ≠ y + 7 := fun z => by rw [z, t3] at oa; omega
            have n7q : q ≠ y + 7 := fun z => by rw [z, t3] at oq; omega
            have iA : hi (raH hM y nx kp (nI 14) (nI j) (nI 0) (nI 0)) a = upd0 (hi h a) 11 (nI (n + 1)) := (ia a (fun z => nya z.symm) (by omega)).trans hMa
            have iQ : hi (raH hM y nx kp (nI 14) (nI j) (nI 0) (nI 0)) q = upd0 (hi h q) n z := (ia q (fun z => nyq z.symm) (by omega)).trans hMq
            have rA : hr (raH hM y nx kp (nI 14) (nI j) (nI 0) (nI 0)) a = hr h a := (ra a n7a (by omega)).trans (rM a)
            have oA : upd0 ow (hz hM) (2000 + nx) a = 400 + j := by rw [upd0_ne (by omega)]; exact oa
            have oQ : upd0 ow (hz hM) (2000 + nx) q = 470 + j := by rw [upd0_ne (by omega)]; exact oq
            refine Ps.sail C K I hj (F2.mono (oT_mono (fun t ht => by unfold sT; omega))) (xM.tr x) L2 to (fun k => (r k).trans (congrFun (rM y) k)) ((ry 1 (by decide) (by decide)).trans (by rw [hMi y nya nyq])) ((ry 3 (by decide) (by decide)).trans (by rw [hMi y nya nyq])) r6 r7 (er.trans (by rw [rM])) ge (fun i k _ _ => LE.one W hj ge le) ⟨a, by rw [ra (y + 2) (by omega) (by omega), rM]; exact ha, ?_, ?_, ?_⟩ ⟨oN, kN, ?_⟩ ?_ ?_
            · exact E.fr2 F2 (fun q => by unfold oT aT at q; omega) (fun q => by unfold oT aT at q; omega) (fun q => by unfold oT aT at q; omega) (fun q => by unfold oT aT at q; omega) oA kaN (by rw [rA]) (by rw [rA]) (by rw [iA]; exact upd0_ne (by decide)) sw ee
            · exact Cc.mod F2 (fun q => by unfold oT aT at q; omega) (fun q => by unfold oT aT at q; omega) (fun i hi q => by unfold oT aT at q; omega) sw le ee (fun i hi => sc _ (by omega) (by omega) (by omega)) (by rw [rA]) (by rw [rA]) (by rw [iA, upd0_ne (by decide), Cc.1, sc 0 (by omega) (by omega) (by omega)]) (by rw [iA, upd0_ne (by decide), Cc.2.1, sc 8 (by omega) (by omega) (by omega)]) (by rw [iA, upd0_ne (by decide), Cc.2.2.1, le.1]) (by rw [sc 0 (by omega) (by omega) (by omega)])
            · refine ⟨by rw [iA, upd0_ne (by decide), e8, sc 10 (by omega) (by omega) (by omega)], by rw [iA, upd0_ne (by decide), e9, sc 11 (by omega) (by omega) (by omega)], by rw [iA, upd0_same, s12], q, by rw [rA]; exact eq0, oQ, by rw [kA q (by omega), kM]; exact kq, ?_, fun m hm => ?_⟩
              · rw [((xM.tr x).n lq)]
                exact nq
              · rw [s12, nt_nI (by omega)] at hm
                rw [iQ]
                by_cases em : m = n
                · rw [em, upd0_same, s13]
                · rw [upd0_ne em, eqv m (by omega), sc (13 + m) (by omega) (by omega) (by omega)]
            · rw [iN]
              obtain ⟨m0, m1, m2, m3, m4⟩ := mkA_v hM (nI 14) (nI j) (nI 0) (nI 0)
              exact Or.inl (lk_line ⟨m0, j, z, m1, hj, by rw [← hn]; exact q1, rfl⟩)
            · show hz hM + 1 ≤ _
              omega
            · show us G (mkA hM (nI 14) (nI j) (nI 0) (nI 0)) ≤ _
              rw [mkA_us (by have := rm.1; omega)]
              omega
          · exact absurd cq4 (by decide)
end ACT3

