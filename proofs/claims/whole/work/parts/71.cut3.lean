/-! ===== acts: cut ===== -/
set_option maxRecDepth 100000 in
set_option maxHeartbeats 4000000 in
theorem pnN_lt {H net i : Nat} (hn : 1 ≤ net) (h : i < pnN H net) : i * net < H := by
  unfold pnN at h
  have h1 := (Nat.le_div_iff_mul_le (show 0 < net by omega)).mp (show i + 1 ≤ (H + net - 1) / net by omega)
  rw [Nat.add_mul, Nat.one_mul] at h1
  omega
set_option maxRecDepth 100000 in
set_option maxHeartbeats 4000000 in
theorem pnN_pos {H net : Nat} (hn : 1 ≤ net) (hH : 1 ≤ H) : 1 ≤ pnN H net := by
  unfold pnN
  exact (Nat.le_div_iff_mul_le (show 0 < net by omega)).mpr (by omega)
set_option maxRecDepth 100000 in
set_option maxHeartbeats 4000000 in
theorem gCut_sl {g : Nat → Int32} {j w b c : Nat} (hc : c < 390) : sl (gCut g j w b) j c = if c = 0 then 1 else if c = 6 then nI (w - b) else if c = 7 then nI b else if c = 8 then nI (pnN (nt (sl g j 5)) (w - b)) else sl g j c := by
  unfold sl gCut
  by_cases z8 : c = 8
  · rw [z8, upd0_same, if_neg (by omega), if_neg (by omega), if_neg (by omega), if_pos rfl]
    rfl
  · rw [upd0_ne (by omega)]
    by_cases z7 : c = 7
    · rw [z7, upd0_same, if_neg (by omega), if_neg (by omega), if_pos rfl]
    · rw [upd0_ne (by omega)]
      by_cases z6 : c = 6
      · rw [z6, upd0_same, if_neg (by omega), if_pos rfl]
      · rw [upd0_ne (by omega)]
        by_cases z0 : c = 0
        · rw [z0, upd0_same, if_pos rfl]
        · rw [upd0_ne (by omega), if_neg z0, if_neg z6, if_neg z7, if_neg z8]
section CUT3
variable {G : GG} {d : Nat} {h h2 : AH} {Q : Option Value → AH → Prop} {ow o2 : Nat → Nat} {y : Nat} {g g2 ld wd : Nat → Int32} {kp nx s a : Nat} {ps : Nat → Nat → Int32} {T : Nat → Prop}
set_option maxRecDepth 100000 in
set_option maxHeartbeats 4000000 in
theorem c_X8_cut {v w b : Int32} (C : Core ow h y g ld wd) (K : Acts ow h y g kp nx ps) (I : GI g) (rm : Rm G h 100 6000) (hq0 : cutOK g v w b = false → Q (some (.int (-1))) h) (hq1 : cutOK g v w b = true → ∀ h2, Ps G y ow h (gCut g (nt v) (nt w) (nt b)) ld wd (kpS kp) ((nx + 1) % 16) (cns g ps) h2 → Q (some (.int (nI (pnN (nt (sl g (nt v) 5)) (nt w - nt b))))) h2) : Rn G (d + 6) mX8_cut 0 [(0, .ref y), (1, .int v), (2, .int w), (3, .int b)] [] h Q := by
  obtain ⟨C1, C2, -⟩ := id C
  have W := I.gw
  have h10 := W.2.1.2.2
  have h24 := W.1.2.2
  obtain ⟨⟨s1, s2, s3, s4, s5, s6⟩, -, ⟨-, -, b3⟩, ⟨-, -, -, -, d5⟩, -, -, -, ⟨t1, t2, t3⟩⟩ := id C2
  obtain ⟨k6, k7, hnx, hkp, -⟩ := id K
  have l7 := (C1 (y + 7) (by omega)).1
  first | refine x_aload_n eX8_cut_0 rfl rfl ?_ | refine x_aload_nN eX8_cut_0 rfl rfl ?_
  refine x_iload_n eX8_cut_1 rfl rfl ?_
  refine x_iconst (v := nI 0) eX8_cut_2 (by decide) ?_
  first | refine x_callV2 eX8_cut_3 lk_X8_120 (by assumption) (Nat.le_of_ble_eq_true rfl) (Nat.le_of_ble_eq_true rfl) ?_ | refine x_callVw2 eX8_cut_3 lk_X8_120 (by assumption) (Nat.le_of_ble_eq_true rfl) (Nat.le_of_ble_eq_true rfl) (Nat.le_of_ble_eq_true rfl) ?_
  refine Rn.deep (c_X8_sailInState (d := d) C W (fun q _ => ?_) (fun j a ej hj h0 ha P _ => ?_)) (by omega)
  · first | refine x_astore eX8_cut_6 (by decide) rfl rfl ?_ | refine x_astoreN eX8_cut_6 (by decide) rfl rfl ?_
    first | refine x_aload eX8_cut_8 rfl ?_ | refine x_aloadN eX8_cut_8 rfl ?_
    refine x_ifnullN (tgt := 34) eX8_cut_10 (by decide) ?_
    refine x_iconst (v := (-1)) eX8_cut_34 (by decide) ?_
    refine x_iret eX8_cut_35 rfl ?_
    exact hq0 (by unfold cutOK isO; rw [show (isS g v && decide (sl g (nt v) 0 = 0)) = false from q]; simp)
  · subst ej
    have h0 : sl g j 0 = 0 := h0
    obtain ⟨E, Cc, Ll⟩ := id P
    obtain ⟨oa, ka, -, -, e2⟩ := id E
    have hS : nt (nI j) = j := nt_nI (by omega)
    have hB := isO_of W hj h0
    obtain ⟨sw, sx⟩ := I.2.2.1 j hj
    have np0 := sx.np0 h0
    have n89 := sx.1 h0
    have la := (C1 a (by omega)).1
    obtain ⟨w5, w51, w52⟩ := sw.2.1
    first | refine x_astore eX8_cut_6 (by decide) rfl rfl ?_ | refine x_astoreN eX8_cut_6 (by decide) rfl rfl ?_
    first | refine x_aload eX8_cut_8 rfl ?_ | refine x_aloadN eX8_cut_8 rfl ?_
    refine x_ifnullR eX8_cut_10 ?_
    refine x_iload_n eX8_cut_13 rfl rfl ?_
    refine x_iconst (v := nI 2) eX8_cut_14 (by decide) ?_
    refine x_bipush (v := nI 20) eX8_cut_15 (by decide) ?_
    refine x_callS3 eX8_cut_17 lk_X8_51 (Nat.le_of_ble_eq_true rfl) (Nat.le_of_ble_eq_true rfl) ?_
    refine Rn.deep (c_X8_isWithin (d := d) (fun _ => ?_)) (by omega)
    first | refine x_if_eqB (tgt := 34) eX8_cut_20 (by decide) (by with_reducible rfl) (fun cq1 => ?_) (fun cq1 => ?_) | refine x_if_eq (tgt := 34) eX8_cut_20 (by decide) (fun cq1 => ?_) (fun cq1 => ?_)
    · refine x_iconst (v := (-1)) eX8_cut_34 (by decide) ?_
      refine x_iret eX8_cut_35 rfl ?_
      exact hq0 (by unfold cutOK; rw [show inR w 2 20 = false from cq1]; simp)
    · obtain ⟨wn, wn1, wn2, rfl⟩ := inR_N (lo := 2) (hi := 20) cq1 rfl (by omega) (by omega)
      have hW : nt (nI wn) = wn := nt_nI (by omega)
      have ew1 : nI wn - 1 = nI (wn - 1) := pk_sub (b := 1) (by omega)
      refine x_iload_n eX8_cut_23 rfl rfl ?_
      refine x_iconst (v := nI 1) eX8_cut_24 (by decide) ?_
      refine x_iload_n eX8_cut_25 rfl rfl ?_
      refine x_iconst (v := nI 1) eX8_cut_26 (by decide) ?_
      first | refine x_isubN eX8_cut_27 (by with_reducible rfl) (by with_reducible rfl) (by omega) ?_ | refine x_isub eX8_cut_27 ?_
      refine x_callS3 eX8_cut_28 lk_X8_51 (Nat.le_of_ble_eq_true rfl) (Nat.le_of_ble_eq_true rfl) ?_
      refine Rn.deep (c_X8_isWithin (d := d) (fun _ => ?_)) (by omega)
      first | refine x_if_neB (tgt := 36) eX8_cut_31 (by decide) (by with_reducible rfl) (fun cq2 => ?_) (fun cq2 => ?_) | refine x_if_ne (tgt := 36) eX8_cut_31 (by decide) (fun cq2 => ?_) (fun cq2 => ?_)
      · obtain ⟨bn, bn1, bn2, rfl⟩ := inR_N (lo := 1) (hi := wn - 1) cq2 rfl (by omega) (by omega)
        have hBn : nt (nI bn) = bn := nt_nI (by omega)
        obtain ⟨pn, hpn⟩ : ∃ pn, pn = pnN (nt (sl g j 5)) (wn - bn) := ⟨_, rfl⟩
        have pub : pn ≤ 60 + 20 := by
          rw [hpn]
          unfold pnN
          exact Nat.le_trans (Nat.div_le_self _ _) (by omega)
        have ev : cutOK g (nI j) (nI wn) (nI bn) = (allN (fun y => decide (0 < acr g j y)) (nt (sl g j 5) + 1) && decide (pn ≤ 40)) := by
          unfold cutOK
          rw [show inR (nI wn) 2 20 = true from cq1, ew1, show inR (nI bn) 1 (nI (wn - 1)) = true from cq2, hB, hS, hW, hBn, ← hpn]
          rfl
        first | refine x_aload eX8_cut_36 rfl ?_ | refine x_aloadN eX8_cut_36 rfl ?_
        refine x_iload_n eX8_cut_38 rfl rfl ?_
        refine x_iload_n eX8_cut_39 rfl rfl ?_
        first | refine x_isubN eX8_cut_40 (by with_reducible rfl) (by with_reducible rfl) (by omega) ?_ | refine x_isub eX8_cut_40 ?_
        refine x_callV1 eX8_cut_41 lk_X8_157 (by assumption) (Nat.le_of_ble_eq_true rfl) (Nat.le_of_ble_eq_true rfl) ?_
        refine Rn.deep (c_X5_panelsOfHeight (d := d) E sw (by omega) (by omega) (fun _ => ?_)) (by omega)
        rw [← hpn]
        refine x_bipush (v := nI 40) eX8_cut_44 (by decide) ?_
        first | refine x_icmp_gtN (tgt := 57) eX8_cut_46 (by decide) (by with_reducible rfl) (by with_reducible rfl) (by omega) (by omega) (fun cq3 => ?_) (fun cq3 => ?_) | refine x_icmp_gt (tgt := 57) eX8_cut_46 (by decide) (fun cq3 => ?_) (fun cq3 => ?_)
        · refine x_iconst (v := (-1)) eX8_cut_57 (by decide) ?_
          refine x_iret eX8_cut_58 rfl ?_
          exact hq0 (by rw [ev, decide_eq_false (show ¬ pn ≤ 40 by omega), Bool.and_false])
        · first | refine x_aload eX8_cut_49 rfl ?_ | refine x_aloadN eX8_cut_49 rfl ?_
          refine x_callV0 eX8_cut_51 lk_X8_160 (by assumption) (Nat.le_of_ble_eq_true rfl) (Nat.le_of_ble_eq_true rfl) ?_
          refine Rn.deep (c_X5_edgesMeet (d := d) E sw (fun _ => ?_)) (by omega)
          first | refine x_if_eqB (tgt := 59) eX8_cut_54 (by decide) (by with_reducible rfl) (fun cq4 => ?_) (fun cq4 => ?_) | refine x_if_eq (tgt := 59) eX8_cut_54 (by decide) (fun cq4 => ?_) (fun cq4 => ?_)
          · have hall : allN (fun y => decide (0 < acr g j y)) (nt (sl g j 5) + 1) = true := by
              cases z : allN (fun y => decide (0 < acr g j y)) (nt (sl g j 5) + 1) with
              | true => rfl
              | false => rw [z] at cq4; cases cq4
            have hok : cutOK g (nI j) (nI wn) (nI bn) = true := by rw [ev, hall, decide_eq_true (show pn ≤ 40 by omega)]; rfl
            have gs := fun c (hc : c < 390) => gCut_sl (g := g) (j := j) (w := wn) (b := bn) hc
            have gsc : ∀ c, c < 390 → c ≠ 0 → c ≠ 6 → c ≠ 7 → c ≠ 8 → sl (gCut g j wn bn) j c = sl g j c := fun c h1 h2 h3 h4 h5 => by rw [gs c h1, if_neg h2, if_neg h3, if_neg h4, if_neg h5]
            have g8 : sl (gCut g j wn bn) j 8 = nI pn := by rw [gs 8 (by omega), if_neg (by omega), if_neg (by omega), if_neg (by omega), if_pos rfl, ← hpn]
            have ee : EE g (gCut g j wn bn) j := ⟨fun c h1 h2 => gsc c (by omega) (by omega) (by omega) (by omega) (by omega), fun c h1 h2 => gsc c (by omega) (by omega) (by omega) (by omega) (by omega)⟩
            have enp : np (gCut g j wn bn) j = pn := by
              unfold np
              rw [g8, nt_nI (by omega), gsc 9 (by omega) (by omega) (by omega) (by omega) (by omega), n89.2, Nat.add_zero]
            have gL : ∀ i, i < pn → sl (gCut g j wn bn) j (140 + i) = 0 ∧ sl (gCut g j wn bn) j (300 + i) = -1 ∧ sl (gCut g j wn bn) j (340 + i) = -1 := fun i hi => by
              rw [gsc _ (by omega) (by omega) (by omega) (by omega) (by omega), gsc _ (by omega) (by omega) (by omega) (by omega) (by omega), gsc _ (by omega) (by omega) (by omega) (by omega) (by omega)]
              exact ⟨sx.2.2.1 i (by omega) (by omega), sx.2.2.2.1 i (by omega) (by omega)⟩
            first | refine x_aload eX8_cut_59 rfl ?_ | refine x_aloadN eX8_cut_59 rfl ?_
            refine x_iload_n eX8_cut_61 rfl rfl ?_
            refine x_iload_n eX8_cut_62 rfl rfl ?_
            first | refine x_isubN eX8_cut_63 (by with_reducible rfl) (by with_reducible rfl) (by omega) ?_ | refine x_isub eX8_cut_63 ?_
            refine x_iload_n eX8_cut_64 rfl rfl ?_
            first | refine x_callV2 eX8_cut_65 lk_X8_164 (by assumption) (Nat.le_of_ble_eq_true rfl) (Nat.le_of_ble_eq_true rfl) ?_ | refine x_callVw2 eX8_cut_65 lk_X8_164 (by assumption) (Nat.le_of_ble_eq_true rfl) (Nat.le_of_ble_eq_true rfl) (Nat.le_of_ble_eq_true rfl) ?_
            refine Rn.deep (c_X5_cutInto (d := d) (g2 := gCut g j wn bn) (pn := pn) ⟨rm.1, by have := rm.2.1; omega, by have := rm.2.2; omega⟩ C1 E sw (by omega) (by omega) (by omega) (by omega) hpn.symm ee (by rw [gs 0 (by omega), if_pos rfl]) (by rw [gs 6 (by omega), if_neg (by omega), if_pos rfl]) (by rw [gs 7 (by omega), if_neg (by omega), if_neg (by omega), if_pos rfl]) g8 enp (fun i hi => pnN_lt (by omega) (by rw [← hpn]; exact hi)) gL (fun oF hF N _ => ?_)) (by omega)
            obtain ⟨n1, n2, n3, n4, n5, n6, n7, n8, n9, n10, n11⟩ := N
            obtain ⟨f1, f2, f3, f4, f5, -⟩ := n1.at_ s6 (by omega) (fun q => by unfold cT at q; omega)
            obtain ⟨-, -, -, -, q5, -⟩ := n1.at_ d5 (by omega) (fun q => by unfold cT at q; omega)
            obtain ⟨-, -, -, -, q7, -⟩ := n1.at_ t3 (by omega) (fun q => by unfold cT at q; omega)
            obtain ⟨-, -, -, -, q2, -⟩ := n1.at_ b3 (by omega) (fun q => by unfold cT at q; omega)
            have C2M : Sk oF hF y := C2.up C1 n4 n3 (fun k _ => by rw [f5]) q5
            have k6M : hi hF y 6 = nI nx := by rw [f4]; exact k6
            have k7M : hi hF y 7 = nI kp := by rw [f4]; exact k7
            obtain ⟨F, x, L2, to, r, er, ry, r6, r7, ia, ra, oN, kN, iN, kA⟩ := act_only (nx := nx) (kp := kp) (k := nI 6) (o := nI j) (i := nI 0) (b := nI 0) (X := fun t => t = 0) n2 C2M
            have lzF := n4.1
            have kyN : hk (nw hF 0 8) y = 7 := by rw [hk_nw (by omega)]; exact f2.trans s1
            have knN : hk (nw hF 0 8) (hz hF) = 0 := hk_nw'
            have hroom : hz hF < gB G + 600000 ∧ us G hF + 8 ≤ 7302250 := ⟨by have := rm.2.1; omega, by have := rm.2.2; omega⟩
            have nya : y ≠ a := fun z => by rw [z, oa] at s6; omega
            have n7a : y + 7 ≠ a := fun z => by rw [z, oa] at t3; omega
            have kaR : hk (raH hF y nx kp (nI 6) (nI j) (nI 0) (nI 0)) a = 4 := by rw [kA a (by omega), n4.k la]; exact ka
            have iaR : hi (raH hF y nx kp (nI 6) (nI j) (nI 0) (nI 0)) a = hi hF a := ia a (fun z => nya z.symm) (by omega)
            have i5R : hi (raH hF y nx kp (nI 6) (nI j) (nI 0) (nI 0)) a 5 = nI pn := by rw [iaR]; exact n7
            first | refine x_aload_n eX8_cut_68 rfl rfl ?_ | refine x_aload_nN eX8_cut_68 rfl rfl ?_
            refine x_new (ci := 0) eX8_cut_69 rfl ck_X8_35 (by first | assumption | omega) ?_
            refine x_dup eX8_cut_72 rfl ?_
            refine x_bipush (v := nI 6) eX8_cut_73 (by decide) ?_
            refine x_iload_n eX8_cut_75 rfl rfl ?_
            refine x_iconst (v := nI 0) eX8_cut_76 (by decide) ?_
            refine x_iconst (v := nI 0) eX8_cut_77 (by decide) ?_
            refine x_callI4 eX8_cut_78 lk_X8_69 (Nat.le_of_ble_eq_true rfl) (Nat.le_of_ble_eq_true rfl) ?_
            refine Rn.deep (c_X0_init (d := d) knN (fun _ => ?_)) (by omega)
            refine x_callV1 eX8_cut_81 lk_X8_72 (by assumption) (Nat.le_of_ble_eq_true rfl) (Nat.le_of_ble_eq_true rfl) ?_
            refine Rn.deep (c_remember (d := d) (k := nI 6) (o := nI j) (i := nI 0) (b := nI 0) n2 C2M k6M k7M hnx hkp (fun _ => ?_)) (by omega)
            first | refine x_aload eX8_cut_84 rfl ?_ | refine x_aloadN eX8_cut_84 rfl ?_
            first | refine x_getIe eX8_cut_86 fk_X8_167 (by decide) (by assumption) (by assumption) ?_ | refine x_getI eX8_cut_86 fk_X8_167 (by decide) (by assumption) ?_
            refine x_iret eX8_cut_89 rfl ?_
            have hq1' := hq1 hok
            rw [hS, hW, hBn, ← hpn] at hq1'
            refine hq1' _ ?_
            have FA : Fr (oT nx (sT j)) ow h (upd0 oF (hz hF) (2000 + nx)) (raH hF y nx kp (nI 6) (nI j) (nI 0) (nI 0)) := (n1.mono (fun t ht => Or.inr (Or.inr (Or.inr (by unfold cT at ht; unfold sT; omega))))).tr (act_only (nx := nx) (kp := kp) (k := nI 6) (o := nI j) (i := nI 0) (b := nI 0) (X := sT j) n2 C2M).1
            have FB : Fr (oT nx (cT j)) ow h (upd0 oF (hz hF) (2000 + nx)) (raH hF y nx kp (nI 6) (nI j) (nI 0) (nI 0)) := (n1.mono (fun t ht => Or.inr (Or.inr (Or.inr ht)))).tr (act_only (nx := nx) (kp := kp) (k := nI 6) (o := nI j) (i := nI 0) (b := nI 0) (X := cT j) n2 C2M).1
            have ge : ∀ q, (q < 5050 + 390 * j ∨ 5050 + 390 * j + 390 ≤ q) → gCut g j wn bn q = g q := fun q hq => by
              unfold gCut
              rw [upd0_ne (by omega), upd0_ne (by omega), upd0_ne (by omega), upd0_ne (by omega)]
            have el : ∀ i k, i < nt (g 0) → k < nt (bl g i 1) → liesV (gCut g j wn bn) (nI i) (nI k) = liesV g (nI i) (nI k) := fun i k hi _ => by
              refine liesV_eq0 (ge 1 (by omega)) (fun t ht => ?_)
              by_cases e : t = j
              · subst e
                rw [enp, np0, fstN_none (fun q hq => onB_m1 (by omega) (gL q hq).2.1)]
                rfl
              · have w2 := W.2.2.2 t ht
                have le := LE.all (g2 := gCut g j wn bn) (fun c hc => ge (5050 + 390 * t + c) (by omega)) w2.2.2.2.2.1
                rw [le.1]
                exact fstN_eq (fun i hi => onB_eq (le.2 i hi).2.1 (le.2 i hi).2.2 ((le.2 i hi).1.ln w2))
            have oA : upd0 oF (hz hF) (2000 + nx) a = 400 + j := by rw [upd0_ne (by omega)]; exact n8
            have rA : hr (raH hF y nx kp (nI 6) (nI j) (nI 0) (nI 0)) a = hr hF a := ra a (fun z => n7a z.symm) (by omega)
            have Cs : SailC (upd0 oF (hz hF) (2000 + nx)) (raH hF y nx kp (nI 6) (nI j) (nI 0) (nI 0)) (gCut g j wn bn) j a := by
              obtain ⟨c1, c2, c3, c4⟩ := n9
              refine ⟨by rw [iaR]; exact c1, by rw [iaR]; exact c2, by rw [iaR]; exact c3, ?_⟩
              rw [rA]
              rcases c4 with z | ⟨z, ⟨pa, p1, p2, p3, p4, p5⟩, st, z1, z2, z3, z4, z5⟩
              · exact Or.inl z
              · obtain ⟨x1, x2, x3, x4, x5, -⟩ := F.at_ p2 (by omega) (fun q => by unfold oT aT at q; omega)
                obtain ⟨y1, y2, y3, y4, -⟩ := F.at_ z2 (by omega) (fun q => by unfold oT aT at q; omega)
                refine Or.inr ⟨z, ⟨pa, p1, x1, x2.trans p3, x3.trans p4, fun i hi => ?_⟩, st, z1, y1, y2.trans z3, y3.trans z4, fun k hk => by rw [y4]; exact z5 k hk⟩
                obtain ⟨p, hp, R⟩ := p5 i hi
                obtain ⟨r0, r1, r2⟩ := id R
                obtain ⟨w1, w2, -, w4, -⟩ := F.at_ r0 (by omega) (fun q => by unfold oT aT at q; omega)
                refine ⟨p, by rw [x5]; exact hp, w1, w2.trans r1, ?_⟩
                rw [w4]
                exact r2
            refine Ps.sail C K I hj FA (n4.tr x) L2 (n3.tr to) (fun k => (r k).trans (by rw [f5])) ((ry 1 (by decide) (by decide)).trans (by rw [f4])) ((ry 3 (by decide) (by decide)).trans (by rw [f4])) r6 r7 (er.trans (by rw [q7])) ge el ⟨a, by rw [ra (y + 2) (by omega) (by omega), q2]; exact ha, ?_, Cs, ?_⟩ ⟨oN, kN, ?_⟩ ?_ ?_
            · exact E.fr2 FB (fun q => by unfold oT aT cT at q; omega) (fun q => by unfold oT aT cT at q; omega) (fun q => by unfold oT aT cT at q; omega) (fun q => by unfold oT aT cT at q; omega) oA kaR (by rw [rA]; exact n5 0 (by decide) (by decide)) (by rw [rA]; exact n5 1 (by decide) (by decide)) (by rw [iaR]; exact n6 2 (by decide) (by decide) (by decide)) sw ee
            · exact Ll.mod FB (fun q => by unfold oT aT cT at q; omega) sw (by rw [rA]; exact n5 10 (by decide) (by decide)) (by rw [iaR, n6 8 (by decide) (by decide) (by decide), Ll.1, gsc 10 (by omega) (by omega) (by omega) (by omega) (by omega)]) (by rw [iaR, n6 9 (by decide) (by decide) (by decide), Ll.2.1, gsc 11 (by omega) (by omega) (by omega) (by omega) (by omega)]) (by rw [iaR, n6 11 (by decide) (by decide) (by decide)]) (fun c h1 h2 => gsc c (by omega) (by omega) (by omega) (by omega) (by omega))
            · rw [iN]
              obtain ⟨m0, m1, m2, m3, m4⟩ := mkA_v hF (nI 6) (nI j) (nI 0) (nI 0)
              exact Or.inl (lk_cut ⟨m0, j, wn, bn, m1, hj, h0, rfl⟩)
            · show hz hF + 1 ≤ _
              omega
            · show us G (mkA hF (nI 6) (nI j) (nI 0) (nI 0)) ≤ _
              rw [mkA_us (by have := rm.1; omega)]
              omega
          · have hall : allN (fun y => decide (0 < acr g j y)) (nt (sl g j 5) + 1) = false := by
              cases z : allN (fun y => decide (0 < acr g j y)) (nt (sl g j 5) + 1) with
              | false => rfl
              | true => rw [z] at cq4; cases cq4
            refine x_iconst (v := (-1)) eX8_cut_57 (by decide) ?_
            refine x_iret eX8_cut_58 rfl ?_
            exact hq0 (by rw [ev, hall, Bool.false_and])
      · refine x_iconst (v := (-1)) eX8_cut_34 (by decide) ?_
        refine x_iret eX8_cut_35 rfl ?_
        exact hq0 (by unfold cutOK; rw [ew1, show inR b 1 (nI (wn - 1)) = false from cq2]; simp)
end CUT3

