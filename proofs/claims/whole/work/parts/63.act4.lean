/-! ===== acts on a sail: patch ===== -/
section ACT4
variable {G : GG} {d : Nat} {h h2 : AH} {Q : Option Value → AH → Prop} {ow o2 : Nat → Nat} {y : Nat} {g g2 ld wd : Nat → Int32} {kp nx s a : Nat} {ps : Nat → Nat → Int32} {T : Nat → Prop}
set_option maxRecDepth 100000 in
set_option maxHeartbeats 4000000 in
theorem apH_sum {pa n : Nat} {u b l : Int32} (hla : a < hz h) (hlp : pa < hz h) (hne : a ≠ pa) : (∀ q, q ≠ a → q ≠ hz h → hi (apH h a pa n u b l) q = hi h q) ∧ (∀ q, q ≠ pa → q ≠ hz h → hr (apH h a pa n u b l) q = hr h q) ∧ hi (apH h a pa n u b l) a = upd0 (hi h a) 6 (nI (n + 1)) ∧ hr (apH h a pa n u b l) pa = upd0 (hr h pa) n (some (hz h)) ∧ hi (apH h a pa n u b l) (hz h) = hi (pcI (nw h 3 9) (hz h) 1 u (u + 1) l b (2 * b * l)) (hz h) ∧ hz (apH h a pa n u b l) = hz h + 1 ∧ Ext h (apH h a pa n u b l) ∧ hk (apH h a pa n u b l) (hz h) = 3 := by
  refine ⟨fun q h1 h2 => ?_, fun q h1 h2 => ?_, ?_, ?_, ?_, rfl, Ext.nw h 3 9, hk_nw'⟩
  · show up2 (hi (pcI (nw h 3 9) (hz h) 1 u (u + 1) l b (2 * b * l))) a 6 _ q = _
    rw [up2_a h1, pcI_ne h2, (nw_ne h2).2.1]
  · show up2 (hr (nw h 3 9)) pa n _ q = _
    rw [up2_a h1, (nw_ne h2).2.2.1]
  · show up2 (hi (pcI (nw h 3 9) (hz h) 1 u (u + 1) l b (2 * b * l))) a 6 _ a = _
    rw [up2_at, pcI_ne (by omega), (nw_ne (by omega)).2.1]
  · show up2 (hr (nw h 3 9)) pa n _ pa = _
    rw [up2_at, (nw_ne (by omega)).2.2.1]
  · show up2 (hi (pcI (nw h 3 9) (hz h) 1 u (u + 1) l b (2 * b * l))) a 6 _ (hz h) = _
    rw [up2_a (by omega)]
set_option maxRecDepth 100000 in
set_option maxHeartbeats 4000000 in
theorem c_X8_patch {v u b l : Int32} (C : Core ow h y g ld wd) (K : Acts ow h y g kp nx ps) (I : GI g) (rm : Rm G h 100 6000) (hq0 : patOK g v u b l = false → Q (some (.int (-1))) h) (hq1 : patOK g v u b l = true → ∀ h2, Ps G y ow h (gPat g (nt v) u b l) ld wd (kpS kp) ((nx + 1) % 16) (cns g ps) h2 → Q (some (.int (nI (np g (nt v))))) h2) : Rn G (d + 3) mX8_patch 0 [(0, .ref y), (1, .int v), (2, .int u), (3, .int b), (4, .int l)] [] h Q := by
  obtain ⟨C1, C2, -⟩ := id C
  have W := I.gw
  have h10 := W.2.1.2.2
  have h24 := W.1.2.2
  obtain ⟨⟨s1, s2, s3, s4, s5, s6⟩, -, ⟨-, -, b3⟩, -, -, -, -, ⟨t1, t2, t3⟩⟩ := id C2
  obtain ⟨k6, k7, hnx, hkp, -⟩ := id K
  have l7 := (C1 (y + 7) (by omega)).1
  first | refine x_aload_n eX8_patch_0 rfl rfl ?_ | refine x_aload_nN eX8_patch_0 rfl rfl ?_
  refine x_iload_n eX8_patch_1 rfl rfl ?_
  refine x_iconst (v := nI 1) eX8_patch_2 (by decide) ?_
  refine x_callV2 eX8_patch_3 lk_X8_120 (by assumption) (Nat.le_of_ble_eq_true rfl) (Nat.le_of_ble_eq_true rfl) ?_
  refine c_X8_sailInState C W (fun q _ => ?_) (fun j a ej hj h1 ha P _ => ?_)
  · first | refine x_astore eX8_patch_6 (by decide) rfl rfl ?_ | refine x_astoreN eX8_patch_6 (by decide) rfl rfl ?_
    first | refine x_aload eX8_patch_8 rfl ?_ | refine x_aloadN eX8_patch_8 rfl ?_
    refine x_ifnullN (tgt := 59) eX8_patch_10 (by decide) ?_
    refine x_iconst (v := (-1)) eX8_patch_59 (by decide) ?_
    refine x_iret eX8_patch_60 rfl ?_
    exact hq0 (by unfold patOK isC; rw [show (isS g v && decide (sl g (nt v) 0 = 1)) = false from q]; rfl)
  · subst ej
    obtain ⟨E, Cc, Ll⟩ := id P
    obtain ⟨oa, ka, -, -, e2⟩ := id E
    obtain ⟨e3, e5, e6, hcut⟩ := id Cc
    have hS : nt (nI j) = j := nt_nI (by omega)
    have hB := isC_of W hj h1
    obtain ⟨sw, sx⟩ := I.2.2.1 j hj
    have la := (C1 a (by omega)).1
    have h40 : np g j ≤ 40 := sw.2.2.2.2.1
    obtain ⟨n, hnn⟩ : ∃ n, n = np g j := ⟨_, rfl⟩
    rw [← hnn] at h40 e6
    have hn0 : ¬ sl g j 0 = 0 := by rw [h1]; decide
    obtain ⟨pa, p1, op, kpa, npa, hpp⟩ : ∃ pa, hr h a 4 = some pa ∧ ow pa = 450 + j ∧ hk h pa = 33 ∧ hn h pa = 40 ∧ ∀ i, i < np g j → ∃ p, hr h pa i = some p ∧ PieceP ow h g j i p := by
      rcases hcut with ⟨z, -⟩ | ⟨-, z, -⟩
      · exact absurd z hn0
      · exact z
    have lp := (C1 pa (by omega)).1
    have nap : a ≠ pa := fun z => by rw [z, op] at oa; omega
    have nya : y ≠ a := fun z => by rw [z, oa] at s6; omega
    have nyp : y ≠ pa := fun z => by rw [z, op] at s6; omega
    first | refine x_astore eX8_patch_6 (by decide) rfl rfl ?_ | refine x_astoreN eX8_patch_6 (by decide) rfl rfl ?_
    first | refine x_aload eX8_patch_8 rfl ?_ | refine x_aloadN eX8_patch_8 rfl ?_
    refine x_ifnullR eX8_patch_10 ?_
    first | refine x_aload eX8_patch_13 rfl ?_ | refine x_aloadN eX8_patch_13 rfl ?_
    first | refine x_getIe eX8_patch_15 fk_X8_179 (by decide) (by assumption) (by assumption) ?_ | refine x_getI eX8_patch_15 fk_X8_179 (by decide) (by assumption) ?_
    refine x_bipush (v := nI 40) eX8_patch_18 (by decide) ?_
    first | refine x_icmp_geN (tgt := 59) eX8_patch_20 (by decide) (by with_reducible rfl) (by with_reducible rfl) (by omega) (by omega) (fun cq1 => ?_) (fun cq1 => ?_) | refine x_icmp_ge (tgt := 59) eX8_patch_20 (by decide) (fun cq1 => ?_) (fun cq1 => ?_)
    · have : n = 40 := by omega
      refine x_iconst (v := (-1)) eX8_patch_59 (by decide) ?_
      refine x_iret eX8_patch_60 rfl ?_
      exact hq0 (by unfold patOK; rw [hS, decide_eq_true (show np g j = 40 by omega)]; simp)
    · refine x_iload_n eX8_patch_23 rfl rfl ?_
      refine x_iconst (v := nI 0) eX8_patch_24 (by decide) ?_
      first | refine x_aload eX8_patch_25 rfl ?_ | refine x_aloadN eX8_patch_25 rfl ?_
      first | refine x_getIe eX8_patch_27 fk_X8_124 (by decide) (by assumption) (by assumption) ?_ | refine x_getI eX8_patch_27 fk_X8_124 (by decide) (by assumption) ?_
      refine x_iconst (v := nI 1) eX8_patch_30 (by decide) ?_
      first | refine x_isubN eX8_patch_31 (by with_reducible rfl) (by with_reducible rfl) (by omega) ?_ | refine x_isub eX8_patch_31 ?_
      refine x_callS3 eX8_patch_32 lk_X8_51 (Nat.le_of_ble_eq_true rfl) (Nat.le_of_ble_eq_true rfl) ?_
      refine Rn.deep (c_X8_isWithin (d := d) (fun _ => ?_)) (by omega)
      first | refine x_if_eqB (tgt := 59) eX8_patch_35 (by decide) (by with_reducible rfl) (fun cq2 => ?_) (fun cq2 => ?_) | refine x_if_eq (tgt := 59) eX8_patch_35 (by decide) (fun cq2 => ?_) (fun cq2 => ?_)
      · refine x_iconst (v := (-1)) eX8_patch_59 (by decide) ?_
        refine x_iret eX8_patch_60 rfl ?_
        exact hq0 (by unfold patOK; rw [hS, show inR u 0 (sl g j 5 - 1) = false from cq2]; simp)
      · refine x_iload_n eX8_patch_38 rfl rfl ?_
        refine x_iconst (v := nI 1) eX8_patch_39 (by decide) ?_
        refine x_bipush (v := nI 20) eX8_patch_40 (by decide) ?_
        refine x_callS3 eX8_patch_42 lk_X8_51 (Nat.le_of_ble_eq_true rfl) (Nat.le_of_ble_eq_true rfl) ?_
        refine Rn.deep (c_X8_isWithin (d := d) (fun _ => ?_)) (by omega)
        first | refine x_if_eqB (tgt := 59) eX8_patch_45 (by decide) (by with_reducible rfl) (fun cq3 => ?_) (fun cq3 => ?_) | refine x_if_eq (tgt := 59) eX8_patch_45 (by decide) (fun cq3 => ?_) (fun cq3 => ?_)
        · refine x_iconst (v := (-1)) eX8_patch_59 (by decide) ?_
          refine x_iret eX8_patch_60 rfl ?_
          exact hq0 (by unfold patOK; rw [show inR b 1 20 = false from cq3]; simp)
        · refine x_iload eX8_patch_48 rfl ?_
          refine x_iconst (v := nI 1) eX8_patch_50 (by decide) ?_
          refine x_bipush (v := nI 100) eX8_patch_51 (by decide) ?_
          refine x_callS3 eX8_patch_53 lk_X8_51 (Nat.le_of_ble_eq_true rfl) (Nat.le_of_ble_eq_true rfl) ?_
          refine Rn.deep (c_X8_isWithin (d := d) (fun _ => ?_)) (by omega)
          first | refine x_if_neB (tgt := 61) eX8_patch_56 (by decide) (by with_reducible rfl) (fun cq4 => ?_) (fun cq4 => ?_) | refine x_if_ne (tgt := 61) eX8_patch_56 (by decide) (fun cq4 => ?_) (fun cq4 => ?_)
          · have hok : patOK g (nI j) u b l = true := by
              unfold patOK
              rw [hB, hS, show inR u 0 (sl g j 5 - 1) = true from cq2, show inR b 1 20 = true from cq3, show inR l 1 100 = true from cq4, decide_eq_false (show ¬ np g j = 40 by omega)]
              rfl
            have hr1 : hz h < gB G + 600000 ∧ us G h + 9 ≤ 7302250 := ⟨by have := rm.2.1; omega, by have := rm.2.2; omega⟩
            first | refine x_aload eX8_patch_61 rfl ?_ | refine x_aloadN eX8_patch_61 rfl ?_
            first | refine x_getIe eX8_patch_63 fk_X8_179 (by decide) (by assumption) (by assumption) ?_ | refine x_getI eX8_patch_63 fk_X8_179 (by decide) (by assumption) ?_
            refine x_istore eX8_patch_66 (by decide) rfl rfl ?_
            first | refine x_aload eX8_patch_68 rfl ?_ | refine x_aloadN eX8_patch_68 rfl ?_
            refine x_iload_n eX8_patch_70 rfl rfl ?_
            refine x_iload_n eX8_patch_71 rfl rfl ?_
            refine x_iload eX8_patch_72 rfl ?_
            refine x_callV3 eX8_patch_74 lk_X8_182 (by assumption) (Nat.le_of_ble_eq_true rfl) (Nat.le_of_ble_eq_true rfl) ?_
            refine Rn.deep (c_X5_addPatch (d := d) ka p1 kpa npa e6 (by omega) la lp hr1 (fun _ => ?_)) (by omega)
            obtain ⟨hMi, hMr, hMa, hMp, hMn, hzM, xM, kMn⟩ := apH_sum (h := h) (n := n) (u := u) (b := b) (l := l) la lp nap
            have usM : us G (apH h a pa n u b l) = us G h + 9 := us_nw (kd := 3) (n := 9) rm.1
            have FM : Fr (oT nx (fun t => t = 400 + j ∨ t = 450 + j ∨ t = 1000 + 40 * j + n)) ow h (upd0 ow (hz h) (1000 + 40 * j + n)) (apH h a pa n u b l) := fun q q1 q2 => by
              have e1 : q ≠ hz h := Nat.ne_of_lt (C1 q q1).1
              have e2 : q ≠ a := fun z => q2 (by rw [z, oa]; exact Or.inr (Or.inr (Or.inr (Or.inl rfl))))
              have e3 : q ≠ pa := fun z => q2 (by rw [z, op]; exact Or.inr (Or.inr (Or.inr (Or.inr (Or.inl rfl)))))
              have e4 := nw_ne (h := h) (kd := 3) (n := 9) e1
              exact ⟨upd0_ne e1, e4.1, hMi q e2 e1, hMr q e3 e1, e4.2.2.2.1, e4.2.2.2.2⟩
            have C1M : Lv (upd0 ow (hz h) (1000 + 40 * j + n)) (apH h a pa n u b l) := Lv.nw (kd := 3) (n := 9) C1 (fun z => by cases z)
            have C2M : Sk (upd0 ow (hz h) (1000 + 40 * j + n)) (apH h a pa n u b l) y := C2.up C1 xM (To.nw C1) (fun k _ => by rw [hMr y nyp (by omega)]) (hMr (y + 3) (fun z => by have := C2.2.2.2.1.2.2.2.2; rw [z, op] at this; omega) (by omega))
            have k6M : hi (apH h a pa n u b l) y 6 = nI nx := by rw [hMi y nya (by omega)]; exact k6
            have k7M : hi (apH h a pa n u b l) y 7 = nI kp := by rw [hMi y nya (by omega)]; exact k7
            have kM : ∀ q, q < hz h → hk (apH h a pa n u b l) q = hk h q := fun q hq => xM.k hq
            have hnM : hi (apH h a pa n u b l) a 6 = nI (n + 1) := by rw [hMa]; exact upd0_same _ _ _
            obtain ⟨v0, v1, v2, v3, v4, v5, v6, v7, v8⟩ := pcI_v (h := nw h 3 9) (p := hz h) (z := 1) (lo := u) (up := u + 1) (ln := l) (br := b) (tw := 2 * b * l)
            rw [← hMn] at v0 v1 v2 v3 v4 v5 v6 v7 v8
            generalize hMdef : apH h a pa n u b l = hM at *
            generalize hoM : upd0 ow (hz h) (1000 + 40 * j + n) = oM at *
            obtain ⟨F, x, L2, to, r, er, ry, r6, r7, ia, ra, oN, kN, iN, kA⟩ := act_only (nx := nx) (kp := kp) (k := nI 8) (o := nI j) (i := nI n) (b := nI 0) (X := fun t => t = 400 + j ∨ t = 450 + j ∨ t = 1000 + 40 * j + n) C1M C2M
            have kyM : hk hM y = 7 := (kM y (by omega)).trans s1
            have kyN : hk (nw hM 0 8) y = 7 := by rw [hk_nw (by omega)]; exact kyM
            have knN : hk (nw hM 0 8) (hz hM) = 0 := hk_nw'
            have hroom : hz hM < gB G + 600000 ∧ us G hM + 8 ≤ 7302250 := ⟨by have := rm.2.1; omega, by have := rm.2.2; omega⟩
            first | refine x_aload_n eX8_patch_77 rfl rfl ?_ | refine x_aload_nN eX8_patch_77 rfl rfl ?_
            refine x_new (ci := 0) eX8_patch_78 rfl ck_X8_35 (by first | assumption | omega) ?_
            refine x_dup eX8_patch_81 rfl ?_
            refine x_bipush (v := nI 8) eX8_patch_82 (by decide) ?_
            refine x_iload_n eX8_patch_84 rfl rfl ?_
            refine x_iload eX8_patch_85 rfl ?_
            refine x_iconst (v := nI 0) eX8_patch_87 (by decide) ?_
            refine x_callI4 eX8_patch_88 lk_X8_69 (Nat.le_of_ble_eq_true rfl) (Nat.le_of_ble_eq_true rfl) ?_
            refine Rn.deep (c_X0_init (d := d) knN (fun _ => ?_)) (by omega)
            refine x_callV1 eX8_patch_91 lk_X8_72 (by assumption) (Nat.le_of_ble_eq_true rfl) (Nat.le_of_ble_eq_true rfl) ?_
            refine Rn.deep (c_remember (d := d) (k := nI 8) (o := nI j) (i := nI n) (b := nI 0) C1M C2M k6M k7M hnx hkp (fun _ => ?_)) (by omega)
            refine x_iload eX8_patch_94 rfl ?_
            refine x_iret eX8_patch_96 rfl ?_
            have hq1' := hq1 hok
            rw [hS, ← hnn] at hq1'
            refine hq1' _ ?_
            have F2 := Fr.tr FM F
            have sc : ∀ c, c ≠ 9 → c ≠ 180 + n → c ≠ 220 + n → c ≠ 260 + n → c < 390 → sl (gPat g j u b l) j c = sl g j c := fun c c1 c2 c3 c4 c5 => by
              unfold sl gPat
              rw [← hnn, upd0_ne (by omega), upd0_ne (by omega), upd0_ne (by omega), upd0_ne (by omega)]
            have s9 : sl (gPat g j u b l) j 9 = sl g j 9 + 1 := by
              unfold sl gPat
              rw [upd0_same]
              rfl
            have s18 : sl (gPat g j u b l) j (180 + n) = u := by
              unfold sl gPat
              rw [← hnn, upd0_ne (by omega), upd0_ne (by omega), upd0_ne (by omega), upd0_same]
            have s22 : sl (gPat g j u b l) j (220 + n) = b := by
              unfold sl gPat
              rw [← hnn, upd0_ne (by omega), upd0_ne (by omega), upd0_same]
            have s26 : sl (gPat g j u b l) j (260 + n) = l := by
              unfold sl gPat
              rw [← hnn, upd0_ne (by omega), upd0_same]
            have u8 := sw.2.2.1.2.2
            have n89 : nt (sl g j 8) + nt (sl g j 9) = n := hnn.symm
            have enp : np (gPat g j u b l) j = n + 1 := by
              unfold np
              rw [sc 8 (by omega) (by omega) (by omega) (by omega) (by omega), s9, sw.2.2.2.1.1, nI_1, nt_nI (by omega)]
              omega
            have ke : ∀ i, i < n → KE g (gPat g j u b l) j i := fun i hi => ⟨fun c h1 h2 => sc c (by omega) (by omega) (by omega) (by omega) (by omega), fun c h1 h2 => sc c (by omega) (by omega) (by omega) (by omega) (by omega), sc _ (by omega) (by omega) (by omega) (by omega) (by omega), sc _ (by omega) (by omega) (by omega) (by omega) (by omega), sc _ (by omega) (by omega) (by omega) (by omega) (by omega)⟩
            have ee : EE g (gPat g j u b l) j := ⟨fun c h1 h2 => sc c (by omega) (by omega) (by omega) (by omega) (by omega), fun c h1 h2 => sc c (by omega) (by omega) (by omega) (by omega) (by omega)⟩
            have ge : ∀ q, (q < 5050 + 390 * j ∨ 5050 + 390 * j + 390 ≤ q) → gPat g j u b l q = g q := fun q hq => by
              unfold gPat
              rw [← hnn, upd0_ne (by omega), upd0_ne (by omega), upd0_ne (by omega), upd0_ne (by omega)]
            obtain ⟨on1, on2⟩ := sx.2.2.2.1 n (by omega) (by omega)
            have el : ∀ i k, i < nt (g 0) → k < nt (bl g i 1) → liesV (gPat g j u b l) (nI i) (nI k) = liesV g (nI i) (nI k) := fun i k hi _ => by
              refine liesV_eq0 (ge 1 (by omega)) (fun t ht => ?_)
              by_cases e : t = j
              · subst e
                rw [enp, fstN_f (onB_m1 (by omega) (by rw [sc _ (by omega) (by omega) (by omega) (by omega) (by omega)]; exact on1))  , hnn]
                exact fstN_eq (fun i hi => onB_eq (sc _ (by omega) (by omega) (by omega) (by omega) (by omega)) (sc _ (by omega) (by omega) (by omega) (by omega) (by omega)) ((ke i (by omega)).ln sw))
              · have w2 := W.2.2.2 t ht
                have le := LE.all (g2 := gPat g j u b l) (fun c hc => ge (5050 + 390 * t + c) (by omega)) w2.2.2.2.2.1
                rw [le.1]
                exact fstN_eq (fun i hi => onB_eq (le.2 i hi).2.1 (le.2 i hi).2.2 ((le.2 i hi).1.ln w2))
            have n7a : a ≠ y + 7 := fun z => by rw [z, t3] at oa; omega
            have n7p : pa ≠ y + 7 := fun z => by rw [z, t3] at op; omega
            have iA : hi (raH hM y nx kp (nI 8) (nI j) (nI n) (nI 0)) a = upd0 (hi h a) 6 (nI (n + 1)) := (ia a (fun z => nya z.symm) (by omega)).trans hMa
            have rA : hr (raH hM y nx kp (nI 8) (nI j) (nI n) (nI 0)) a = hr h a := (ra a n7a (by omega)).trans (hMr a nap (by omega))
            have rP : hr (raH hM y nx kp (nI 8) (nI j) (nI n) (nI 0)) pa = upd0 (hr h pa) n (some (hz h)) := (ra pa n7p (by omega)).trans hMp
            have iP : hi (raH hM y nx kp (nI 8) (nI j) (nI n) (nI 0)) (hz h) = hi hM (hz h) := ia _ (by omega) (by omega)
            have oA : upd0 oM (hz hM) (2000 + nx) a = 400 + j := by rw [upd0_ne (by omega), ← hoM, upd0_ne (by omega)]; exact oa
            have oP : upd0 oM (hz hM) (2000 + nx) pa = 450 + j := by rw [upd0_ne (by omega), ← hoM, upd0_ne (by omega)]; exact op
            have oQ : upd0 oM (hz hM) (2000 + nx) (hz h) = 1000 + 40 * j + n := by rw [upd0_ne (by omega), ← hoM, upd0_same]
            have kQ : hk (raH hM y nx kp (nI 8) (nI j) (nI n) (nI 0)) (hz h) = 3 := by rw [kA _ (by omega)]; exact kMn
            have hnP : isP (gPat g j u b l) j n = false := by
              unfold isP
              rw [sc 8 (by omega) (by omega) (by omega) (by omega) (by omega)]
              exact decide_eq_false (by omega)
            have toM : To ow oM := by rw [← hoM]; exact To.nw C1
            refine Ps.sail C K I hj (F2.mono (oT_mono (fun t ht => by unfold sT; omega))) (xM.tr x) L2 (toM.tr to) (fun k => (r k).trans (by rw [hMr y nyp (by omega)])) ((ry 1 (by decide) (by decide)).trans (by rw [hMi y nya (by omega)])) ((ry 3 (by decide) (by decide)).trans (by rw [hMi y nya (by omega)])) r6 r7 (er.trans (by rw [hMr (y + 7) (fun z => n7p z.symm) (by omega)])) ge el ⟨a, by rw [ra (y + 2) (by omega) (by omega), hMr (y + 2) (fun z => by rw [z, op] at b3; omega) (by omega)]; exact ha, ?_, ?_, ?_⟩ ⟨oN, kN, ?_⟩ ?_ ?_
            · exact E.fr2 F2 (fun q => by unfold oT aT at q; omega) (fun q => by unfold oT aT at q; omega) (fun q => by unfold oT aT at q; omega) (fun q => by unfold oT aT at q; omega) oA (((xM.tr x).k la).trans ka) (by rw [rA]) (by rw [rA]) (by rw [iA]; exact upd0_ne (by decide)) sw ee
            · refine ⟨by rw [iA, upd0_ne (by decide), Cc.1, sc 0 (by omega) (by omega) (by omega) (by omega) (by omega)], by rw [iA, upd0_ne (by decide), Cc.2.1, sc 8 (by omega) (by omega) (by omega) (by omega) (by omega)], by rw [iA, upd0_same, enp], Or.inr ⟨by rw [sc 0 (by omega) (by omega) (by omega) (by omega) (by omega)]; exact hn0, ⟨pa, by rw [rA]; exact p1, oP, ((xM.tr x).k lp).trans kpa, ((xM.tr x).n lp).trans npa, fun i hi => ?_⟩, ?_⟩⟩
              · rw [enp] at hi
                by_cases ei : i = n
                · subst ei
                  refine ⟨hz h, by rw [rP]; exact upd0_same _ _ _, oQ, kQ, ?_⟩
                  unfold lowV highV lenV broV areV
                  rw [iP, hnP, s18, s22, s26, sc (300 + i) (by omega) (by omega) (by omega) (by omega) (by omega), sc (340 + i) (by omega) (by omega) (by omega) (by omega) (by omega), on1, on2]
                  exact ⟨v0, v1, v2, v3, v4, v5, v6, v7, v8⟩
                · obtain ⟨p, hp, R⟩ := hpp i (by omega)
                  exact ⟨p, by rw [rP, upd0_ne ei]; exact hp, R.fr F2 (fun q => by unfold oT aT at q; omega) sw (ke i (by omega)) (sc _ (by omega) (by omega) (by omega) (by omega) (by omega)) (sc _ (by omega) (by omega) (by omega) (by omega) (by omega)) (sc _ (by omega) (by omega) (by omega) (by omega) (by omega))⟩
              · rcases hcut with ⟨z, -⟩ | ⟨-, -, st, c1, c2, c3, c4, c5⟩
                · exact absurd z hn0
                · obtain ⟨y1, y2, y3, y4, -⟩ := F2.at_ c2 (by omega) (fun q => by unfold oT aT at q; omega)
                  have u5 := sw.2.1.2.2
                  refine ⟨st, by rw [rA]; exact c1, y1, y2.trans c3, by rw [y3, c4, ee.1 5 (by omega) (by omega)], fun k hk => ?_⟩
                  rw [ee.1 5 (by omega) (by omega)] at hk
                  rw [y4, c5 k hk, ee.tp (by omega)]
            · exact Ll.mod F2 (fun q => by unfold oT aT at q; omega) sw (by rw [rA]) (by rw [iA, upd0_ne (by decide), Ll.1, sc 10 (by omega) (by omega) (by omega) (by omega) (by omega)]) (by rw [iA, upd0_ne (by decide), Ll.2.1, sc 11 (by omega) (by omega) (by omega) (by omega) (by omega)]) (by rw [iA, upd0_ne (by decide)]) (fun c h1 h2 => sc c (by omega) (by omega) (by omega) (by omega) (by omega))
            · rw [iN]
              obtain ⟨m0, m1, m2, m3, m4⟩ := mkA_v hM (nI 8) (nI j) (nI n) (nI 0)
              exact Or.inl (lk_patch ⟨m0, j, u, b, l, m1, hj, h1, by omega, rfl⟩)
            · show hz hM + 1 ≤ _
              omega
            · show us G (mkA hM (nI 8) (nI j) (nI n) (nI 0)) ≤ _
              rw [mkA_us (by have := rm.1; omega)]
              omega
          · refine x_iconst (v := (-1)) eX8_patch_59 (by decide) ?_
            refine x_iret eX8_patch_60 rfl ?_
            exact hq0 (by unfold patOK; rw [show inR l 1 100 = false from cq4]; simp)
end ACT4

