/-! ===== acts: sail, lay, lift ===== -/
section ACT9
variable {G : GG} {d : Nat} {h h2 : AH} {Q : Option Value → AH → Prop} {ow o2 : Nat → Nat} {y : Nat} {g g2 ld wd : Nat → Int32} {kp nx : Nat} {ps : Nat → Nat → Int32} {T : Nat → Prop}
set_option maxRecDepth 100000 in
set_option maxHeartbeats 4000000 in
theorem c_X8_sail {e1 e2 e3 e4 e5 : Int32} (C : Core ow h y g ld wd) (K : Acts ow h y g kp nx ps) (I : GI g) (rm : Rm G h 100 6000) (hq0 : salOK g e1 e2 e3 e4 e5 = false → Q (some (.int (-1))) h) (hq1 : salOK g e1 e2 e3 e4 e5 = true → ∀ h2, Ps G y ow h (gSail g (nt (g 1)) e1 e2 e3 e4 e5) ld wd (kpS kp) ((nx + 1) % 16) (cns g ps) h2 → Q (some (.int (nI (nt (g 1))))) h2) : Rn G (d + 3) mX8_sail 0 [(0, .ref y), (1, .int e1), (2, .int e2), (3, .int e3), (4, .int e4), (5, .int e5)] [] h Q := by
  obtain ⟨C1, C2, C3, -⟩ := id C
  have W := I.gw
  have h10 := W.2.1.2.2
  obtain ⟨⟨s1, s2, s3, s4, s5, s6⟩, -, ⟨b1, b2, b3⟩, -, -, -, -, ⟨t1, t2, t3⟩⟩ := id C2
  obtain ⟨k6, k7, hnx, hkp, -⟩ := id K
  have l7 := (C1 (y + 7) (by omega)).1
  have l2 := (C1 (y + 2) (by omega)).1
  obtain ⟨n, hnd⟩ : ∃ n, n = nt (g 1) := ⟨_, rfl⟩
  have e0 : g 1 = nI n := by rw [hnd]; exact W.2.1.1
  rw [← hnd] at h10 hq1
  have i3 : hi h y 3 = nI n := C3.2.trans e0
  have d10 : decide (g 1 = 10) = decide (n = 10) := by rw [e0]; exact decide_eq_decide.mpr (nI_eq (b := 10) (by omega) (by omega))
  first | refine x_aload_n eX8_sail_0 rfl rfl ?_ | refine x_aload_nN eX8_sail_0 rfl rfl ?_
  first | refine x_getIe eX8_sail_1 fk_X8_25 (by decide) (by assumption) (by assumption) ?_ | refine x_getI eX8_sail_1 fk_X8_25 (by decide) (by assumption) ?_
  refine x_bipush (v := nI 10) eX8_sail_4 (by decide) ?_
  first | refine x_icmp_geN (tgt := 73) eX8_sail_6 (by decide) (by with_reducible rfl) (by with_reducible rfl) (by omega) (by omega) (fun cq1 => ?_) (fun cq1 => ?_) | refine x_icmp_ge (tgt := 73) eX8_sail_6 (by decide) (fun cq1 => ?_) (fun cq1 => ?_)
  · refine x_iconst (v := (-1)) eX8_sail_73 (by decide) ?_
    refine x_iret eX8_sail_74 rfl ?_
    exact hq0 (by unfold salOK; rw [d10, decide_eq_true (show n = 10 by omega)]; simp)
  · refine x_iload eX8_sail_9 rfl ?_
    refine x_iconst (v := nI 1) eX8_sail_11 (by decide) ?_
    refine x_bipush (v := nI 60) eX8_sail_12 (by decide) ?_
    refine x_callS3 eX8_sail_14 lk_X8_51 (Nat.le_of_ble_eq_true rfl) (Nat.le_of_ble_eq_true rfl) ?_
    refine Rn.deep (c_X8_isWithin (d := d) (fun _ => ?_)) (by omega)
    first | refine x_if_eqB (tgt := 73) eX8_sail_17 (by decide) (by with_reducible rfl) (fun cq2 => ?_) (fun cq2 => ?_) | refine x_if_eq (tgt := 73) eX8_sail_17 (by decide) (fun cq2 => ?_) (fun cq2 => ?_)
    · refine x_iconst (v := (-1)) eX8_sail_73 (by decide) ?_
      refine x_iret eX8_sail_74 rfl ?_
      exact hq0 (by unfold salOK; rw [show inR e5 1 60 = false from cq2]; simp)
    · refine x_iload_n eX8_sail_20 rfl rfl ?_
      refine x_sipush (v := (-500)) eX8_sail_21 (by decide) ?_
      refine x_sipush (v := nI 500) eX8_sail_24 (by decide) ?_
      refine x_callS3 eX8_sail_27 lk_X8_51 (Nat.le_of_ble_eq_true rfl) (Nat.le_of_ble_eq_true rfl) ?_
      refine Rn.deep (c_X8_isWithin (d := d) (fun _ => ?_)) (by omega)
      first | refine x_if_eqB (tgt := 73) eX8_sail_30 (by decide) (by with_reducible rfl) (fun cq3 => ?_) (fun cq3 => ?_) | refine x_if_eq (tgt := 73) eX8_sail_30 (by decide) (fun cq3 => ?_) (fun cq3 => ?_)
      · refine x_iconst (v := (-1)) eX8_sail_73 (by decide) ?_
        refine x_iret eX8_sail_74 rfl ?_
        exact hq0 (by unfold salOK; rw [show inR e1 (-500) 500 = false from cq3]; rfl)
      · refine x_iload_n eX8_sail_33 rfl rfl ?_
        refine x_sipush (v := (-500)) eX8_sail_34 (by decide) ?_
        refine x_sipush (v := nI 500) eX8_sail_37 (by decide) ?_
        refine x_callS3 eX8_sail_40 lk_X8_51 (Nat.le_of_ble_eq_true rfl) (Nat.le_of_ble_eq_true rfl) ?_
        refine Rn.deep (c_X8_isWithin (d := d) (fun _ => ?_)) (by omega)
        first | refine x_if_eqB (tgt := 73) eX8_sail_43 (by decide) (by with_reducible rfl) (fun cq4 => ?_) (fun cq4 => ?_) | refine x_if_eq (tgt := 73) eX8_sail_43 (by decide) (fun cq4 => ?_) (fun cq4 => ?_)
        · refine x_iconst (v := (-1)) eX8_sail_73 (by decide) ?_
          refine x_iret eX8_sail_74 rfl ?_
          exact hq0 (by unfold salOK; rw [show inR e2 (-500) 500 = false from cq4]; simp)
        · refine x_iload_n eX8_sail_46 rfl rfl ?_
          refine x_sipush (v := (-500)) eX8_sail_47 (by decide) ?_
          refine x_sipush (v := nI 500) eX8_sail_50 (by decide) ?_
          refine x_callS3 eX8_sail_53 lk_X8_51 (Nat.le_of_ble_eq_true rfl) (Nat.le_of_ble_eq_true rfl) ?_
          refine Rn.deep (c_X8_isWithin (d := d) (fun _ => ?_)) (by omega)
          first | refine x_if_eqB (tgt := 73) eX8_sail_56 (by decide) (by with_reducible rfl) (fun cq5 => ?_) (fun cq5 => ?_) | refine x_if_eq (tgt := 73) eX8_sail_56 (by decide) (fun cq5 => ?_) (fun cq5 => ?_)
          · refine x_iconst (v := (-1)) eX8_sail_73 (by decide) ?_
            refine x_iret eX8_sail_74 rfl ?_
            exact hq0 (by unfold salOK; rw [show inR e3 (-500) 500 = false from cq5]; simp)
          · refine x_iload eX8_sail_59 rfl ?_
            refine x_sipush (v := (-500)) eX8_sail_61 (by decide) ?_
            refine x_sipush (v := nI 500) eX8_sail_64 (by decide) ?_
            refine x_callS3 eX8_sail_67 lk_X8_51 (Nat.le_of_ble_eq_true rfl) (Nat.le_of_ble_eq_true rfl) ?_
            refine Rn.deep (c_X8_isWithin (d := d) (fun _ => ?_)) (by omega)
            first | refine x_if_neB (tgt := 75) eX8_sail_70 (by decide) (by with_reducible rfl) (fun cq6 => ?_) (fun cq6 => ?_) | refine x_if_ne (tgt := 75) eX8_sail_70 (by decide) (fun cq6 => ?_) (fun cq6 => ?_)
            · have hok : salOK g e1 e2 e3 e4 e5 = true := by
                unfold salOK
                rw [show inR e5 1 60 = true from cq2, show inR e1 (-500) 500 = true from cq3, show inR e2 (-500) 500 = true from cq4, show inR e3 (-500) 500 = true from cq5, show inR e4 (-500) 500 = true from cq6, d10, decide_eq_false (show ¬ n = 10 by omega)]
                rfl
              have I2 := GI_sail I hnd (by omega) (e1 := e1) (e2 := e2) (e3 := e3) (e4 := e4) (e5 := e5) cq3 cq4 cq5 cq6 cq2
              obtain ⟨ht, ht1, ht2, rfl⟩ := inR_N (lo := 1) (hi := 60) cq2 rfl (by omega) (by omega)
              obtain ⟨oM, CM, FM, toM⟩ := sail_core (e1 := e1) (e2 := e2) (e3 := e3) (e4 := e4) C W rm.1 hnd (by omega) ht1 ht2
              have hr1 : hz h < gB G + 600000 ∧ us G h + 13 ≤ 7302250 := ⟨by have := rm.2.1; omega, by have := rm.2.2; omega⟩
              have u1 : us G (nw h 4 13) = us G h + 13 := us_nw rm.1
              have hr2 : hz (nw h 4 13) < gB G + 600000 ∧ us G (nw h 4 13) + 3 ≤ 7302250 := ⟨by show hz h + 1 < _; have := rm.2.1; omega, by have := rm.2.2; omega⟩
              have u2 : us G (sdI (nw (nw h 4 13) 5 3) (hz h + 1) e1 e3) = us G h + 16 := by
                show us G (nw (nw h 4 13) 5 3) = _
                rw [us_nw (by show gB G ≤ hz h + 1; have := rm.1; omega), u1]
              have hr3 : hz (sdI (nw (nw h 4 13) 5 3) (hz h + 1) e1 e3) < gB G + 600000 ∧ us G (sdI (nw (nw h 4 13) 5 3) (hz h + 1) e1 e3) + 3 ≤ 7302250 := ⟨by show hz h + 2 < _; have := rm.2.1; omega, by have := rm.2.2; omega⟩
              have u3 : us G (sdI (nw (sdI (nw (nw h 4 13) 5 3) (hz h + 1) e1 e3) 5 3) (hz h + 2) e2 e4) = us G h + 19 := by
                show us G (nw (sdI (nw (nw h 4 13) 5 3) (hz h + 1) e1 e3) 5 3) = _
                rw [us_nw (by show gB G ≤ hz h + 2; have := rm.1; omega), u2]
              have hr4 : hz (sdI (nw (sdI (nw (nw h 4 13) 5 3) (hz h + 1) e1 e3) 5 3) (hz h + 2) e2 e4) < gB G + 600000 ∧ us G (sdI (nw (sdI (nw (nw h 4 13) 5 3) (hz h + 1) e1 e3) 5 3) (hz h + 2) e2 e4) + 3 ≤ 7302250 := ⟨by show hz h + 3 < _; have := rm.2.1; omega, by have := rm.2.2; omega⟩
              have u4 : us G (inS (sdI (nw (sdI (nw (nw h 4 13) 5 3) (hz h + 1) e1 e3) 5 3) (hz h + 2) e2 e4) (hz h) (hz h + 1) (hz h + 2) (nI ht)) = us G h + 22 := by
                show us G (nw (sdI (nw (sdI (nw (nw h 4 13) 5 3) (hz h + 1) e1 e3) 5 3) (hz h + 2) e2 e4) 20 3) = _
                rw [us_nw (by show gB G ≤ hz h + 3; have := rm.1; omega), u3]
              have xM : Ext h (wi (wq (inS (sdI (nw (sdI (nw (nw h 4 13) 5 3) (hz h + 1) e1 e3) 5 3) (hz h + 2) e2 e4) (hz h) (hz h + 1) (hz h + 2) (nI ht)) (y + 2) n (some (hz h))) y 3 (nI (n + 1))) := (Ext.nw h 4 13).tr ((Ext.nw (nw h 4 13) 5 3).tr ((Ext.nw (sdI (nw (nw h 4 13) 5 3) (hz h + 1) e1 e3) 5 3).tr (Ext.nw (sdI (nw (sdI (nw (nw h 4 13) 5 3) (hz h + 1) e1 e3) 5 3) (hz h + 2) e2 e4) 20 3)))
              have kl : hk (nw (nw h 4 13) 5 3) (hz h + 1) = 5 := hk_nw' (h := nw h 4 13)
              have kr : hk (nw (sdI (nw (nw h 4 13) 5 3) (hz h + 1) e1 e3) 5 3) (hz h + 2) = 5 := hk_nw' (h := sdI (nw (nw h 4 13) 5 3) (hz h + 1) e1 e3)
              have ka : hk (sdI (nw (sdI (nw (nw h 4 13) 5 3) (hz h + 1) e1 e3) 5 3) (hz h + 2) e2 e4) (hz h) = 4 := ((Ext.nw (sdI (nw (nw h 4 13) 5 3) (hz h + 1) e1 e3) 5 3).k (by show hz h < hz h + 2; omega)).trans (((Ext.nw (nw h 4 13) 5 3).k (by show hz h < hz h + 1; omega)).trans hk_nw')
              have ka' : hk (inS (sdI (nw (sdI (nw (nw h 4 13) 5 3) (hz h + 1) e1 e3) 5 3) (hz h + 2) e2 e4) (hz h) (hz h + 1) (hz h + 2) (nI ht)) (hz h) = 4 := ((Ext.nw (sdI (nw (sdI (nw (nw h 4 13) 5 3) (hz h + 1) e1 e3) 5 3) (hz h + 2) e2 e4) 20 3).k (by show hz h < hz h + 3; omega)).trans ka
              have k2' : hk (inS (sdI (nw (sdI (nw (nw h 4 13) 5 3) (hz h + 1) e1 e3) 5 3) (hz h + 2) e2 e4) (hz h) (hz h + 1) (hz h + 2) (nI ht)) (y + 2) = 34 := (xM.k l2).trans b1
              have n2' : hn (inS (sdI (nw (sdI (nw (nw h 4 13) 5 3) (hz h + 1) e1 e3) 5 3) (hz h + 2) e2 e4) (hz h) (hz h + 1) (hz h + 2) (nI ht)) (y + 2) = 10 := (xM.n l2).trans b2
              have ky' : hk (inS (sdI (nw (sdI (nw (nw h 4 13) 5 3) (hz h + 1) e1 e3) 5 3) (hz h + 2) e2 e4) (hz h) (hz h + 1) (hz h + 2) (nI ht)) y = 7 := (xM.k (by omega)).trans s1
              have i3' : hi (wq (inS (sdI (nw (sdI (nw (nw h 4 13) 5 3) (hz h + 1) e1 e3) 5 3) (hz h + 2) e2 e4) (hz h) (hz h + 1) (hz h + 2) (nI ht)) (y + 2) n (some (hz h))) y 3 = nI n := by
                show hi (inS (sdI (nw (sdI (nw (nw h 4 13) 5 3) (hz h + 1) e1 e3) 5 3) (hz h + 2) e2 e4) (hz h) (hz h + 1) (hz h + 2) (nI ht)) y 3 = _
                rw [(inS_ne (by omega) (by show y ≠ hz h + 3; omega)).1, (sdI_ne (by omega)).1, (nw_ne (by show y ≠ hz h + 2; omega)).2.1, (sdI_ne (by omega)).1, (nw_ne (by show y ≠ hz h + 1; omega)).2.1, (nw_ne (by omega)).2.1]
                exact i3
              obtain ⟨c1, c2, -⟩ := id CM
              have ym := FM.at_ t3 (by omega) (fun q => by unfold sT at q; omega)
              have k6' : hi (wi (wq (inS (sdI (nw (sdI (nw (nw h 4 13) 5 3) (hz h + 1) e1 e3) 5 3) (hz h + 2) e2 e4) (hz h) (hz h + 1) (hz h + 2) (nI ht)) (y + 2) n (some (hz h))) y 3 (nI (n + 1))) y 6 = nI nx ∧ hi (wi (wq (inS (sdI (nw (sdI (nw (nw h 4 13) 5 3) (hz h + 1) e1 e3) 5 3) (hz h + 2) e2 e4) (hz h) (hz h + 1) (hz h + 2) (nI ht)) (y + 2) n (some (hz h))) y 3 (nI (n + 1))) y 7 = nI kp := by
                have e : ∀ k, k ≠ 3 → hi (wi (wq (inS (sdI (nw (sdI (nw (nw h 4 13) 5 3) (hz h + 1) e1 e3) 5 3) (hz h + 2) e2 e4) (hz h) (hz h + 1) (hz h + 2) (nI ht)) (y + 2) n (some (hz h))) y 3 (nI (n + 1))) y k = hi h y k := fun k hk3 => by
                  show up2 (hi (inS (sdI (nw (sdI (nw (nw h 4 13) 5 3) (hz h + 1) e1 e3) 5 3) (hz h + 2) e2 e4) (hz h) (hz h + 1) (hz h + 2) (nI ht))) y 3 _ y k = _
                  rw [up2_k hk3, (inS_ne (by omega) (by show y ≠ hz h + 3; omega)).1, (sdI_ne (by omega)).1, (nw_ne (by show y ≠ hz h + 2; omega)).2.1, (sdI_ne (by omega)).1, (nw_ne (by show y ≠ hz h + 1; omega)).2.1, (nw_ne (by omega)).2.1]
                exact ⟨(e 6 (by decide)).trans k6, (e 7 (by decide)).trans k7⟩
              have hzM : hz (wi (wq (inS (sdI (nw (sdI (nw (nw h 4 13) 5 3) (hz h + 1) e1 e3) 5 3) (hz h + 2) e2 e4) (hz h) (hz h + 1) (hz h + 2) (nI ht)) (y + 2) n (some (hz h))) y 3 (nI (n + 1))) = hz h + 4 := rfl
              have usM : us G (wi (wq (inS (sdI (nw (sdI (nw (nw h 4 13) 5 3) (hz h + 1) e1 e3) 5 3) (hz h + 2) e2 e4) (hz h) (hz h + 1) (hz h + 2) (nI ht)) (y + 2) n (some (hz h))) y 3 (nI (n + 1))) = us G h + 22 := u4
              first | refine x_aload_n eX8_sail_75 rfl rfl ?_ | refine x_aload_nN eX8_sail_75 rfl rfl ?_
              first | refine x_getIe eX8_sail_76 fk_X8_25 (by decide) (by assumption) (by assumption) ?_ | refine x_getI eX8_sail_76 fk_X8_25 (by decide) (by assumption) ?_
              refine x_istore eX8_sail_79 (by decide) rfl rfl ?_
              first | refine x_aload_n eX8_sail_81 rfl rfl ?_ | refine x_aload_nN eX8_sail_81 rfl rfl ?_
              first | refine x_getR eX8_sail_82 fk_X8_21 rfl (by assumption) (by assumption) ?_ | refine x_getN eX8_sail_82 fk_X8_21 rfl (by assumption) (by assumption) ?_
              refine x_iload eX8_sail_85 rfl ?_
              refine x_new (ci := 4) eX8_sail_87 rfl ck_X8_19 (by first | assumption | omega) ?_
              refine x_dup eX8_sail_90 rfl ?_
              refine x_new (ci := 5) eX8_sail_91 rfl ck_X8_113 (by first | assumption | omega) ?_
              refine x_dup eX8_sail_94 rfl ?_
              refine x_iload_n eX8_sail_95 rfl rfl ?_
              refine x_iload_n eX8_sail_96 rfl rfl ?_
              refine x_callI2 eX8_sail_97 lk_X8_115 (Nat.le_of_ble_eq_true rfl) (Nat.le_of_ble_eq_true rfl) ?_
              refine Rn.deep (c_X6_init (d := d) kl (fun _ => ?_)) (by omega)
              refine x_new (ci := 5) eX8_sail_100 rfl ck_X8_113 (by first | assumption | omega) ?_
              refine x_dup eX8_sail_103 rfl ?_
              refine x_iload_n eX8_sail_104 rfl rfl ?_
              refine x_iload eX8_sail_105 rfl ?_
              refine x_callI2 eX8_sail_107 lk_X8_115 (Nat.le_of_ble_eq_true rfl) (Nat.le_of_ble_eq_true rfl) ?_
              refine Rn.deep (c_X6_init (d := d) kr (fun _ => ?_)) (by omega)
              refine x_iload eX8_sail_110 rfl ?_
              refine x_callI3 eX8_sail_112 lk_X8_117 (Nat.le_of_ble_eq_true rfl) (Nat.le_of_ble_eq_true rfl) ?_
              refine Rn.deep (c_X5_init (d := d) (h := sdI (nw (sdI (nw (nw h 4 13) 5 3) (hz h + 1) e1 e3) 5 3) (hz h + 2) e2 e4) ka (by show hz h < hz h + 3; omega) hr4 (fun _ => ?_)) (by omega)
              first | refine x_aastRN eX8_sail_115 (by with_reducible rfl) (by assumption) (by decide) rfl rfl (by assumption) (by assumption) (by omega) (by omega) ?_ | refine x_aastNN eX8_sail_115 (by with_reducible rfl) (by assumption) (by decide) (by assumption) (by omega) (by omega) ?_
              first | refine x_aload_n eX8_sail_116 rfl rfl ?_ | refine x_aload_nN eX8_sail_116 rfl rfl ?_
              refine x_dup eX8_sail_117 rfl ?_
              first | refine x_getIe eX8_sail_118 fk_X8_25 (by decide) (by assumption) (by assumption) ?_ | refine x_getI eX8_sail_118 fk_X8_25 (by decide) (by assumption) ?_
              refine x_iconst (v := nI 1) eX8_sail_121 (by decide) ?_
              first | refine x_iaddN eX8_sail_122 (by with_reducible rfl) (by with_reducible rfl) ?_ | refine x_iadd eX8_sail_122 ?_
              refine x_putI eX8_sail_123 fk_X8_25 (by decide) rfl ⟨_, rfl, Or.inl rfl⟩ (by assumption) ?_
              have k120 : Rn G (d + 3) mX8_sail 126 [(0, .ref y), (6, .int (nI n))] [] (wi (wq (inS (sdI (nw (sdI (nw (nw h 4 13) 5 3) (hz h + 1) e1 e3) 5 3) (hz h + 2) e2 e4) (hz h) (hz h + 1) (hz h + 2) (nI ht)) (y + 2) n (some (hz h))) y 3 (nI (n + 1))) Q := by
                generalize wi (wq (inS (sdI (nw (sdI (nw (nw h 4 13) 5 3) (hz h + 1) e1 e3) 5 3) (hz h + 2) e2 e4) (hz h) (hz h + 1) (hz h + 2) (nI ht)) (y + 2) n (some (hz h))) y 3 (nI (n + 1)) = hM at *
                have kyM : hk hM y = 7 := (xM.k (by omega)).trans s1
                have kyN : hk (nw hM 0 8) y = 7 := by rw [hk_nw (by omega)]; exact kyM
                have knN : hk (nw hM 0 8) (hz hM) = 0 := hk_nw'
                have hroom : hz hM < gB G + 600000 ∧ us G hM + 8 ≤ 7302250 := ⟨by have := rm.2.1; omega, by have := rm.2.2; omega⟩
                first | refine x_aload_n eX8_sail_126 rfl rfl ?_ | refine x_aload_nN eX8_sail_126 rfl rfl ?_
                refine x_new (ci := 0) eX8_sail_127 rfl ck_X8_35 (by first | assumption | omega) ?_
                refine x_dup eX8_sail_130 rfl ?_
                refine x_iconst (v := nI 3) eX8_sail_131 (by decide) ?_
                refine x_iload eX8_sail_132 rfl ?_
                refine x_iconst (v := nI 0) eX8_sail_134 (by decide) ?_
                refine x_iconst (v := nI 0) eX8_sail_135 (by decide) ?_
                refine x_callI4 eX8_sail_136 lk_X8_69 (Nat.le_of_ble_eq_true rfl) (Nat.le_of_ble_eq_true rfl) ?_
                refine Rn.deep (c_X0_init (d := d) knN (fun _ => ?_)) (by omega)
                refine x_callV1 eX8_sail_139 lk_X8_72 (by assumption) (Nat.le_of_ble_eq_true rfl) (Nat.le_of_ble_eq_true rfl) ?_
                refine Rn.deep (c_remember (d := d) (k := nI 3) (o := nI n) (i := nI 0) (b := nI 0) c1 c2 k6'.1 k6'.2 hnx hkp (fun _ => ?_)) (by omega)
                refine x_iload eX8_sail_142 rfl ?_
                refine x_iret eX8_sail_144 rfl ?_
                refine hq1 hok _ (Ps.after (X := fun t => t = 1 ∨ t = 3 ∨ sT n t) CM I2.gw K (FM.mono (fun t ht => Or.inr (Or.inr (Or.inr ht)))) (fun t ht => by unfold sT at ht; omega) toM xM ?_ (fun A R o2 h2 q0 q1 q2 q3 q4 => Or.inl (lk_sail ⟨q0, e1, e2, e3, e4, nI ht, by omega, by rw [← hnd]⟩)) (by have := rm.1; omega) (by omega) (by omega))
                exact ym.2.2.2.2.1
              refine Rn.weak (k120) (by repeat' first | exact fun _ h => absurd h List.not_mem_nil | refine List.forall_mem_cons.mpr ⟨rfl, ?_⟩)
            · refine x_iconst (v := (-1)) eX8_sail_73 (by decide) ?_
              refine x_iret eX8_sail_74 rfl ?_
              exact hq0 (by unfold salOK; rw [show inR e4 (-500) 500 = false from cq6]; simp)
end ACT9

