/-! ===== acts on an open sail: stand ===== -/
section ACT8
variable {G : GG} {d : Nat} {h h2 : AH} {Q : Option Value → AH → Prop} {ow o2 : Nat → Nat} {y : Nat} {g g2 ld wd : Nat → Int32} {kp nx s a : Nat} {ps : Nat → Nat → Int32} {T : Nat → Prop}
set_option maxRecDepth 100000 in
set_option maxHeartbeats 4000000 in
theorem SideP.same {t tr n : Nat} {ft hd : Int32} {f : Nat → Int32} (F : Fr T ow h o2 h2) (h0 : t ≠ 0) (hT : ¬ T t) (h0r : tr ≠ 0) (hTr : ¬ T tr) (S : SideP ow h a t tr ft hd n f) : SideP o2 h2 a t tr ft hd n f := SideP.fr F h0 hT h0r hTr rfl rfl rfl (fun _ _ => rfl) S
set_option maxRecDepth 100000 in
set_option maxHeartbeats 4000000 in
theorem stand_fin {j b k l r : Nat} {v : Int32} (C : Core ow h y g ld wd) (K : Acts ow h y g kp nx ps) (I : GI g) (rm : Rm G h 100 6000) (hj : j < nt (g 1)) (h0 : sl g j 0 = 0) (hb : b < 2) (hkb : k < nt (sl g j (16 + b))) (ha : hr h (y + 2) j = some a) (P : SailP ow h g j a) (SB : SideB ow h g j a b l) (er : hr h l 2 = some r) : Ps G y ow h (gStand g j b k v) ld wd (kpS kp) ((nx + 1) % 16) (cns g ps) (rmH (wi (wi (mkA h (nI 5) (nI j) (nI b) (sl g j (18 + 61 * b + k))) (hz h) 4 (nI k)) r k v) y nx kp (hz h)) := by
  obtain ⟨C1, C2, -⟩ := id C
  have W := I.gw
  have h10 := W.2.1.2.2
  obtain ⟨⟨s1, s2, s3, s4, s5, s6⟩, -, ⟨-, -, b3⟩, -, -, -, -, ⟨t1, t2, t3⟩⟩ := id C2
  obtain ⟨k6, k7, hnx, hkp, -⟩ := id K
  have l7 := (C1 (y + 7) (by omega)).1
  obtain ⟨E, Cc, Ll⟩ := id P
  obtain ⟨oa, ka, -, -, -⟩ := id E
  obtain ⟨hl, ol, kl, e0, e1, hrow⟩ := id SB
  obtain ⟨sw, sx⟩ := I.2.2.1 j hj
  have np0 := sx.np0 h0
  have la := (C1 a (by omega)).1
  have ll := (C1 l (by omega)).1
  obtain ⟨or_, kr, nr, n0, ev⟩ : ow r = 430 + 10 * b + j ∧ hk h r = 22 ∧ hn h r = nt (sl g j (16 + b)) ∧ 0 < nt (sl g j (16 + b)) ∧ ∀ k, k < nt (sl g j (16 + b)) → hi h r k = sl g j (18 + 61 * b + k) := by
    rcases hrow with ⟨z, -⟩ | ⟨r', z, z2⟩
    · rw [z] at er
      cases er
    · rw [z] at er
      cases er
      exact z2
  have lr := (C1 r (by omega)).1
  have nyl : y ≠ l := fun z => by rw [z, ol] at s6; omega
  have nyr : y ≠ r := fun z => by rw [z, or_] at s6; omega
  have nlr : l ≠ r := fun z => by rw [z, or_] at ol; omega
  have wr : isN (sl g j (16 + b)) 0 61 := by
    rcases Nat.lt_or_ge b 1 with z | z
    · obtain rfl : b = 0 := by omega
      exact sw.2.2.2.2.2.2.2.2.2.2.2.1
    · obtain rfl : b = 1 := by omega
      exact sw.2.2.2.2.2.2.2.2.2.2.2.2.1
  have u61 := wr.2.2
  obtain ⟨old, hold⟩ : ∃ x, x = sl g j (18 + 61 * b + k) := ⟨_, rfl⟩
  rw [← hold]
  have m0 := mkA_v h (nI 5) (nI j) (nI b) old
  have hMi : ∀ q, q ≠ hz h → q ≠ r → hi (wi (wi (mkA h (nI 5) (nI j) (nI b) old) (hz h) 4 (nI k)) r k v) q = hi h q := fun q h1 h2 => by
    show up2 (up2 (hi (mkA h (nI 5) (nI j) (nI b) old)) (hz h) 4 _) r k v q = _
    rw [up2_a h2, up2_a h1, (mkA_ne h1).2.1]
  have hMr : ∀ q, q ≠ hz h → hr (wi (wi (mkA h (nI 5) (nI j) (nI b) old) (hz h) 4 (nI k)) r k v) q = hr h q := fun q h1 => (mkA_ne (k := nI 5) (o := nI j) (i := nI b) (b := old) h1).2.2.1
  have hMrr : hi (wi (wi (mkA h (nI 5) (nI j) (nI b) old) (hz h) 4 (nI k)) r k v) r = upd0 (hi h r) k v := by
    show up2 (up2 (hi (mkA h (nI 5) (nI j) (nI b) old)) (hz h) 4 _) r k v r = _
    rw [up2_at, up2_a (by omega), (mkA_ne (by omega)).2.1]
  have hMn : hi (wi (wi (mkA h (nI 5) (nI j) (nI b) old) (hz h) 4 (nI k)) r k v) (hz h) = upd0 (hi (mkA h (nI 5) (nI j) (nI b) old) (hz h)) 4 (nI k) := by
    show up2 (up2 (hi (mkA h (nI 5) (nI j) (nI b) old)) (hz h) 4 _) r k v (hz h) = _
    rw [up2_a (by omega), up2_at]
  have hMk : hk (wi (wi (mkA h (nI 5) (nI j) (nI b) old) (hz h) 4 (nI k)) r k v) (hz h) = 0 := hk_nw'
  have xM : Ext h (wi (wi (mkA h (nI 5) (nI j) (nI b) old) (hz h) 4 (nI k)) r k v) := mkA_x h (nI 5) (nI j) (nI b) old
  have hzM : hz (wi (wi (mkA h (nI 5) (nI j) (nI b) old) (hz h) 4 (nI k)) r k v) = hz h + 1 := rfl
  have usM : us G (wi (wi (mkA h (nI 5) (nI j) (nI b) old) (hz h) 4 (nI k)) r k v) = us G h + 8 := mkA_us (k := nI 5) (o := nI j) (i := nI b) (b := old) rm.1
  have LM : Lv (upd0 ow (hz h) (2000 + nx)) (wi (wi (mkA h (nI 5) (nI j) (nI b) old) (hz h) 4 (nI k)) r k v) := mkA_lv (k := nI 5) (o := nI j) (i := nI b) (b := old) C1
  have oR : upd0 ow (hz h) (2000 + nx) r = 430 + 10 * b + j := by rw [upd0_ne (by omega)]; exact or_
  have FM : Fr (oT nx (fun t => t = 430 + 10 * b + j)) ow h (upd0 ow (hz h) (2000 + nx)) (wi (wi (mkA h (nI 5) (nI j) (nI b) old) (hz h) 4 (nI k)) r k v) := Fr.tr (mkA_fr C1) (Fr.tr (Fr.wi (by rw [upd0_same]; exact Or.inr (Or.inr (Or.inl (Or.inl rfl))))) (Fr.wi (by rw [oR]; exact Or.inr (Or.inr (Or.inr rfl)))))
  generalize wi (wi (mkA h (nI 5) (nI j) (nI b) old) (hz h) 4 (nI k)) r k v = hM at *
  have oy : upd0 ow (hz h) (2000 + nx) y = 1 := by rw [upd0_ne (by omega)]; exact s6
  have o7 : upd0 ow (hz h) (2000 + nx) (y + 7) = 4 := by rw [upd0_ne (by omega)]; exact t3
  have F : Fr (oT nx (fun t => t = 430 + 10 * b + j)) ow h (upd0 ow (hz h) (2000 + nx)) (rmH hM y nx kp (hz h)) := Fr.tr FM (rmH_fr oy o7)
  have x : Ext h (rmH hM y nx kp (hz h)) := xM
  have gsc : ∀ c, c < 390 → c ≠ 18 + 61 * b + k → sl (gStand g j b k v) j c = sl g j c := fun c h1 h2 => upd0_ne (by omega)
  have gk : sl (gStand g j b k v) j (18 + 61 * b + k) = v := upd0_same _ _ _
  have ge : ∀ q, (q < 5050 + 390 * j ∨ 5050 + 390 * j + 390 ≤ q) → gStand g j b k v q = g q := fun q hq => upd0_ne (by omega)
  have enp : np (gStand g j b k v) j = np g j := by unfold np; rw [gsc 8 (by omega) (by omega), gsc 9 (by omega) (by omega)]
  have le : LE g (gStand g j b k v) j := ⟨enp, fun i hi => by omega⟩
  obtain ⟨f1, f2, f3, f4, f5, -⟩ := F.at_ oa (by omega) (fun q => by unfold oT aT at q; omega)
  obtain ⟨g1, g2', g3, g4, g5, -⟩ := F.at_ ol (by omega) (fun q => by unfold oT aT at q; omega)
  have y2 := F.at_ b3 (by omega) (fun q => by unfold oT aT at q; omega)
  refine Ps.sail C K I hj (F.mono (oT_mono (fun t ht => by unfold sT; omega))) x LM (To.nw C1) (fun k => by rw [rmH_r (by omega), hMr y (by omega)]) (by rw [rmH_y (by decide) (by decide), hMi y (by omega) nyr]) (by rw [rmH_y (by decide) (by decide), hMi y (by omega) nyr]) rmH_6 rmH_7 (by rw [rmH_a, hMr (y + 7) (by omega)]) ge (fun i k _ _ => LE.one W hj ge le) ⟨a, by rw [y2.2.2.2.2.1]; exact ha, ?_, ?_, ?_⟩ ⟨upd0_same _ _ _, hMk, ?_⟩ ?_ ?_
  · refine E.new F (fun b' h1 h2 => ⟨fun q => by unfold oT aT at q; omega, fun q => by unfold oT aT at q; omega⟩) f1 (f2.trans ka) f5 (by rw [f4]) sw hb (gsc 5 (by omega) (by omega)) (fun b' h1 h2 => ⟨gsc _ (by omega) (by omega), gsc _ (by omega) (by omega), gsc _ (by omega) (by omega), fun k' hk => ?_⟩) (b := b) (l := l) ⟨by rw [f5]; exact hl, g1, g2'.trans kl, by rw [g4, e0, gsc _ (by omega) (by omega)], by rw [g4, e1, gsc _ (by omega) (by omega)], ?_⟩
    · have w' : nt (sl g j (16 + b')) ≤ 61 := by
        rcases Nat.lt_or_ge b' 1 with z | z
        · obtain rfl : b' = 0 := by omega
          exact sw.2.2.2.2.2.2.2.2.2.2.2.1.2.2
        · obtain rfl : b' = 1 := by omega
          exact sw.2.2.2.2.2.2.2.2.2.2.2.2.1.2.2
      exact gsc _ (by omega) (by omega)
    · rw [g5, gsc (16 + b) (by omega) (by omega)]
      refine Or.inr ⟨r, er, oR, (x.k lr).trans kr, (x.n lr).trans nr, n0, fun q hq => ?_⟩
      show _ = sl (gStand g j b k v) j (18 + 61 * b + q)
      rw [rmH_i (fun z => nyr z.symm), hMrr]
      by_cases e : q = k
      · rw [e, upd0_same, gk]
      · rw [upd0_ne e, ev q hq, gsc _ (by omega) (by omega)]
  · refine ⟨by rw [f4, Cc.1, gsc 0 (by omega) (by omega)], by rw [f4, Cc.2.1, gsc 8 (by omega) (by omega)], by rw [f4, Cc.2.2.1, enp], Or.inl ?_⟩
    rw [f5, gsc 0 (by omega) (by omega)]
    rcases Cc.2.2.2 with z | ⟨z, -⟩
    · exact z
    · exact absurd h0 z
  · exact Ll.mod F (fun q => by unfold oT aT at q; omega) sw (by rw [f5]) (by rw [f4, Ll.1, gsc 10 (by omega) (by omega)]) (by rw [f4, Ll.2.1, gsc 11 (by omega) (by omega)]) (by rw [f4]) (fun c h1 h2 => gsc c (by omega) (by omega))
  · rw [rmH_i (by omega), hMn]
    exact Or.inl (lk_stand ⟨(upd0_ne (by decide)).trans m0.1, j, b, k, v, (upd0_ne (by decide)).trans m0.2.1, (upd0_ne (by decide)).trans m0.2.2.1, ((upd0_ne (by decide)).trans m0.2.2.2.1).trans hold, upd0_same _ _ _, hj, hb, hkb, h0, rfl⟩)
  · show hz hM ≤ _
    omega
  · show us G hM ≤ _
    omega
set_option maxRecDepth 100000 in
set_option maxHeartbeats 4000000 in
theorem c_X8_stand {v u w z : Int32} (C : Core ow h y g ld wd) (K : Acts ow h y g kp nx ps) (I : GI g) (rm : Rm G h 100 6000) (hq0 : standOK g v u w z = false → Q (some (.int 0)) h) (hq1 : standOK g v u w z = true → ∀ h2, Ps G y ow h (gStand g (nt v) (nt u) (nt w) z) ld wd (kpS kp) ((nx + 1) % 16) (cns g ps) h2 → Q (some (.int 1)) h2) : Rn G (d + 3) mX8_stand 0 [(0, .ref y), (1, .int v), (2, .int u), (3, .int w), (4, .int z)] [] h Q := by
  obtain ⟨C1, C2, -⟩ := id C
  have W := I.gw
  have h10 := W.2.1.2.2
  obtain ⟨⟨s1, s2, s3, s4, s5, s6⟩, -, ⟨-, -, b3⟩, -, -, -, -, ⟨t1, t2, t3⟩⟩ := id C2
  obtain ⟨k6, k7, hnx, hkp, -⟩ := id K
  have l7 := (C1 (y + 7) (by omega)).1
  first | refine x_aload_n eX8_stand_0 rfl rfl ?_ | refine x_aload_nN eX8_stand_0 rfl rfl ?_
  refine x_iload_n eX8_stand_1 rfl rfl ?_
  refine x_iconst (v := nI 0) eX8_stand_2 (by decide) ?_
  refine x_callV2 eX8_stand_3 lk_X8_120 (by assumption) (Nat.le_of_ble_eq_true rfl) (Nat.le_of_ble_eq_true rfl) ?_
  refine c_X8_sailInState C W (fun q _ => ?_) (fun j a ej hj h0 ha P _ => ?_)
  · first | refine x_astore eX8_stand_6 (by decide) rfl rfl ?_ | refine x_astoreN eX8_stand_6 (by decide) rfl rfl ?_
    first | refine x_aload eX8_stand_8 rfl ?_ | refine x_aloadN eX8_stand_8 rfl ?_
    refine x_ifnullN (tgt := 27) eX8_stand_10 (by decide) ?_
    refine x_iconst (v := nI 0) eX8_stand_27 (by decide) ?_
    refine x_zret eX8_stand_28 rfl (by first | exact Or.inl rfl | exact Or.inr rfl | exact bI_or _ | assumption) ?_
    exact hq0 (by unfold standOK isO; rw [show (isS g v && decide (sl g (nt v) 0 = 0)) = false from q]; rfl)
  · subst ej
    have h0 : sl g j 0 = 0 := h0
    obtain ⟨E, Cc, Ll⟩ := id P
    obtain ⟨oa, ka, -, -, e2⟩ := id E
    have hS : nt (nI j) = j := nt_nI (by omega)
    have hB := isO_of W hj h0
    obtain ⟨sw, sx⟩ := I.2.2.1 j hj
    first | refine x_astore eX8_stand_6 (by decide) rfl rfl ?_ | refine x_astoreN eX8_stand_6 (by decide) rfl rfl ?_
    first | refine x_aload eX8_stand_8 rfl ?_ | refine x_aloadN eX8_stand_8 rfl ?_
    refine x_ifnullR eX8_stand_10 ?_
    refine x_iload eX8_stand_13 rfl ?_
    refine x_sipush (v := (-200)) eX8_stand_15 (by decide) ?_
    refine x_sipush (v := nI 200) eX8_stand_18 (by decide) ?_
    refine x_callS3 eX8_stand_21 lk_X8_51 (Nat.le_of_ble_eq_true rfl) (Nat.le_of_ble_eq_true rfl) ?_
    refine Rn.deep (c_X8_isWithin (d := d) (fun _ => ?_)) (by omega)
    first | refine x_if_neB (tgt := 29) eX8_stand_24 (by decide) (by with_reducible rfl) (fun cq1 => ?_) (fun cq1 => ?_) | refine x_if_ne (tgt := 29) eX8_stand_24 (by decide) (fun cq1 => ?_) (fun cq1 => ?_)
    · have hin : inR z (-200) 200 = true := cq1
      have hv16 : z.toInt16.toInt32 = z := by
        unfold inR at hin
        simp only [Bool.and_eq_true, decide_eq_true_eq] at hin
        refine i16_ok ?_ ?_
        · have := Int32.le_iff_toInt_le.mp hin.1
          have e : (-200 : Int32).toInt = -200 := by decide
          rw [e] at this
          omega
        · have := Int32.le_iff_toInt_le.mp hin.2
          have e : (200 : Int32).toInt = 200 := by decide
          rw [e] at this
          omega
      have hr1 : hz h < gB G + 600000 ∧ us G h + 8 ≤ 7302250 := ⟨by have := rm.2.1; omega, by have := rm.2.2; omega⟩
      have main : ∀ b l, b < 2 → u = nI b → SideB ow h g j a b l → Rn G (d + 3) mX8_stand 42 [(0, .ref y), (1, .int (nI j)), (2, .int u), (3, .int w), (4, .int z), (6, .ref l)] [] h Q := by
        intro b l hb eb SB
        subst eb
        obtain ⟨hl, S⟩ := id SB
        obtain ⟨ol, kl, -, -, hrow⟩ := id S
        have ll := (C1 l (by omega)).1
        have hBb : nt (nI b) = b := nt_nI (by omega)
        have wr : isN (sl g j (16 + b)) 0 61 := by
          rcases Nat.lt_or_ge b 1 with z | z
          · obtain rfl : b = 0 := by omega
            exact sw.2.2.2.2.2.2.2.2.2.2.2.1
          · obtain rfl : b = 1 := by omega
            exact sw.2.2.2.2.2.2.2.2.2.2.2.2.1
        have u61 := wr.2.2
        have ek : ∀ k : Int32, standOK g (nI j) (nI b) k z = hpV (sl g j (16 + b)) k := fun k => by
          unfold standOK hpV
          rw [hB, hS, hBb, show inR (nI b) 0 1 = true from inR_nI (lo := 0) (hi := 1) (Nat.zero_le _) (by omega) (by omega), hin, Bool.and_true]
          rfl
        first | refine x_aload eX8_stand_42 rfl ?_ | refine x_aloadN eX8_stand_42 rfl ?_
        refine x_iload_n eX8_stand_44 rfl rfl ?_
        refine x_callV1 eX8_stand_45 lk_X8_137 (by assumption) (Nat.le_of_ble_eq_true rfl) (Nat.le_of_ble_eq_true rfl) ?_
        refine Rn.deep (c_X6_tellsHeight (d := d) S u61 (fun _ => ?_)) (by omega)
        rw [← wr.1]
        first | refine x_if_neB (tgt := 53) eX8_stand_48 (by decide) (by with_reducible rfl) (fun cq1 => ?_) (fun cq1 => ?_) | refine x_if_ne (tgt := 53) eX8_stand_48 (by decide) (fun cq1 => ?_) (fun cq1 => ?_)
        · obtain ⟨k, hkb, rfl⟩ := hpV_s wr (by omega) cq1
          have hkk : nt (nI k) = k := nt_nI (by omega)
          have hok : standOK g (nI j) (nI b) (nI k) z = true := by rw [ek]; exact cq1
          obtain ⟨r, er⟩ : ∃ r, hr h l 2 = some r := by
            rcases hrow with ⟨-, q⟩ | ⟨r, q, -⟩
            · omega
            · exact ⟨r, q⟩
          have knN : hk (nw h 0 8) (hz h) = 0 := hk_nw'
          have klN : hk (nw h 0 8) l = 5 := by rw [hk_nw (by omega)]; exact kl
          have kyN : hk (nw h 0 8) y = 7 := by rw [hk_nw (by omega)]; exact s1
          have SN : SideP (upd0 ow (hz h) (2000 + nx)) (nw h 0 8) l (410 + 10 * b + j) (430 + 10 * b + j) (sl g j (1 + b)) (sl g j (3 + b)) (nt (sl g j (16 + b))) (fun k => sl g j (18 + 61 * b + k)) := S.same (T := fun t => t = 0) (Fr.nw C1) (by omega) (by omega) (by omega) (by omega)
          have SM : SideP (upd0 ow (hz h) (2000 + nx)) (wi (mkA h (nI 5) (nI j) (nI b) (sl g j (18 + 61 * b + k))) (hz h) 4 (nI k)) l (410 + 10 * b + j) (430 + 10 * b + j) (sl g j (1 + b)) (sl g j (3 + b)) (nt (sl g j (16 + b))) (fun k => sl g j (18 + 61 * b + k)) := S.same (T := fun t => t = 2000 + nx) (Fr.tr (mkA_fr C1) (Fr.wi (upd0_same _ _ _))) (by omega) (by omega) (by omega) (by omega)
          have est : (if hpV (nI (nt (sl g j (16 + b)))) (nI k) = true then sl g j (18 + 61 * b + nt (nI k)) else 0) = sl g j (18 + 61 * b + k) := by
            rw [← wr.1, if_pos cq1, hkk]
          have rlM : hr (wi (mkA h (nI 5) (nI j) (nI b) (sl g j (18 + 61 * b + k))) (hz h) 4 (nI k)) l 2 = some r := by
            show hr (mkA h (nI 5) (nI j) (nI b) (sl g j (18 + 61 * b + k))) l 2 = _
            rw [(mkA_ne (by omega)).2.2.1]
            exact er
          have fin := hq1 hok _ (by rw [hS, hBb, hkk]; exact stand_fin (v := z) C K I rm hj h0 hb hkb ha P SB er)
          have t1N : hk (nw h 0 8) (y + 7) = 30 := by rw [hk_nw (by omega)]; exact t1
          have t2N : hn (nw h 0 8) (y + 7) = 16 := by rw [hn_nw l7]; exact t2
          have nyr : y ≠ r := fun q => by
            rcases hrow with ⟨q1, -⟩ | ⟨r', q1, q2, -⟩
            · rw [q1] at er; cases er
            · rw [q1] at er
              cases er
              rw [q, q2] at s6
              omega
          have yM : ∀ q, hi (wi (wi (mkA h (nI 5) (nI j) (nI b) (sl g j (18 + 61 * b + k))) (hz h) 4 (nI k)) r k z) y q = hi h y q := fun q => by
            show up2 (up2 (hi (mkA h (nI 5) (nI j) (nI b) (sl g j (18 + 61 * b + k)))) (hz h) 4 _) r k z y q = _
            rw [up2_a nyr, up2_a (by omega), (mkA_ne (by omega)).2.1]
          have k6M : hi (wi (wi (mkA h (nI 5) (nI j) (nI b) (sl g j (18 + 61 * b + k))) (hz h) 4 (nI k)) r k z) y 6 = nI nx := (yM 6).trans k6
          have k7M : hi (wi (wi (mkA h (nI 5) (nI j) (nI b) (sl g j (18 + 61 * b + k))) (hz h) 4 (nI k)) r k z) y 7 = nI kp := (yM 7).trans k7
          have r5M : hr (wi (wi (mkA h (nI 5) (nI j) (nI b) (sl g j (18 + 61 * b + k))) (hz h) 4 (nI k)) r k z) y 5 = some (y + 7) := by
            show hr (mkA h (nI 5) (nI j) (nI b) (sl g j (18 + 61 * b + k))) y 5 = _
            rw [(mkA_ne (by omega)).2.2.1]
            exact s5
          refine x_new (ci := 0) eX8_stand_53 rfl ck_X8_35 (by first | assumption | omega) ?_
          refine x_dup eX8_stand_56 rfl ?_
          refine x_iconst (v := nI 5) eX8_stand_57 (by decide) ?_
          refine x_iload_n eX8_stand_58 rfl rfl ?_
          refine x_iload_n eX8_stand_59 rfl rfl ?_
          first | refine x_aload eX8_stand_60 rfl ?_ | refine x_aloadN eX8_stand_60 rfl ?_
          refine x_iload_n eX8_stand_62 rfl rfl ?_
          refine x_callV1 eX8_stand_63 lk_X8_140 (by assumption) (Nat.le_of_ble_eq_true rfl) (Nat.le_of_ble_eq_true rfl) ?_
          refine Rn.deep (c_X6_standAt (d := d) SN u61 (fun _ => ?_)) (by omega)
          rw [est]
          refine x_callI4 eX8_stand_66 lk_X8_69 (Nat.le_of_ble_eq_true rfl) (Nat.le_of_ble_eq_true rfl) ?_
          refine Rn.deep (c_X0_init (d := d) knN (fun _ => ?_)) (by omega)
          first | refine x_astore eX8_stand_69 (by decide) rfl rfl ?_ | refine x_astoreN eX8_stand_69 (by decide) rfl rfl ?_
          first | refine x_aload eX8_stand_71 rfl ?_ | refine x_aloadN eX8_stand_71 rfl ?_
          refine x_iload_n eX8_stand_73 rfl rfl ?_
          refine x_putI eX8_stand_74 fk_X8_143 (by decide) rfl ⟨_, rfl, Or.inl rfl⟩ (by assumption) ?_
          first | refine x_aload eX8_stand_77 rfl ?_ | refine x_aloadN eX8_stand_77 rfl ?_
          refine x_iload_n eX8_stand_79 rfl rfl ?_
          refine x_iload eX8_stand_80 rfl ?_
          refine x_callV2 eX8_stand_82 lk_X8_146 (by assumption) (Nat.le_of_ble_eq_true rfl) (Nat.le_of_ble_eq_true rfl) ?_
          refine Rn.deep (c_X6_putStand (d := d) (h := wi (mkA h (nI 5) (nI j) (nI b) (sl g j (18 + 61 * b + k))) (hz h) 4 (nI k)) SM u61 hkb hv16 (fun r' er' or' _ => ?_)) (by omega)
          cases rlM.symm.trans er'
          first | refine x_aload_n eX8_stand_85 rfl rfl ?_ | refine x_aload_nN eX8_stand_85 rfl rfl ?_
          first | refine x_aload eX8_stand_86 rfl ?_ | refine x_aloadN eX8_stand_86 rfl ?_
          refine x_callV1 eX8_stand_88 lk_X8_72 (by assumption) (Nat.le_of_ble_eq_true rfl) (Nat.le_of_ble_eq_true rfl) ?_
          refine Rn.deep (c_X8_remember (d := d) (h := wi (wi (mkA h (nI 5) (nI j) (nI b) (sl g j (18 + 61 * b + k))) (hz h) 4 (nI k)) r k z) kyN r5M t1N t2N k6M k7M hnx hkp knN (fun _ => ?_)) (by omega)
          refine x_iconst (v := nI 1) eX8_stand_91 (by decide) ?_
          refine x_zret eX8_stand_92 rfl (by first | exact Or.inl rfl | exact Or.inr rfl | exact bI_or _ | assumption) ?_
          exact fin
        · refine x_iconst (v := nI 0) eX8_stand_51 (by decide) ?_
          refine x_zret eX8_stand_52 rfl (by first | exact Or.inl rfl | exact Or.inr rfl | exact bI_or _ | assumption) ?_
          exact hq0 (by rw [ek]; exact cq1)
      skip
      first | refine x_aload eX8_stand_29 rfl ?_ | refine x_aloadN eX8_stand_29 rfl ?_
      refine x_iload_n eX8_stand_31 rfl rfl ?_
      refine x_callV1 eX8_stand_32 lk_X8_127 (by assumption) (Nat.le_of_ble_eq_true rfl) (Nat.le_of_ble_eq_true rfl) ?_
      refine Rn.deep (c_X5_sideNumbered (d := d) E (fun q _ => ?_) (fun q l hl S _ => ?_) (fun q r hr' S _ => ?_)) (by omega)
      · first | refine x_astore eX8_stand_35 (by decide) rfl rfl ?_ | refine x_astoreN eX8_stand_35 (by decide) rfl rfl ?_
        first | refine x_aload eX8_stand_37 rfl ?_ | refine x_aloadN eX8_stand_37 rfl ?_
        refine x_ifnullN (tgt := 51) eX8_stand_39 (by decide) ?_
        refine x_iconst (v := nI 0) eX8_stand_51 (by decide) ?_
        refine x_zret eX8_stand_52 rfl (by first | exact Or.inl rfl | exact Or.inr rfl | exact bI_or _ | assumption) ?_
        exact hq0 (by unfold standOK; rw [q]; simp)
      · have w := main 0 l (by omega) q ⟨hl, S⟩
        first | refine x_astore eX8_stand_35 (by decide) rfl rfl ?_ | refine x_astoreN eX8_stand_35 (by decide) rfl rfl ?_
        first | refine x_aload eX8_stand_37 rfl ?_ | refine x_aloadN eX8_stand_37 rfl ?_
        refine x_ifnullR eX8_stand_39 ?_
        refine Rn.weak (w) (by repeat' first | exact fun _ h => absurd h List.not_mem_nil | refine List.forall_mem_cons.mpr ⟨rfl, ?_⟩)
      · have w := main 1 r (by omega) q ⟨hr', S⟩
        first | refine x_astore eX8_stand_35 (by decide) rfl rfl ?_ | refine x_astoreN eX8_stand_35 (by decide) rfl rfl ?_
        first | refine x_aload eX8_stand_37 rfl ?_ | refine x_aloadN eX8_stand_37 rfl ?_
        refine x_ifnullR eX8_stand_39 ?_
        refine Rn.weak (w) (by repeat' first | exact fun _ h => absurd h List.not_mem_nil | refine List.forall_mem_cons.mpr ⟨rfl, ?_⟩)
    · refine x_iconst (v := nI 0) eX8_stand_27 (by decide) ?_
      refine x_zret eX8_stand_28 rfl (by first | exact Or.inl rfl | exact Or.inr rfl | exact bI_or _ | assumption) ?_
      exact hq0 (by unfold standOK; rw [show inR z (-200) 200 = false from cq1]; simp)
end ACT8

