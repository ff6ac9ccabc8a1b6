/-! ===== a sail is cut: its pieces, its strips ===== -/
section CUT1
variable {G : GG} {d : Nat} {h h2 : AH} {Q : Option Value → AH → Prop} {ow o2 : Nat → Nat} {y : Nat} {g g2 ld wd : Nat → Int32} {kp nx s a : Nat} {ps : Nat → Nat → Int32} {T : Nat → Prop}
/-- what cutting may touch -/
def cT (s t : Nat) : Prop := t = 400 + s ∨ t = 450 + s ∨ t = 460 + s ∨ (1000 + 40 * s ≤ t ∧ t < 1040 + 40 * s)
/-- k pieces of pn are cut: g2 the state behind -/
def CutI (G : GG) (ow : Nat → Nat) (h : AH) (g2 : Nat → Int32) (s a pn k : Nat) (oK : Nat → Nat) (hK : AH) : Prop :=
  Fr (cT s) ow h oK hK ∧ Lv oK hK ∧ To ow oK ∧ Ext h hK ∧ (hr hK a = upd0 (hr h a) 4 (some (hz h)) ∧ hi hK a = upd0 (upd0 (hi h a) 5 (nI pn)) 6 (nI pn) ∧ oK a = 400 + s) ∧ (oK (hz h) = 450 + s ∧ hk hK (hz h) = 33 ∧ hn hK (hz h) = 40) ∧ (∀ i, i < k → ∃ p, hr hK (hz h) i = some p ∧ PieceP oK hK g2 s i p) ∧ hz hK = hz h + 1 + k ∧ us G hK = us G h + 40 + 9 * k
set_option maxRecDepth 100000 in
set_option maxHeartbeats 4000000 in
theorem CutI.step {pn k : Nat} {oK : Nat → Nat} {hK : AH} {lo up ln br tw : Int32} (hB : gB G ≤ hz h) (la : a < hz h) (hk40 : k < 40) (N : CutI G ow h g2 s a pn k oK hK) (e0 : isP g2 s k = true) (e1 : lo = lowV g2 s k) (e2 : up = highV g2 s k) (e3 : ln = lenV g2 s k) (e4 : br = broV g2 s k) (e5 : tw = areV g2 s k) (e6 : sl g2 s (140 + k) = 0) (e7 : sl g2 s (300 + k) = -1) (e8 : sl g2 s (340 + k) = -1) :
    CutI G ow h g2 s a pn (k + 1) (upd0 oK (hz hK) (1000 + 40 * s + k)) (wq (pcI (nw hK 3 9) (hz hK) 0 lo up ln br tw) (hz h) k (some (hz hK))) := by
  obtain ⟨n1, n2, n3, n4, ⟨a1, a2, a3⟩, ⟨p1, p2, p3⟩, n5, n6, n7⟩ := N
  have hne : ∀ q, q < hz hK → q ≠ hz hK := fun q hq => Nat.ne_of_lt hq
  have iq : ∀ q, q ≠ hz hK → hi (wq (pcI (nw hK 3 9) (hz hK) 0 lo up ln br tw) (hz h) k (some (hz hK))) q = hi hK q := fun q hq => by
    show hi (pcI (nw hK 3 9) (hz hK) 0 lo up ln br tw) q = _
    rw [pcI_ne hq, (nw_ne hq).2.1]
  have rq : ∀ q, q ≠ hz hK → q ≠ hz h → hr (wq (pcI (nw hK 3 9) (hz hK) 0 lo up ln br tw) (hz h) k (some (hz hK))) q = hr hK q := fun q hq h2 => by
    show up2 (hr (nw hK 3 9)) (hz h) k _ q = _
    rw [up2_a h2, (nw_ne hq).2.2.1]
  have rp : hr (wq (pcI (nw hK 3 9) (hz hK) 0 lo up ln br tw) (hz h) k (some (hz hK))) (hz h) = upd0 (hr hK (hz h)) k (some (hz hK)) := by
    show up2 (hr (nw hK 3 9)) (hz h) k _ (hz h) = _
    rw [up2_at, (nw_ne (by omega)).2.2.1]
  have F2 : Fr (fun t => t = 450 + s) oK hK (upd0 oK (hz hK) (1000 + 40 * s + k)) (wq (pcI (nw hK 3 9) (hz hK) 0 lo up ln br tw) (hz h) k (some (hz hK))) := fun q q1 q2 => by
    have z := hne q (n2 q q1).1
    have z2 : q ≠ hz h := fun e => q2 (by rw [e]; exact p1)
    have e := nw_ne (h := hK) (kd := 3) (n := 9) z
    exact ⟨upd0_ne z, e.1, iq q z, rq q z z2, e.2.2.2.1, e.2.2.2.2⟩
  have x2 : Ext hK (wq (pcI (nw hK 3 9) (hz hK) 0 lo up ln br tw) (hz h) k (some (hz hK))) := Ext.nw hK 3 9
  refine ⟨n1.tr (F2.mono (fun t ht => by unfold cT; omega)), Lv.nw (kd := 3) (n := 9) n2 (fun z => by cases z), n3.tr (To.nw n2), n4.tr x2, ⟨by rw [rq a (by omega) (by omega)]; exact a1, by rw [iq a (by omega)]; exact a2, by rw [upd0_ne (by omega)]; exact a3⟩, ⟨by rw [upd0_ne (by omega)]; exact p1, (x2.k (by omega)).trans p2, (x2.n (by omega)).trans p3⟩, fun i hi => ?_, by show hz hK + 1 = _; omega, by rw [show us G (wq (pcI (nw hK 3 9) (hz hK) 0 lo up ln br tw) (hz h) k (some (hz hK))) = us G hK + 9 from us_nw (kd := 3) (n := 9) (by omega)]; omega⟩
  by_cases ei : i = k
  · subst ei
    obtain ⟨v0, v1, v2, v3, v4, v5, v6, v7, v8⟩ := pcI_v (h := nw hK 3 9) (p := hz hK) (z := 0) (lo := lo) (up := up) (ln := ln) (br := br) (tw := tw)
    refine ⟨hz hK, by rw [rp, upd0_same], upd0_same _ _ _, hk_nw', v0.trans (by rw [e0]; rfl), v1.trans e1, v2.trans e2, v3.trans e3, v4.trans e4, v5.trans e5, v6.trans (by rw [if_pos e0, e6]), v7.trans e7.symm, v8.trans e8.symm⟩
  · obtain ⟨p, hp, R⟩ := n5 i (by omega)
    obtain ⟨r0, r1, r2⟩ := id R
    have lp := (n2 p (by omega)).1
    obtain ⟨f1, f2, -, f4, -⟩ := F2.at_ r0 (by omega) (by omega)
    refine ⟨p, by rw [rp, upd0_ne ei]; exact hp, f1, f2.trans r1, ?_⟩
    rw [f4]
    exact r2
set_option maxRecDepth 100000 in
set_option maxHeartbeats 4000000 in
theorem l_X5_cut1 {net b pn : Nat} (rm : Rm G h 50 600) (L : Lv ow h) (E : SailE ow h g s a) (w : SW g s) (hn1 : 1 ≤ net) (hn2 : net ≤ 19) (hb : b ≤ 19) (hpn : pn ≤ 40) (ee : EE g g2 s) (g6 : sl g2 s 6 = nI net) (g7 : sl g2 s 7 = nI b) (g8 : sl g2 s 8 = nI pn) (hlo : ∀ i, i < pn → i * net < nt (sl g s 5)) (gL : ∀ i, i < pn → sl g2 s (140 + i) = 0 ∧ sl g2 s (300 + i) = -1 ∧ sl g2 s (340 + i) = -1)
    (kx : ∀ oK hK, CutI G ow h g2 s a pn pn oK hK → Rn G (d + 5) mX5_cutInto 115 [(0, .ref a)] [] hK Q) : ∀ n k oK hK, k + n = pn → CutI G ow h g2 s a pn k oK hK → Rn G (d + 5) mX5_cutInto 33 [(0, .ref a), (1, .int (nI net)), (2, .int (nI b)), (3, .int (nI k))] [] hK Q := by
  have la := (L a (by rw [E.1]; omega)).1
  have e5g : sl g2 s 5 = sl g s 5 := ee.1 5 (by omega) (by omega)
  obtain ⟨w5, w51, w52⟩ := w.2.1
  intro n
  induction n with
  | zero =>
    intro k oK hK hk0 N
    obtain ⟨n1, n2, n3, n4, ⟨a1, a2, a3⟩, ⟨p1, p2, p3⟩, n5, n6, n7⟩ := id N
    have ka : hk hK a = 4 := (n4.k la).trans E.2.1
    have i5 : hi hK a 5 = nI pn := by rw [a2, upd0_ne (by decide), upd0_same]
    rw [show k = pn by omega] at N
    have kx1 := kx oK hK N
    refine x_iload_n eX5_cutInto_33 rfl rfl ?_
    first | refine x_aload_n eX5_cutInto_34 rfl rfl ?_ | refine x_aload_nN eX5_cutInto_34 rfl rfl ?_
    first | refine x_getIe eX5_cutInto_35 fk_X5_19 (by decide) (by assumption) (by assumption) ?_ | refine x_getI eX5_cutInto_35 fk_X5_19 (by decide) (by assumption) ?_
    first | refine x_icmp_geN (tgt := 115) eX5_cutInto_38 (by decide) (by with_reducible rfl) (by with_reducible rfl) (by omega) (by omega) (fun cq1 => ?_) (fun cq1 => ?_) | refine x_icmp_ge (tgt := 115) eX5_cutInto_38 (by decide) (fun cq1 => ?_) (fun cq1 => ?_)
    · refine Rn.weak (kx1) (by repeat' first | exact fun _ h => absurd h List.not_mem_nil | refine List.forall_mem_cons.mpr ⟨rfl, ?_⟩)
    · exact absurd cq1 (by omega)
  | succ n ih =>
    intro k oK hK hk0 N
    obtain ⟨n1, n2, n3, n4, ⟨a1, a2, a3⟩, ⟨p1, p2, p3⟩, n5, n6, n7⟩ := id N
    have ka : hk hK a = 4 := (n4.k la).trans E.2.1
    have i5 : hi hK a 5 = nI pn := by rw [a2, upd0_ne (by decide), upd0_same]
    have i2 : hi hK a 2 = nI (nt (sl g s 5)) := by rw [a2, upd0_ne (by decide), upd0_ne (by decide), E.2.2.2.2]; exact w5
    have r4 : hr hK a 4 = some (hz h) := by rw [a1, upd0_same]
    have hroom : hz hK < gB G + 600000 ∧ us G hK + 9 ≤ 7302250 := ⟨by have := rm.2.1; omega, by have := rm.2.2; omega⟩
    obtain ⟨H, hH⟩ : ∃ H, H = nt (sl g s 5) := ⟨_, rfl⟩
    rw [← hH] at i2 w51 w52 hlo
    have hlt := hlo k (by omega)
    obtain ⟨lo, hlod⟩ : ∃ lo, lo = k * net := ⟨_, rfl⟩
    rw [← hlod] at hlt
    obtain ⟨up, hup⟩ : ∃ up, up = if lo + net < H then lo + net else H := ⟨_, rfl⟩
    have hup1 : lo < up ∧ up ≤ H := by rw [hup]; split <;> omega
    have em : (if nI H < nI (lo + net) then nI H else nI (lo + net)) = nI up := by
      rw [hup]
      by_cases z : lo + net < H
      · rw [if_neg (nI_nlt (by omega) (by omega)), if_pos z]
      · rw [if_neg z]
        by_cases z2 : H < lo + net
        · rw [if_pos (nI_lt z2 (by omega))]
        · rw [if_neg (nI_nlt (by omega) (by omega)), show lo + net = H by omega]
    have hP : isP g2 s k = true := by unfold isP; rw [g8, nt_nI (by omega)]; exact decide_eq_true (by omega)
    have eLo : loN g2 s k = lo := by unfold loN; rw [g6, nt_nI (by omega), hlod]
    have eHi : hiN g2 s k = up := by
      unfold hiN
      rw [g6, nt_nI (by omega), e5g, ← hH, hup, Nat.add_mul, Nat.one_mul, hlod]
    have F2 : Fr (cT s) ow h (upd0 oK (hz hK) (1000 + 40 * s + k)) (nw hK 3 9) := n1.tr (Fr.nw n2)
    have ka2 : hk (nw hK 3 9) a = 4 := by rw [hk_nw (by omega)]; exact ka
    have E2 : SailE (upd0 oK (hz hK) (1000 + 40 * s + k)) (nw hK 3 9) g s a := E.fr2 F2 (fun q => by unfold cT at q; omega) (fun q => by unfold cT at q; omega) (fun q => by unfold cT at q; omega) (fun q => by unfold cT at q; omega) (by rw [upd0_ne (by omega)]; exact a3) ka2 (by rw [(nw_ne (by omega)).2.2.1, a1, upd0_ne (by decide)]) (by rw [(nw_ne (by omega)).2.2.1, a1, upd0_ne (by decide)]) (by rw [(nw_ne (by omega)).2.1, a2, upd0_ne (by decide), upd0_ne (by decide)]) w ⟨fun _ _ _ => rfl, fun _ _ _ => rfl⟩
    have kp2 : hk (nw hK 3 9) (hz h) = 33 := by rw [hk_nw (by omega)]; exact p2
    have np2 : hn (nw hK 3 9) (hz h) = 40 := by rw [hn_nw (by omega)]; exact p3
    have kn : hk (nw hK 3 9) (hz hK) = 3 := hk_nw'
    obtain ⟨gl1, gl2, gl3⟩ := gL k (by omega)
    have st := CutI.step (lo := nI lo) (up := nI up) (ln := mxF (edg g s 1) lo (up - lo) - mnF (edg g s 0) lo (up - lo)) (br := nI (up - lo + b)) (tw := sumN (stp g s) lo (up - lo)) rm.1 la (by omega) N hP (by unfold lowV; rw [if_pos hP, eLo]) (by unfold highV; rw [if_pos hP, eHi]) (by unfold lenV; rw [if_pos hP, eLo, eHi, mxF_eq (fun y _ hy => ee.ed (by omega) (by omega)), mnF_eq (fun y _ hy => ee.ed (by omega) (by omega))]) (by unfold broV; rw [if_pos hP, eLo, eHi, g7, nI_add]) (by unfold areV; rw [if_pos hP, eLo, eHi, sumN_eq (fun y _ hy => ee.tp (by omega))]) gl1 gl2 gl3
    have iw := ih (k + 1) _ _ (by omega) st
    refine x_iload_n eX5_cutInto_33 rfl rfl ?_
    first | refine x_aload_n eX5_cutInto_34 rfl rfl ?_ | refine x_aload_nN eX5_cutInto_34 rfl rfl ?_
    first | refine x_getIe eX5_cutInto_35 fk_X5_19 (by decide) (by assumption) (by assumption) ?_ | refine x_getI eX5_cutInto_35 fk_X5_19 (by decide) (by assumption) ?_
    first | refine x_icmp_geN (tgt := 115) eX5_cutInto_38 (by decide) (by with_reducible rfl) (by with_reducible rfl) (by omega) (by omega) (fun cq1 => ?_) (fun cq1 => ?_) | refine x_icmp_ge (tgt := 115) eX5_cutInto_38 (by decide) (fun cq1 => ?_) (fun cq1 => ?_)
    · exact absurd cq1 (by omega)
    · refine x_iload_n eX5_cutInto_41 rfl rfl ?_
      first | refine x_aload_n eX5_cutInto_42 rfl rfl ?_ | refine x_aload_nN eX5_cutInto_42 rfl rfl ?_
      first | refine x_getR eX5_cutInto_43 fk_X5_15 rfl (by assumption) (by assumption) ?_ | refine x_getN eX5_cutInto_43 fk_X5_15 rfl (by assumption) (by assumption) ?_
      first | refine x_alenN eX5_cutInto_46 (by assumption) (by decide) (by assumption) ?_ | refine x_slenN eX5_cutInto_46 (by assumption) (by assumption) ?_ | refine x_alen eX5_cutInto_46 (by assumption) (by decide) ?_
      first | refine x_icmp_geN (tgt := 115) eX5_cutInto_47 (by decide) (by with_reducible rfl) (by with_reducible rfl) (by omega) (by omega) (fun cq2 => ?_) (fun cq2 => ?_) | refine x_icmp_ge (tgt := 115) eX5_cutInto_47 (by decide) (fun cq2 => ?_) (fun cq2 => ?_)
      · exact absurd cq2 (by omega)
      · refine x_iload_n eX5_cutInto_50 rfl rfl ?_
        refine x_iload_n eX5_cutInto_51 rfl rfl ?_
        first | refine x_imulN eX5_cutInto_52 (by with_reducible rfl) (by with_reducible rfl) ?_ | refine x_imul eX5_cutInto_52 ?_
        refine x_istore eX5_cutInto_53 (by decide) rfl rfl ?_
        refine x_iload eX5_cutInto_55 rfl ?_
        refine x_iload_n eX5_cutInto_57 rfl rfl ?_
        first | refine x_iaddN eX5_cutInto_58 (by with_reducible rfl) (by with_reducible rfl) ?_ | refine x_iadd eX5_cutInto_58 ?_
        first | refine x_aload_n eX5_cutInto_59 rfl rfl ?_ | refine x_aload_nN eX5_cutInto_59 rfl rfl ?_
        first | refine x_getIe eX5_cutInto_60 fk_X5_52 (by decide) (by assumption) (by assumption) ?_ | refine x_getI eX5_cutInto_60 fk_X5_52 (by decide) (by assumption) ?_
        refine x_min eX5_cutInto_63 lk_X5_70 (Nat.le_of_ble_eq_true rfl) ?_
        rw [← hlod, em]
        refine x_istore eX5_cutInto_66 (by decide) rfl rfl ?_
        first | refine x_aload_n eX5_cutInto_68 rfl rfl ?_ | refine x_aload_nN eX5_cutInto_68 rfl rfl ?_
        first | refine x_getR eX5_cutInto_69 fk_X5_15 rfl (by assumption) (by assumption) ?_ | refine x_getN eX5_cutInto_69 fk_X5_15 rfl (by assumption) (by assumption) ?_
        refine x_iload_n eX5_cutInto_72 rfl rfl ?_
        refine x_new (ci := 3) eX5_cutInto_73 rfl ck_X5_73 (by first | assumption | omega) ?_
        refine x_dup eX5_cutInto_76 rfl ?_
        refine x_iconst (v := nI 0) eX5_cutInto_77 (by decide) ?_
        refine x_iload eX5_cutInto_78 rfl ?_
        refine x_iload eX5_cutInto_80 rfl ?_
        first | refine x_aload_n eX5_cutInto_82 rfl rfl ?_ | refine x_aload_nN eX5_cutInto_82 rfl rfl ?_
        refine x_iload eX5_cutInto_83 rfl ?_
        refine x_iload eX5_cutInto_85 rfl ?_
        first | refine x_callV2 eX5_cutInto_87 lk_X5_78 (by assumption) (Nat.le_of_ble_eq_true rfl) (Nat.le_of_ble_eq_true rfl) ?_ | refine x_callVw2 eX5_cutInto_87 lk_X5_78 (by assumption) (Nat.le_of_ble_eq_true rfl) (Nat.le_of_ble_eq_true rfl) (Nat.le_of_ble_eq_true rfl) ?_
        refine Rn.deep (c_X5_lengthBetween (d := d) E2 w (by omega) (by omega) (fun _ => ?_)) (by omega)
        refine x_iload eX5_cutInto_90 rfl ?_
        refine x_iload eX5_cutInto_92 rfl ?_
        first | refine x_isubN eX5_cutInto_94 (by with_reducible rfl) (by with_reducible rfl) (by omega) ?_ | refine x_isub eX5_cutInto_94 ?_
        refine x_iload_n eX5_cutInto_95 rfl rfl ?_
        first | refine x_iaddN eX5_cutInto_96 (by with_reducible rfl) (by with_reducible rfl) ?_ | refine x_iadd eX5_cutInto_96 ?_
        first | refine x_aload_n eX5_cutInto_97 rfl rfl ?_ | refine x_aload_nN eX5_cutInto_97 rfl rfl ?_
        refine x_iload eX5_cutInto_98 rfl ?_
        refine x_iload eX5_cutInto_100 rfl ?_
        first | refine x_callV2 eX5_cutInto_102 lk_X5_81 (by assumption) (Nat.le_of_ble_eq_true rfl) (Nat.le_of_ble_eq_true rfl) ?_ | refine x_callVw2 eX5_cutInto_102 lk_X5_81 (by assumption) (Nat.le_of_ble_eq_true rfl) (Nat.le_of_ble_eq_true rfl) (Nat.le_of_ble_eq_true rfl) ?_
        refine Rn.deep (c_X5_twiceBetween (d := d) E2 w (by omega) (by omega) (fun _ => ?_)) (by omega)
        refine x_callI6 eX5_cutInto_105 lk_X5_84 (Nat.le_of_ble_eq_true rfl) (Nat.le_of_ble_eq_true rfl) ?_
        refine Rn.deep (c_X4_init (d := d) kn (Or.inl rfl) (fun _ => ?_)) (by omega)
        first | refine x_aastRN eX5_cutInto_108 (by with_reducible rfl) (by assumption) (by decide) rfl rfl (by assumption) (by assumption) (by omega) (by omega) ?_ | refine x_aastNN eX5_cutInto_108 (by with_reducible rfl) (by assumption) (by decide) (by assumption) (by omega) (by omega) ?_
        first | refine x_iincN eX5_cutInto_109 rfl (by with_reducible rfl) (by decide) rfl rfl ?_ | refine x_iinc eX5_cutInto_109 rfl rfl (by decide) rfl rfl ?_
        refine x_goto (tgt := 33) eX5_cutInto_112 (by decide) ?_
        refine Rn.weak (iw) (by repeat' first | exact fun _ h => absurd h List.not_mem_nil | refine List.forall_mem_cons.mpr ⟨rfl, ?_⟩)
end CUT1

