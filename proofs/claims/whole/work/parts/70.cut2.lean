/-! ===== a sail is cut ===== -/
section CUT2
variable {G : GG} {d : Nat} {h h2 : AH} {Q : Option Value → AH → Prop} {ow o2 : Nat → Nat} {y : Nat} {g g2 ld wd : Nat → Int32} {kp nx s a : Nat} {ps : Nat → Nat → Int32} {T : Nat → Prop}
/-- the sail is cut -/
def CutF (G : GG) (ow : Nat → Nat) (h : AH) (g2 : Nat → Int32) (s a pn : Nat) (oF : Nat → Nat) (hF : AH) : Prop :=
  Fr (cT s) ow h oF hF ∧ Lv oF hF ∧ To ow oF ∧ Ext h hF ∧ (∀ k, k ≠ 4 → k ≠ 7 → hr hF a k = hr h a k) ∧ (∀ k, k ≠ 3 → k ≠ 5 → k ≠ 6 → hi hF a k = hi h a k) ∧ hi hF a 5 = nI pn ∧ oF a = 400 + s ∧ SailC oF hF g2 s a ∧ hz hF ≤ hz h + 50 ∧ us G hF ≤ us G h + 600
set_option maxRecDepth 100000 in
set_option maxHeartbeats 4000000 in
theorem l_X5_cut2 {hB : AH} {oB : Nat → Nat} {H st : Nat} (E : SailE oB hB g s a) (w : SW g s) (eH : nt (sl g s 5) = H) (lst : st ≠ a) (r7 : hr hB a 7 = some st) (ks : hk hB st = 20) (ns : hn hB st = H) (hst : oB st = 460 + s) (kx : Rn G (d + 5) mX5_cutInto 167 [(0, .ref a)] [] (ovH hB st (fun j => if j < H then stp g s j else 0)) Q) : ∀ n k, k + n = H → Rn G (d + 5) mX5_cutInto 138 [(0, .ref a), (3, .int (nI k))] [] (ovH hB st (fun j => if j < k then stp g s j else 0)) Q := by
  obtain ⟨w5, w51, w52⟩ := w.2.1
  rw [eH] at w52
  have ka0 := E.2.1
  intro n
  induction n with
  | zero =>
    intro k hk0
    rw [show k = H by omega]
    have ka : hk (ovH hB st (fun j => if j < H then stp g s j else 0)) a = 4 := ka0
    have r72 : hr (ovH hB st (fun j => if j < H then stp g s j else 0)) a 7 = some st := r7
    have ks2 : hk (ovH hB st (fun j => if j < H then stp g s j else 0)) st = 20 := ks
    have ns2 : hn (ovH hB st (fun j => if j < H then stp g s j else 0)) st = H := ns
    refine x_iload_n eX5_cutInto_138 rfl rfl ?_
    first | refine x_aload_n eX5_cutInto_139 rfl rfl ?_ | refine x_aload_nN eX5_cutInto_139 rfl rfl ?_
    first | refine x_getR eX5_cutInto_140 fk_X5_25 rfl (by assumption) (by assumption) ?_ | refine x_getN eX5_cutInto_140 fk_X5_25 rfl (by assumption) (by assumption) ?_
    first | refine x_alenN eX5_cutInto_143 (by assumption) (by decide) (by assumption) ?_ | refine x_slenN eX5_cutInto_143 (by assumption) (by assumption) ?_ | refine x_alen eX5_cutInto_143 (by assumption) (by decide) ?_
    first | refine x_icmp_geN (tgt := 167) eX5_cutInto_144 (by decide) (by with_reducible rfl) (by with_reducible rfl) (by omega) (by omega) (fun cq1 => ?_) (fun cq1 => ?_) | refine x_icmp_ge (tgt := 167) eX5_cutInto_144 (by decide) (fun cq1 => ?_) (fun cq1 => ?_)
    · refine Rn.weak (kx) (by repeat' first | exact fun _ h => absurd h List.not_mem_nil | refine List.forall_mem_cons.mpr ⟨rfl, ?_⟩)
    · exact absurd cq1 (by omega)
  | succ n ih =>
    intro k hk0
    have iw := ih (k + 1) (by omega)
    have e : upd0 (fun j => if j < k then stp g s j else 0) k (stp g s k) = fun j => if j < k + 1 then stp g s j else 0 := funext fun j => by
      unfold upd0
      dsimp only
      by_cases z : j = k
      · rw [if_pos z, if_pos (by omega), z]
      · rw [if_neg z]
        by_cases z2 : j < k
        · rw [if_pos z2, if_pos (by omega)]
        · rw [if_neg z2, if_neg (by omega)]
    rw [← e, ← ovH_wi] at iw
    have F2 : Fr (fun t => t = 460 + s) oB hB oB (ovH hB st (fun j => if j < k then stp g s j else 0)) := fun q q1 q2 => ⟨rfl, rfl, ovH_ne hB _ (fun z => q2 (by rw [z]; exact hst)), rfl, rfl, rfl⟩
    have ka : hk (ovH hB st (fun j => if j < k then stp g s j else 0)) a = 4 := ka0
    have r72 : hr (ovH hB st (fun j => if j < k then stp g s j else 0)) a 7 = some st := r7
    have ks2 : hk (ovH hB st (fun j => if j < k then stp g s j else 0)) st = 20 := ks
    have ns2 : hn (ovH hB st (fun j => if j < k then stp g s j else 0)) st = H := ns
    have E2 : SailE oB (ovH hB st (fun j => if j < k then stp g s j else 0)) g s a := E.fr2 F2 (by omega) (by omega) (by omega) (by omega) E.1 ka rfl rfl (by rw [ovH_ne hB _ lst.symm]) w ⟨fun _ _ _ => rfl, fun _ _ _ => rfl⟩
    have e1 : sumN (stp g s) k (k + 1 - k) = stp g s k := by
      rw [show k + 1 - k = 1 by omega]
      show 0 + stp g s (k + 0) = _
      rw [Int32.zero_add, Nat.add_zero]
    refine x_iload_n eX5_cutInto_138 rfl rfl ?_
    first | refine x_aload_n eX5_cutInto_139 rfl rfl ?_ | refine x_aload_nN eX5_cutInto_139 rfl rfl ?_
    first | refine x_getR eX5_cutInto_140 fk_X5_25 rfl (by assumption) (by assumption) ?_ | refine x_getN eX5_cutInto_140 fk_X5_25 rfl (by assumption) (by assumption) ?_
    first | refine x_alenN eX5_cutInto_143 (by assumption) (by decide) (by assumption) ?_ | refine x_slenN eX5_cutInto_143 (by assumption) (by assumption) ?_ | refine x_alen eX5_cutInto_143 (by assumption) (by decide) ?_
    first | refine x_icmp_geN (tgt := 167) eX5_cutInto_144 (by decide) (by with_reducible rfl) (by with_reducible rfl) (by omega) (by omega) (fun cq1 => ?_) (fun cq1 => ?_) | refine x_icmp_ge (tgt := 167) eX5_cutInto_144 (by decide) (fun cq1 => ?_) (fun cq1 => ?_)
    · exact absurd cq1 (by omega)
    · first | refine x_aload_n eX5_cutInto_147 rfl rfl ?_ | refine x_aload_nN eX5_cutInto_147 rfl rfl ?_
      first | refine x_getR eX5_cutInto_148 fk_X5_25 rfl (by assumption) (by assumption) ?_ | refine x_getN eX5_cutInto_148 fk_X5_25 rfl (by assumption) (by assumption) ?_
      refine x_iload_n eX5_cutInto_151 rfl rfl ?_
      first | refine x_aload_n eX5_cutInto_152 rfl rfl ?_ | refine x_aload_nN eX5_cutInto_152 rfl rfl ?_
      refine x_iload_n eX5_cutInto_153 rfl rfl ?_
      refine x_iload_n eX5_cutInto_154 rfl rfl ?_
      refine x_iconst (v := nI 1) eX5_cutInto_155 (by decide) ?_
      first | refine x_iaddN eX5_cutInto_156 (by with_reducible rfl) (by with_reducible rfl) ?_ | refine x_iadd eX5_cutInto_156 ?_
      first | refine x_callV2 eX5_cutInto_157 lk_X5_81 (by assumption) (Nat.le_of_ble_eq_true rfl) (Nat.le_of_ble_eq_true rfl) ?_ | refine x_callVw2 eX5_cutInto_157 lk_X5_81 (by assumption) (Nat.le_of_ble_eq_true rfl) (Nat.le_of_ble_eq_true rfl) (Nat.le_of_ble_eq_true rfl) ?_
      refine Rn.deep (c_X5_twiceBetween (d := d) E2 w (by omega) (by omega) (fun _ => ?_)) (by omega)
      rw [e1]
      first | refine x_iastN eX5_cutInto_160 (by with_reducible rfl) (by assumption) (by assumption) (by omega) (by omega) ?_ | refine x_iast eX5_cutInto_160 (by assumption) (by assumption) ?_
      first | refine x_iincN eX5_cutInto_161 rfl (by with_reducible rfl) (by decide) rfl rfl ?_ | refine x_iinc eX5_cutInto_161 rfl rfl (by decide) rfl rfl ?_
      refine x_goto (tgt := 138) eX5_cutInto_164 (by decide) ?_
      refine Rn.weak (iw) (by repeat' first | exact fun _ h => absurd h List.not_mem_nil | refine List.forall_mem_cons.mpr ⟨rfl, ?_⟩)
set_option maxRecDepth 100000 in
set_option maxHeartbeats 4000000 in
theorem c_X5_cutInto {net b pn : Nat} (rm : Rm G h 50 600) (L : Lv ow h) (E : SailE ow h g s a) (w : SW g s) (hn1 : 1 ≤ net) (hn2 : net ≤ 19) (hb : b ≤ 19) (hpn : pn ≤ 40) (epn : pnN (nt (sl g s 5)) net = pn) (ee : EE g g2 s) (g0 : sl g2 s 0 = 1) (g6 : sl g2 s 6 = nI net) (g7 : sl g2 s 7 = nI b) (g8 : sl g2 s 8 = nI pn) (gnp : np g2 s = pn) (hlo : ∀ i, i < pn → i * net < nt (sl g s 5)) (gL : ∀ i, i < pn → sl g2 s (140 + i) = 0 ∧ sl g2 s (300 + i) = -1 ∧ sl g2 s (340 + i) = -1)
    (hq : ∀ oF hF, CutF G ow h g2 s a pn oF hF → Q none hF) : Rn G (d + 5) mX5_cutInto 0 [(0, .ref a), (1, .int (nI net)), (2, .int (nI b))] [] h Q := by
  have oa := E.1
  have ka := E.2.1
  have la := (L a (by rw [oa]; omega)).1
  obtain ⟨w5, w51, w52⟩ := w.2.1
  have e5g : sl g2 s 5 = sl g s 5 := ee.1 5 (by omega) (by omega)
  have hroom : hz h < gB G + 600000 ∧ us G h + 40 ≤ 7302250 := ⟨by have := rm.2.1; omega, by have := rm.2.2; omega⟩
  -- behind the pieces
  have k115 : ∀ oK hK, CutI G ow h g2 s a pn pn oK hK → Rn G (d + 5) mX5_cutInto 115 [(0, .ref a)] [] hK Q := by
    intro oK hK N
    obtain ⟨n1, n2, n3, n4, ⟨a1, a2, a3⟩, ⟨p1, p2, p3⟩, n5, n6, n7⟩ := N
    have kaK : hk hK a = 4 := (n4.k la).trans ka
    obtain ⟨H, hH⟩ : ∃ H, H = nt (sl g s 5) := ⟨_, rfl⟩
    have i2 : hi hK a 2 = nI H := by rw [a2, upd0_ne (by decide), upd0_ne (by decide), E.2.2.2.2, hH]; exact w5
    rw [← hH] at w51 w52
    have hr2 : hz hK < gB G + 600000 ∧ us G hK + H ≤ 7302250 := ⟨by have := rm.2.1; omega, by have := rm.2.2; omega⟩
    have kaN : hk (nw hK 20 H) a = 4 := by rw [hk_nw (by omega)]; exact kaK
    have o2a : upd0 oK (hz hK) (460 + s) a = 400 + s := by rw [upd0_ne (by omega)]; exact a3
    have x2 : Ext hK (wq (nw hK 20 H) a 7 (some (hz hK))) := Ext.nw hK 20 H
    have rB : ∀ q, q ≠ hz hK → q ≠ a → hr (wq (nw hK 20 H) a 7 (some (hz hK))) q = hr hK q := fun q h1 h2 => by
      show up2 (hr (nw hK 20 H)) a 7 _ q = _
      rw [up2_a h2, (nw_ne h1).2.2.1]
    have rBa : hr (wq (nw hK 20 H) a 7 (some (hz hK))) a = upd0 (hr hK a) 7 (some (hz hK)) := by
      show up2 (hr (nw hK 20 H)) a 7 _ a = _
      rw [up2_at, (nw_ne (by omega)).2.2.1]
    have iB : ∀ q, q ≠ hz hK → hi (wq (nw hK 20 H) a 7 (some (hz hK))) q = hi hK q := fun q h1 => (nw_ne (kd := 20) (n := H) h1).2.1
    have F2 : Fr (cT s) oK hK (upd0 oK (hz hK) (460 + s)) (wq (nw hK 20 H) a 7 (some (hz hK))) := Fr.tr (Fr.nw n2) (Fr.wq (by rw [o2a]; exact Or.inl rfl))
    have L2 : Lv (upd0 oK (hz hK) (460 + s)) (wq (nw hK 20 H) a 7 (some (hz hK))) := Lv.nw (kd := 20) (n := H) n2 (fun z => by cases z)
    have E2 : SailE (upd0 oK (hz hK) (460 + s)) (wq (nw hK 20 H) a 7 (some (hz hK))) g s a := E.fr2 (n1.tr F2) (fun q => by unfold cT at q; omega) (fun q => by unfold cT at q; omega) (fun q => by unfold cT at q; omega) (fun q => by unfold cT at q; omega) o2a kaN (by rw [rBa, upd0_ne (by decide), a1, upd0_ne (by decide)]) (by rw [rBa, upd0_ne (by decide), a1, upd0_ne (by decide)]) (by rw [iB a (by omega), a2, upd0_ne (by decide), upd0_ne (by decide)]) w ⟨fun _ _ _ => rfl, fun _ _ _ => rfl⟩
    have kst : hk (wq (nw hK 20 H) a 7 (some (hz hK))) (hz hK) = 20 := hk_nw'
    have nst : hn (wq (nw hK 20 H) a 7 (some (hz hK))) (hz hK) = H := hn_nw'
    have usB : us G (wq (nw hK 20 H) a 7 (some (hz hK))) = us G hK + H := us_nw (kd := 20) (n := H) (by have := rm.1; omega)
    have i0 : hi (wq (nw hK 20 H) a 7 (some (hz hK))) (hz hK) = fun j => if j < 0 then stp g s j else 0 := funext fun j => if_pos rfl
    have hzB : hz (wq (nw hK 20 H) a 7 (some (hz hK))) = hz hK + 1 := rfl
    have r7B : hr (wq (nw hK 20 H) a 7 (some (hz hK))) a 7 = some (hz hK) := by rw [rBa]; exact upd0_same _ _ _
    have fin : Q none (wi (ovH (wq (nw hK 20 H) a 7 (some (hz hK))) (hz hK) (fun j => if j < H then stp g s j else 0)) a 3 1) := by
      generalize wq (nw hK 20 H) a 7 (some (hz hK)) = hB at *
      generalize hoB : upd0 oK (hz hK) (460 + s) = oB at *
      have ost : oB (hz hK) = 460 + s := by rw [← hoB]; exact upd0_same _ _ _
      have iF : ∀ q, q ≠ a → q ≠ hz hK → hi (wi (ovH hB (hz hK) (fun j => if j < H then stp g s j else 0)) a 3 1) q = hi hB q := fun q h1 h2 => by
        show up2 (hi (ovH hB (hz hK) (fun j => if j < H then stp g s j else 0))) a 3 1 q = _
        rw [up2_a h1, ovH_ne hB _ h2]
      have iFa : hi (wi (ovH hB (hz hK) (fun j => if j < H then stp g s j else 0)) a 3 1) a = upd0 (upd0 (upd0 (hi h a) 5 (nI pn)) 6 (nI pn)) 3 1 := by
        show up2 (hi (ovH hB (hz hK) (fun j => if j < H then stp g s j else 0))) a 3 1 a = _
        rw [up2_at, ovH_ne hB _ (by omega), iB a (by omega), a2]
      have iFs : hi (wi (ovH hB (hz hK) (fun j => if j < H then stp g s j else 0)) a 3 1) (hz hK) = fun j => if j < H then stp g s j else 0 := by
        show up2 (hi (ovH hB (hz hK) (fun j => if j < H then stp g s j else 0))) a 3 1 (hz hK) = _
        rw [up2_a (by omega), ovH_b]
      have F3 : Fr (cT s) oB hB oB (wi (ovH hB (hz hK) (fun j => if j < H then stp g s j else 0)) a 3 1) := fun q q1 q2 => ⟨rfl, rfl, iF q (fun z => q2 (by rw [z, o2a]; exact Or.inl rfl)) (fun z => q2 (by rw [z, ost]; exact Or.inr (Or.inr (Or.inl rfl)))), rfl, rfl, rfl⟩
      have x3 : Ext hB (wi (ovH hB (hz hK) (fun j => if j < H then stp g s j else 0)) a 3 1) := ⟨Nat.le_refl _, fun _ _ => rfl⟩
      have rF : ∀ q, hr (wi (ovH hB (hz hK) (fun j => if j < H then stp g s j else 0)) a 3 1) q = hr hB q := fun _ => rfl
      refine hq oB _ ⟨n1.tr (F2.tr F3), L2, n3.tr (by rw [← hoB]; exact To.nw n2), n4.tr (x2.tr x3), fun k h1 h2 => ?_, fun k h1 h2 h3 => ?_, ?_, o2a, ⟨?_, ?_, ?_, Or.inr ⟨by rw [g0]; decide, ⟨hz h, ?_, ?_, ?_, ?_, fun i hi => ?_⟩, hz hK, ?_, ost, kst, ?_, fun k hk => ?_⟩⟩, ?_, ?_⟩
      · rw [rF, rBa, upd0_ne h2, a1, upd0_ne h1]
      · rw [iFa, upd0_ne h1, upd0_ne h3, upd0_ne h2]
      · rw [iFa, upd0_ne (by decide), upd0_ne (by decide), upd0_same]
      · rw [iFa, upd0_same, g0]
      · rw [iFa, upd0_ne (by decide), upd0_ne (by decide), upd0_same, g8]
      · rw [iFa, upd0_ne (by decide), upd0_same, gnp]
      · rw [rF, rBa, upd0_ne (by decide), a1, upd0_same]
      · rw [← hoB, upd0_ne (by omega)]
        exact p1
      · exact (x2.k (by omega)).trans p2
      · exact (x2.n (by omega)).trans p3
      · rw [gnp] at hi
        obtain ⟨p, hp, R⟩ := n5 i hi
        obtain ⟨r0, r1, r2⟩ := id R
        have lp := (n2 p (by omega)).1
        have npa : p ≠ a := fun z => by rw [z, kaK] at r1; cases r1
        refine ⟨p, by rw [rF, rB (hz h) (by omega) (by omega)]; exact hp, by rw [← hoB, upd0_ne (by omega)]; exact r0, (x2.k lp).trans r1, ?_⟩
        rw [iF p npa (by omega), iB p (by omega)]
        exact r2
      · rw [rF]
        exact r7B
      · rw [e5g, ← hH]
        exact nst
      · rw [e5g, ← hH] at hk
        rw [iFs, ee.tp (by omega)]
        exact if_pos hk
      · show hz hB ≤ _
        omega
      · show us G hB ≤ _
        omega
    have k167 : Rn G (d + 5) mX5_cutInto 167 [(0, .ref a)] [] (ovH (wq (nw hK 20 H) a 7 (some (hz hK))) (hz hK) (fun j => if j < H then stp g s j else 0)) Q := by
      have ka7 : hk (ovH (wq (nw hK 20 H) a 7 (some (hz hK))) (hz hK) (fun j => if j < H then stp g s j else 0)) a = 4 := kaN
      first | refine x_aload_n eX5_cutInto_167 rfl rfl ?_ | refine x_aload_nN eX5_cutInto_167 rfl rfl ?_
      refine x_iconst (v := nI 1) eX5_cutInto_168 (by decide) ?_
      refine x_putI eX5_cutInto_169 fk_X5_9 (by decide) rfl ⟨_, rfl, Or.inl rfl⟩ (by assumption) ?_
      refine x_ret (rt := none) eX5_cutInto_172 rfl ?_
      exact fin
    have w2 := l_X5_cut2 (Q := Q) (G := G) (d := d) (st := hz hK) (H := H) E2 w hH.symm (by omega) r7B kst nst (upd0_same _ _ _) k167 H 0 (by omega)
    rw [← i0, ovH_self] at w2
    first | refine x_aload_n eX5_cutInto_115 rfl rfl ?_ | refine x_aload_nN eX5_cutInto_115 rfl rfl ?_
    first | refine x_aload_n eX5_cutInto_116 rfl rfl ?_ | refine x_aload_nN eX5_cutInto_116 rfl rfl ?_
    first | refine x_getIe eX5_cutInto_117 fk_X5_52 (by decide) (by assumption) (by assumption) ?_ | refine x_getI eX5_cutInto_117 fk_X5_52 (by decide) (by assumption) ?_
    refine x_if_le (tgt := 130) eX5_cutInto_120 (by decide) (fun cq1 => ?_) (fun cq1 => ?_)
    · exact absurd cq1 (nI_nle (by omega) (by omega))
    · first | refine x_aload_n eX5_cutInto_123 rfl rfl ?_ | refine x_aload_nN eX5_cutInto_123 rfl rfl ?_
      first | refine x_getIe eX5_cutInto_124 fk_X5_52 (by decide) (by assumption) (by assumption) ?_ | refine x_getI eX5_cutInto_124 fk_X5_52 (by decide) (by assumption) ?_
      refine x_goto (tgt := 131) eX5_cutInto_127 (by decide) ?_
      refine x_newaN (kd := 20) eX5_cutInto_131 (by decide) rfl ak_20 (by with_reducible rfl) (by omega) (by first | assumption | omega) ?_
      first | refine x_putR eX5_cutInto_133 fk_X5_25 (by decide) rfl ⟨_, rfl, Or.inl rfl⟩ (by assumption) ?_ | refine x_putN eX5_cutInto_133 fk_X5_25 (by decide) rfl ⟨_, rfl, Or.inl rfl⟩ (by assumption) ?_
      refine x_iconst (v := nI 0) eX5_cutInto_136 (by decide) ?_
      refine x_istore_n eX5_cutInto_137 rfl (by decide) rfl rfl ?_
      refine Rn.weak (w2) (by repeat' first | exact fun _ h => absurd h List.not_mem_nil | refine List.forall_mem_cons.mpr ⟨rfl, ?_⟩)
  have kaN : hk (nw h 33 40) a = 4 := by rw [hk_nw (by omega)]; exact ka
  have kpN : hk (nw h 33 40) (hz h) = 33 := hk_nw'
  have npN : hn (nw h 33 40) (hz h) = 40 := hn_nw'
  have o1a : upd0 ow (hz h) (450 + s) a = 400 + s := by rw [upd0_ne (by omega)]; exact oa
  have r1a : hr (wq (nw h 33 40) a 4 (some (hz h))) a = upd0 (hr h a) 4 (some (hz h)) := by
    show up2 (hr (nw h 33 40)) a 4 _ a = _
    rw [up2_at, (nw_ne (by omega)).2.2.1]
  have i1a : hi (wq (nw h 33 40) a 4 (some (hz h))) a = hi h a := (nw_ne (kd := 33) (n := 40) (by omega)).2.1
  have F1 : Fr (cT s) ow h (upd0 ow (hz h) (450 + s)) (wq (nw h 33 40) a 4 (some (hz h))) := Fr.tr (Fr.nw L) (Fr.wq (by rw [o1a]; exact Or.inl rfl))
  have E1 : SailE (upd0 ow (hz h) (450 + s)) (wq (nw h 33 40) a 4 (some (hz h))) g s a := E.fr2 F1 (fun q => by unfold cT at q; omega) (fun q => by unfold cT at q; omega) (fun q => by unfold cT at q; omega) (fun q => by unfold cT at q; omega) o1a kaN (by rw [r1a, upd0_ne (by decide)]) (by rw [r1a, upd0_ne (by decide)]) (by rw [i1a]) w ⟨fun _ _ _ => rfl, fun _ _ _ => rfl⟩
  have em : (if nI 40 < nI pn then nI 40 else nI pn) = nI pn := if_neg (nI_nlt hpn (by omega))
  have i5 : hi (wi (wq (nw h 33 40) a 4 (some (hz h))) a 5 (nI pn)) a 5 = nI pn := by
    show up2 (hi (wq (nw h 33 40) a 4 (some (hz h)))) a 5 _ a 5 = _
    rw [up2_same]
  have N0 : CutI G ow h g2 s a pn 0 (upd0 ow (hz h) (450 + s)) (wi (wi (wq (nw h 33 40) a 4 (some (hz h))) a 5 (nI pn)) a 6 (nI pn)) := by
    refine ⟨F1.tr (Fr.tr (Fr.wi (by rw [o1a]; exact Or.inl rfl)) (Fr.wi (by rw [o1a]; exact Or.inl rfl))), Lv.nw (kd := 33) (n := 40) L (fun z => by cases z), To.nw L, Ext.nw h 33 40, ⟨r1a, ?_, o1a⟩, ⟨upd0_same _ _ _, kpN, npN⟩, fun i hi => by omega, rfl, us_nw (kd := 33) (n := 40) rm.1⟩
    show up2 (up2 (hi (wq (nw h 33 40) a 4 (some (hz h)))) a 5 _) a 6 _ a = _
    rw [up2_at, up2_at, i1a]
  have k33 := l_X5_cut1 (Q := Q) (G := G) (d := d) rm L E w hn1 hn2 hb hpn ee g6 g7 g8 hlo gL k115 pn 0 _ _ (by omega) N0
  first | refine x_aload_n eX5_cutInto_0 rfl rfl ?_ | refine x_aload_nN eX5_cutInto_0 rfl rfl ?_
  refine x_bipush (v := nI 40) eX5_cutInto_1 (by decide) ?_
  refine x_anewN (kd := 33) eX5_cutInto_3 (by decide) rfl ck_X5_73 (by with_reducible rfl) (by omega) (by first | assumption | omega) ?_
  first | refine x_putR eX5_cutInto_6 fk_X5_15 (by decide) rfl ⟨_, rfl, Or.inl rfl⟩ (by assumption) ?_ | refine x_putN eX5_cutInto_6 fk_X5_15 (by decide) rfl ⟨_, rfl, Or.inl rfl⟩ (by assumption) ?_
  first | refine x_aload_n eX5_cutInto_9 rfl rfl ?_ | refine x_aload_nN eX5_cutInto_9 rfl rfl ?_
  first | refine x_aload_n eX5_cutInto_10 rfl rfl ?_ | refine x_aload_nN eX5_cutInto_10 rfl rfl ?_
  refine x_iload_n eX5_cutInto_11 rfl rfl ?_
  refine x_callV1 eX5_cutInto_12 lk_X5_75 (by assumption) (Nat.le_of_ble_eq_true rfl) (Nat.le_of_ble_eq_true rfl) ?_
  refine Rn.deep (c_X5_panelsOfHeight (d := d) E1 w (by omega) hn2 (fun _ => ?_)) (by omega)
  rw [epn]
  refine x_bipush (v := nI 40) eX5_cutInto_15 (by decide) ?_
  refine x_min eX5_cutInto_17 lk_X5_70 (Nat.le_of_ble_eq_true rfl) ?_
  rw [em]
  refine x_putI eX5_cutInto_20 fk_X5_19 (by decide) rfl ⟨_, rfl, Or.inl rfl⟩ (by assumption) ?_
  first | refine x_aload_n eX5_cutInto_23 rfl rfl ?_ | refine x_aload_nN eX5_cutInto_23 rfl rfl ?_
  first | refine x_aload_n eX5_cutInto_24 rfl rfl ?_ | refine x_aload_nN eX5_cutInto_24 rfl rfl ?_
  first | refine x_getIe eX5_cutInto_25 fk_X5_19 (by decide) (by assumption) (by assumption) ?_ | refine x_getI eX5_cutInto_25 fk_X5_19 (by decide) (by assumption) ?_
  refine x_putI eX5_cutInto_28 fk_X5_22 (by decide) rfl ⟨_, rfl, Or.inl rfl⟩ (by assumption) ?_
  refine x_iconst (v := nI 0) eX5_cutInto_31 (by decide) ?_
  refine x_istore_n eX5_cutInto_32 rfl (by decide) rfl rfl ?_
  refine Rn.weak (k33) (by repeat' first | exact fun _ h => absurd h List.not_mem_nil | refine List.forall_mem_cons.mpr ⟨rfl, ?_⟩)
end CUT2

