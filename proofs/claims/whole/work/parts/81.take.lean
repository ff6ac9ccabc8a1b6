/-! ===== acts: take ===== -/
/-- no piece is broader than cloth -/
def BR (g : Nat → Int32) : Prop := ∀ s i, s < nt (g 1) → i < np g s → isN (broV g s i) 0 20
section TAKE
variable {G : GG} {d : Nat} {h h2 : AH} {Q : Option Value → AH → Prop} {ow o2 : Nat → Nat} {y : Nat} {g g2 ld wd : Nat → Int32} {kp nx s a : Nat} {ps : Nat → Nat → Int32} {T : Nat → Prop}
def tkT (b0 t : Nat) : Prop := t = 1 ∨ t = 2 ∨ (100 + b0 ≤ t ∧ t < 124) ∨ (200 + b0 ≤ t ∧ t < 224) ∨ (300 + b0 ≤ t ∧ t < 324)
set_option maxRecDepth 100000 in
set_option maxHeartbeats 4000000 in
theorem gTk_1 {b0 : Nat} : ∀ {k : Nat}, gTk g s b0 k 1 = g 1
  | 0 => rfl
  | k + 1 => gBolt_1.trans gTk_1
set_option maxRecDepth 100000 in
set_option maxHeartbeats 4000000 in
theorem tkW {x : Int32} (h : isN x 0 20) : inR (if 2 < x then x else 2) 2 20 = true := by
  obtain ⟨e, -, u⟩ := h
  rw [e]
  by_cases z : 2 < nt x
  · rw [if_pos (show 2 < nI (nt x) from nI_lt (a := 2) z (by omega))]
    exact inR_nI (lo := 2) (hi := 20) (by omega) u (by omega)
  · rw [if_neg (show ¬ 2 < nI (nt x) from nI_nlt (b := nt x) (a := 2) (by omega) (by omega))]
    decide
set_option maxRecDepth 100000 in
set_option maxHeartbeats 4000000 in
theorem tkL {x : Int32} (h : isN x 1 200000) : inR (if x < 200 then x else 200) 1 200 = true := by
  obtain ⟨e, l, u⟩ := h
  rw [e]
  by_cases z : nt x < 200
  · rw [if_pos (show nI (nt x) < 200 from nI_lt (b := 200) z (by omega))]
    exact inR_nI (lo := 1) (hi := 200) l (by omega) (by omega)
  · rw [if_neg (show ¬ nI (nt x) < 200 from nI_nlt (b := 200) (by omega) (by omega))]
    decide
set_option maxRecDepth 100000 in
set_option maxHeartbeats 4000000 in
theorem GI_tk {b0 m : Nat} (I : GI g) (R : BR g) (hs : s < nt (g 1)) (hb : b0 = nt (g 0)) (hm : b0 + m ≤ 24) (hnp : np g s = m) (hall : ∀ j, j < m → ¬ sl g s (300 + j) = -1) : ∀ {k : Nat}, k ≤ m → GI (gTk g s b0 k)
  | 0, _ => I
  | k + 1, hk => by
    have ih := GI_tk (k := k) I R hs hb hm hnp hall (by omega)
    have e0 : nt (gTk g s b0 k 0) = b0 + k := by rw [g0_gTk g s (by rw [hb]; exact I.1.1.1), nt_nI (by omega)]
    have on := (I.2.2.1 s hs).1.2.2.2.2.2.2.2.2.2.2.2.2.2 k (by unfold np at hnp; omega)
    have hlt : nt (sl g s (300 + k)) < nt (g 0) := by
      rcases on with z | ⟨⟨-, -, z⟩, z2⟩
      · exact absurd z (hall k (by omega))
      · omega
    have r := GI_bolt (w := if 2 < broV g s k then broV g s k else 2) (l := if lenV g s k < 200 then lenV g s k else 200) (gr := bl g (nt (sl g s (300 + k))) 2) (f := nI s) ih (by rw [e0]; omega) (tkW (R s k hs (by omega))) (tkL ((I.2.2.1 s hs).2.2.2.2.2.2.2.2.2.2 k (by omega))) (I.2.1 _ hlt).2.1
    rw [e0] at r
    exact r
/-- k bolts more -/
def TkI (G : GG) (ow : Nat → Nat) (h : AH) (y : Nat) (g ld wd : Nat → Int32) (s b0 k : Nat) (oK : Nat → Nat) (hK : AH) : Prop := Core oK hK y (gTk g s b0 k) ld wd ∧ Fr (tkT b0) ow h oK hK ∧ To ow oK ∧ Ext h hK ∧ (∀ q, q ≠ 1 → hi hK y q = hi h y q) ∧ hr hK y = hr h y ∧ hz hK ≤ hz h + 2 * k ∧ us G hK ≤ us G h + 207 * k
set_option maxRecDepth 100000 in
set_option maxHeartbeats 4000000 in
theorem l_X8_take {b0 m : Nat} (rm : Rm G h 100 6000) (C : Core ow h y g ld wd) (I : GI g) (R : BR g) (hs : s < nt (g 1)) (h1 : sl g s 0 = 1) (hb : b0 = nt (g 0)) (hm : b0 + m ≤ 24) (hnp : np g s = m) (hall : ∀ j, j < m → ¬ sl g s (300 + j) = -1) (ha : hr h (y + 2) s = some a)
    (kx : ∀ oK hK, TkI G ow h y g ld wd s b0 m oK hK → Rn G (d + 4) mX8_take 60 [(0, .ref y), (1, .int (nI s)), (2, .ref a)] [] hK Q) : ∀ n k oK hK, k + n = m → TkI G ow h y g ld wd s b0 k oK hK → Rn G (d + 4) mX8_take 36 [(0, .ref y), (1, .int (nI s)), (2, .ref a), (3, .int (nI k))] [] hK Q := by
  have W := I.gw
  have h10 := W.2.1.2.2
  have h24 := W.1.2.2
  obtain ⟨C1, C2, -⟩ := id C
  have c3 := C2.2.2.1.2.2
  have b3 := C2.2.1.2.2
  have s1 := C2.1.1
  have s6 := C2.1.2.2.2.2.2
  have sw := (I.2.2.1 s hs).1
  -- what stands at each turn
  have std : ∀ k oK hK, k ≤ m → TkI G ow h y g ld wd s b0 k oK hK → SailP oK hK (gTk g s b0 k) s a ∧ np (gTk g s b0 k) s = m ∧ GI (gTk g s b0 k) ∧ hk hK y = 7 := fun k oK hK hk N => by
    obtain ⟨n1, n2, n3, n4, n5, n6, n7, n8⟩ := N
    have q2 := n2.at_ c3 (by omega) (fun z => by unfold tkT at z; omega)
    obtain ⟨a', ha', S⟩ := n1.2.2.2.2.2.1 s (by rw [gTk_1]; exact hs)
    rw [q2.2.2.2.2.1, ha] at ha'
    cases ha'
    exact ⟨S, by rw [← hnp]; unfold np; rw [sl_gTk g s (by omega), sl_gTk g s (by omega)], GI_tk I R hs hb hm hnp hall hk, (n4.k (C1 y (by omega)).1).trans s1⟩
  intro n
  induction n with
  | zero =>
    intro k oK hK hk0 N
    obtain ⟨S, enp, IK, kyK⟩ := std k oK hK (by omega) N
    have ka := S.1.2.1
    have e6 : hi hK a 6 = nI m := by rw [S.2.1.2.2.1, enp]
    rw [show k = m by omega] at N
    have kx1 := kx oK hK N
    refine x_iload_n eX8_take_36 rfl rfl ?_
    first | refine x_aload_n eX8_take_37 rfl rfl ?_ | refine x_aload_nN eX8_take_37 rfl rfl ?_
    first | refine x_getIe eX8_take_38 fk_X8_179 (by decide) (by assumption) (by assumption) ?_ | refine x_getI eX8_take_38 fk_X8_179 (by decide) (by assumption) ?_
    first | refine x_icmp_geN (tgt := 60) eX8_take_41 (by decide) (by with_reducible rfl) (by with_reducible rfl) (by omega) (by omega) (fun cq1 => ?_) (fun cq1 => ?_) | refine x_icmp_ge (tgt := 60) eX8_take_41 (by decide) (fun cq1 => ?_) (fun cq1 => ?_)
    · refine Rn.weak (kx1) (by repeat' first | exact fun _ h => absurd h List.not_mem_nil | refine List.forall_mem_cons.mpr ⟨rfl, ?_⟩)
    · exact absurd cq1 (by omega)
  | succ n ih =>
    intro k oK hK hk0 N
    obtain ⟨S, enp, IK, kyK⟩ := std k oK hK (by omega) N
    obtain ⟨n1, n2, n3, n4, n5, n6, n7, n8⟩ := id N
    have WK := IK.gw
    have ka := S.1.2.1
    have e6 : hi hK a 6 = nI m := by rw [S.2.1.2.2.1, enp]
    have hsK : s < nt (gTk g s b0 k 1) := by rw [gTk_1]; exact hs
    obtain ⟨swK, sxK⟩ := IK.2.2.1 s hsK
    have e0K : nt (gTk g s b0 k 0) = b0 + k := by rw [g0_gTk g s (by rw [hb]; exact I.1.1.1), nt_nI (by omega)]
    have onk := sw.2.2.2.2.2.2.2.2.2.2.2.2.2 k (by unfold np at hnp; omega)
    obtain ⟨bn, hbn, hon⟩ : ∃ bn, bn < nt (g 0) ∧ sl g s (300 + k) = nI bn := by
      rcases onk with z | ⟨⟨z1, -, z2⟩, z3⟩
      · exact absurd z (hall k (by omega))
      · exact ⟨_, by omega, z1⟩
    have esl : ∀ c, sl (gTk g s b0 k) s c = sl g s c := fun c => sl_gTk g s (by omega) s c
    have hBN : nt (nI bn) = bn := nt_nI (by omega)
    have em1 : (if broV g s k < nI 2 then nI 2 else broV g s k) = if 2 < broV g s k then broV g s k else 2 := by
      by_cases z : 2 < broV g s k
      · rw [if_pos z, if_neg (show ¬ broV g s k < nI 2 from fun q => absurd (Int32.lt_trans z q) Int32.lt_irrefl)]
      · rw [if_neg z]
        by_cases z2 : broV g s k < 2
        · rw [if_pos (show broV g s k < nI 2 from z2)]
          rfl
        · rw [if_neg (show ¬ broV g s k < nI 2 from z2)]
          exact Int32.le_antisymm (Int32.not_lt.mp z) (Int32.not_lt.mp z2)
    have em2 : (if nI 200 < lenV g s k then nI 200 else lenV g s k) = if lenV g s k < 200 then lenV g s k else 200 := by
      by_cases z : lenV g s k < 200
      · rw [if_pos z, if_neg (show ¬ nI 200 < lenV g s k from fun q => absurd (Int32.lt_trans z q) Int32.lt_irrefl)]
      · rw [if_neg z]
        by_cases z2 : 200 < lenV g s k
        · rw [if_pos (show nI 200 < lenV g s k from z2)]
          rfl
        · rw [if_neg (show ¬ nI 200 < lenV g s k from z2)]
          exact Int32.le_antisymm (Int32.not_lt.mp z2) (Int32.not_lt.mp z)
    have rmK : Rm G hK 2 207 := ⟨Nat.le_trans rm.1 n4.1, by have := rm.2.1; omega, by have := rm.2.2; omega⟩
    refine x_iload_n eX8_take_36 rfl rfl ?_
    first | refine x_aload_n eX8_take_37 rfl rfl ?_ | refine x_aload_nN eX8_take_37 rfl rfl ?_
    first | refine x_getIe eX8_take_38 fk_X8_179 (by decide) (by assumption) (by assumption) ?_ | refine x_getI eX8_take_38 fk_X8_179 (by decide) (by assumption) ?_
    first | refine x_icmp_geN (tgt := 60) eX8_take_41 (by decide) (by with_reducible rfl) (by with_reducible rfl) (by omega) (by omega) (fun cq1 => ?_) (fun cq1 => ?_) | refine x_icmp_ge (tgt := 60) eX8_take_41 (by decide) (fun cq1 => ?_) (fun cq1 => ?_)
    · exact absurd cq1 (by omega)
    · first | refine x_aload_n eX8_take_44 rfl rfl ?_ | refine x_aload_nN eX8_take_44 rfl rfl ?_
      first | refine x_aload_n eX8_take_45 rfl rfl ?_ | refine x_aload_nN eX8_take_45 rfl rfl ?_
      refine x_iload_n eX8_take_46 rfl rfl ?_
      refine x_callV1 eX8_take_47 lk_X8_170 (by assumption) (Nat.le_of_ble_eq_true rfl) (Nat.le_of_ble_eq_true rfl) ?_
      refine Rn.deep (c_X5_pieceNumbered (d := d) ka S.2.1 (by omega) sxK.np0 (fun z _ => ?_) (fun j p ej hj P _ => ?_)) (by omega)
      · rw [hpV_nI (by omega) (by omega), decide_eq_false_iff_not] at z
        omega
      · have ejk : k = j := (nI_eq (by omega) (by omega)).mp ej
        subst ejk
        obtain ⟨op, kpp, p0, p1, p2, p3, p4, p5, p6, p7, p8⟩ := id P
        rw [esl, hon] at p7
        rw [lenV_eq esl] at p3
        rw [broV_eq esl] at p4
        have nxt : ∀ o2 h2, AdB G oK hK y (b0 + k) (gBolt (gTk g s b0 k) (b0 + k) (if 2 < broV g s k then broV g s k else 2) (if lenV g s k < 200 then lenV g s k else 200) (bl g bn 2) (nI s)) ld wd o2 h2 → TkI G ow h y g ld wd s b0 (k + 1) o2 h2 := fun o2 h2 A => by
          obtain ⟨a1, a2, a3, a4, a5, a6, a7, a8⟩ := A
          refine ⟨?_, n2.tr (a2.mono (fun t ht => by unfold nT bT at ht; unfold tkT; omega)), n3.tr a3, n4.tr a4, fun q hq => (a5 q hq).trans (n5 q hq), a6.trans n6, by omega, by omega⟩
          have e : gTk g s b0 (k + 1) = gBolt (gTk g s b0 k) (b0 + k) (if 2 < broV g s k then broV g s k else 2) (if lenV g s k < 200 then lenV g s k else 200) (bl g bn 2) (nI s) := by
            rw [gTk, hon, hBN]
          rw [e]
          exact a1
        refine x_iload_n eX8_take_50 rfl rfl ?_
        first | refine x_callV2 eX8_take_51 lk_X8_289 (by assumption) (Nat.le_of_ble_eq_true rfl) (Nat.le_of_ble_eq_true rfl) ?_ | refine x_callVw2 eX8_take_51 lk_X8_289 (by assumption) (Nat.le_of_ble_eq_true rfl) (Nat.le_of_ble_eq_true rfl) (Nat.le_of_ble_eq_true rfl) ?_
        skip
        first | refine x_aload_n eX8_addBoltOf_0 rfl rfl ?_ | refine x_aload_nN eX8_addBoltOf_0 rfl rfl ?_
        refine x_ifnonnullR (tgt := 5) eX8_addBoltOf_1 (by decide) ?_
        first | refine x_aload_n eX8_addBoltOf_5 rfl rfl ?_ | refine x_aload_nN eX8_addBoltOf_5 rfl rfl ?_
        first | refine x_aload_n eX8_addBoltOf_6 rfl rfl ?_ | refine x_aload_nN eX8_addBoltOf_6 rfl rfl ?_
        first | refine x_getIe eX8_addBoltOf_7 fk_X8_227 (by decide) (by assumption) (by assumption) ?_ | refine x_getI eX8_addBoltOf_7 fk_X8_227 (by decide) (by assumption) ?_
        refine x_callV1 eX8_addBoltOf_10 lk_X8_76 (by assumption) (Nat.le_of_ble_eq_true rfl) (Nat.le_of_ble_eq_true rfl) ?_
        refine Rn.deep (c_X8_boltNumbered (d := d) n1 WK (fun z _ => ?_) (fun b' ba eb hb' hba B _ => ?_)) (by omega)
        · rw [isB_of WK (by omega)] at z
          cases z
        · have ebb : bn = b' := (nI_eq (by omega) (by omega)).mp eb
          subst ebb
          obtain ⟨oba, kba, -, -, ebf, -⟩ := id B
          rw [bl_gTk g s (by omega) (by omega)] at ebf
          first | refine x_astore_n eX8_addBoltOf_13 rfl (by decide) rfl rfl ?_ | refine x_astore_nN eX8_addBoltOf_13 rfl (by decide) rfl rfl ?_
          first | refine x_aload_n eX8_addBoltOf_14 rfl rfl ?_ | refine x_aload_nN eX8_addBoltOf_14 rfl rfl ?_
          refine x_ifnonnullR (tgt := 22) eX8_addBoltOf_15 (by decide) ?_
          first | refine x_aload_n eX8_addBoltOf_22 rfl rfl ?_ | refine x_aload_nN eX8_addBoltOf_22 rfl rfl ?_
          first | refine x_getFe eX8_addBoltOf_23 fk_X8_372 rfl (by assumption) (by assumption) ?_ | refine x_getF eX8_addBoltOf_23 fk_X8_372 rfl (by assumption) ?_
          refine x_fstore eX8_addBoltOf_26 (by decide) rfl rfl ?_
          first | refine x_aload_n eX8_addBoltOf_28 rfl rfl ?_ | refine x_aload_nN eX8_addBoltOf_28 rfl rfl ?_
          first | refine x_aload_n eX8_addBoltOf_29 rfl rfl ?_ | refine x_aload_nN eX8_addBoltOf_29 rfl rfl ?_
          first | refine x_getIe eX8_addBoltOf_30 fk_X8_221 (by decide) (by assumption) (by assumption) ?_ | refine x_getI eX8_addBoltOf_30 fk_X8_221 (by decide) (by assumption) ?_
          refine x_iconst (v := nI 2) eX8_addBoltOf_33 (by decide) ?_
          refine x_max eX8_addBoltOf_34 lk_X8_376 (Nat.le_of_ble_eq_true rfl) ?_
          first | refine x_aload_n eX8_addBoltOf_37 rfl rfl ?_ | refine x_aload_nN eX8_addBoltOf_37 rfl rfl ?_
          rw [em1]
          first | refine x_getIe eX8_addBoltOf_38 fk_X8_220 (by decide) (by assumption) (by assumption) ?_ | refine x_getI eX8_addBoltOf_38 fk_X8_220 (by decide) (by assumption) ?_
          refine x_sipush (v := nI 200) eX8_addBoltOf_41 (by decide) ?_
          refine x_min eX8_addBoltOf_44 lk_X8_322 (Nat.le_of_ble_eq_true rfl) ?_
          refine x_fload eX8_addBoltOf_47 rfl ?_
          refine x_iload_n eX8_addBoltOf_49 rfl rfl ?_
          rw [em2]
          refine x_callV4 eX8_addBoltOf_50 lk_X8_65 (by assumption) (Nat.le_of_ble_eq_true rfl) (Nat.le_of_ble_eq_true rfl) ?_
          refine Rn.deep (c_X8_addBolt (d := d) (gr := bl g bn 2) n1 WK rmK e0K.symm (by omega) (tkL ((I.2.2.1 s hs).2.2.2.2.2.2.2.2.2.2 k (by omega))) (fun o2 h2 A _ => ?_)) (by omega)
          have iw := ih (k + 1) o2 h2 (by omega) (nxt o2 h2 A)
          refine x_ret (rt := none) eX8_addBoltOf_53 rfl ?_
          intro _
          first | refine x_iincN eX8_take_54 rfl (by with_reducible rfl) (by decide) rfl rfl ?_ | refine x_iinc eX8_take_54 rfl rfl (by decide) rfl rfl ?_
          refine x_goto (tgt := 36) eX8_take_57 (by decide) ?_
          refine Rn.weak (iw) (by repeat' first | exact fun _ h => absurd h List.not_mem_nil | refine List.forall_mem_cons.mpr ⟨rfl, ?_⟩)
set_option maxRecDepth 100000 in
set_option maxHeartbeats 4000000 in
theorem c_X8_take {v : Int32} (C : Core ow h y g ld wd) (K : Acts ow h y g kp nx ps) (I : GI g) (R : BR g) (rm : Rm G h 100 6000) (hq0 : takOK g v = false → Q (some (.int (-1))) h) (hq1 : takOK g v = true → ∀ h2, Ps G y ow h (gTake g (nt v)) ld wd (kpS kp) ((nx + 1) % 16) (cns g ps) h2 → Q (some (.int (nI (np g (nt v))))) h2) : Rn G (d + 4) mX8_take 0 [(0, .ref y), (1, .int v)] [] h Q := by
  obtain ⟨C1, C2, C3, -⟩ := id C
  have W := I.gw
  have h10 := W.2.1.2.2
  have h24 := W.1.2.2
  obtain ⟨⟨s1, s2, s3, s4, s5, s6⟩, ⟨-, -, b3⟩, ⟨-, -, c3⟩, -, -, -, -, ⟨t1, t2, t3⟩⟩ := id C2
  obtain ⟨k6, k7, hnx, hkp, -⟩ := id K
  obtain ⟨b0, hb0⟩ : ∃ b0, b0 = nt (g 0) := ⟨_, rfl⟩
  have e1 : hi h y 1 = nI b0 := by rw [C3.1, hb0]; exact W.1.1
  rw [← hb0] at h24
  first | refine x_aload_n eX8_take_0 rfl rfl ?_ | refine x_aload_nN eX8_take_0 rfl rfl ?_
  refine x_iload_n eX8_take_1 rfl rfl ?_
  refine x_iconst (v := nI 1) eX8_take_2 (by decide) ?_
  first | refine x_callV2 eX8_take_3 lk_X8_120 (by assumption) (Nat.le_of_ble_eq_true rfl) (Nat.le_of_ble_eq_true rfl) ?_ | refine x_callVw2 eX8_take_3 lk_X8_120 (by assumption) (Nat.le_of_ble_eq_true rfl) (Nat.le_of_ble_eq_true rfl) (Nat.le_of_ble_eq_true rfl) ?_
  refine Rn.deep (c_X8_sailInState (d := d) C W (fun q _ => ?_) (fun s a es hs h1 ha S _ => ?_)) (by omega)
  · first | refine x_astore_n eX8_take_6 rfl (by decide) rfl rfl ?_ | refine x_astore_nN eX8_take_6 rfl (by decide) rfl rfl ?_
    first | refine x_aload_n eX8_take_7 rfl rfl ?_ | refine x_aload_nN eX8_take_7 rfl rfl ?_
    refine x_ifnullN (tgt := 32) eX8_take_8 (by decide) ?_
    refine x_iconst (v := (-1)) eX8_take_32 (by decide) ?_
    refine x_iret eX8_take_33 rfl ?_
    exact hq0 (by unfold takOK isC; rw [show (isS g v && decide (sl g (nt v) 0 = 1)) = false from q]; rfl)
  · subst es
    have hS : nt (nI s) = s := nt_nI (by omega)
    have hB := isC_of W hs h1
    obtain ⟨sw, sx⟩ := I.2.2.1 s hs
    have h40 : np g s ≤ 40 := sw.2.2.2.2.1
    obtain ⟨m, hm⟩ : ∃ m, m = np g s := ⟨_, rfl⟩
    obtain ⟨oa, ka, -⟩ := id S.1
    have e6 : hi h a 6 = nI m := by rw [S.2.1.2.2.1, hm]
    have ev : takOK g (nI s) = (allN (fun i => !decide (sl g s (300 + i) = -1)) m && decide (b0 + m ≤ 24)) := by
      unfold takOK
      rw [hB, hS, ← hm, ← hb0]
      rfl
    have la := (C1 a (by omega)).1
    have cnt0 : cntN (lsP g s) m = 0 ↔ allN (fun i => !decide (sl g s (300 + i) = -1)) m = true := by
      rw [cnt_0, allN_iff]
      refine ⟨fun q j hj => ?_, fun q j hj => ?_⟩
      · have := q j hj
        unfold lsP at this
        rw [this]
        rfl
      · have := q j hj
        unfold lsP
        cases z : decide (sl g s (300 + j) = -1) with
        | false => rfl
        | true => rw [z] at this; cases this
    have cle := cntN_le (lsP g s) m
    first | refine x_astore_n eX8_take_6 rfl (by decide) rfl rfl ?_ | refine x_astore_nN eX8_take_6 rfl (by decide) rfl rfl ?_
    first | refine x_aload_n eX8_take_7 rfl rfl ?_ | refine x_aload_nN eX8_take_7 rfl rfl ?_
    refine x_ifnullR eX8_take_8 ?_
    first | refine x_aload_n eX8_take_11 rfl rfl ?_ | refine x_aload_nN eX8_take_11 rfl rfl ?_
    refine x_callV0 eX8_take_12 lk_X8_268 (by assumption) (Nat.le_of_ble_eq_true rfl) (Nat.le_of_ble_eq_true rfl) ?_
    refine Rn.deep (c_X5_countLoose (d := d) ka S.2.1 h40 sx.np0 (fun _ => ?_)) (by omega)
    rw [← hm]
    refine x_if_gt (tgt := 32) eX8_take_15 (by decide) (fun cq1 => ?_) (fun cq1 => ?_)
    · have hne : ¬ cntN (lsP g s) m = 0 := fun z => by rw [z] at cq1; exact absurd cq1 (by decide)
      refine x_iconst (v := (-1)) eX8_take_32 (by decide) ?_
      refine x_iret eX8_take_33 rfl ?_
      refine hq0 ?_
      rw [ev]
      cases z : allN (fun i => !decide (sl g s (300 + i) = -1)) m with
      | false => rfl
      | true => exact absurd (cnt0.mpr z) hne
    · have hz0 : cntN (lsP g s) m = 0 := by
        rcases Nat.eq_zero_or_pos (cntN (lsP g s) m) with z | z
        · exact z
        · exact absurd (show 0 < nI (cntN (lsP g s) m) from nI_lt (a := 0) z (by omega)) cq1
      have hal := cnt0.mp hz0
      have hall : ∀ j, j < m → ¬ sl g s (300 + j) = -1 := fun j hj z => by
        have := allN_iff.mp hal j hj
        rw [decide_eq_true z] at this
        cases this
      first | refine x_aload_n eX8_take_18 rfl rfl ?_ | refine x_aload_nN eX8_take_18 rfl rfl ?_
      first | refine x_getIe eX8_take_19 fk_X8_179 (by decide) (by assumption) (by assumption) ?_ | refine x_getI eX8_take_19 fk_X8_179 (by decide) (by assumption) ?_
      refine x_bipush (v := nI 24) eX8_take_22 (by decide) ?_
      first | refine x_aload_n eX8_take_24 rfl rfl ?_ | refine x_aload_nN eX8_take_24 rfl rfl ?_
      first | refine x_getIe eX8_take_25 fk_X8_15 (by decide) (by assumption) (by assumption) ?_ | refine x_getI eX8_take_25 fk_X8_15 (by decide) (by assumption) ?_
      first | refine x_isubN eX8_take_28 (by with_reducible rfl) (by with_reducible rfl) (by omega) ?_ | refine x_isub eX8_take_28 ?_
      first | refine x_icmp_leN (tgt := 34) eX8_take_29 (by decide) (by with_reducible rfl) (by with_reducible rfl) (by omega) (by omega) (fun cq2 => ?_) (fun cq2 => ?_) | refine x_icmp_le (tgt := 34) eX8_take_29 (by decide) (fun cq2 => ?_) (fun cq2 => ?_)
      · have hmb : b0 + m ≤ 24 := by omega
        have hok : takOK g (nI s) = true := by rw [ev, hal, decide_eq_true hmb]; rfl
        have hv01 : sl g s 11 = 0 ∨ sl g s 11 = 1 := by
          obtain ⟨v1, v2, v3⟩ := sw.2.2.2.2.2.2.2.2.2.1
          rcases Nat.eq_zero_or_pos (nt (sl g s 11)) with z | z
          · rw [v1, z]; exact Or.inl rfl
          · rw [v1, show nt (sl g s 11) = 1 by omega]; exact Or.inr rfl
        have k60 : ∀ oK hK, TkI G ow h y g ld wd s b0 m oK hK → Rn G (d + 4) mX8_take 60 [(0, .ref y), (1, .int (nI s)), (2, .ref a)] [] hK Q := by
          intro oK hK N
          obtain ⟨n1, n2, n3, n4, n5, n6, n7, n8⟩ := N
          have IK := GI_tk I R hs hb0 hmb hm.symm hall (Nat.le_refl m)
          have WK := IK.gw
          have q2 := n2.at_ c3 (by omega) (fun z => by unfold tkT at z; omega)
          have q7 := n2.at_ t3 (by omega) (fun z => by unfold tkT at z; omega)
          have hsK : s < nt (gTk g s b0 m 1) := by rw [gTk_1]; exact hs
          obtain ⟨D1, D2, D3, D4, D5, D6, -⟩ := id n1
          obtain ⟨a', ha', SK⟩ := D6 s hsK
          have haK := ha'
          rw [q2.2.2.2.2.1, ha] at ha'
          cases ha'
          have esl : ∀ c, sl (gTk g s b0 m) s c = sl g s c := fun c => sl_gTk g s hmb s c
          have enp : np (gTk g s b0 m) s = m := by unfold np; rw [esl, esl]; exact hm.symm
          obtain ⟨EK, CK, LK⟩ := id SK
          obtain ⟨oaK, kaK, -⟩ := id EK
          have e6K : hi hK a 6 = nI m := by rw [CK.2.2.1, enp]
          have e9K : hi hK a 9 = sl g s 11 := by rw [LK.2.1, esl]
          have laK := (D1 a (by omega)).1
          have ly := (C1 y (by omega)).1
          have lz := n4.1
          have kyK : hk hK y = 7 := (n4.k ly).trans s1
          have kaN : hk (nw hK 0 8) a = 4 := by rw [hk_nw (by omega)]; exact kaK
          have kyN : hk (nw hK 0 8) y = 7 := by rw [hk_nw (by omega)]; exact kyK
          have knN : hk (nw hK 0 8) (hz hK) = 0 := hk_nw'
          have e6N : hi (nw hK 0 8) a 6 = nI m := by rw [(nw_ne (by omega)).2.1]; exact e6K
          have e9N : hi (nw hK 0 8) a 9 = sl g s 11 := by rw [(nw_ne (by omega)).2.1]; exact e9K
          have hroom : hz hK < gB G + 600000 ∧ us G hK + 8 ≤ 7302250 := ⟨by have := rm.2.1; omega, by have := rm.2.2; omega⟩
          have swK := (IK.2.2.1 s hsK).1
          have fin : ∀ b : Int32, b = sl g s 11 → Q (some (.int (nI m))) (wi (wi (raH hK y nx kp (nI 15) (nI s) (nI m) b) a 3 2) a 9 0) := by
            intro b hb
            have hq1' := hq1 hok
            rw [hS, ← hm] at hq1'
            refine hq1' _ ?_
            obtain ⟨F, x, L2, to, r, er, ry, r6, r7, ia, ra, oA, oN, kN, iN, r2, kA⟩ := act_then (nx := nx) (kp := kp) (k := nI 15) (o := nI s) (i := nI m) (b := b) (f := 3) (v := 2) (X := fun t => t = 400 + s) D1 D2 oaK (by omega) rfl
            have nya : y ≠ a := fun z => by have q := D2.1.2.2.2.2.2; rw [z, oaK] at q; omega
            have nza : a ≠ hz hK := by omega
            have iq : ∀ q, q ≠ a → hi (wi (wi (raH hK y nx kp (nI 15) (nI s) (nI m) b) a 3 2) a 9 0) q = hi (wi (raH hK y nx kp (nI 15) (nI s) (nI m) b) a 3 2) q := fun q hq => up2_a (f := hi (wi (raH hK y nx kp (nI 15) (nI s) (nI m) b) a 3 2)) hq
            have iA : hi (wi (wi (raH hK y nx kp (nI 15) (nI s) (nI m) b) a 3 2) a 9 0) a = upd0 (upd0 (hi hK a) 3 2) 9 0 := by
              show up2 (hi (wi (raH hK y nx kp (nI 15) (nI s) (nI m) b) a 3 2)) a 9 0 a = _
              rw [up2_at, ia]
            have F2 : Fr (oT nx (fun t => t = 400 + s)) oK hK (upd0 oK (hz hK) (2000 + nx)) (wi (wi (raH hK y nx kp (nI 15) (nI s) (nI m) b) a 3 2) a 9 0) := F.tr (Fr.wi (by rw [oA]; exact Or.inr (Or.inr (Or.inr rfl))))
            have g2e : gTake g s = upd0 (upd0 (gTk g s b0 m) (5050 + 390 * s + 0) 2) (5050 + 390 * s + 11) 0 := by unfold gTake; rw [← hb0, ← hm]
            have sc : ∀ c, c ≠ 0 → c ≠ 11 → c < 390 → sl (gTake g s) s c = sl (gTk g s b0 m) s c := fun c c1 c2 c4 => by
              unfold sl
              rw [g2e, upd0_ne (by omega), upd0_ne (by omega)]
            have s0 : sl (gTake g s) s 0 = 2 := by
              unfold sl
              rw [g2e, upd0_ne (by omega), upd0_same]
            have s11 : sl (gTake g s) s 11 = 0 := by
              unfold sl
              rw [g2e, upd0_same]
            have le : LE (gTk g s b0 m) (gTake g s) s := ⟨by unfold np; rw [sc 8 (by omega) (by omega) (by omega), sc 9 (by omega) (by omega) (by omega)], fun i hi => by
              rw [enp] at hi
              exact ⟨⟨fun c h1 h2 => sc c (by omega) (by omega) (by omega), fun c h1 h2 => sc c (by omega) (by omega) (by omega), sc _ (by omega) (by omega) (by omega), sc _ (by omega) (by omega) (by omega), sc _ (by omega) (by omega) (by omega)⟩, sc _ (by omega) (by omega) (by omega), sc _ (by omega) (by omega) (by omega)⟩⟩
            have ee : EE (gTk g s b0 m) (gTake g s) s := ⟨fun c h1 h2 => sc c (by omega) (by omega) (by omega), fun c h1 h2 => sc c (by omega) (by omega) (by omega)⟩
            have ge : ∀ q, (q < 5050 + 390 * s ∨ 5050 + 390 * s + 390 ≤ q) → gTake g s q = gTk g s b0 m q := fun q hq => by
              rw [g2e, upd0_ne (by omega), upd0_ne (by omega)]
            have FT : Fr (oT nx (fun t => tkT b0 t ∨ t = 400 + s)) ow h (upd0 oK (hz hK) (2000 + nx)) (wi (wi (raH hK y nx kp (nI 15) (nI s) (nI m) b) a 3 2) a 9 0) := (n2.mono (fun t ht => Or.inr (Or.inr (Or.inr (Or.inl ht))))).tr (F2.mono (oT_mono (fun t ht => Or.inr ht)))
            have rM : ∀ q, hr (wi (wi (raH hK y nx kp (nI 15) (nI s) (nI m) b) a 3 2) a 9 0) q = hr (wi (raH hK y nx kp (nI 15) (nI s) (nI m) b) a 3 2) q := fun _ => rfl
            have kM : ∀ q, hk (wi (wi (raH hK y nx kp (nI 15) (nI s) (nI m) b) a 3 2) a 9 0) q = hk (wi (raH hK y nx kp (nI 15) (nI s) (nI m) b) a 3 2) q := fun _ => rfl
            have hzM : hz (wi (wi (raH hK y nx kp (nI 15) (nI s) (nI m) b) a 3 2) a 9 0) = hz hK + 1 := rfl
            have usM : us G (wi (wi (raH hK y nx kp (nI 15) (nI s) (nI m) b) a 3 2) a 9 0) = us G hK + 8 := mkA_us (k := nI 15) (o := nI s) (i := nI m) (b := b) (by have := rm.1; omega)
            have xM : Ext hK (wi (wi (raH hK y nx kp (nI 15) (nI s) (nI m) b) a 3 2) a 9 0) := x
            have LM : Lv (upd0 oK (hz hK) (2000 + nx)) (wi (wi (raH hK y nx kp (nI 15) (nI s) (nI m) b) a 3 2) a 9 0) := L2
            have ryM : ∀ q, q ≠ 6 → q ≠ 7 → hi (wi (wi (raH hK y nx kp (nI 15) (nI s) (nI m) b) a 3 2) a 9 0) y q = hi hK y q := fun q q6 q7' => by rw [iq y nya]; exact ry q q6 q7'
            refine ⟨_, Core.sail (n := nx) n1 WK hsK (F2.mono (oT_mono (fun t ht => Or.inl ht))) xM LM to (fun k => by rw [rM]; exact r k) (by rw [ryM 1 (by decide) (by decide)]; exact D3.1) (by rw [ryM 3 (by decide) (by decide)]; exact D3.2) ge (fun i k _ _ => LE.one WK hsK ge le) ⟨a, by rw [rM, r2]; exact haK, ?_, ?_, ?_⟩, K.push FT (fun t ht => by unfold tkT at ht; omega) (by rw [rM, er, q7.2.2.2.2.1]) (by rw [iq y nya]; exact r6) (by rw [iq y nya]; exact r7) ⟨oN, by rw [kM]; exact kN, ?_⟩, FT.zk (fun z => by unfold oT aT tkT at z; omega), by omega, by omega⟩
            · exact EK.fr2 F2 (fun q => by unfold oT aT at q; omega) (fun q => by unfold oT aT at q; omega) (fun q => by unfold oT aT at q; omega) (fun q => by unfold oT aT at q; omega) oA (by rw [kM]; exact kA.trans kaK) (by rw [rM, ra]) (by rw [rM, ra]) (by rw [iA, upd0_ne (by decide), upd0_ne (by decide)]) swK ee
            · exact CK.mod F2 (fun q => by unfold oT aT at q; omega) (fun q => by unfold oT aT at q; omega) (fun i hi q => by unfold oT aT at q; omega) swK le ee (fun i hi => sc _ (by omega) (by omega) (by rw [enp] at hi; omega)) (by rw [rM, ra]) (by rw [rM, ra]) (by rw [iA, upd0_ne (by decide), upd0_same, s0]) (by rw [iA, upd0_ne (by decide), upd0_ne (by decide), CK.2.1, sc 8 (by omega) (by omega) (by omega)]) (by rw [iA, upd0_ne (by decide), upd0_ne (by decide), CK.2.2.1, le.1]) ⟨fun z => absurd z (by rw [s0]; decide), fun z => absurd z (by rw [esl, h1]; decide)⟩
            · exact LK.mod F2 (fun q => by unfold oT aT at q; omega) swK (by rw [rM, ra]) (by rw [iA, upd0_ne (by decide), upd0_ne (by decide), LK.1, sc 10 (by omega) (by omega) (by omega)]) (by rw [iA, upd0_same, s11]) (by rw [iA, upd0_ne (by decide), upd0_ne (by decide)]) (fun c h1 h2 => sc c (by omega) (by omega) (by omega))
            · rw [iq _ nza.symm, iN]
              obtain ⟨m0, m1, m2, m3, m4⟩ := mkA_v hK (nI 15) (nI s) (nI m) b
              exact Or.inl (lk_take ⟨m0, s, m1, by rw [m2, hm], m3.trans hb, hs, hok, rfl⟩)
          have i6R : ∀ b : Int32, hi (wi (wi (raH hK y nx kp (nI 15) (nI s) (nI m) b) a 3 2) a 9 0) a 6 = nI m := fun b => by
            have ia := (act_then (nx := nx) (kp := kp) (k := nI 15) (o := nI s) (i := nI m) (b := b) (f := 3) (v := 2) (X := fun t => t = 400 + s) D1 D2 oaK (by omega) rfl).2.2.2.2.2.2.2.2.2.1
            show up2 (hi (wi (raH hK y nx kp (nI 15) (nI s) (nI m) b) a 3 2)) a 9 0 a 6 = _
            rw [up2_at, ia, upd0_ne (by decide), upd0_ne (by decide)]
            exact e6K
          have i60 := i6R (nI 0)
          have i61 := i6R (nI 1)
          first | refine x_aload_n eX8_take_60 rfl rfl ?_ | refine x_aload_nN eX8_take_60 rfl rfl ?_
          refine x_new (ci := 0) eX8_take_61 rfl ck_X8_35 (by first | assumption | omega) ?_
          refine x_dup eX8_take_64 rfl ?_
          refine x_bipush (v := nI 15) eX8_take_65 (by decide) ?_
          refine x_iload_n eX8_take_67 rfl rfl ?_
          first | refine x_aload_n eX8_take_68 rfl rfl ?_ | refine x_aload_nN eX8_take_68 rfl rfl ?_
          first | refine x_getIe eX8_take_69 fk_X8_179 (by decide) (by assumption) (by assumption) ?_ | refine x_getI eX8_take_69 fk_X8_179 (by decide) (by assumption) ?_
          first | refine x_aload_n eX8_take_72 rfl rfl ?_ | refine x_aload_nN eX8_take_72 rfl rfl ?_
          first | refine x_getIe eX8_take_73 fk_X8_195 (by decide) (by assumption) (by assumption) ?_ | refine x_getI eX8_take_73 fk_X8_195 (by decide) (by assumption) ?_
          first | refine x_if_eqB (tgt := 83) eX8_take_76 (by decide) (by with_reducible rfl) (fun cq1 => ?_) (fun cq1 => ?_) | refine x_if_eq (tgt := 83) eX8_take_76 (by decide) (fun cq1 => ?_) (fun cq1 => ?_)
          · refine x_iconst (v := nI 0) eX8_take_83 (by decide) ?_
            refine x_callI4 eX8_take_84 lk_X8_69 (Nat.le_of_ble_eq_true rfl) (Nat.le_of_ble_eq_true rfl) ?_
            refine Rn.deep (c_X0_init (d := d) knN (fun _ => ?_)) (by omega)
            refine x_callV1 eX8_take_87 lk_X8_72 (by assumption) (Nat.le_of_ble_eq_true rfl) (Nat.le_of_ble_eq_true rfl) ?_
            refine Rn.deep (c_remember (d := d) (k := nI 15) (o := nI s) (i := nI m) (b := nI 0) D1 D2 ((n5 6 (by decide)).trans k6) ((n5 7 (by decide)).trans k7) hnx hkp (fun _ => ?_)) (by omega)
            first | refine x_aload_n eX8_take_90 rfl rfl ?_ | refine x_aload_nN eX8_take_90 rfl rfl ?_
            refine x_iconst (v := nI 2) eX8_take_91 (by decide) ?_
            refine x_putI eX8_take_92 fk_X8_186 (by decide) rfl ⟨_, rfl, Or.inl rfl⟩ (by assumption) ?_
            first | refine x_aload_n eX8_take_95 rfl rfl ?_ | refine x_aload_nN eX8_take_95 rfl rfl ?_
            refine x_iconst (v := nI 0) eX8_take_96 (by decide) ?_
            refine x_putZ eX8_take_97 fk_X8_195 (by decide) rfl ⟨_, rfl, Or.inl rfl⟩ (by assumption) (by first | exact Or.inl rfl | exact Or.inr rfl | assumption) ?_
            first | refine x_aload_n eX8_take_100 rfl rfl ?_ | refine x_aload_nN eX8_take_100 rfl rfl ?_
            first | refine x_getIe eX8_take_101 fk_X8_179 (by decide) (by assumption) (by assumption) ?_ | refine x_getI eX8_take_101 fk_X8_179 (by decide) (by assumption) ?_
            refine x_iret eX8_take_104 rfl ?_
            exact fin _ (by have c2 : sl g s 11 = 0 := cq1; rw [c2]; rfl)
          · refine x_iconst (v := nI 1) eX8_take_79 (by decide) ?_
            refine x_goto (tgt := 84) eX8_take_80 (by decide) ?_
            refine x_callI4 eX8_take_84 lk_X8_69 (Nat.le_of_ble_eq_true rfl) (Nat.le_of_ble_eq_true rfl) ?_
            refine Rn.deep (c_X0_init (d := d) knN (fun _ => ?_)) (by omega)
            refine x_callV1 eX8_take_87 lk_X8_72 (by assumption) (Nat.le_of_ble_eq_true rfl) (Nat.le_of_ble_eq_true rfl) ?_
            refine Rn.deep (c_remember (d := d) (k := nI 15) (o := nI s) (i := nI m) (b := nI 1) D1 D2 ((n5 6 (by decide)).trans k6) ((n5 7 (by decide)).trans k7) hnx hkp (fun _ => ?_)) (by omega)
            first | refine x_aload_n eX8_take_90 rfl rfl ?_ | refine x_aload_nN eX8_take_90 rfl rfl ?_
            refine x_iconst (v := nI 2) eX8_take_91 (by decide) ?_
            refine x_putI eX8_take_92 fk_X8_186 (by decide) rfl ⟨_, rfl, Or.inl rfl⟩ (by assumption) ?_
            first | refine x_aload_n eX8_take_95 rfl rfl ?_ | refine x_aload_nN eX8_take_95 rfl rfl ?_
            refine x_iconst (v := nI 0) eX8_take_96 (by decide) ?_
            refine x_putZ eX8_take_97 fk_X8_195 (by decide) rfl ⟨_, rfl, Or.inl rfl⟩ (by assumption) (by first | exact Or.inl rfl | exact Or.inr rfl | assumption) ?_
            first | refine x_aload_n eX8_take_100 rfl rfl ?_ | refine x_aload_nN eX8_take_100 rfl rfl ?_
            first | refine x_getIe eX8_take_101 fk_X8_179 (by decide) (by assumption) (by assumption) ?_ | refine x_getI eX8_take_101 fk_X8_179 (by decide) (by assumption) ?_
            refine x_iret eX8_take_104 rfl ?_
            exact fin _ (by rcases hv01 with q | q; exact absurd q cq1; rw [q]; rfl)
        have w36 := l_X8_take (Q := Q) (d := d) rm C I R hs h1 hb0 hmb hm.symm hall ha k60 m 0 ow h (by omega) ⟨C, Fr.rf, To.rf, Ext.rf h, fun _ _ => rfl, rfl, by omega, by omega⟩
        refine x_iconst (v := nI 0) eX8_take_34 (by decide) ?_
        refine x_istore_n eX8_take_35 rfl (by decide) rfl rfl ?_
        refine Rn.weak (w36) (by repeat' first | exact fun _ h => absurd h List.not_mem_nil | refine List.forall_mem_cons.mpr ⟨rfl, ?_⟩)
      · refine x_iconst (v := (-1)) eX8_take_32 (by decide) ?_
        refine x_iret eX8_take_33 rfl ?_
        exact hq0 (by rw [ev, decide_eq_false (show ¬ b0 + m ≤ 24 by omega), Bool.and_false])
end TAKE

