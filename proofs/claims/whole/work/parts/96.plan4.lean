/-! ===== plan: the loops ===== -/
section PLAN4
variable {G : GG} {d : Nat} {h h1 h2 : AH} {Q : Option Value → AH → Prop} {ow o2 : Nat → Nat} {y kp nx la m : Nat} {g ld wd : Nat → Int32} {ps : Nat → Nat → Int32} {s : Nat} {w : Int32}
set_option maxRecDepth 100000 in
set_option maxHeartbeats 4000000 in
theorem l_plan1 {m0 : Nat} (I : GI g) (hnx : nx < 16) (hm : m = loN2 g (nt (g 1))) (hm4 : m ≤ 400) (hs : s < nt (g 1)) (h1c : sl g s 0 = 1) (hm0 : np g s = m0) : ∀ r i n sq iq g1 h1, i + r = m0 → PlJ G ow h y g ld wd nx la m g1 n sq iq h1 → n ≤ loN2 g s + cntN (lsP g s) i → sl g1 s 0 = 1 → (∀ j, i ≤ j → j < 40 → sl g1 s (300 + j) = sl g s (300 + j)) → (∀ t j, s < t → j < 300 → sl g1 t j = sl g t j) → (∀ t j, s < t → j < 40 → sl g1 t (300 + j) = sl g t (300 + j)) → (∀ g2 c n2 sq2 iq2 h2, plI w s r i g1 (decide (0 < n)) = (g2, decide (0 < n2), some c) → c < 2 ^ 31 → n2 ≤ m → PlJ G ow h y g ld wd nx la m g2 n2 sq2 iq2 h2 → Rn G (d + 5) mX8_plan 136 [(0, .ref y), (2, .ref la), (3, .int (nI n2)), (4, .int (nI c))] [] h2 Q) → (∀ g2 n2 sq2 iq2 h2, plI w s r i g1 (decide (0 < n)) = (g2, decide (0 < n2), none) → PlJ G ow h y g ld wd nx la m g2 n2 sq2 iq2 h2 → n2 ≤ loN2 g (s + 1) → (∀ t j, s < t → j < 300 → sl g2 t j = sl g t j) → (∀ t j, s < t → j < 40 → sl g2 t (300 + j) = sl g t (300 + j)) → Rn G (d + 5) mX8_plan 130 [(0, .ref y), (1, .int w), (2, .ref la), (3, .int (nI n2)), (4, .int (-1)), (5, .int (nI s))] [] h2 Q) → Rn G (d + 5) mX8_plan 54 [(0, .ref y), (1, .int w), (2, .ref la), (3, .int (nI n)), (4, .int (-1)), (5, .int (nI s)), (6, .int (nI m0)), (7, .int (nI i))] [] h1 Q := by
  have W := I.gw
  have h10 := W.2.1.2.2
  have h40 : np g s ≤ 40 := (W.2.2.2 s hs).2.2.2.2.1
  have elo : loN2 g (s + 1) = loN2 g s + cntN (lsP g s) m0 := by
    show loN2 g s + (if sl g s 0 = 1 then cntN (lsP g s) (np g s) else 0) = _
    rw [if_pos h1c, hm0]
  have ele : loN2 g (s + 1) ≤ m := by rw [hm]; exact lo_mono g (by omega)
  intro r
  induction r with
  | zero =>
    intro i n sq iq g1 h1 hi0 J hnn e0 eI eT eT2 kS kN
    have eim : i = m0 := by omega
    subst eim
    have k := kN g1 n sq iq h1 rfl J (by rw [elo]; exact hnn) eT eT2
    refine x_iload eX8_plan_54 rfl ?_
    refine x_iload eX8_plan_56 rfl ?_
    first | refine x_icmp_geN (tgt := 130) eX8_plan_58 (by decide) (by with_reducible rfl) (by with_reducible rfl) (by omega) (by omega) (fun cq1 => ?_) (fun cq1 => ?_) | refine x_icmp_ge (tgt := 130) eX8_plan_58 (by decide) (fun cq1 => ?_) (fun cq1 => ?_)
    · refine Rn.weak (k) (by repeat' first | exact fun _ h => absurd h List.not_mem_nil | refine List.forall_mem_cons.mpr ⟨rfl, ?_⟩)
    · omega
  | succ r ih =>
    intro i n sq iq g1 h1 hi0 J hnn e0 eI eT eT2 kS kN
    obtain ⟨J1, J2, J3, ⟨J4, J5, J6⟩, ⟨J7, J8, J9⟩, J10, J11, J12, J13⟩ := id J
    have ky := J1.2.1.1.1
    have e3 : hi h1 y 3 = nI (nt (g 1)) := by rw [J1.2.2.1.2, J12]; exact W.2.1.1
    have hs1 : s < nt (g1 1) := by rw [J12]; exact hs
    have hi1 : i < np g1 s := by rw [J13]; omega
    have cle := cntN_le (lsP g s) i
    refine x_iload eX8_plan_54 rfl ?_
    refine x_iload eX8_plan_56 rfl ?_
    first | refine x_icmp_geN (tgt := 130) eX8_plan_58 (by decide) (by with_reducible rfl) (by with_reducible rfl) (by omega) (by omega) (fun cq1 => ?_) (fun cq1 => ?_) | refine x_icmp_ge (tgt := 130) eX8_plan_58 (by decide) (fun cq1 => ?_) (fun cq1 => ?_)
    · omega
    · refine x_iload eX8_plan_61 rfl ?_
      refine x_iconst (v := (-1)) eX8_plan_63 (by decide) ?_
      first | refine x_icmp_neN (tgt := 130) eX8_plan_64 (by decide) (by with_reducible rfl) (by with_reducible rfl) (by omega) (by omega) (fun cq2 => ?_) (fun cq2 => ?_) | refine x_icmp_ne (tgt := 130) eX8_plan_64 (by decide) (fun cq2 => ?_) (fun cq2 => ?_)
      · exact absurd rfl cq2
      · first | refine x_aload_n eX8_plan_67 rfl rfl ?_ | refine x_aload_nN eX8_plan_67 rfl rfl ?_
        refine x_iload eX8_plan_68 rfl ?_
        refine x_iload eX8_plan_70 rfl ?_
        first | refine x_callV2 eX8_plan_72 lk_X8_254 (by assumption) (Nat.le_of_ble_eq_true rfl) (Nat.le_of_ble_eq_true rfl) ?_ | refine x_callVw2 eX8_plan_72 lk_X8_254 (by assumption) (Nat.le_of_ble_eq_true rfl) (Nat.le_of_ble_eq_true rfl) (Nat.le_of_ble_eq_true rfl) ?_
        refine Rn.deep (c_X8_isLoose (d := d) J1 J2 hs1 e0 hi1 (fun _ => ?_)) (by omega)
        first | refine x_if_neB (tgt := 81) eX8_plan_75 (by decide) (by with_reducible rfl) (fun cq3 => ?_) (fun cq3 => ?_) | refine x_if_ne (tgt := 81) eX8_plan_75 (by decide) (fun cq3 => ?_) (fun cq3 => ?_)
        · have hon : sl g1 s (300 + i) = -1 := of_decide_eq_true cq3
          have hls : lsP g s i = true := by
            unfold lsP
            rw [← eI i (Nat.le_refl _) (by omega)]
            exact decide_eq_true hon
          have hc1 : cntN (lsP g s) (i + 1) = cntN (lsP g s) i + 1 := by
            show cntN (lsP g s) i + (if lsP g s i then 1 else 0) = _
            rw [hls, if_pos rfl]
          have hc2 := cnt_grow (lsP g s) (i + 1) (m0 - (i + 1))
          rw [show i + 1 + (m0 - (i + 1)) = m0 by omega] at hc2
          have hnm : n < m := by omega
          rw [plI, if_pos hon] at kS kN
          have stuck : fbN g1 s i w = none → Rn G (d + 5) mX8_plan 115 [(0, .ref y), (2, .ref la), (3, .int (nI n)), (5, .int (nI s)), (6, .int (nI m0)), (7, .int (nI i))] [] h1 Q := fun e => by
            rw [e] at kS
            have k := l_plan_stuck (s := s) (i := i) (m0 := m0) (c := 100 * s + i) ky e3 h10 (by omega) (by omega) (by omega) (by omega) (kS g1 (100 * s + i) n sq iq h1 rfl (by omega) (by omega) J)
            refine x_iload eX8_plan_115 rfl ?_
            refine x_iload eX8_plan_117 rfl ?_
            refine x_callS2 eX8_plan_119 lk_X8_261 (Nat.le_of_ble_eq_true rfl) (Nat.le_of_ble_eq_true rfl) ?_
            refine Rn.deep (c_X8_codeOf (d := d) (fun _ => ?_)) (by omega)
            refine x_istore eX8_plan_122 (by decide) rfl rfl ?_
            refine Rn.weak (k) (by repeat' first | exact fun _ h => absurd h List.not_mem_nil | refine List.forall_mem_cons.mpr ⟨rfl, ?_⟩)
          refine x_iload_n eX8_plan_81 rfl rfl ?_
          first | refine x_aload_n eX8_plan_82 rfl rfl ?_ | refine x_aload_nN eX8_plan_82 rfl rfl ?_
          first | refine x_alenN eX8_plan_83 (by assumption) (by decide) (by assumption) ?_ | refine x_slenN eX8_plan_83 (by assumption) (by assumption) ?_ | refine x_alen eX8_plan_83 (by assumption) (by decide) ?_
          first | refine x_icmp_geN (tgt := 115) eX8_plan_84 (by decide) (by with_reducible rfl) (by with_reducible rfl) (by omega) (by omega) (fun cq1 => ?_) (fun cq1 => ?_) | refine x_icmp_ge (tgt := 115) eX8_plan_84 (by decide) (fun cq1 => ?_) (fun cq1 => ?_)
          · exact absurd cq1 (by omega)
          · first | refine x_aload_n eX8_plan_87 rfl rfl ?_ | refine x_aload_nN eX8_plan_87 rfl rfl ?_
            refine x_iload eX8_plan_88 rfl ?_
            refine x_iload eX8_plan_90 rfl ?_
            refine x_iload_n eX8_plan_92 rfl rfl ?_
            refine x_callV3 eX8_plan_93 lk_X8_258 (by assumption) (Nat.le_of_ble_eq_true rfl) (Nat.le_of_ble_eq_true rfl) ?_
            refine c_X8_layAtFirst J1 J2 hs1 hi1 hon (fun e _ => ?_) (fun b p eb hb ep f1 f2 h2 P _ => ?_)
            · have k := stuck e
              first | refine x_if_eqB (tgt := 115) eX8_plan_96 (by decide) (by with_reducible rfl) (fun cq2 => ?_) (fun cq2 => ?_) | refine x_if_eq (tgt := 115) eX8_plan_96 (by decide) (fun cq2 => ?_) (fun cq2 => ?_)
              · refine Rn.weak (k) (by repeat' first | exact fun _ h => absurd h List.not_mem_nil | refine List.forall_mem_cons.mpr ⟨rfl, ?_⟩)
              · exact absurd rfl cq2
            · have J' := J.put hnx hs (by omega) hon hb f1 f2 P
              rw [eb] at kS kN
              dsimp only at kS kN
              rw [show fpV g1 b s i w = nI p from ep] at kS kN
              have i40 : i < 40 := by omega
              have tt : decide (0 < n + 1) = true := decide_eq_true (by omega)
              have iw := ih (i + 1) (n + 1) _ _ (gPut g1 s i (nI b) (nI p)) _ (by omega) J' (by omega) (by rw [gPut_sl g1 _ _ (by omega) i40 (by omega)]; exact e0) (fun j j1 j2 => by rw [gPut_sl g1 _ _ (by omega) i40 (by omega)]; exact eI j (by omega) j2) (fun t j t1 t2 => by rw [gPut_sl g1 _ _ (by omega) i40 (by omega)]; exact eT t j t1 t2) (fun t j t1 t2 => by rw [gPut_sl g1 _ _ (by omega) i40 (by omega)]; exact eT2 t j t1 t2) (by rw [tt]; exact kS) (by rw [tt]; exact kN)
              have kl : hk h2 la = 20 := (P.2.1.at_ J7 (by omega) (fun z => by unfold puT at z; omega)).2.1.trans J8
              have nl : hn h2 la = m := (P.2.1.at_ J7 (by omega) (fun z => by unfold puT at z; omega)).2.2.1.trans J9
              first | refine x_if_eqB (tgt := 115) eX8_plan_96 (by decide) (by with_reducible rfl) (fun cq3 => ?_) (fun cq3 => ?_) | refine x_if_eq (tgt := 115) eX8_plan_96 (by decide) (fun cq3 => ?_) (fun cq3 => ?_)
              · cases cq3
              · first | refine x_aload_n eX8_plan_99 rfl rfl ?_ | refine x_aload_nN eX8_plan_99 rfl rfl ?_
                refine x_iload_n eX8_plan_100 rfl rfl ?_
                refine x_iload eX8_plan_101 rfl ?_
                refine x_iload eX8_plan_103 rfl ?_
                refine x_callS2 eX8_plan_105 lk_X8_261 (Nat.le_of_ble_eq_true rfl) (Nat.le_of_ble_eq_true rfl) ?_
                refine Rn.deep (c_X8_codeOf (d := d) (fun _ => ?_)) (by omega)
                first | refine x_iastN eX8_plan_108 (by with_reducible rfl) (by assumption) (by assumption) (by omega) (by omega) ?_ | refine x_iast eX8_plan_108 (by assumption) (by assumption) ?_
                first | refine x_iincN eX8_plan_109 rfl (by with_reducible rfl) (by decide) rfl rfl ?_ | refine x_iinc eX8_plan_109 rfl rfl (by decide) rfl rfl ?_
                refine x_goto (tgt := 124) eX8_plan_112 (by decide) ?_
                first | refine x_iincN eX8_plan_124 rfl (by with_reducible rfl) (by decide) rfl rfl ?_ | refine x_iinc eX8_plan_124 rfl rfl (by decide) rfl rfl ?_
                refine x_goto (tgt := 54) eX8_plan_127 (by decide) ?_
                refine Rn.weak (iw) (by repeat' first | exact fun _ h => absurd h List.not_mem_nil | refine List.forall_mem_cons.mpr ⟨rfl, ?_⟩)
        · have hon : ¬ sl g1 s (300 + i) = -1 := of_decide_eq_false cq3
          have hls : lsP g s i = false := by
            unfold lsP
            rw [← eI i (Nat.le_refl _) (by omega)]
            exact decide_eq_false hon
          have hc1 : cntN (lsP g s) (i + 1) = cntN (lsP g s) i := by
            show cntN (lsP g s) i + (if lsP g s i then 1 else 0) = _
            rw [hls]
            rfl
          rw [plI, if_neg hon] at kS kN
          have iw := ih (i + 1) n sq iq g1 h1 (by omega) J (by omega) e0 (fun j j1 j2 => eI j (by omega) j2) eT eT2 kS kN
          refine x_goto (tgt := 124) eX8_plan_78 (by decide) ?_
          first | refine x_iincN eX8_plan_124 rfl (by with_reducible rfl) (by decide) rfl rfl ?_ | refine x_iinc eX8_plan_124 rfl rfl (by decide) rfl rfl ?_
          refine x_goto (tgt := 54) eX8_plan_127 (by decide) ?_
          refine Rn.weak (iw) (by repeat' first | exact fun _ h => absurd h List.not_mem_nil | refine List.forall_mem_cons.mpr ⟨rfl, ?_⟩)
/-- what plan gives -/
def stV : Option Nat → Int32
  | none => -1
  | some c => nI c
set_option maxRecDepth 100000 in
set_option maxHeartbeats 4000000 in
theorem l_plan0 {ns : Nat} (I : GI g) (hnx : nx < 16) (hm : m = loN2 g (nt (g 1))) (hm4 : m ≤ 400) (hns : nt (g 1) = ns) : ∀ r s n sq iq g1 h1, s + r = ns → PlJ G ow h y g ld wd nx la m g1 n sq iq h1 → n ≤ loN2 g s → (∀ t j, s ≤ t → j < 300 → sl g1 t j = sl g t j) → (∀ t j, s ≤ t → j < 40 → sl g1 t (300 + j) = sl g t (300 + j)) → (∀ g2 c n2 sq2 iq2 h2, plS w r s g1 (decide (0 < n)) = (g2, decide (0 < n2), c) → n2 ≤ m → PlJ G ow h y g ld wd nx la m g2 n2 sq2 iq2 h2 → Rn G (d + 5) mX8_plan 136 [(0, .ref y), (2, .ref la), (3, .int (nI n2)), (4, .int (stV c))] [] h2 Q) → Rn G (d + 5) mX8_plan 28 [(0, .ref y), (1, .int w), (2, .ref la), (3, .int (nI n)), (4, .int (-1)), (5, .int (nI s))] [] h1 Q := by
  have W := I.gw
  have h10 := W.2.1.2.2
  intro r
  induction r with
  | zero =>
    intro s n sq iq g1 h1 hs0 J hnn eT eT2 kE
    obtain ⟨J1, J2, J3, ⟨J4, J5, J6⟩, ⟨J7, J8, J9⟩, J10, J11, J12, J13⟩ := id J
    have ky := J1.2.1.1.1
    have e3 : hi h1 y 3 = nI ns := by rw [J1.2.2.1.2, J12, ← hns]; exact W.2.1.1
    have k := kE g1 none n sq iq h1 rfl (by rw [hm, hns, show ns = s by omega]; exact hnn) J
    refine x_iload eX8_plan_28 rfl ?_
    first | refine x_aload_n eX8_plan_30 rfl rfl ?_ | refine x_aload_nN eX8_plan_30 rfl rfl ?_
    first | refine x_getIe eX8_plan_31 fk_X8_25 (by decide) (by assumption) (by assumption) ?_ | refine x_getI eX8_plan_31 fk_X8_25 (by decide) (by assumption) ?_
    first | refine x_icmp_geN (tgt := 136) eX8_plan_34 (by decide) (by with_reducible rfl) (by with_reducible rfl) (by omega) (by omega) (fun cq1 => ?_) (fun cq1 => ?_) | refine x_icmp_ge (tgt := 136) eX8_plan_34 (by decide) (fun cq1 => ?_) (fun cq1 => ?_)
    · refine Rn.weak (k) (by repeat' first | exact fun _ h => absurd h List.not_mem_nil | refine List.forall_mem_cons.mpr ⟨rfl, ?_⟩)
    · omega
  | succ r ih =>
    intro s n sq iq g1 h1 hs0 J hnn eT eT2 kE
    obtain ⟨J1, J2, J3, ⟨J4, J5, J6⟩, ⟨J7, J8, J9⟩, J10, J11, J12, J13⟩ := id J
    have ky := J1.2.1.1.1
    have e3 : hi h1 y 3 = nI ns := by rw [J1.2.2.1.2, J12, ← hns]; exact W.2.1.1
    have hs1 : s < nt (g1 1) := by rw [J12]; omega
    have ec : isC g1 (nI s) = decide (sl g1 s 0 = 1) := by
      unfold isC
      rw [isS_of J2.gw hs1, nt_nI (by omega)]
      rfl
    rw [plS] at kE
    have k130 : ∀ n2 h2, hk h2 y = 7 → Rn G (d + 5) mX8_plan 28 [(0, .ref y), (1, .int w), (2, .ref la), (3, .int (nI n2)), (4, .int (-1)), (5, .int (nI (s + 1)))] [] h2 Q → Rn G (d + 5) mX8_plan 130 [(0, .ref y), (1, .int w), (2, .ref la), (3, .int (nI n2)), (4, .int (-1)), (5, .int (nI s))] [] h2 Q := fun n2 h2 _ k => by
      first | refine x_iincN eX8_plan_130 rfl (by with_reducible rfl) (by decide) rfl rfl ?_ | refine x_iinc eX8_plan_130 rfl rfl (by decide) rfl rfl ?_
      refine x_goto (tgt := 28) eX8_plan_133 (by decide) ?_
      refine Rn.weak (k) (by repeat' first | exact fun _ h => absurd h List.not_mem_nil | refine List.forall_mem_cons.mpr ⟨rfl, ?_⟩)
    refine x_iload eX8_plan_28 rfl ?_
    first | refine x_aload_n eX8_plan_30 rfl rfl ?_ | refine x_aload_nN eX8_plan_30 rfl rfl ?_
    first | refine x_getIe eX8_plan_31 fk_X8_25 (by decide) (by assumption) (by assumption) ?_ | refine x_getI eX8_plan_31 fk_X8_25 (by decide) (by assumption) ?_
    first | refine x_icmp_geN (tgt := 136) eX8_plan_34 (by decide) (by with_reducible rfl) (by with_reducible rfl) (by omega) (by omega) (fun cq1 => ?_) (fun cq1 => ?_) | refine x_icmp_ge (tgt := 136) eX8_plan_34 (by decide) (fun cq1 => ?_) (fun cq1 => ?_)
    · omega
    · refine x_iload eX8_plan_37 rfl ?_
      refine x_iconst (v := (-1)) eX8_plan_39 (by decide) ?_
      first | refine x_icmp_neN (tgt := 136) eX8_plan_40 (by decide) (by with_reducible rfl) (by with_reducible rfl) (by omega) (by omega) (fun cq2 => ?_) (fun cq2 => ?_) | refine x_icmp_ne (tgt := 136) eX8_plan_40 (by decide) (fun cq2 => ?_) (fun cq2 => ?_)
      · exact absurd rfl cq2
      · first | refine x_aload_n eX8_plan_43 rfl rfl ?_ | refine x_aload_nN eX8_plan_43 rfl rfl ?_
        refine x_iload eX8_plan_44 rfl ?_
        refine x_callV1 eX8_plan_46 lk_X8_251 (by assumption) (Nat.le_of_ble_eq_true rfl) (Nat.le_of_ble_eq_true rfl) ?_
        refine Rn.deep (c_X8_piecesToLay (d := d) J1 J2 hs1 (fun _ => ?_)) (by omega)
        cases zc : isC g1 (nI s) with
        | true =>
          rw [zc, if_pos rfl] at kE
          rw [if_pos rfl]
          have h1c : sl g1 s 0 = 1 := by rw [ec] at zc; exact of_decide_eq_true zc
          have w54 := l_plan1 (G := G) (d := d) (Q := Q) (w := w) I hnx hm hm4 (s := s) (by omega) (by rw [← eT s 0 (Nat.le_refl _) (by omega)]; exact h1c) (m0 := np g1 s) (J13 s).symm (np g1 s) 0 n sq iq g1 h1 (Nat.zero_add _) J (by show n ≤ loN2 g s + 0; omega) h1c (fun j _ j2 => eT2 s j (Nat.le_refl _) j2) (fun t j t1 t2 => eT t j (by omega) t2) (fun t j t1 t2 => eT2 t j (by omega) t2) (fun g2 c n2 sq2 iq2 h2 e hc hn2 J' => by
            rw [e] at kE
            exact kE g2 (some c) n2 sq2 iq2 h2 rfl hn2 J') (fun g2 n2 sq2 iq2 h2 e J' hn2 eT' eT2' => by
            rw [e] at kE
            exact k130 n2 h2 J'.1.2.1.1.1 (ih (s + 1) n2 sq2 iq2 g2 h2 (by omega) J' hn2 (fun t j t1 t2 => eT' t j (by omega) t2) (fun t j t1 t2 => eT2' t j (by omega) t2) kE))
          refine x_istore eX8_plan_49 (by decide) rfl rfl ?_
          refine x_iconst (v := nI 0) eX8_plan_51 (by decide) ?_
          refine x_istore eX8_plan_52 (by decide) rfl rfl ?_
          refine Rn.weak (w54) (by repeat' first | exact fun _ h => absurd h List.not_mem_nil | refine List.forall_mem_cons.mpr ⟨rfl, ?_⟩)
        | false =>
          rw [zc] at kE
          rw [if_neg (by decide)]
          have h1c : ¬ sl g s 0 = 1 := by rw [ec, eT s 0 (Nat.le_refl _) (by omega)] at zc; exact of_decide_eq_false zc
          have elo : loN2 g (s + 1) = loN2 g s := by
            show loN2 g s + (if sl g s 0 = 1 then cntN (lsP g s) (np g s) else 0) = _
            rw [if_neg h1c]
            rfl
          have w130 := k130 n h1 ky (ih (s + 1) n sq iq g1 h1 (by omega) J (by omega) (fun t j t1 t2 => eT t j (by omega) t2) (fun t j t1 t2 => eT2 t j (by omega) t2) kE)
          have w54 : Rn G (d + 5) mX8_plan 54 [(0, .ref y), (1, .int w), (2, .ref la), (3, .int (nI n)), (4, .int (-1)), (5, .int (nI s)), (6, .int (nI 0)), (7, .int (nI 0))] [] h1 Q := by
            refine x_iload eX8_plan_54 rfl ?_
            refine x_iload eX8_plan_56 rfl ?_
            first | refine x_icmp_geN (tgt := 130) eX8_plan_58 (by decide) (by with_reducible rfl) (by with_reducible rfl) (by omega) (by omega) (fun cq1 => ?_) (fun cq1 => ?_) | refine x_icmp_ge (tgt := 130) eX8_plan_58 (by decide) (fun cq1 => ?_) (fun cq1 => ?_)
            · refine Rn.weak (w130) (by repeat' first | exact fun _ h => absurd h List.not_mem_nil | refine List.forall_mem_cons.mpr ⟨rfl, ?_⟩)
            · omega
          refine x_istore eX8_plan_49 (by decide) rfl rfl ?_
          refine x_iconst (v := nI 0) eX8_plan_51 (by decide) ?_
          refine x_istore eX8_plan_52 (by decide) rfl rfl ?_
          refine Rn.weak (w54) (by repeat' first | exact fun _ h => absurd h List.not_mem_nil | refine List.forall_mem_cons.mpr ⟨rfl, ?_⟩)
end PLAN4

