/-! ===== fewest ===== -/
section FEW10
variable {G : GG} {d : Nat} {h : AH} {Q : Option Value → AH → Prop} {ow : Nat → Nat} {y kp nx : Nat} {g ld wd : Nat → Int32} {ps : Nat → Nat → Int32}
set_option maxRecDepth 100000 in
set_option maxHeartbeats 4000000 in
theorem c_X8_fewest {v w : Int32} (C : Core ow h y g ld wd) (K : Acts ow h y g kp nx ps) (I : GI g) (rm : Rm G h 100 6000) (hq : ∀ h2, Ps G y ow h g ld wd kp nx ps h2 → Q (some (.int (fewV g v w))) h2) : Rn G (d + 4) mX8_fewest 0 [(0, .ref y), (1, .int v), (2, .int w)] [] h Q := by
  have W := I.gw
  have h10 := W.2.1.2.2
  have h24 := W.1.2.2
  have ky := C.2.1.1.1
  have o7 := C.2.1.2.2.2.2.2.2.2.2.2
  have oy := C.2.1.1.2.2.2.2.2
  have same : Ps G y ow h g ld wd kp nx ps h := ⟨ow, C, K, (Fr.rf (T := fun t => t = 0)).zk (by omega), by omega, by omega⟩
  first | refine x_aload_n eX8_fewest_0 rfl rfl ?_ | refine x_aload_nN eX8_fewest_0 rfl rfl ?_
  refine x_iload_n eX8_fewest_1 rfl rfl ?_
  refine x_iconst (v := nI 1) eX8_fewest_2 (by decide) ?_
  first | refine x_callV2 eX8_fewest_3 lk_X8_120 (by assumption) (Nat.le_of_ble_eq_true rfl) (Nat.le_of_ble_eq_true rfl) ?_ | refine x_callVw2 eX8_fewest_3 lk_X8_120 (by assumption) (Nat.le_of_ble_eq_true rfl) (Nat.le_of_ble_eq_true rfl) (Nat.le_of_ble_eq_true rfl) ?_
  refine Rn.deep (c_X8_sailInState (d := d) C W (fun z _ => ?_) (fun s a es hs h1 hsa SP _ => ?_)) (by omega)
  · first | refine x_astore_n eX8_fewest_6 rfl (by decide) rfl rfl ?_ | refine x_astore_nN eX8_fewest_6 rfl (by decide) rfl rfl ?_
    first | refine x_aload_n eX8_fewest_7 rfl rfl ?_ | refine x_aload_nN eX8_fewest_7 rfl rfl ?_
    refine x_ifnullN (tgt := 30) eX8_fewest_8 (by decide) ?_
    refine x_iconst (v := (-1)) eX8_fewest_30 (by decide) ?_
    refine x_iret eX8_fewest_31 rfl ?_
    exact qi (hq h same) (by unfold fewV; rw [show isC g v = false from z]; rfl)
  · subst es
    have hS : nt (nI s) = s := nt_nI (by omega)
    have ec : isC g (nI s) = true := by
      unfold isC
      rw [isS_of W hs, hS, decide_eq_true (show sl g s 0 = 1 from h1)]
      rfl
    obtain ⟨sw, sx⟩ := I.2.2.1 s hs
    have h40 : np g s ≤ 40 := sw.2.2.2.2.1
    have cle := cntN_le (lsP g s) (np g s)
    have ka := SP.1.2.1
    first | refine x_astore_n eX8_fewest_6 rfl (by decide) rfl rfl ?_ | refine x_astore_nN eX8_fewest_6 rfl (by decide) rfl rfl ?_
    first | refine x_aload_n eX8_fewest_7 rfl rfl ?_ | refine x_aload_nN eX8_fewest_7 rfl rfl ?_
    refine x_ifnullR eX8_fewest_8 ?_
    refine x_iload_n eX8_fewest_11 rfl rfl ?_
    refine x_iconst (v := nI 0) eX8_fewest_12 (by decide) ?_
    refine x_bipush (v := nI 100) eX8_fewest_13 (by decide) ?_
    refine x_callS3 eX8_fewest_15 lk_X8_51 (Nat.le_of_ble_eq_true rfl) (Nat.le_of_ble_eq_true rfl) ?_
    refine Rn.deep (c_X8_isWithin (d := d) (fun _ => ?_)) (by omega)
    first | refine x_if_eqB (tgt := 30) eX8_fewest_18 (by decide) (by with_reducible rfl) (fun cq1 => ?_) (fun cq1 => ?_) | refine x_if_eq (tgt := 30) eX8_fewest_18 (by decide) (fun cq1 => ?_) (fun cq1 => ?_)
    · refine x_iconst (v := (-1)) eX8_fewest_30 (by decide) ?_
      refine x_iret eX8_fewest_31 rfl ?_
      exact qi (hq h same) (by unfold fewV; rw [ec, show inR w 0 100 = false from cq1]; rfl)
    · first | refine x_aload_n eX8_fewest_21 rfl rfl ?_ | refine x_aload_nN eX8_fewest_21 rfl rfl ?_
      refine x_callV0 eX8_fewest_22 lk_X8_268 (by assumption) (Nat.le_of_ble_eq_true rfl) (Nat.le_of_ble_eq_true rfl) ?_
      refine Rn.deep (c_X5_countLoose (d := d) ka SP.2.1 h40 (fun z => sx.np0 z) (fun _ => ?_)) (by omega)
      refine x_bipush (v := nI 8) eX8_fewest_25 (by decide) ?_
      first | refine x_icmp_leN (tgt := 32) eX8_fewest_27 (by decide) (by with_reducible rfl) (by with_reducible rfl) (by omega) (by omega) (fun cq2 => ?_) (fun cq2 => ?_) | refine x_icmp_le (tgt := 32) eX8_fewest_27 (by decide) (fun cq2 => ?_) (fun cq2 => ?_)
      · have hc8 : cntN (lsP g s) (np g s) ≤ 8 := cq2
        have eV : fewV g (nI s) w = (if ftL g s w (cntN (lsP g s) (np g s)) (nt (g 0)) (2 ^ cntN (lsP g s) (np g s) - 1) ≤ 24 then nI (ftL g s w (cntN (lsP g s) (np g s)) (nt (g 0)) (2 ^ cntN (lsP g s) (np g s) - 1)) else -1) := by
          unfold fewV
          rw [hS, ec, show inR w 0 100 = true from cq1, decide_eq_true hc8, Bool.true_and, Bool.true_and, Bool.true_and]
          by_cases z : ftL g s w (cntN (lsP g s) (np g s)) (nt (g 0)) (2 ^ cntN (lsP g s) (np g s) - 1) ≤ 24
          · rw [decide_eq_true z, if_pos rfl, if_pos z]
          · rw [decide_eq_false z, if_neg (by decide), if_neg z]
        have fin : ∀ o1 h1 p a0 a1 a2, Core o1 h1 y g ld wd → PkS o1 h1 y p a0 a1 a2 → Fr pkT ow h o1 h1 → hi h1 y = hi h y → hz h1 ≤ hz h + 4 → us G h1 ≤ us G h + 772 → Rn G (d + 4) mX8_fewest 50 [(0, .ref y), (2, .int w), (3, .ref a)] [] h1 Q := fun o1 h1 p a0 a1 a2 C1 S F1 ey z1 z2 => by
          have o3 := C.2.1.2.2.1.2.2
          have ha1 : hr h1 (y + 2) s = some a := by
            rw [(F1.at_ o3 (by decide) (fun z => by unfold pkT at z; omega)).2.2.2.2.1]
            exact hsa
          have ky1 := C1.2.1.1.1
          have r8 := S.1
          have kpk := S.2.2.1
          have w60 := few_pieces (G := G) (d := d) (Q := Q) (w := w) C1 I S hs ha1 rfl hc8 (fun F V => by
            rw [← eV]
            obtain ⟨C2, S2, F2⟩ := S.upd (v := 0) C1 W V.1
            have FF : Fr pkT ow h o1 (setI h1 F) := F1.tr (F2.mono (fun t ht => Or.inr ht))
            have oy1 := C1.2.1.1.2.2.2.2.2
            have eyy : hi (setI h1 F) y = hi h y := ((F2.at_ oy1 (by decide) (by omega)).2.2.2.1).trans ey
            refine hq _ ⟨o1, C2, K.fr FF (fun t ht z => by unfold pkT at z; omega) (FF.at_ o7 (by decide) (fun z => by unfold pkT at z; omega)).2.2.2.2.1 (by rw [eyy]) (by rw [eyy]), FF.zk (fun z => by unfold pkT at z; omega), ?_, ?_⟩
            · show hz h1 ≤ _
              omega
            · show us G h1 ≤ _
              omega) (np g s) 0 _ (Nat.zero_add _) (pkV.beg S.2.2)
          first | refine x_aload_n eX8_fewest_50 rfl rfl ?_ | refine x_aload_nN eX8_fewest_50 rfl rfl ?_
          first | refine x_getR eX8_fewest_51 fk_X8_47 rfl (by assumption) (by assumption) ?_ | refine x_getN eX8_fewest_51 fk_X8_47 rfl (by assumption) (by assumption) ?_
          refine x_callV0 eX8_fewest_54 lk_X8_272 (by assumption) (Nat.le_of_ble_eq_true rfl) (Nat.le_of_ble_eq_true rfl) ?_
          refine Rn.deep (c_X3_begin (d := d) S.2.2 (fun _ => ?_)) (by omega)
          refine x_iconst (v := nI 0) eX8_fewest_57 (by decide) ?_
          refine x_istore eX8_fewest_58 (by decide) rfl rfl ?_
          refine Rn.weak (w60) (by repeat' first | exact fun _ h => absurd h List.not_mem_nil | refine List.forall_mem_cons.mpr ⟨rfl, ?_⟩)
        by_cases h8 : hr h y 8 = none
        · obtain ⟨o1, C1, S1, F1, x1, z1, z2, z3⟩ := pk_new C W rm
          have w50 := fin o1 (npH h y) _ _ _ _ C1 S1 F1 z3 (by omega) (by omega)
          have hr1 : hz h < gB G + 600000 ∧ us G h + 4 ≤ 7302250 := ⟨by have := rm.2.1; omega, by have := rm.2.2; omega⟩
          have ly := (C.1 y (by omega)).1
          have knN : hk (nw h 2 4) (hz h) = 2 := hk_nw'
          have rm2 : Rm G (nw h 2 4) 3 768 := ⟨by show gB G ≤ hz h + 1; have := rm.1; omega, by show hz h + 1 + 3 ≤ _; have := rm.2.1; omega, by rw [us_nw rm.1]; have := rm.2.2; omega⟩
          have kyN : hk (inP (nw h 2 4) (hz h)) y = 7 := by
            have e0 : hk (nw h 2 4) y = 7 := by rw [hk_nw (by omega)]; exact ky
            have y1 := ast_x (kd := 20) (n := 256) (k := 0) e0 (by show y < hz h + 1; omega)
            show hk (ast (ast (ast (nw h 2 4) (hz h) 20 256 0) (hz h) 20 256 1) (hz h) 20 256 2) y = 7
            show (hm (ast (ast (ast (nw h 2 4) (hz h) 20 256 0) (hz h) 20 256 1) (hz h) 20 256 2) y).1 = 7
            rw [ast_m (by show y < hz h + 1 + 1 + 1; omega), ast_m (by show y < hz h + 1 + 1; omega), ast_m (by show y < hz h + 1; omega)]
            exact e0
          first | refine x_aload_n eX8_fewest_32 rfl rfl ?_ | refine x_aload_nN eX8_fewest_32 rfl rfl ?_
          first | refine x_getR eX8_fewest_33 fk_X8_47 rfl (by assumption) (by assumption) ?_ | refine x_getN eX8_fewest_33 fk_X8_47 rfl (by assumption) (by assumption) ?_
          refine x_ifnonnullN eX8_fewest_36 ?_
          first | refine x_aload_n eX8_fewest_39 rfl rfl ?_ | refine x_aload_nN eX8_fewest_39 rfl rfl ?_
          refine x_new (ci := 2) eX8_fewest_40 rfl ck_X8_269 (by first | assumption | omega) ?_
          refine x_dup eX8_fewest_43 rfl ?_
          refine x_callIN0 eX8_fewest_44 lk_X8_271 (Nat.le_of_ble_eq_true rfl) (Nat.le_of_ble_eq_true rfl) ?_
          refine Rn.deep (c_X3_init (d := d) knN (by show hz h < hz h + 1; omega) rm2 (fun _ => ?_)) (by omega)
          first | refine x_putR eX8_fewest_47 fk_X8_47 (by decide) rfl ⟨_, rfl, Or.inl rfl⟩ (by assumption) ?_ | refine x_putN eX8_fewest_47 fk_X8_47 (by decide) rfl ⟨_, rfl, Or.inl rfl⟩ (by assumption) ?_
          refine Rn.weak (w50) (by repeat' first | exact fun _ h => absurd h List.not_mem_nil | refine List.forall_mem_cons.mpr ⟨rfl, ?_⟩)
        · obtain ⟨p, a0, a1, a2, S⟩ := PkS.of h8 C.2.2.2.2.2.2.2
          have w50 := fin ow h p a0 a1 a2 C S Fr.rf rfl (by omega) (by omega)
          have r8 := S.1
          first | refine x_aload_n eX8_fewest_32 rfl rfl ?_ | refine x_aload_nN eX8_fewest_32 rfl rfl ?_
          first | refine x_getR eX8_fewest_33 fk_X8_47 rfl (by assumption) (by assumption) ?_ | refine x_getN eX8_fewest_33 fk_X8_47 rfl (by assumption) (by assumption) ?_
          refine x_ifnonnullR (tgt := 50) eX8_fewest_36 (by decide) ?_
          refine Rn.weak (w50) (by repeat' first | exact fun _ h => absurd h List.not_mem_nil | refine List.forall_mem_cons.mpr ⟨rfl, ?_⟩)
      · refine x_iconst (v := (-1)) eX8_fewest_30 (by decide) ?_
        refine x_iret eX8_fewest_31 rfl ?_
        exact qi (hq h same) (by
          unfold fewV
          rw [hS, ec, show inR w 0 100 = true from cq1, decide_eq_false (show ¬ cntN (lsP g s) (np g s) ≤ 8 by have : 8 < cntN (lsP g s) (np g s) := cq2; omega)]
          rfl)
end FEW10

