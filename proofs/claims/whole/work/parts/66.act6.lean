/-! ===== acts: wear ===== -/
section ACT6
variable {G : GG} {d : Nat} {h h2 : AH} {Q : Option Value → AH → Prop} {ow o2 : Nat → Nat} {y : Nat} {g g2 ld wd : Nat → Int32} {kp nx s a : Nat} {ps : Nat → Nat → Int32} {T : Nat → Prop}
set_option maxRecDepth 100000 in
set_option maxHeartbeats 4000000 in
theorem BoltP.same {i : Nat} {f L : Nat → Int32} (F : Fr T ow h o2 h2) (h1 : ¬ T (100 + i)) (h2' : ¬ T (200 + i)) (h3 : ¬ T (300 + i)) (B : BoltP ow h a i f L) : BoltP o2 h2 a i f L := by
  obtain ⟨q0, q1, q2, q3, q4, q5, q6, c, q7, q8, q9, q10, q11, q12⟩ := B
  obtain ⟨b1, b2, b3, b4, b5, -, b7⟩ := F.at_ q0 (by omega) h1
  obtain ⟨c1, c2, c3, c4, -⟩ := F.at_ q8 (by omega) h2'
  exact ⟨b1, b2.trans q1, by rw [b4, q2], by rw [b4, q3], by rw [b7, q4], by rw [b4, q5], by rw [b5]; exact RowR.fr F (by omega) h3 rfl (fun _ _ => rfl) q6, c, by rw [b5]; exact q7, c1, c2.trans q9, c3.trans q10, by rw [b4, c4, q11], fun k hk => by rw [c4]; exact q12 k hk⟩
set_option maxRecDepth 100000 in
set_option maxHeartbeats 4000000 in
theorem c_X8_wear {v i z : Int32} (C : Core ow h y g ld wd) (K : Acts ow h y g kp nx ps) (I : GI g) (rm : Rm G h 100 6000) (hq0 : wearOK g v i z = false → Q (some (.int 0)) h) (hq1 : wearOK g v i z = true → ∀ h2, Ps G y ow h (gWear g (nt v) (nt i) z) ld wd (kpS kp) ((nx + 1) % 16) (cns g ps) h2 → Q (some (.int 1)) h2) : Rn G (d + 3) mX8_wear 0 [(0, .ref y), (1, .int v), (2, .int i), (3, .int z)] [] h Q := by
  obtain ⟨C1, C2, -⟩ := id C
  have W := I.gw
  have h24 := W.1.2.2
  obtain ⟨⟨s1, s2, s3, s4, s5, s6⟩, ⟨-, -, b3⟩, -, -, -, -, -, ⟨t1, t2, t3⟩⟩ := id C2
  obtain ⟨k6, k7, hnx, hkp, -⟩ := id K
  have l7 := (C1 (y + 7) (by omega)).1
  have hroom : hz h < gB G + 600000 ∧ us G h + 8 ≤ 7302250 := ⟨by have := rm.2.1; omega, by have := rm.2.2; omega⟩
  first | refine x_aload_n eX8_wear_0 rfl rfl ?_ | refine x_aload_nN eX8_wear_0 rfl rfl ?_
  refine x_iload_n eX8_wear_1 rfl rfl ?_
  refine x_callV1 eX8_wear_2 lk_X8_76 (by assumption) (Nat.le_of_ble_eq_true rfl) (Nat.le_of_ble_eq_true rfl) ?_
  refine Rn.deep (c_X8_boltNumbered (d := d) C W (fun q _ => ?_) (fun j a ej hj ha P _ => ?_)) (by omega)
  · first | refine x_astore eX8_wear_5 (by decide) rfl rfl ?_ | refine x_astoreN eX8_wear_5 (by decide) rfl rfl ?_
    first | refine x_aload eX8_wear_7 rfl ?_ | refine x_aloadN eX8_wear_7 rfl ?_
    refine x_ifnullN (tgt := 39) eX8_wear_9 (by decide) ?_
    refine x_iconst (v := nI 0) eX8_wear_39 (by decide) ?_
    refine x_zret eX8_wear_40 rfl (by first | exact Or.inl rfl | exact Or.inr rfl | exact bI_or _ | assumption) ?_
    exact hq0 (by unfold wearOK; rw [q]; rfl)
  · subst ej
    obtain ⟨oa, ka, e0, e1, ef, e3, hrow, c, ec, oc, kc, nc, e5', eL⟩ := id P
    obtain ⟨cv, e5, hcv, hbare⟩ := cov_bare I hj P
    have hS : nt (nI j) = j := nt_nI (by omega)
    have hB := isB_of W hj
    obtain ⟨w0, w1, w3⟩ := W.2.2.1 j hj
    have u1 := w1.2.2
    have w3' := w3.mono (Nat.le_refl 0) u1
    have la := (C1 a (by omega)).1
    have ew : ∀ k : Int32, wearOK g (nI j) k z = (hpV (bl g j 3) k && (inR z 0 100 && bareV g (nI j))) := fun k => by
      unfold wearOK hpV
      rw [hB, hS, Bool.true_and, Bool.and_assoc]
    first | refine x_astore eX8_wear_5 (by decide) rfl rfl ?_ | refine x_astoreN eX8_wear_5 (by decide) rfl rfl ?_
    first | refine x_aload eX8_wear_7 rfl ?_ | refine x_aloadN eX8_wear_7 rfl ?_
    refine x_ifnullR eX8_wear_9 ?_
    refine x_iload_n eX8_wear_12 rfl rfl ?_
    refine x_iconst (v := nI 0) eX8_wear_13 (by decide) ?_
    refine x_bipush (v := nI 100) eX8_wear_14 (by decide) ?_
    refine x_callS3 eX8_wear_16 lk_X8_51 (Nat.le_of_ble_eq_true rfl) (Nat.le_of_ble_eq_true rfl) ?_
    refine Rn.deep (c_X8_isWithin (d := d) (fun _ => ?_)) (by omega)
    first | refine x_if_eqB (tgt := 39) eX8_wear_19 (by decide) (by with_reducible rfl) (fun cq1 => ?_) (fun cq1 => ?_) | refine x_if_eq (tgt := 39) eX8_wear_19 (by decide) (fun cq1 => ?_) (fun cq1 => ?_)
    · refine x_iconst (v := nI 0) eX8_wear_39 (by decide) ?_
      refine x_zret eX8_wear_40 rfl (by first | exact Or.inl rfl | exact Or.inr rfl | exact bI_or _ | assumption) ?_
      exact hq0 (by rw [ew, show inR z 0 100 = false from cq1]; simp)
    · obtain ⟨vz, -, hvz, rfl⟩ := inR_N (lo := 0) (hi := 100) cq1 rfl (by omega) (by omega)
      first | refine x_aload eX8_wear_22 rfl ?_ | refine x_aloadN eX8_wear_22 rfl ?_
      refine x_iload_n eX8_wear_24 rfl rfl ?_
      refine x_callV1 eX8_wear_25 lk_X8_93 (by assumption) (Nat.le_of_ble_eq_true rfl) (Nat.le_of_ble_eq_true rfl) ?_
      refine Rn.deep (c_X1_tellsPlace (d := d) P w3' (fun _ => ?_)) (by omega)
      first | refine x_if_eqB (tgt := 39) eX8_wear_28 (by decide) (by with_reducible rfl) (fun cq2 => ?_) (fun cq2 => ?_) | refine x_if_eq (tgt := 39) eX8_wear_28 (by decide) (fun cq2 => ?_) (fun cq2 => ?_)
      · refine x_iconst (v := nI 0) eX8_wear_39 (by decide) ?_
        refine x_zret eX8_wear_40 rfl (by first | exact Or.inl rfl | exact Or.inr rfl | exact bI_or _ | assumption) ?_
        exact hq0 (by rw [ew, cq2]; rfl)
      · obtain ⟨k, hkb, rfl⟩ := hpV_s w3' (by omega) cq2
        have u3 := w3'.2.2
        have hkk : nt (nI k) = k := nt_nI (by omega)
        clear e5'
        first | refine x_aload eX8_wear_31 rfl ?_ | refine x_aloadN eX8_wear_31 rfl ?_
        first | refine x_getIe eX8_wear_33 fk_X8_83 (by decide) (by assumption) (by assumption) ?_ | refine x_getI eX8_wear_33 fk_X8_83 (by decide) (by assumption) ?_
        refine x_if_le (tgt := 41) eX8_wear_36 (by decide) (fun cq3 => ?_) (fun cq3 => ?_)
        · have hcv0 : cv = 0 := by
            rcases Nat.eq_zero_or_pos cv with z | z
            · exact z
            · exact absurd cq3 (nI_nle z (by omega))
          have hok : wearOK g (nI j) (nI k) (nI vz) = true := by
            rw [ew, cq2, show inR (nI vz) 0 100 = true from cq1, hbare.mp hcv0]
            rfl
          obtain ⟨r, er, or_, kr, nr, n0, ev⟩ : ∃ r, hr h a 4 = some r ∧ ow r = 300 + j ∧ hk h r = 21 ∧ hn h r = nt (bl g j 3) ∧ 0 < nt (bl g j 3) ∧ ∀ k, k < nt (bl g j 3) → hi h r k = bl g j (6 + k) := by
            rcases hrow with ⟨-, z⟩ | z
            · omega
            · exact z
          have lr := (C1 r (by omega)).1
          have kaN : hk (nw h 0 8) a = 1 := by rw [hk_nw (by omega)]; exact ka
          have kyN : hk (nw h 0 8) y = 7 := by rw [hk_nw (by omega)]; exact s1
          have knN : hk (nw h 0 8) (hz h) = 0 := hk_nw'
          have PN : BoltP (upd0 ow (hz h) (2000 + nx)) (nw h 0 8) a j (bl g j) (fun k => liesV g (nI j) (nI k)) := P.same (T := fun _ => False) (Fr.nw C1) id id id
          have FR := (act_only (nx := nx) (kp := kp) (k := nI 2) (o := nI j) (i := nI k) (b := bl g j (6 + k)) (X := fun t => t = 0) C1 C2).1
          have PR : BoltP (upd0 ow (hz h) (2000 + nx)) (raH h y nx kp (nI 2) (nI j) (nI k) (bl g j (6 + k))) a j (bl g j) (fun k => liesV g (nI j) (nI k)) := P.same FR (fun q => by unfold oT aT at q; omega) (fun q => by unfold oT aT at q; omega) (fun q => by unfold oT aT at q; omega)
          have kaR : hk (raH h y nx kp (nI 2) (nI j) (nI k) (bl g j (6 + k))) a = 1 := PR.2.1
          have ewn : wnV (bl g j) (nI k) = bl g j (6 + k) := by unfold wnV; rw [if_pos cq2, hkk]
          first | refine x_aload_n eX8_wear_41 rfl rfl ?_ | refine x_aload_nN eX8_wear_41 rfl rfl ?_
          refine x_new (ci := 0) eX8_wear_42 rfl ck_X8_35 (by first | assumption | omega) ?_
          refine x_dup eX8_wear_45 rfl ?_
          refine x_iconst (v := nI 2) eX8_wear_46 (by decide) ?_
          refine x_iload_n eX8_wear_47 rfl rfl ?_
          refine x_iload_n eX8_wear_48 rfl rfl ?_
          first | refine x_aload eX8_wear_49 rfl ?_ | refine x_aloadN eX8_wear_49 rfl ?_
          refine x_iload_n eX8_wear_51 rfl rfl ?_
          refine x_callV1 eX8_wear_52 lk_X8_96 (by assumption) (Nat.le_of_ble_eq_true rfl) (Nat.le_of_ble_eq_true rfl) ?_
          refine Rn.deep (c_X1_wornAt (d := d) PN w3' (fun _ => ?_)) (by omega)
          rw [ewn]
          refine x_callI4 eX8_wear_55 lk_X8_69 (Nat.le_of_ble_eq_true rfl) (Nat.le_of_ble_eq_true rfl) ?_
          refine Rn.deep (c_X0_init (d := d) knN (fun _ => ?_)) (by omega)
          refine x_callV1 eX8_wear_58 lk_X8_72 (by assumption) (Nat.le_of_ble_eq_true rfl) (Nat.le_of_ble_eq_true rfl) ?_
          refine Rn.deep (c_remember (d := d) (k := nI 2) (o := nI j) (i := nI k) (b := bl g j (6 + k)) C1 C2 k6 k7 hnx hkp (fun _ => ?_)) (by omega)
          first | refine x_aload eX8_wear_61 rfl ?_ | refine x_aloadN eX8_wear_61 rfl ?_
          refine x_iload_n eX8_wear_63 rfl rfl ?_
          refine x_iload_n eX8_wear_64 rfl rfl ?_
          refine x_callV2 eX8_wear_65 lk_X8_100 (by assumption) (Nat.le_of_ble_eq_true rfl) (Nat.le_of_ble_eq_true rfl) ?_
          refine Rn.deep (c_X1_putWorn (d := d) PR w3' hkb (i8_nI (by omega)) (fun r' er' or' _ => ?_)) (by omega)
          have err : r' = r := by
            have : hr (raH h y nx kp (nI 2) (nI j) (nI k) (bl g j (6 + k))) a 4 = hr h a 4 := by rw [(FR.at_ oa (by omega) (fun q => by unfold oT aT at q; omega)).2.2.2.2.1]
            rw [this, er] at er'
            exact (Option.some.inj er').symm
          subst err
          refine x_iconst (v := nI 1) eX8_wear_68 (by decide) ?_
          refine x_zret eX8_wear_69 rfl (by first | exact Or.inl rfl | exact Or.inr rfl | exact bI_or _ | assumption) ?_
          refine hq1 hok _ ?_
          rw [hS, hkk]
          obtain ⟨F, x, L2, to, rr, err, ry, r6, r7, ia, ra, oA, oN, kN, iN, r2, kA⟩ := act_then (nx := nx) (kp := kp) (k := nI 2) (o := nI j) (i := nI k) (b := bl g j (6 + k)) (f := k) (v := nI vz) (X := fun t => t = 100 + j ∨ t = 300 + j) C1 C2 or_ (by omega) (Or.inr rfl)
          have F9 := (act_then (nx := nx) (kp := kp) (k := nI 2) (o := nI j) (i := nI k) (b := bl g j (6 + k)) (f := k) (v := nI vz) (X := fun t => t = 300 + j) C1 C2 or_ (by omega) rfl).1
          have ge : ∀ q, (q < 10 + 210 * j ∨ 10 + 210 * j + 210 ≤ q) → gWear g j k (nI vz) q = g q := fun q hq => upd0_ne (by omega)
          have gb : ∀ c, c ≠ 6 + k → c < 206 → bl (gWear g j k (nI vz)) j c = bl g j c := fun c h1 h2 => upd0_ne (by omega)
          have gk : bl (gWear g j k (nI vz)) j (6 + k) = nI vz := upd0_same _ _ _
          obtain ⟨f1, f2, f3, f4, f5, -, f7⟩ := F9.at_ oa (by omega) (fun q => by unfold oT aT at q; omega)
          obtain ⟨c1, c2, c3, c4, -⟩ := F9.at_ oc (by omega) (fun q => by unfold oT aT at q; omega)
          have el : ∀ i k', liesV (gWear g j k (nI vz)) i k' = liesV g i k' := fun i k' => LE.lies W (ge 1 (by omega)) (fun t ht => LE.all (fun c hc => ge _ (by omega)) (W.2.2.2 t ht).2.2.2.2.1)
          have y1 := F9.at_ b3 (by omega) (fun q => by unfold oT aT at q; omega)
          refine Ps.bolt C K I hj F x L2 to rr (ry 1 (by decide) (by decide)) (ry 3 (by decide) (by decide)) r6 r7 err ge (fun a' c' h1 h2 => ?_) ⟨a, by rw [y1.2.2.2.2.1]; exact ha, ?_⟩ ⟨oN, kN, ?_⟩ ?_ ?_
          · cases ha.symm.trans h1
            cases ec.symm.trans h2
            exact ⟨f1, by rw [f5]; exact ec⟩
          · have e5c : hi h a 5 = nI (cvN (hi h c) (nt (bl g j 1))) := by
              obtain ⟨-, -, -, -, -, -, -, c', ec', -, -, -, e5c, -⟩ := id P
              cases ec.symm.trans ec'
              exact e5c
            refine ⟨f1, f2.trans ka, by rw [f4, e0, gb 0 (by omega) (by omega)], by rw [f4, e1, gb 1 (by omega) (by omega)], by rw [f7, ef, gb 2 (by omega) (by omega)], by rw [f4, e3, gb 4 (by omega) (by omega)], ?_, c, by rw [f5]; exact ec, c1, c2.trans kc, c3.trans nc, by rw [f4, c4, e5c, gb 1 (by omega) (by omega)], fun k' hk' => ?_⟩
            · rw [f5, er, gb 3 (by omega) (by omega)]
              refine Or.inr ⟨r', rfl, oA, kA.trans kr, (x.n lr).trans nr, n0, fun q hq => ?_⟩
              show _ = bl (gWear g j k (nI vz)) j (6 + q)
              rw [ia]
              by_cases e : q = k
              · rw [e, upd0_same, gk]
              · rw [upd0_ne e, ev q hq, gb (6 + q) (by omega) (by omega)]
            · rw [gb 1 (by omega) (by omega)] at hk'
              show _ = liesV (gWear g j k (nI vz)) (nI j) (nI k')
              rw [c4, el]
              exact eL k' hk'
          · rw [iN]
            obtain ⟨m0, m1, m2, m3, m4⟩ := mkA_v h (nI 2) (nI j) (nI k) (bl g j (6 + k))
            exact Or.inl (lk_wear ⟨m0, j, k, nI vz, m1, m2, m3, hj, hkb, rfl⟩)
          · show hz h + 1 ≤ _
            omega
          · show us G (mkA h (nI 2) (nI j) (nI k) (bl g j (6 + k))) ≤ _
            rw [mkA_us rm.1]
            omega
        · have hcv0 : ¬ cv = 0 := fun z => cq3 (by rw [z]; decide)
          refine x_iconst (v := nI 0) eX8_wear_39 (by decide) ?_
          refine x_zret eX8_wear_40 rfl (by first | exact Or.inl rfl | exact Or.inr rfl | exact bI_or _ | assumption) ?_
          exact hq0 (by
            rw [ew]
            cases z : bareV g (nI j) with
            | false => simp
            | true => exact absurd (hbare.mpr z) hcv0)
end ACT6

