/-! ===== plan: the first bolt that has a place ===== -/
section PLAN2
variable {G : GG} {d : Nat} {h h2 : AH} {Q : Option Value → AH → Prop} {ow o2 : Nat → Nat} {y kp nx : Nat} {g gp ld wd : Nat → Int32} {ps : Nat → Nat → Int32} {s i : Nat} {w : Int32}
set_option maxRecDepth 100000 in
set_option maxHeartbeats 4000000 in
theorem c_X8_layAtFirst (C : Core ow h y g ld wd) (I : GI g) (hs : s < nt (g 1)) (hi4 : i < np g s) (hon : sl g s (300 + i) = -1) (hq0 : fbN g s i w = none → Q (some (.int 0)) h) (hq1 : ∀ b p, fbN g s i w = some b → b < nt (g 0) → fpV g b s i w = nI p → p + nt (lenV g s i) ≤ nt (bl g b 1) → (∀ k, p ≤ k → k < p + nt (lenV g s i) → liesV g (nI b) (nI k) = -1) → ∀ h2, PuB G ow h y (gPut g s i (nI b) (nI p)) ld wd puT h2 → Q (some (.int 1)) h2) : Rn G (d + 4) mX8_layAtFirst 0 [(0, .ref y), (1, .int (nI s)), (2, .int (nI i)), (3, .int w)] [] h Q := by
  have W := I.gw
  have h24 := W.1.2.2
  have h10 := W.2.1.2.2
  have ky := C.2.1.1.1
  obtain ⟨sw, sx⟩ := I.2.2.1 s hs
  have h40 : np g s ≤ 40 := sw.2.2.2.2.1
  have lw := sx.2.2.2.2.2.2.2.2.2 i hi4
  obtain ⟨n, hn⟩ : ∃ n, n = nt (g 0) := ⟨_, rfl⟩
  have e1 : hi h y 1 = nI n := by rw [C.2.2.1.1, hn]; exact W.1.1
  have loop : ∀ p, PieceP ow h g s i p → ∀ m k, n - k = m → k ≤ n → (∀ j, j < k → fpV g j s i w = -1) → Rn G (d + 4) mX8_layAtFirst 21 [(0, .ref y), (1, .int (nI s)), (2, .int (nI i)), (3, .int w), (4, .ref p), (5, .int (nI k))] [] h Q := by
    intro p P
    obtain ⟨op, kpp, p0, p1, p2, p3, p4, p5, p6, p7, p8⟩ := id P
    intro m
    induction m with
    | zero =>
      intro k hm0 hkn hall
      have ekn : k = n := by omega
      subst ekn
      have e0 : fbN g s i w = none := fstN_none (fun j hj => by rw [hall j (by omega)]; rfl)
      refine x_iload eX8_layAtFirst_21 rfl ?_
      first | refine x_aload_n eX8_layAtFirst_23 rfl rfl ?_ | refine x_aload_nN eX8_layAtFirst_23 rfl rfl ?_
      first | refine x_getIe eX8_layAtFirst_24 fk_X8_15 (by decide) (by assumption) (by assumption) ?_ | refine x_getI eX8_layAtFirst_24 fk_X8_15 (by decide) (by assumption) ?_
      first | refine x_icmp_geN (tgt := 81) eX8_layAtFirst_27 (by decide) (by with_reducible rfl) (by with_reducible rfl) (by omega) (by omega) (fun cq1 => ?_) (fun cq1 => ?_) | refine x_icmp_ge (tgt := 81) eX8_layAtFirst_27 (by decide) (fun cq1 => ?_) (fun cq1 => ?_)
      · refine x_iconst (v := nI 0) eX8_layAtFirst_81 (by decide) ?_
        refine x_zret eX8_layAtFirst_82 rfl (by first | exact Or.inl rfl | exact Or.inr rfl | exact bI_or _ | assumption) ?_
        exact hq0 e0
      · omega
    | succ m ih =>
      intro k hm0 hkn hall
      have iw := ih (k + 1) (by omega) (by omega)
      have w57 : ∀ b, Rn G (d + 4) mX8_layAtFirst 55 [(0, .ref y), (1, .int (nI s)), (2, .int (nI i)), (3, .int w), (4, .ref p), (5, .int (nI k)), (6, .ref b)] [.int (fpV g k s i w)] h Q := fun b => by
        by_cases z : fpV g k s i w = -1
        · have iw := iw (fun j hj => by
            by_cases z2 : j = k
            · rw [z2]; exact z
            · exact hall j (by omega))
          rw [z]
          refine x_istore eX8_layAtFirst_55 (by decide) rfl rfl ?_
          refine x_iload eX8_layAtFirst_57 rfl ?_
          refine x_iconst (v := (-1)) eX8_layAtFirst_59 (by decide) ?_
          first | refine x_icmp_eqN (tgt := 75) eX8_layAtFirst_60 (by decide) (by with_reducible rfl) (by with_reducible rfl) (by omega) (by omega) (fun cq1 => ?_) (fun cq1 => ?_) | refine x_icmp_eq (tgt := 75) eX8_layAtFirst_60 (by decide) (fun cq1 => ?_) (fun cq1 => ?_)
          · first | refine x_iincN eX8_layAtFirst_75 rfl (by with_reducible rfl) (by decide) rfl rfl ?_ | refine x_iinc eX8_layAtFirst_75 rfl rfl (by decide) rfl rfl ?_
            refine x_goto (tgt := 21) eX8_layAtFirst_78 (by decide) ?_
            refine Rn.weak (iw) (by repeat' first | exact fun _ h => absurd h List.not_mem_nil | refine List.forall_mem_cons.mpr ⟨rfl, ?_⟩)
          · exact absurd rfl cq1
        · obtain ⟨pn, ep, hle, -⟩ := fpV_some ((I.2.1 k (by omega)).1.2.1) (lw.mono (Nat.zero_le _) (Nat.le_refl _)) z
          have u1 := (W.2.2.1 k (by omega)).2.1.2.2
          obtain ⟨f1, f2⟩ := fp_free I (by omega) hs hi4 ep (by omega)
          have eb : fbN g s i w = some k := fstN_some (by rw [decide_eq_false z]; rfl) (fun j hj => by rw [hall j hj]; rfl) (by omega)
          rw [ep]
          refine x_istore eX8_layAtFirst_55 (by decide) rfl rfl ?_
          refine x_iload eX8_layAtFirst_57 rfl ?_
          refine x_iconst (v := (-1)) eX8_layAtFirst_59 (by decide) ?_
          first | refine x_icmp_eqN (tgt := 75) eX8_layAtFirst_60 (by decide) (by with_reducible rfl) (by with_reducible rfl) (by omega) (by omega) (fun cq1 => ?_) (fun cq1 => ?_) | refine x_icmp_eq (tgt := 75) eX8_layAtFirst_60 (by decide) (fun cq1 => ?_) (fun cq1 => ?_)
          · exact absurd cq1 (nI_m1 (by omega))
          · first | refine x_aload_n eX8_layAtFirst_63 rfl rfl ?_ | refine x_aload_nN eX8_layAtFirst_63 rfl rfl ?_
            refine x_iload_n eX8_layAtFirst_64 rfl rfl ?_
            refine x_iload_n eX8_layAtFirst_65 rfl rfl ?_
            refine x_iload eX8_layAtFirst_66 rfl ?_
            refine x_iload eX8_layAtFirst_68 rfl ?_
            refine x_callV4 eX8_layAtFirst_70 lk_X8_241 (by assumption) (Nat.le_of_ble_eq_true rfl) (Nat.le_of_ble_eq_true rfl) ?_
            refine Rn.deep (c_X8_putDown (d := d) C I hs hi4 (by omega) hon f1 f2 (fun h2 P2 _ => ?_)) (by omega)
            refine x_iconst (v := nI 1) eX8_layAtFirst_73 (by decide) ?_
            refine x_zret eX8_layAtFirst_74 rfl (by first | exact Or.inl rfl | exact Or.inr rfl | exact bI_or _ | assumption) ?_
            exact hq1 k pn eb (by omega) ep f1 f2 h2 ⟨P2.1, P2.2.1.mono (fun t ht => by unfold puT; rcases ht with e | e | e <;> omega), P2.2.2⟩
      refine x_iload eX8_layAtFirst_21 rfl ?_
      first | refine x_aload_n eX8_layAtFirst_23 rfl rfl ?_ | refine x_aload_nN eX8_layAtFirst_23 rfl rfl ?_
      first | refine x_getIe eX8_layAtFirst_24 fk_X8_15 (by decide) (by assumption) (by assumption) ?_ | refine x_getI eX8_layAtFirst_24 fk_X8_15 (by decide) (by assumption) ?_
      first | refine x_icmp_geN (tgt := 81) eX8_layAtFirst_27 (by decide) (by with_reducible rfl) (by with_reducible rfl) (by omega) (by omega) (fun cq1 => ?_) (fun cq1 => ?_) | refine x_icmp_ge (tgt := 81) eX8_layAtFirst_27 (by decide) (fun cq1 => ?_) (fun cq1 => ?_)
      · omega
      · first | refine x_aload_n eX8_layAtFirst_30 rfl rfl ?_ | refine x_aload_nN eX8_layAtFirst_30 rfl rfl ?_
        refine x_iload eX8_layAtFirst_31 rfl ?_
        refine x_callV1 eX8_layAtFirst_33 lk_X8_76 (by assumption) (Nat.le_of_ble_eq_true rfl) (Nat.le_of_ble_eq_true rfl) ?_
        refine Rn.deep (c_X8_boltNumbered (d := d) C W (fun z _ => ?_) (fun b' a eb hb' hba B _ => ?_)) (by omega)
        · rw [isB_of W (by omega)] at z
          cases z
        · have ebb : k = b' := (nI_eq (by omega) (by omega)).mp eb
          subst ebb
          have w55 := w57 a
          obtain ⟨w0, w1, w3⟩ := (I.2.1 k (by omega)).1
          obtain ⟨oa, ka, b0, b1, bf, b3, hrow, c, ec, oc, kc, nc, e5, eL⟩ := id B
          have hcv : cvN (hi h c) (nt (bl g k 1)) ≤ nt (bl g k 1) := cntN_le _ _
          first | refine x_astore eX8_layAtFirst_36 (by decide) rfl rfl ?_ | refine x_astoreN eX8_layAtFirst_36 (by decide) rfl rfl ?_
          first | refine x_aload eX8_layAtFirst_38 rfl ?_ | refine x_aloadN eX8_layAtFirst_38 rfl ?_
          refine x_ifnonnullR (tgt := 47) eX8_layAtFirst_40 (by decide) ?_
          first | refine x_aload eX8_layAtFirst_47 rfl ?_ | refine x_aloadN eX8_layAtFirst_47 rfl ?_
          first | refine x_aload eX8_layAtFirst_49 rfl ?_ | refine x_aloadN eX8_layAtFirst_49 rfl ?_
          refine x_iload_n eX8_layAtFirst_51 rfl rfl ?_
          first | refine x_callV2 eX8_layAtFirst_52 lk_X8_389 (by assumption) (Nat.le_of_ble_eq_true rfl) (Nat.le_of_ble_eq_true rfl) ?_ | refine x_callVw2 eX8_layAtFirst_52 lk_X8_389 (by assumption) (Nat.le_of_ble_eq_true rfl) (Nat.le_of_ble_eq_true rfl) (Nat.le_of_ble_eq_true rfl) ?_
          refine Rn.deep (c_X1_firstPlaceFor (d := d) B w1 (w3.mono (Nat.le_refl _) w1.2.2) kpp p3 p4 (lw.mono (Nat.zero_le _) (Nat.le_refl _)) e5 hcv (fun _ => ?_)) (by omega)
          rw [fq_eq I (by omega) hs hi4 eL]
          refine Rn.weak (w55) (by repeat' first | exact fun _ h => absurd h List.not_mem_nil | refine List.forall_mem_cons.mpr ⟨rfl, ?_⟩)
  first | refine x_aload_n eX8_layAtFirst_0 rfl rfl ?_ | refine x_aload_nN eX8_layAtFirst_0 rfl rfl ?_
  refine x_iload_n eX8_layAtFirst_1 rfl rfl ?_
  refine x_callV1 eX8_layAtFirst_2 lk_X8_149 (by assumption) (Nat.le_of_ble_eq_true rfl) (Nat.le_of_ble_eq_true rfl) ?_
  refine Rn.deep (c_X8_sailNumbered (d := d) C W (fun z _ => ?_) (fun s' sa es hs' hsa S _ => ?_)) (by omega)
  · rw [isS_of W hs] at z
    cases z
  · have ess : s = s' := (nI_eq (by omega) (by omega)).mp es
    subst ess
    refine x_iload_n eX8_layAtFirst_5 rfl rfl ?_
    refine x_callS2 eX8_layAtFirst_6 lk_X8_206 (Nat.le_of_ble_eq_true rfl) (Nat.le_of_ble_eq_true rfl) ?_
    refine Rn.deep (c_X8_pieceOf2 (d := d) S sw sx (fun z _ => ?_) (fun i' p ei hi' hpa P _ => ?_)) (by omega)
    · rw [hpV_nI (by omega) (by omega), decide_eq_true hi4] at z
      cases z
    · have eii : i = i' := (nI_eq (by omega) (by omega)).mp ei
      subst eii
      have w0 := loop p P n 0 rfl (Nat.zero_le _) (fun j hj => absurd hj (by omega))
      first | refine x_astore eX8_layAtFirst_9 (by decide) rfl rfl ?_ | refine x_astoreN eX8_layAtFirst_9 (by decide) rfl rfl ?_
      first | refine x_aload eX8_layAtFirst_11 rfl ?_ | refine x_aloadN eX8_layAtFirst_11 rfl ?_
      refine x_ifnonnullR (tgt := 18) eX8_layAtFirst_13 (by decide) ?_
      refine x_iconst (v := nI 0) eX8_layAtFirst_18 (by decide) ?_
      refine x_istore eX8_layAtFirst_19 (by decide) rfl rfl ?_
      refine Rn.weak (w0) (by repeat' first | exact fun _ h => absurd h List.not_mem_nil | refine List.forall_mem_cons.mpr ⟨rfl, ?_⟩)
end PLAN2

