/-! ===== acts: lay, lift ===== -/
section LAY
variable {G : GG} {d : Nat} {h h2 : AH} {Q : Option Value → AH → Prop} {ow o2 : Nat → Nat} {y : Nat} {g g2 ld wd : Nat → Int32} {kp nx : Nat} {ps : Nat → Nat → Int32} {T : Nat → Prop}
set_option maxRecDepth 100000 in
set_option maxHeartbeats 4000000 in
theorem wn_eq {b k : Nat} (w3 : isN (bl g b 3) 0 200) (hk : k < 2 ^ 31) : wnV (bl g b) (nI k) = wornN g b k := by
  unfold wnV wornN
  rw [w3.1, hpV_nI (by have := w3.2.2; omega) hk, nt_nI hk, nt_nI (by have := w3.2.2; omega)]
  by_cases z : k < nt (bl g b 3)
  · rw [if_pos z, if_pos (decide_eq_true z)]
  · rw [if_neg z, if_neg (by rw [decide_eq_false z]; decide)]
set_option maxRecDepth 100000 in
set_option maxHeartbeats 4000000 in
theorem allN_eq {P R : Nat → Bool} : ∀ {n : Nat}, (∀ j, j < n → P j = R j) → allN P n = allN R n
  | 0, _ => rfl
  | n + 1, h => by rw [allN, allN, allN_eq (n := n) (fun j hj => h j (by omega)), h n (by omega)]
set_option maxRecDepth 100000 in
set_option maxHeartbeats 4000000 in
/-- where a bolt takes a piece -/
theorem takes_sp {b s i : Nat} {p w : Int32} (I : GI g) (hb : b < nt (g 0)) (hs : s < nt (g 1)) (hi4 : i < np g s) (h1 : decide (0 ≤ p) = true) (h2 : decide (p ≤ bl g b 1 - lenV g s i) = true) : ∃ pn, p = nI pn ∧ pn + nt (lenV g s i) ≤ nt (bl g b 1) ∧ pn < 2 ^ 31 := by
  have c2 := of_decide_eq_true h1
  have c3 := of_decide_eq_true h2
  obtain ⟨pn, p1, rfl⟩ := nI_of (Int32.not_lt.mpr c2)
  obtain ⟨el, ll, ul⟩ := (I.2.2.1 s hs).2.2.2.2.2.2.2.2.2.2 i hi4
  obtain ⟨e1, l1, u1⟩ := (I.2.1 b hb).1.2.1
  refine ⟨pn, rfl, ?_, p1⟩
  by_cases z : nt (lenV g s i) ≤ nt (bl g b 1)
  · rw [e1, el, pk_sub z, nI_leI p1 (by omega)] at c3
    omega
  · exfalso
    have c4 := Int32.le_trans c2 c3
    rw [e1, el] at c4
    have := pk_sneg (a := nt (bl g b 1)) (b := nt (lenV g s i)) (by omega) (by omega)
    exact absurd this (Int32.not_lt.mpr c4)
set_option maxRecDepth 100000 in
set_option maxHeartbeats 4000000 in
theorem takes_eq {b s i : Nat} {p w : Int32} (I : GI g) (hb : b < nt (g 0)) (hs : s < nt (g 1)) (hi4 : i < np g s) : tkP (bl g b) (fun k => liesV g (nI b) (nI k)) (broV g s i) (lenV g s i) p w = takesV g b p s i w := by
  unfold tkP takesV
  cases z1 : decide (broV g s i ≤ bl g b 0) with
  | false => rfl
  | true =>
    cases z2 : decide (0 ≤ p) with
    | false => rfl
    | true =>
      cases z3 : decide (p ≤ bl g b 1 - lenV g s i) with
      | false => rfl
      | true =>
        obtain ⟨pn, rfl, hle, p1⟩ := takes_sp (w := w) I hb hs hi4 z2 z3
        obtain ⟨w0, w1, w3⟩ := (I.2.1 b hb).1
        have u1 := w1.2.2
        rw [Bool.true_and, Bool.true_and, Bool.true_and, Bool.true_and, Bool.true_and, Bool.true_and, nt_nI p1]
        refine allN_eq (fun j hj => ?_)
        unfold frP
        rw [w1.1, hpV_nI (by omega) (by omega), decide_eq_true (show pn + j < nt (bl g b 1) by omega), nt_nI (by omega), wn_eq (w3.mono (Nat.le_refl _) u1) (by omega), Bool.true_and, Bool.and_comm]
set_option maxRecDepth 100000 in
set_option maxHeartbeats 4000000 in
theorem takes_free {b s i pn : Nat} {w : Int32} (hp : pn < 2 ^ 31) (h : takesV g b (nI pn) s i w = true) : ∀ k, pn ≤ k → k < pn + nt (lenV g s i) → liesV g (nI b) (nI k) = -1 := fun k k1 k2 => by
  unfold takesV at h
  simp only [Bool.and_eq_true] at h
  have := allN_iff.mp h.2.2.2 (k - pn) (by omega)
  rw [nt_nI hp, show pn + (k - pn) = k by omega, Bool.and_eq_true] at this
  exact of_decide_eq_true this.2
set_option maxRecDepth 100000 in
set_option maxHeartbeats 4000000 in
/-- the same state, tags and cells of acts apart -/
theorem Core.frame (C : Core ow h y g ld wd) (W : GW g) (F : Fr T ow h o2 h2) (hT : ∀ t, T t → 2000 ≤ t) (x : Ext h h2) (L2 : Lv o2 h2) (to : To ow o2) : Core o2 h2 y g ld wd := by
  obtain ⟨C1, C2, C3, C4, C5, C6, -⟩ := id C
  have h24 := W.1.2.2
  have h10 := W.2.1.2.2
  have no : ∀ t, t < 2000 → ¬ T t := fun t h1 h2 => by have := hT t h2; omega
  have q1 := F.at_ C2.1.2.2.2.2.2 (by decide) (no _ (by omega))
  have q2 := F.at_ C2.2.1.2.2 (by decide) (no _ (by omega))
  have q3 := F.at_ C2.2.2.1.2.2 (by decide) (no _ (by omega))
  exact C.up F x L2 to (fun k => by rw [q1.2.2.2.2.1]) (fun t h1 h2 h3 => no t (by omega)) (by rw [q1.2.2.2.1]; exact C3.1) (by rw [q1.2.2.2.1]; exact C3.2) (fun i hi => (C4 i hi).fr F (no _ (by omega)) (no _ (by omega)) (by rw [q2.2.2.2.2.1])) (fun i hi => (C5 i hi).fr F (no _ (by omega)) (no _ (by omega)) (no _ (by omega)) (W.2.2.1 i hi) (by rw [q2.2.2.2.2.1]) (fun _ _ => rfl) (fun _ _ => rfl)) (fun t ht => (C6 t ht).fr F (fun u hu => no _ (by unfold sT at hu; omega)) (W.2.2.2 t ht) (by rw [q3.2.2.2.2.1]) (fun _ _ => rfl))
set_option maxRecDepth 100000 in
set_option maxHeartbeats 4000000 in
/-- an act that stands already is remembered, over a heap that stands for the state behind -/
theorem Ps.rm {hM : AH} {oM : Nat → Nat} {aa : Nat} {X : Nat → Prop} (C : Core oM hM y g2 ld wd) (W2 : GW g2) (K : Acts ow h y g kp nx ps) (FM : Fr (oT nx X) ow h oM hM) (hX : ∀ t, X t → t < 2000 ∧ t ≠ 13) (ra7 : hr hM (y + 7) = hr h (y + 7)) (N : Link oM (rmH hM y nx kp aa) aa nx g g2) (hz2 : hz hM ≤ hz h + 100) (us2 : us G hM ≤ us G h + 6000) : Ps G y ow h g2 ld wd (kpS kp) ((nx + 1) % 16) (cns g ps) (rmH hM y nx kp aa) := by
  obtain ⟨C1, C2, C3, C4, C5, C6, -⟩ := id C
  have h24 := W2.1.2.2
  have h10 := W2.2.1.2.2
  have o1 := C2.1.2.2.2.2.2
  have o4 := C2.2.2.2.2.2.2.2.2.2
  have F : Fr (oT nx (fun t => t = 0)) oM hM oM (rmH hM y nx kp aa) := rmH_fr o1 o4
  have q2 := F.at_ C2.2.1.2.2 (by decide) (fun z => by unfold oT aT at z; omega)
  have q3 := F.at_ C2.2.2.1.2.2 (by decide) (fun z => by unfold oT aT at z; omega)
  have F2 : Fr (oT nx X) ow h oM (rmH hM y nx kp aa) := FM.tr (rmH_fr o1 o4)
  refine ⟨oM, C.up F ⟨Nat.le_refl _, fun _ _ => rfl⟩ C1 To.rf (fun k => by rw [rmH_r (by omega)]) (fun t h1 h2 h3 z => by unfold oT aT at z; omega) ((rmH_y (by decide) (by decide)).trans C3.1) ((rmH_y (by decide) (by decide)).trans C3.2) (fun i hi => (C4 i hi).fr F (fun z => by unfold oT aT at z; omega) (fun z => by unfold oT aT at z; omega) (by rw [q2.2.2.2.2.1])) (fun i hi => (C5 i hi).fr F (fun z => by unfold oT aT at z; omega) (fun z => by unfold oT aT at z; omega) (fun z => by unfold oT aT at z; omega) (W2.2.2.1 i hi) (by rw [q2.2.2.2.2.1]) (fun _ _ => rfl) (fun _ _ => rfl)) (fun t ht => (C6 t ht).fr F (fun u hu z => by unfold oT aT at z; unfold sT at hu; omega) (W2.2.2.2 t ht) (by rw [q3.2.2.2.2.1]) (fun _ _ => rfl)), K.push F2 (fun t ht => (hX t ht).1) (rmH_a.trans (by rw [ra7])) rmH_6 rmH_7 N, F2.zk (fun z => ?_), hz2, us2⟩
  rcases z with z | z | z | z
  · omega
  · omega
  · unfold aT at z; omega
  · exact (hX 13 z).2 rfl
set_option maxRecDepth 100000 in
set_option maxHeartbeats 4000000 in
theorem c_X8_lay {v i b p w : Int32} (C : Core ow h y g ld wd) (K : Acts ow h y g kp nx ps) (I : GI g) (rm : Rm G h 100 6000) (hq0 : layOK g v i b p w = false → Q (some (.int 0)) h) (hq1 : layOK g v i b p w = true → ∀ h2, Ps G y ow h (gPut g (nt v) (nt i) b p) ld wd (kpS kp) ((nx + 1) % 16) (cns g ps) h2 → Q (some (.int 1)) h2) : Rn G (d + 4) mX8_lay 0 [(0, .ref y), (1, .int v), (2, .int i), (3, .int b), (4, .int p), (5, .int w)] [] h Q := by
  obtain ⟨C1, C2, C3, -⟩ := id C
  have W := I.gw
  have h10 := W.2.1.2.2
  have h24 := W.1.2.2
  obtain ⟨⟨s1, s2, s3, s4, s5, s6⟩, -, -, -, -, -, -, ⟨t1, t2, t3⟩⟩ := id C2
  obtain ⟨k6, k7, hnx, hkp, -⟩ := id K
  -- no piece
  have none_ : isPc g v i = false → Rn G (d + 4) mX8_lay 10 [(0, .ref y), (1, .int v), (2, .int i), (3, .int b), (4, .int p), (5, .int w)] [.null] h Q := fun hf => by
    first | refine x_astore eX8_lay_10 (by decide) rfl rfl ?_ | refine x_astoreN eX8_lay_10 (by decide) rfl rfl ?_
    first | refine x_aload_n eX8_lay_12 rfl rfl ?_ | refine x_aload_nN eX8_lay_12 rfl rfl ?_
    refine x_iload_n eX8_lay_13 rfl rfl ?_
    refine x_callV1 eX8_lay_14 lk_X8_76 (by assumption) (Nat.le_of_ble_eq_true rfl) (Nat.le_of_ble_eq_true rfl) ?_
    refine Rn.deep (c_X8_boltNumbered (d := d) C W (fun q _ => ?_) (fun j a ej hj ha B _ => ?_)) (by omega)
    · first | refine x_astore eX8_lay_17 (by decide) rfl rfl ?_ | refine x_astoreN eX8_lay_17 (by decide) rfl rfl ?_
      first | refine x_aload eX8_lay_19 rfl ?_ | refine x_aloadN eX8_lay_19 rfl ?_
      refine x_ifnullN (tgt := 63) eX8_lay_21 (by decide) ?_
      refine x_iconst (v := nI 0) eX8_lay_63 (by decide) ?_
      refine x_zret eX8_lay_64 rfl (by first | exact Or.inl rfl | exact Or.inr rfl | exact bI_or _ | assumption) ?_
      exact hq0 (by unfold layOK; rw [hf]; rfl)
    · first | refine x_astore eX8_lay_17 (by decide) rfl rfl ?_ | refine x_astoreN eX8_lay_17 (by decide) rfl rfl ?_
      first | refine x_aload eX8_lay_19 rfl ?_ | refine x_aloadN eX8_lay_19 rfl ?_
      refine x_ifnullN (tgt := 63) eX8_lay_21 (by decide) ?_
      refine x_iconst (v := nI 0) eX8_lay_63 (by decide) ?_
      refine x_zret eX8_lay_64 rfl (by first | exact Or.inl rfl | exact Or.inr rfl | exact bI_or _ | assumption) ?_
      exact hq0 (by unfold layOK; rw [hf]; rfl)
  first | refine x_aload_n eX8_lay_0 rfl rfl ?_ | refine x_aload_nN eX8_lay_0 rfl rfl ?_
  refine x_iload_n eX8_lay_1 rfl rfl ?_
  refine x_iconst (v := nI 1) eX8_lay_2 (by decide) ?_
  first | refine x_callV2 eX8_lay_3 lk_X8_120 (by assumption) (Nat.le_of_ble_eq_true rfl) (Nat.le_of_ble_eq_true rfl) ?_ | refine x_callVw2 eX8_lay_3 lk_X8_120 (by assumption) (Nat.le_of_ble_eq_true rfl) (Nat.le_of_ble_eq_true rfl) (Nat.le_of_ble_eq_true rfl) ?_
  refine Rn.deep (c_X8_sailInState (d := d) C W (fun q _ => ?_) (fun s sa es hs h1 hsa S _ => ?_)) (by omega)
  · have w10 := none_ (by unfold isPc isC; rw [show (isS g v && decide (sl g (nt v) 0 = 1)) = false from q]; rfl)
    refine x_iload_n eX8_lay_6 rfl rfl ?_
    refine x_callS2 eX8_lay_7 lk_X8_206 (Nat.le_of_ble_eq_true rfl) (Nat.le_of_ble_eq_true rfl) ?_
    refine Rn.deep (c_X8_pieceNull (d := d) (fun _ => ?_)) (by omega)
    refine Rn.weak (w10) (by repeat' first | exact fun _ h => absurd h List.not_mem_nil | refine List.forall_mem_cons.mpr ⟨rfl, ?_⟩)
  · subst es
    have hS : nt (nI s) = s := nt_nI (by omega)
    have hB := isC_of W hs h1
    obtain ⟨sw, sx⟩ := I.2.2.1 s hs
    have h40 : np g s ≤ 40 := sw.2.2.2.2.1
    have epc : ∀ i : Int32, isPc g (nI s) i = hpV (nI (np g s)) i := fun i => by unfold isPc hpV; rw [hB, hS, Bool.true_and]
    refine x_iload_n eX8_lay_6 rfl rfl ?_
    refine x_callS2 eX8_lay_7 lk_X8_206 (Nat.le_of_ble_eq_true rfl) (Nat.le_of_ble_eq_true rfl) ?_
    refine Rn.deep (c_X8_pieceOf (d := d) S sw sx (fun z _ => ?_) (fun j pp ej hj P _ => ?_)) (by omega)
    · have w10 := none_ (by rw [epc]; exact z)
      refine Rn.weak (w10) (by repeat' first | exact fun _ h => absurd h List.not_mem_nil | refine List.forall_mem_cons.mpr ⟨rfl, ?_⟩)
    · subst ej
      obtain ⟨op, kpp, p0, p1, p2, p3, p4, p5, p6, p7, p8⟩ := id P
      have hJ : nt (nI j) = j := nt_nI (by omega)
      have hpc : isPc g (nI s) (nI j) = true := by rw [epc, hpV_nI (by omega) (by omega)]; exact decide_eq_true hj
      have l1 := sx.2.2.2.2.2.2.2.2.2 j hj
      first | refine x_astore eX8_lay_10 (by decide) rfl rfl ?_ | refine x_astoreN eX8_lay_10 (by decide) rfl rfl ?_
      first | refine x_aload_n eX8_lay_12 rfl rfl ?_ | refine x_aload_nN eX8_lay_12 rfl rfl ?_
      refine x_iload_n eX8_lay_13 rfl rfl ?_
      refine x_callV1 eX8_lay_14 lk_X8_76 (by assumption) (Nat.le_of_ble_eq_true rfl) (Nat.le_of_ble_eq_true rfl) ?_
      refine Rn.deep (c_X8_boltNumbered (d := d) C W (fun q _ => ?_) (fun bn a eb hbn ha B _ => ?_)) (by omega)
      · first | refine x_astore eX8_lay_17 (by decide) rfl rfl ?_ | refine x_astoreN eX8_lay_17 (by decide) rfl rfl ?_
        first | refine x_aload eX8_lay_19 rfl ?_ | refine x_aloadN eX8_lay_19 rfl ?_
        refine x_ifnullR eX8_lay_21 ?_
        first | refine x_aload eX8_lay_24 rfl ?_ | refine x_aloadN eX8_lay_24 rfl ?_
        refine x_ifnullN (tgt := 63) eX8_lay_26 (by decide) ?_
        refine x_iconst (v := nI 0) eX8_lay_63 (by decide) ?_
        refine x_zret eX8_lay_64 rfl (by first | exact Or.inl rfl | exact Or.inr rfl | exact bI_or _ | assumption) ?_
        exact hq0 (by unfold layOK; rw [q]; simp)
      · subst eb
        have hBn : nt (nI bn) = bn := nt_nI (by omega)
        obtain ⟨w0, w1, w3⟩ := W.2.2.1 bn hbn
        have ka := B.2.1
        have ev : layOK g (nI s) (nI j) (nI bn) p w = (inR w 0 100 && (decide (sl g s (300 + j) = -1) && takesV g bn p s j w)) := by
          unfold layOK
          rw [hpc, isB_of W hbn, hS, hJ, hBn]
          rfl
        first | refine x_astore eX8_lay_17 (by decide) rfl rfl ?_ | refine x_astoreN eX8_lay_17 (by decide) rfl rfl ?_
        first | refine x_aload eX8_lay_19 rfl ?_ | refine x_aloadN eX8_lay_19 rfl ?_
        refine x_ifnullR eX8_lay_21 ?_
        first | refine x_aload eX8_lay_24 rfl ?_ | refine x_aloadN eX8_lay_24 rfl ?_
        refine x_ifnullR eX8_lay_26 ?_
        first | refine x_aload eX8_lay_29 rfl ?_ | refine x_aloadN eX8_lay_29 rfl ?_
        first | refine x_getIe eX8_lay_31 fk_X8_227 (by decide) (by assumption) (by assumption) ?_ | refine x_getI eX8_lay_31 fk_X8_227 (by decide) (by assumption) ?_
        refine x_iconst (v := (-1)) eX8_lay_34 (by decide) ?_
        first | refine x_icmp_neN (tgt := 63) eX8_lay_35 (by decide) (by with_reducible rfl) (by with_reducible rfl) (by omega) (by omega) (fun cq1 => ?_) (fun cq1 => ?_) | refine x_icmp_ne (tgt := 63) eX8_lay_35 (by decide) (fun cq1 => ?_) (fun cq1 => ?_)
        · refine x_iconst (v := nI 0) eX8_lay_63 (by decide) ?_
          refine x_zret eX8_lay_64 rfl (by first | exact Or.inl rfl | exact Or.inr rfl | exact bI_or _ | assumption) ?_
          exact hq0 (by rw [ev, decide_eq_false cq1]; simp)
        · have hon : sl g s (300 + j) = -1 := cq1
          refine x_iload eX8_lay_38 rfl ?_
          refine x_iconst (v := nI 0) eX8_lay_40 (by decide) ?_
          refine x_bipush (v := nI 100) eX8_lay_41 (by decide) ?_
          refine x_callS3 eX8_lay_43 lk_X8_51 (Nat.le_of_ble_eq_true rfl) (Nat.le_of_ble_eq_true rfl) ?_
          refine Rn.deep (c_X8_isWithin (d := d) (fun _ => ?_)) (by omega)
          first | refine x_if_eqB (tgt := 63) eX8_lay_46 (by decide) (by with_reducible rfl) (fun cq2 => ?_) (fun cq2 => ?_) | refine x_if_eq (tgt := 63) eX8_lay_46 (by decide) (fun cq2 => ?_) (fun cq2 => ?_)
          · refine x_iconst (v := nI 0) eX8_lay_63 (by decide) ?_
            refine x_zret eX8_lay_64 rfl (by first | exact Or.inl rfl | exact Or.inr rfl | exact bI_or _ | assumption) ?_
            exact hq0 (by rw [ev, show inR w 0 100 = false from cq2]; rfl)
          · first | refine x_aload eX8_lay_49 rfl ?_ | refine x_aloadN eX8_lay_49 rfl ?_
            first | refine x_aload eX8_lay_51 rfl ?_ | refine x_aloadN eX8_lay_51 rfl ?_
            refine x_iload eX8_lay_53 rfl ?_
            refine x_iload eX8_lay_55 rfl ?_
            refine x_callV3 eX8_lay_57 lk_X8_237 (by assumption) (Nat.le_of_ble_eq_true rfl) (Nat.le_of_ble_eq_true rfl) ?_
            refine Rn.deep (c_X1_takes (d := d) B w1 (w3.mono (Nat.le_refl _) w1.2.2) kpp p3 p4 (l1.mono (Nat.zero_le _) (Nat.le_refl _)) (fun _ => ?_)) (by omega)
            rw [takes_eq I hbn hs hj]
            first | refine x_if_neB (tgt := 65) eX8_lay_60 (by decide) (by with_reducible rfl) (fun cq3 => ?_) (fun cq3 => ?_) | refine x_if_ne (tgt := 65) eX8_lay_60 (by decide) (fun cq3 => ?_) (fun cq3 => ?_)
            · have hok : layOK g (nI s) (nI j) (nI bn) p w = true := by rw [ev, show inR w 0 100 = true from cq2, decide_eq_true hon, cq3]; rfl
              have htk := cq3
              unfold takesV at htk
              simp only [Bool.and_eq_true] at htk
              obtain ⟨pn, rfl, hle, hpn⟩ := takes_sp (w := w) I hbn hs hj htk.2.1 htk.2.2.1
              have free := takes_free hpn cq3
              have I2 : GI (gPut g s j (nI bn) (nI pn)) := GI_put I hs hj (Or.inr ⟨bn, pn, rfl, rfl, hbn, hle, hon, free⟩)
              first | refine x_aload_n eX8_lay_65 rfl rfl ?_ | refine x_aload_nN eX8_lay_65 rfl rfl ?_
              refine x_iload_n eX8_lay_66 rfl rfl ?_
              refine x_iload_n eX8_lay_67 rfl rfl ?_
              refine x_iload_n eX8_lay_68 rfl rfl ?_
              refine x_iload eX8_lay_69 rfl ?_
              refine x_callV4 eX8_lay_71 lk_X8_241 (by assumption) (Nat.le_of_ble_eq_true rfl) (Nat.le_of_ble_eq_true rfl) ?_
              refine Rn.deep (c_X8_putDown (d := d) C I hs hj hbn hon hle free (fun hM A _ => ?_)) (by omega)
              obtain ⟨CM, FM, xM, hzM, usM⟩ := A
              obtain ⟨c1, c2, -⟩ := id CM
              have ly := (C1 y (by omega)).1
              have qy := FM.at_ s6 (by omega) (fun z => by omega)
              have q7 := FM.at_ t3 (by omega) (fun z => by omega)
              have kyM : hk hM y = 7 := qy.2.1.trans s1
              have kyN : hk (nw hM 0 8) y = 7 := by rw [hk_nw (by omega)]; exact kyM
              have knN : hk (nw hM 0 8) (hz hM) = 0 := hk_nw'
              have hroom : hz hM < gB G + 600000 ∧ us G hM + 8 ≤ 7302250 := ⟨by have := rm.2.1; omega, by have := rm.2.2; omega⟩
              first | refine x_aload_n eX8_lay_74 rfl rfl ?_ | refine x_aload_nN eX8_lay_74 rfl rfl ?_
              refine x_new (ci := 0) eX8_lay_75 rfl ck_X8_35 (by first | assumption | omega) ?_
              refine x_dup eX8_lay_78 rfl ?_
              refine x_bipush (v := nI 9) eX8_lay_79 (by decide) ?_
              refine x_iload_n eX8_lay_81 rfl rfl ?_
              refine x_iload_n eX8_lay_82 rfl rfl ?_
              refine x_iconst (v := nI 0) eX8_lay_83 (by decide) ?_
              refine x_callI4 eX8_lay_84 lk_X8_69 (Nat.le_of_ble_eq_true rfl) (Nat.le_of_ble_eq_true rfl) ?_
              refine Rn.deep (c_X0_init (d := d) knN (fun _ => ?_)) (by omega)
              refine x_callV1 eX8_lay_87 lk_X8_72 (by assumption) (Nat.le_of_ble_eq_true rfl) (Nat.le_of_ble_eq_true rfl) ?_
              refine Rn.deep (c_remember (d := d) (k := nI 9) (o := nI s) (i := nI j) (b := nI 0) c1 c2 (by rw [qy.2.2.2.1]; exact k6) (by rw [qy.2.2.2.1]; exact k7) hnx hkp (fun _ => ?_)) (by omega)
              refine x_iconst (v := nI 1) eX8_lay_90 (by decide) ?_
              refine x_zret eX8_lay_91 rfl (by first | exact Or.inl rfl | exact Or.inr rfl | exact bI_or _ | assumption) ?_
              refine hq1 hok _ ?_
              rw [hS, hJ]
              exact Ps.after (X := fun t => t = 100 + bn ∨ t = 200 + bn ∨ t = 1000 + 40 * s + j) CM I2.gw K (FM.mono (fun t ht => Or.inr (Or.inr (Or.inr ht)))) (fun t ht => by omega) To.rf xM q7.2.2.2.2.1 (fun A R o2 h2 q0 q1 q2 q3 q4 => Or.inl (lk_lay ⟨q0, s, j, nI bn, nI pn, q1, q2, hs, hj, hon, rfl⟩)) (by have := rm.1; omega) (by omega) (by omega)
            · refine x_iconst (v := nI 0) eX8_lay_63 (by decide) ?_
              refine x_zret eX8_lay_64 rfl (by first | exact Or.inl rfl | exact Or.inr rfl | exact bI_or _ | assumption) ?_
              exact hq0 (by rw [ev, cq3]; simp)
set_option maxRecDepth 100000 in
set_option maxHeartbeats 4000000 in
theorem c_X8_lift {v i : Int32} (C : Core ow h y g ld wd) (K : Acts ow h y g kp nx ps) (I : GI g) (rm : Rm G h 100 6000) (hq0 : liftOK g v i = false → Q (some (.int 0)) h) (hq1 : liftOK g v i = true → ∀ h2, Ps G y ow h (gPut g (nt v) (nt i) (-1) (-1)) ld wd (kpS kp) ((nx + 1) % 16) (cns g ps) h2 → Q (some (.int 1)) h2) : Rn G (d + 4) mX8_lift 0 [(0, .ref y), (1, .int v), (2, .int i)] [] h Q := by
  obtain ⟨C1, C2, C3, -⟩ := id C
  have W := I.gw
  have h10 := W.2.1.2.2
  have h24 := W.1.2.2
  obtain ⟨⟨s1, s2, s3, s4, s5, s6⟩, -, -, -, -, -, -, ⟨t1, t2, t3⟩⟩ := id C2
  obtain ⟨k6, k7, hnx, hkp, -⟩ := id K
  have ly := (C1 y (by omega)).1
  have l7 := (C1 (y + 7) (by omega)).1
  have none_ : isPc g v i = false → Rn G (d + 4) mX8_lift 10 [(0, .ref y), (1, .int v), (2, .int i)] [.null] h Q := fun hf => by
    first | refine x_astore_n eX8_lift_10 rfl (by decide) rfl rfl ?_ | refine x_astore_nN eX8_lift_10 rfl (by decide) rfl rfl ?_
    first | refine x_aload_n eX8_lift_11 rfl rfl ?_ | refine x_aload_nN eX8_lift_11 rfl rfl ?_
    refine x_ifnullN (tgt := 23) eX8_lift_12 (by decide) ?_
    refine x_iconst (v := nI 0) eX8_lift_23 (by decide) ?_
    refine x_zret eX8_lift_24 rfl (by first | exact Or.inl rfl | exact Or.inr rfl | exact bI_or _ | assumption) ?_
    exact hq0 (by unfold liftOK; rw [hf]; rfl)
  first | refine x_aload_n eX8_lift_0 rfl rfl ?_ | refine x_aload_nN eX8_lift_0 rfl rfl ?_
  refine x_iload_n eX8_lift_1 rfl rfl ?_
  refine x_iconst (v := nI 1) eX8_lift_2 (by decide) ?_
  first | refine x_callV2 eX8_lift_3 lk_X8_120 (by assumption) (Nat.le_of_ble_eq_true rfl) (Nat.le_of_ble_eq_true rfl) ?_ | refine x_callVw2 eX8_lift_3 lk_X8_120 (by assumption) (Nat.le_of_ble_eq_true rfl) (Nat.le_of_ble_eq_true rfl) (Nat.le_of_ble_eq_true rfl) ?_
  refine Rn.deep (c_X8_sailInState (d := d) C W (fun q _ => ?_) (fun s sa es hs h1 hsa S _ => ?_)) (by omega)
  · have w10 := none_ (by unfold isPc isC; rw [show (isS g v && decide (sl g (nt v) 0 = 1)) = false from q]; rfl)
    refine x_iload_n eX8_lift_6 rfl rfl ?_
    refine x_callS2 eX8_lift_7 lk_X8_206 (Nat.le_of_ble_eq_true rfl) (Nat.le_of_ble_eq_true rfl) ?_
    refine Rn.deep (c_X8_pieceNull (d := d) (fun _ => ?_)) (by omega)
    refine Rn.weak (w10) (by repeat' first | exact fun _ h => absurd h List.not_mem_nil | refine List.forall_mem_cons.mpr ⟨rfl, ?_⟩)
  · subst es
    have hS : nt (nI s) = s := nt_nI (by omega)
    have hB := isC_of W hs h1
    obtain ⟨sw, sx⟩ := I.2.2.1 s hs
    have h40 : np g s ≤ 40 := sw.2.2.2.2.1
    have epc : ∀ i : Int32, isPc g (nI s) i = hpV (nI (np g s)) i := fun i => by unfold isPc hpV; rw [hB, hS, Bool.true_and]
    refine x_iload_n eX8_lift_6 rfl rfl ?_
    refine x_callS2 eX8_lift_7 lk_X8_206 (Nat.le_of_ble_eq_true rfl) (Nat.le_of_ble_eq_true rfl) ?_
    refine Rn.deep (c_X8_pieceOf (d := d) S sw sx (fun z _ => ?_) (fun j pp ej hj P _ => ?_)) (by omega)
    · have w10 := none_ (by rw [epc]; exact z)
      refine Rn.weak (w10) (by repeat' first | exact fun _ h => absurd h List.not_mem_nil | refine List.forall_mem_cons.mpr ⟨rfl, ?_⟩)
    · subst ej
      obtain ⟨op, kpp, p0, p1, p2, p3, p4, p5, p6, p7, p8⟩ := id P
      have hJ : nt (nI j) = j := nt_nI (by omega)
      have hpc : isPc g (nI s) (nI j) = true := by rw [epc, hpV_nI (by omega) (by omega)]; exact decide_eq_true hj
      have ev : liftOK g (nI s) (nI j) = !decide (sl g s (300 + j) = -1) := by
        unfold liftOK
        rw [hpc, hS, hJ]
        rfl
      have hroom : hz h < gB G + 600000 ∧ us G h + 8 ≤ 7302250 := ⟨by have := rm.2.1; omega, by have := rm.2.2; omega⟩
      first | refine x_astore_n eX8_lift_10 rfl (by decide) rfl rfl ?_ | refine x_astore_nN eX8_lift_10 rfl (by decide) rfl rfl ?_
      first | refine x_aload_n eX8_lift_11 rfl rfl ?_ | refine x_aload_nN eX8_lift_11 rfl rfl ?_
      refine x_ifnullR eX8_lift_12 ?_
      first | refine x_aload_n eX8_lift_15 rfl rfl ?_ | refine x_aload_nN eX8_lift_15 rfl rfl ?_
      first | refine x_getIe eX8_lift_16 fk_X8_227 (by decide) (by assumption) (by assumption) ?_ | refine x_getI eX8_lift_16 fk_X8_227 (by decide) (by assumption) ?_
      refine x_iconst (v := (-1)) eX8_lift_19 (by decide) ?_
      first | refine x_icmp_neN (tgt := 25) eX8_lift_20 (by decide) (by with_reducible rfl) (by with_reducible rfl) (by omega) (by omega) (fun cq1 => ?_) (fun cq1 => ?_) | refine x_icmp_ne (tgt := 25) eX8_lift_20 (by decide) (fun cq1 => ?_) (fun cq1 => ?_)
      · have hne : ¬ sl g s (300 + j) = -1 := cq1
        have hok : liftOK g (nI s) (nI j) = true := by rw [ev, decide_eq_false hne]; rfl
        obtain ⟨bn, hbn, hon⟩ : ∃ bn, bn < nt (g 0) ∧ sl g s (300 + j) = nI bn := by
          rcases sw.2.2.2.2.2.2.2.2.2.2.2.2.2 j hj with z | ⟨⟨z1, -, z2⟩, z3⟩
          · exact absurd z hne
          · exact ⟨_, by omega, z1⟩
        have lp := (C1 pp (by omega)).1
        have kpN : hk (nw h 0 8) pp = 3 := by rw [hk_nw (by omega)]; exact kpp
        have p7N : hi (nw h 0 8) pp 7 = nI bn := by rw [(nw_ne (by omega)).2.1, p7]; exact hon
        have p8N : hi (mkA h (nI 10) (nI s) (nI j) (nI bn)) pp 8 = sl g s (340 + j) := by rw [(mkA_ne (by omega)).2.1]; exact p8
        have knN : hk (nw h 0 8) (hz h) = 0 := hk_nw'
        have kyN : hk (nw h 0 8) y = 7 := by rw [hk_nw (by omega)]; exact s1
        have F1 : Fr (fun t => t = 2000 + nx) ow h (upd0 ow (hz h) (2000 + nx)) (wi (mkA h (nI 10) (nI s) (nI j) (nI bn)) (hz h) 4 (sl g s (340 + j))) := Fr.tr (mkA_fr C1) (Fr.wi (upd0_same _ _ _))
        have x1 : Ext h (wi (mkA h (nI 10) (nI s) (nI j) (nI bn)) (hz h) 4 (sl g s (340 + j))) := mkA_x h (nI 10) (nI s) (nI j) (nI bn)
        have L1 : Lv (upd0 ow (hz h) (2000 + nx)) (wi (mkA h (nI 10) (nI s) (nI j) (nI bn)) (hz h) 4 (sl g s (340 + j))) := mkA_lv (k := nI 10) (o := nI s) (i := nI j) (b := nI bn) C1
        have CA := C.frame W F1 (fun t ht => by omega) x1 L1 (To.nw C1)
        have I2 : GI (gPut g s j (-1) (-1)) := GI_put I hs hj (Or.inl ⟨rfl, rfl⟩)
        have m0 := mkA_v h (nI 10) (nI s) (nI j) (nI bn)
        have iN : hi (wi (mkA h (nI 10) (nI s) (nI j) (nI bn)) (hz h) 4 (sl g s (340 + j))) (hz h) = upd0 (hi (mkA h (nI 10) (nI s) (nI j) (nI bn)) (hz h)) 4 (sl g s (340 + j)) := by
          show up2 (hi (mkA h (nI 10) (nI s) (nI j) (nI bn))) (hz h) 4 _ (hz h) = _
          rw [up2_at]
        have kA0 : hk (wi (mkA h (nI 10) (nI s) (nI j) (nI bn)) (hz h) 4 (sl g s (340 + j))) (hz h) = 0 := hk_nw'
        have hzA : hz (wi (mkA h (nI 10) (nI s) (nI j) (nI bn)) (hz h) 4 (sl g s (340 + j))) = hz h + 1 := rfl
        have usA : us G (wi (mkA h (nI 10) (nI s) (nI j) (nI bn)) (hz h) 4 (sl g s (340 + j))) = us G h + 8 := mkA_us (k := nI 10) (o := nI s) (i := nI j) (b := nI bn) rm.1
        refine x_new (ci := 0) eX8_lift_25 rfl ck_X8_35 (by first | assumption | omega) ?_
        refine x_dup eX8_lift_28 rfl ?_
        refine x_bipush (v := nI 10) eX8_lift_29 (by decide) ?_
        refine x_iload_n eX8_lift_31 rfl rfl ?_
        refine x_iload_n eX8_lift_32 rfl rfl ?_
        first | refine x_aload_n eX8_lift_33 rfl rfl ?_ | refine x_aload_nN eX8_lift_33 rfl rfl ?_
        first | refine x_getIe eX8_lift_34 fk_X8_227 (by decide) (by assumption) (by assumption) ?_ | refine x_getI eX8_lift_34 fk_X8_227 (by decide) (by assumption) ?_
        refine x_callI4 eX8_lift_37 lk_X8_69 (Nat.le_of_ble_eq_true rfl) (Nat.le_of_ble_eq_true rfl) ?_
        refine Rn.deep (c_X0_init (d := d) knN (fun _ => ?_)) (by omega)
        first | refine x_astore eX8_lift_40 (by decide) rfl rfl ?_ | refine x_astoreN eX8_lift_40 (by decide) rfl rfl ?_
        first | refine x_aload eX8_lift_42 rfl ?_ | refine x_aloadN eX8_lift_42 rfl ?_
        first | refine x_aload_n eX8_lift_44 rfl rfl ?_ | refine x_aload_nN eX8_lift_44 rfl rfl ?_
        first | refine x_getIe eX8_lift_45 fk_X8_230 (by decide) (by assumption) (by assumption) ?_ | refine x_getI eX8_lift_45 fk_X8_230 (by decide) (by assumption) ?_
        refine x_putI eX8_lift_48 fk_X8_143 (by decide) rfl ⟨_, rfl, Or.inl rfl⟩ (by assumption) ?_
        first | refine x_aload_n eX8_lift_51 rfl rfl ?_ | refine x_aload_nN eX8_lift_51 rfl rfl ?_
        refine x_iload_n eX8_lift_52 rfl rfl ?_
        refine x_iload_n eX8_lift_53 rfl rfl ?_
        first | refine x_callV2 eX8_lift_54 lk_X8_244 (by assumption) (Nat.le_of_ble_eq_true rfl) (Nat.le_of_ble_eq_true rfl) ?_ | refine x_callVw2 eX8_lift_54 lk_X8_244 (by assumption) (Nat.le_of_ble_eq_true rfl) (Nat.le_of_ble_eq_true rfl) (Nat.le_of_ble_eq_true rfl) ?_
        refine Rn.deep (c_X8_pickUp (d := d) (h := wi (mkA h (nI 10) (nI s) (nI j) (nI bn)) (hz h) 4 (sl g s (340 + j))) CA I hs hj hon hbn (fun hM A _ => ?_)) (by omega)
        obtain ⟨CM, FM, xM, hzM, usM⟩ := A
        generalize wi (mkA h (nI 10) (nI s) (nI j) (nI bn)) (hz h) 4 (sl g s (340 + j)) = hA at *
        obtain ⟨c1, c2, -⟩ := id CM
        have F2 : Fr (oT nx (fun t => t = 100 + bn ∨ t = 200 + bn ∨ t = 1000 + 40 * s + j)) ow h (upd0 ow (hz h) (2000 + nx)) hM := (F1.mono (fun t ht => Or.inr (Or.inr (Or.inl (Or.inl ht))))).tr (FM.mono (fun t ht => Or.inr (Or.inr (Or.inr ht))))
        have oy : upd0 ow (hz h) (2000 + nx) y = 1 := by rw [upd0_ne (by omega)]; exact s6
        have o7 : upd0 ow (hz h) (2000 + nx) (y + 7) = 4 := by rw [upd0_ne (by omega)]; exact t3
        have oN : upd0 ow (hz h) (2000 + nx) (hz h) = 2000 + nx := upd0_same _ _ _
        have fy1 := F1.at_ s6 (by omega) (fun z => by omega)
        have fy := FM.at_ oy (by omega) (fun z => by omega)
        have f71 := F1.at_ t3 (by omega) (fun z => by omega)
        have f7 := FM.at_ o7 (by omega) (fun z => by omega)
        have fN := FM.at_ oN (by omega) (fun z => by omega)
        have kyM : hk hM y = 7 := fy.2.1.trans (fy1.2.1.trans s1)
        have knM : hk hM (hz h) = 0 := fN.2.1.trans kA0
        have r5M : hr hM y 5 = some (y + 7) := by rw [fy.2.2.2.2.1, fy1.2.2.2.2.1]; exact s5
        have k7M : hk hM (y + 7) = 30 := f7.2.1.trans (f71.2.1.trans t1)
        have n7M : hn hM (y + 7) = 16 := f7.2.2.1.trans (f71.2.2.1.trans t2)
        have i6M : hi hM y 6 = nI nx := by rw [fy.2.2.2.1, fy1.2.2.2.1]; exact k6
        have i7M : hi hM y 7 = nI kp := by rw [fy.2.2.2.1, fy1.2.2.2.1]; exact k7
        first | refine x_aload_n eX8_lift_57 rfl rfl ?_ | refine x_aload_nN eX8_lift_57 rfl rfl ?_
        first | refine x_aload eX8_lift_58 rfl ?_ | refine x_aloadN eX8_lift_58 rfl ?_
        refine x_callV1 eX8_lift_60 lk_X8_72 (by assumption) (Nat.le_of_ble_eq_true rfl) (Nat.le_of_ble_eq_true rfl) ?_
        refine Rn.deep (c_X8_remember (d := d) kyM r5M k7M n7M i6M i7M hnx hkp knM (fun _ => ?_)) (by omega)
        refine x_iconst (v := nI 1) eX8_lift_63 (by decide) ?_
        refine x_zret eX8_lift_64 rfl (by first | exact Or.inl rfl | exact Or.inr rfl | exact bI_or _ | assumption) ?_
        refine hq1 hok _ ?_
        rw [hS, hJ]
        refine Ps.rm (X := fun t => t = 100 + bn ∨ t = 200 + bn ∨ t = 1000 + 40 * s + j) CM I2.gw K F2 (fun t ht => by omega) (by rw [f7.2.2.2.2.1, f71.2.2.2.2.1]) ⟨oN, knM, ?_⟩ (by omega) (by omega)
        rw [rmH_i (by omega), fN.2.2.2.1, iN]
        exact Or.inl (lk_lift ⟨(upd0_ne (by decide)).trans m0.1, s, j, (upd0_ne (by decide)).trans m0.2.1, (upd0_ne (by decide)).trans m0.2.2.1, ((upd0_ne (by decide)).trans m0.2.2.2.1).trans hon.symm, upd0_same _ _ _, hs, hj, hne, rfl⟩)
      · refine x_iconst (v := nI 0) eX8_lift_23 (by decide) ?_
        refine x_zret eX8_lift_24 rfl (by first | exact Or.inl rfl | exact Or.inr rfl | exact bI_or _ | assumption) ?_
        exact hq0 (by rw [ev, decide_eq_true cq1]; rfl)
end LAY

