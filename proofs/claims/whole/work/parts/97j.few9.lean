/-! ===== fewest: the run ===== -/
section FEW9
variable {G : GG} {d : Nat} {h h1 h2 : AH} {Q : Option Value → AH → Prop} {ow o1 o2 : Nat → Nat} {y p a0 a1 a2 a kp nx : Nat} {g ld wd : Nat → Int32} {ps : Nat → Nat → Int32} {s : Nat} {w : Int32}
/-- the table behind b bolts -/
def pkB (g : Nat → Int32) (s : Nat) (w : Int32) (c : Nat) (h : AH) (p a0 a1 a2 : Nat) (F : Nat → Nat → Int32) (b : Nat) : Prop := (∀ r, r ≠ a0 → r ≠ a1 → r ≠ a2 → r ≠ p → F r = hi h r) ∧ F p 3 = nI (2 ^ c) ∧ ∀ S, S < 2 ^ c → F a0 S = lsV g s (loV g s) S c ∧ F a1 S = bdV g s (loV g s) S c ∧ F a2 S = nI (min (ftL g s w c b S) 25)
set_option maxRecDepth 100000 in
set_option maxHeartbeats 4000000 in
theorem few_bolts {c : Nat} (C : Core o1 h1 y g ld wd) (I : GI g) (S : PkS o1 h1 y p a0 a1 a2) (hc : c ≤ 8) (hq : ∀ F, pkB g s w c h1 p a0 a1 a2 F (nt (g 0)) → Q (some (.int (if ftL g s w c (nt (g 0)) (2 ^ c - 1) ≤ 24 then nI (ftL g s w c (nt (g 0)) (2 ^ c - 1)) else -1))) (setI h1 F)) : ∀ m k F, k + m = nt (g 0) → pkB g s w c h1 p a0 a1 a2 F k → Rn G (d + 4) mX8_fewest 109 [(0, .ref y), (2, .int w), (4, .int (nI k))] [] (setI h1 F) Q := by
  have W := I.gw
  have h24 := W.1.2.2
  have hp := Nat.two_pow_pos c
  have hM : 2 ^ c ≤ 256 := Nat.pow_le_pow_right (n := 2) (by decide) hc
  intro m
  induction m with
  | zero =>
    intro k F hkm V
    obtain ⟨V1, V2, V3⟩ := id V
    obtain ⟨C', S', F'⟩ := S.upd (v := 0) C W V1
    obtain ⟨z1, ⟨z2, -⟩, P'⟩ := id S'
    have ekm : nt (g 0) = k := by omega
    have ky := C'.2.1.1.1
    have e1 : hi (setI h1 F) y 1 = nI (nt (g 0)) := by rw [C'.2.2.1.1]; exact W.1.1
    have kf := hq F (by rw [ekm]; exact V)
    have kpk := P'.1
    rw [ekm] at kf e1
    refine x_iload eX8_fewest_109 rfl ?_
    first | refine x_aload_n eX8_fewest_111 rfl rfl ?_ | refine x_aload_nN eX8_fewest_111 rfl rfl ?_
    first | refine x_getIe eX8_fewest_112 fk_X8_15 (by decide) (by assumption) (by assumption) ?_ | refine x_getI eX8_fewest_112 fk_X8_15 (by decide) (by assumption) ?_
    first | refine x_icmp_geN (tgt := 163) eX8_fewest_115 (by decide) (by with_reducible rfl) (by with_reducible rfl) (by omega) (by omega) (fun cq1 => ?_) (fun cq1 => ?_) | refine x_icmp_ge (tgt := 163) eX8_fewest_115 (by decide) (fun cq1 => ?_) (fun cq1 => ?_)
    · first | refine x_aload_n eX8_fewest_163 rfl rfl ?_ | refine x_aload_nN eX8_fewest_163 rfl rfl ?_
      first | refine x_getR eX8_fewest_164 fk_X8_47 rfl (by assumption) (by assumption) ?_ | refine x_getN eX8_fewest_164 fk_X8_47 rfl (by assumption) (by assumption) ?_
      refine x_callV0 eX8_fewest_167 lk_X8_286 (by assumption) (Nat.le_of_ble_eq_true rfl) (Nat.le_of_ble_eq_true rfl) ?_
      refine Rn.deep (c_X3_neededForAll (d := d) (v := ftL g s w c k (2 ^ c - 1)) P' (show hi (setI h1 F) p 3 = nI (2 ^ c) from V2) hp hM (V3 (2 ^ c - 1) (by omega)).2.2 (fun _ => ?_)) (by omega)
      refine x_iret eX8_fewest_170 rfl ?_
      exact kf
    · omega
  | succ m ih =>
    intro k F hkm V
    obtain ⟨V1, V2, V3⟩ := id V
    obtain ⟨C', S', F'⟩ := S.upd (v := 0) C W V1
    obtain ⟨z1, ⟨z2, z3, z4, z5⟩, P'⟩ := id S'
    have ky := C'.2.1.1.1
    have e1 : hi (setI h1 F) y 1 = nI (nt (g 0)) := by rw [C'.2.2.1.1]; exact W.1.1
    have kpk := P'.1
    have hb : k < nt (g 0) := by omega
    have skip : okB g k w = false → Rn G (d + 4) mX8_fewest 157 [(0, .ref y), (2, .int w), (4, .int (nI k))] [] (setI h1 F) Q := fun e => by
      have iw := ih (k + 1) F (by omega) ⟨V1, V2, fun S hS => by
        have := V3 S hS
        rw [ftL, e]
        exact this⟩
      first | refine x_iincN eX8_fewest_157 rfl (by with_reducible rfl) (by decide) rfl rfl ?_ | refine x_iinc eX8_fewest_157 rfl rfl (by decide) rfl rfl ?_
      refine x_goto (tgt := 109) eX8_fewest_160 (by decide) ?_
      refine Rn.weak (iw) (by repeat' first | exact fun _ h => absurd h List.not_mem_nil | refine List.forall_mem_cons.mpr ⟨rfl, ?_⟩)
    refine x_iload eX8_fewest_109 rfl ?_
    first | refine x_aload_n eX8_fewest_111 rfl rfl ?_ | refine x_aload_nN eX8_fewest_111 rfl rfl ?_
    first | refine x_getIe eX8_fewest_112 fk_X8_15 (by decide) (by assumption) (by assumption) ?_ | refine x_getI eX8_fewest_112 fk_X8_15 (by decide) (by assumption) ?_
    first | refine x_icmp_geN (tgt := 163) eX8_fewest_115 (by decide) (by with_reducible rfl) (by with_reducible rfl) (by omega) (by omega) (fun cq1 => ?_) (fun cq1 => ?_) | refine x_icmp_ge (tgt := 163) eX8_fewest_115 (by decide) (fun cq1 => ?_) (fun cq1 => ?_)
    · omega
    · first | refine x_aload_n eX8_fewest_118 rfl rfl ?_ | refine x_aload_nN eX8_fewest_118 rfl rfl ?_
      refine x_iload eX8_fewest_119 rfl ?_
      refine x_callV1 eX8_fewest_121 lk_X8_76 (by assumption) (Nat.le_of_ble_eq_true rfl) (Nat.le_of_ble_eq_true rfl) ?_
      refine Rn.deep (c_X8_boltNumbered (d := d) C' W (fun z _ => ?_) (fun b' a eb hb' hba B _ => ?_)) (by omega)
      · rw [isB_of W hb] at z
        cases z
      · have ebb : k = b' := (nI_eq (by omega) (by omega)).mp eb
        subst ebb
        obtain ⟨w0, w1, w3⟩ := (I.2.1 k hb).1
        have u1 := w1.2.2
        have u0 := w0.2.2
        have p0 : (0 : Int32) ≤ bl g k 0 := by rw [w0.1]; exact Int32.not_lt.mp (nI_pos (by omega))
        obtain ⟨oa, ka, b0, b1, -⟩ := id B
        obtain ⟨cv, e5, hcv, hbare⟩ := cov_bare I hb B
        have eok : (allN (fun j => decide (wnV (bl g k) (nI j) ≤ w)) (nt (bl g k 1))) = allN (fun j => decide (wornN g k j ≤ w)) (nt (bl g k 1)) := allN_eq (fun j hj => by rw [wn_eq (w3.mono (Nat.le_refl _) u1) (by omega)])
        have na : a ≠ a2 := fun z => by rw [z, z5] at oa; omega
        first | refine x_astore eX8_fewest_124 (by decide) rfl rfl ?_ | refine x_astoreN eX8_fewest_124 (by decide) rfl rfl ?_
        first | refine x_aload eX8_fewest_126 rfl ?_ | refine x_aloadN eX8_fewest_126 rfl ?_
        refine x_ifnullR eX8_fewest_128 ?_
        first | refine x_aload eX8_fewest_131 rfl ?_ | refine x_aloadN eX8_fewest_131 rfl ?_
        first | refine x_getIe eX8_fewest_133 fk_X8_83 (by decide) (by assumption) (by assumption) ?_ | refine x_getI eX8_fewest_133 fk_X8_83 (by decide) (by assumption) ?_
        first | refine x_if_neB (tgt := 157) eX8_fewest_136 (by decide) (by with_reducible rfl) (fun cq2 => ?_) (fun cq2 => ?_) | refine x_if_ne (tgt := 157) eX8_fewest_136 (by decide) (fun cq2 => ?_) (fun cq2 => ?_)
        · have w157 := skip (by
            unfold okB
            cases zz : bareV g (nI k) with
            | false => rfl
            | true => exact absurd (by rw [hbare.mpr zz]; rfl) cq2)
          refine Rn.weak (w157) (by repeat' first | exact fun _ h => absurd h List.not_mem_nil | refine List.forall_mem_cons.mpr ⟨rfl, ?_⟩)
        · have hcv0 : bareV g (nI k) = true := hbare.mp (by
            rcases Nat.eq_zero_or_pos cv with z | z
            · exact z
            · exact absurd cq2 (nI_ne0 z (by omega)))
          first | refine x_aload eX8_fewest_139 rfl ?_ | refine x_aloadN eX8_fewest_139 rfl ?_
          refine x_iload_n eX8_fewest_141 rfl rfl ?_
          refine x_callV1 eX8_fewest_142 lk_X8_279 (by assumption) (Nat.le_of_ble_eq_true rfl) (Nat.le_of_ble_eq_true rfl) ?_
          refine Rn.deep (c_X1_isWornAtMost (d := d) B w1 (w3.mono (Nat.le_refl _) u1) (fun _ => ?_)) (by omega)
          rw [eok]
          first | refine x_if_eqB (tgt := 157) eX8_fewest_145 (by decide) (by with_reducible rfl) (fun cq3 => ?_) (fun cq3 => ?_) | refine x_if_eq (tgt := 157) eX8_fewest_145 (by decide) (fun cq3 => ?_) (fun cq3 => ?_)
          · have w157 := skip (by unfold okB; rw [show allN (fun j => decide (wornN g k j ≤ w)) (nt (bl g k 1)) = false from cq3, Bool.and_false])
            refine Rn.weak (w157) (by repeat' first | exact fun _ h => absurd h List.not_mem_nil | refine List.forall_mem_cons.mpr ⟨rfl, ?_⟩)
          · have eo : okB g k w = true := by unfold okB; rw [show allN (fun j => decide (wornN g k j ≤ w)) (nt (bl g k 1)) = true from cq3, hcv0]; rfl
            first | refine x_aload_n eX8_fewest_148 rfl rfl ?_ | refine x_aload_nN eX8_fewest_148 rfl rfl ?_
            first | refine x_getR eX8_fewest_149 fk_X8_47 rfl (by assumption) (by assumption) ?_ | refine x_getN eX8_fewest_149 fk_X8_47 rfl (by assumption) (by assumption) ?_
            first | refine x_aload eX8_fewest_152 rfl ?_ | refine x_aloadN eX8_fewest_152 rfl ?_
            refine x_callV1 eX8_fewest_154 lk_X8_282 (by assumption) (Nat.le_of_ble_eq_true rfl) (Nat.le_of_ble_eq_true rfl) ?_
            refine Rn.deep (c_X3_offer (d := d) (B := ftL g s w c k) (fit := fun S => decide (hi (setI h1 F) a0 S ≤ bl g k 1) && decide (hi (setI h1 F) a1 S ≤ bl g k 0)) P' (show hi (setI h1 F) p 3 = nI (2 ^ c) from V2) hp hM (ftL_pos g s w c k) ka b0 b1 na (fun S hS => (V3 S hS).2.2) (fun _ _ _ => rfl) (fun N hN _ => ?_)) (by omega)
            have iw := ih (k + 1) (ovF F a2 N) (by omega) ⟨fun r h0 h1 h2 h3 => by
              rw [← V1 r h0 h1 h2 h3]
              funext j
              exact if_neg h2, by
              rw [← V2]
              exact if_neg P'.2.2.2.2.2.2.2.2, fun S hS => by
              obtain ⟨v1, v2, v3⟩ := V3 S hS
              refine ⟨by rw [← v1]; exact if_neg P'.2.2.2.2.2.1.2.1, by rw [← v2]; exact if_neg P'.2.2.2.2.2.1.2.2, ?_⟩
              rw [show ovF F a2 N a2 S = N S from if_pos rfl, hN S hS, ftL, eo, if_pos rfl]
              congr 2
              refine mnS_eq (fun R hR _ => ?_)
              obtain ⟨r1, r2, -⟩ := V3 R hR
              show (decide (F a0 R ≤ _) && decide (F a1 R ≤ _)) = _
              rw [r1, r2]
              unfold fitV
              rw [bd_br p0, Bool.and_comm]⟩
            first | refine x_iincN eX8_fewest_157 rfl (by with_reducible rfl) (by decide) rfl rfl ?_ | refine x_iinc eX8_fewest_157 rfl rfl (by decide) rfl rfl ?_
            refine x_goto (tgt := 109) eX8_fewest_160 (by decide) ?_
            refine Rn.weak (iw) (by repeat' first | exact fun _ h => absurd h List.not_mem_nil | refine List.forall_mem_cons.mpr ⟨rfl, ?_⟩)
set_option maxRecDepth 100000 in
set_option maxHeartbeats 4000000 in
theorem few_pieces {c : Nat} (C : Core o1 h1 y g ld wd) (I : GI g) (S : PkS o1 h1 y p a0 a1 a2) (hs : s < nt (g 1)) (ha : hr h1 (y + 2) s = some a) (hc : cntN (lsP g s) (np g s) = c) (hc8 : c ≤ 8) (hq : ∀ F, pkB g s w c h1 p a0 a1 a2 F (nt (g 0)) → Q (some (.int (if ftL g s w c (nt (g 0)) (2 ^ c - 1) ≤ 24 then nI (ftL g s w c (nt (g 0)) (2 ^ c - 1)) else -1))) (setI h1 F)) : ∀ m k F, k + m = np g s → pkV g s h1 p a0 a1 a2 F (cntN (lsP g s) k) → Rn G (d + 4) mX8_fewest 60 [(0, .ref y), (2, .int w), (3, .ref a), (4, .int (nI k))] [] (setI h1 F) Q := by
  have W := I.gw
  obtain ⟨sw, sx⟩ := I.2.2.1 s hs
  have h40 : np g s ≤ 40 := sw.2.2.2.2.1
  intro m
  induction m with
  | zero =>
    intro k F hkm V
    obtain ⟨V1, V2, V3⟩ := id V
    obtain ⟨C', S', F'⟩ := S.upd (v := 0) C W V1
    have ekm : np g s = k := by omega
    have ky := C'.2.1.1.1
    obtain ⟨a', ha', SP⟩ := C'.2.2.2.2.2.1 s hs
    have ea : a' = a := by
      have : hr h1 (y + 2) s = some a' := ha'
      rw [this] at ha
      cases ha
      rfl
    subst ea
    have ka := SP.1.2.1
    have e6 : hi (setI h1 F) a' 6 = nI k := by rw [SP.2.1.2.2.1, ekm]
    have w109 := few_bolts (G := G) (d := d) (Q := Q) C I S hc8 hq (nt (g 0)) 0 F (Nat.zero_add _) ⟨V1, by rw [V2, ← ekm, hc], fun R hR => by
      rw [← hc, ekm] at hR ⊢
      obtain ⟨v1, v2, v3⟩ := V3 R hR
      refine ⟨v1, v2, ?_⟩
      rw [v3]
      show nI (if R = 0 then 0 else 25) = nI (min (if R = 0 then 0 else 99) 25)
      by_cases z : R = 0
      · rw [if_pos z, if_pos z]; rfl
      · rw [if_neg z, if_neg z]; rfl⟩
    refine x_iload eX8_fewest_60 rfl ?_
    first | refine x_aload_n eX8_fewest_62 rfl rfl ?_ | refine x_aload_nN eX8_fewest_62 rfl rfl ?_
    first | refine x_getIe eX8_fewest_63 fk_X8_179 (by decide) (by assumption) (by assumption) ?_ | refine x_getI eX8_fewest_63 fk_X8_179 (by decide) (by assumption) ?_
    first | refine x_icmp_geN (tgt := 106) eX8_fewest_66 (by decide) (by with_reducible rfl) (by with_reducible rfl) (by omega) (by omega) (fun cq1 => ?_) (fun cq1 => ?_) | refine x_icmp_ge (tgt := 106) eX8_fewest_66 (by decide) (fun cq1 => ?_) (fun cq1 => ?_)
    · refine x_iconst (v := nI 0) eX8_fewest_106 (by decide) ?_
      refine x_istore eX8_fewest_107 (by decide) rfl rfl ?_
      refine Rn.weak (w109) (by repeat' first | exact fun _ h => absurd h List.not_mem_nil | refine List.forall_mem_cons.mpr ⟨rfl, ?_⟩)
    · omega
  | succ m ih =>
    intro k F hkm V
    obtain ⟨V1, V2, V3⟩ := id V
    obtain ⟨C', S', F'⟩ := S.upd (v := 0) C W V1
    obtain ⟨z1, ⟨z2, z3, z4, z5⟩, P'⟩ := id S'
    have ky := C'.2.1.1.1
    have kpk := P'.1
    obtain ⟨a', ha', SP⟩ := C'.2.2.2.2.2.1 s hs
    have ea : a' = a := by
      have : hr h1 (y + 2) s = some a' := ha'
      rw [this] at ha
      cases ha
      rfl
    subst ea
    have ka := SP.1.2.1
    have e6 : hi (setI h1 F) a' 6 = nI (np g s) := SP.2.1.2.2.1
    have h10 := W.2.1.2.2
    refine x_iload eX8_fewest_60 rfl ?_
    first | refine x_aload_n eX8_fewest_62 rfl rfl ?_ | refine x_aload_nN eX8_fewest_62 rfl rfl ?_
    first | refine x_getIe eX8_fewest_63 fk_X8_179 (by decide) (by assumption) (by assumption) ?_ | refine x_getI eX8_fewest_63 fk_X8_179 (by decide) (by assumption) ?_
    first | refine x_icmp_geN (tgt := 106) eX8_fewest_66 (by decide) (by with_reducible rfl) (by with_reducible rfl) (by omega) (by omega) (fun cq1 => ?_) (fun cq1 => ?_) | refine x_icmp_ge (tgt := 106) eX8_fewest_66 (by decide) (fun cq1 => ?_) (fun cq1 => ?_)
    · omega
    · first | refine x_aload_n eX8_fewest_69 rfl rfl ?_ | refine x_aload_nN eX8_fewest_69 rfl rfl ?_
      refine x_iload eX8_fewest_70 rfl ?_
      refine x_callV1 eX8_fewest_72 lk_X8_170 (by assumption) (Nat.le_of_ble_eq_true rfl) (Nat.le_of_ble_eq_true rfl) ?_
      refine Rn.deep (c_X5_pieceNumbered (d := d) ka SP.2.1 h40 (fun z => sx.np0 z) (fun z _ => ?_) (fun i' q ei hi' P _ => ?_)) (by omega)
      · rw [hpV_nI (by omega) (by omega), decide_eq_true (by omega)] at z
        cases z
      · have eii : k = i' := (nI_eq (by omega) (by omega)).mp ei
        subst eii
        obtain ⟨op, kpp, p0, p1, p2, p3, p4, p5, p6, p7, p8⟩ := id P
        first | refine x_astore eX8_fewest_75 (by decide) rfl rfl ?_ | refine x_astoreN eX8_fewest_75 (by decide) rfl rfl ?_
        first | refine x_aload eX8_fewest_77 rfl ?_ | refine x_aloadN eX8_fewest_77 rfl ?_
        refine x_ifnullR eX8_fewest_79 ?_
        first | refine x_aload eX8_fewest_82 rfl ?_ | refine x_aloadN eX8_fewest_82 rfl ?_
        first | refine x_getIe eX8_fewest_84 fk_X8_227 (by decide) (by assumption) (by assumption) ?_ | refine x_getI eX8_fewest_84 fk_X8_227 (by decide) (by assumption) ?_
        refine x_iconst (v := (-1)) eX8_fewest_87 (by decide) ?_
        first | refine x_icmp_neN (tgt := 100) eX8_fewest_88 (by decide) (by with_reducible rfl) (by with_reducible rfl) (by omega) (by omega) (fun cq2 => ?_) (fun cq2 => ?_) | refine x_icmp_ne (tgt := 100) eX8_fewest_88 (by decide) (fun cq2 => ?_) (fun cq2 => ?_)
        · have hls : lsP g s k = false := decide_eq_false cq2
          have iw := ih (k + 1) F (by omega) (by rw [show cntN (lsP g s) (k + 1) = cntN (lsP g s) k by rw [cntN, hls]; rfl]; exact V)
          first | refine x_iincN eX8_fewest_100 rfl (by with_reducible rfl) (by decide) rfl rfl ?_ | refine x_iinc eX8_fewest_100 rfl rfl (by decide) rfl rfl ?_
          refine x_goto (tgt := 60) eX8_fewest_103 (by decide) ?_
          refine Rn.weak (iw) (by repeat' first | exact fun _ h => absurd h List.not_mem_nil | refine List.forall_mem_cons.mpr ⟨rfl, ?_⟩)
        · have hls : lsP g s k = true := decide_eq_true cq2
          have e1 : cntN (lsP g s) (k + 1) = cntN (lsP g s) k + 1 := by rw [cntN, hls]; rfl
          have hlt := cntN_up hls (n := np g s) (by omega)
          have hM : 2 ^ cntN (lsP g s) k ≤ 128 := Nat.pow_le_pow_right (n := 2) (j := 7) (by decide) (by omega)
          first | refine x_aload_n eX8_fewest_91 rfl rfl ?_ | refine x_aload_nN eX8_fewest_91 rfl rfl ?_
          first | refine x_getR eX8_fewest_92 fk_X8_47 rfl (by assumption) (by assumption) ?_ | refine x_getN eX8_fewest_92 fk_X8_47 rfl (by assumption) (by assumption) ?_
          first | refine x_aload eX8_fewest_95 rfl ?_ | refine x_aloadN eX8_fewest_95 rfl ?_
          refine x_callV1 eX8_fewest_97 lk_X8_275 (by assumption) (Nat.le_of_ble_eq_true rfl) (Nat.le_of_ble_eq_true rfl) ?_
          refine Rn.deep (c_X3_addPiece (d := d) P' (show hi (setI h1 F) p 3 = nI (2 ^ cntN (lsP g s) k) from V2) (Nat.two_pow_pos _) hM kpp p3 p4 (fun z => by rw [z, z3] at op; omega) (fun z => by rw [z, z4] at op; omega) (fun z => by rw [z, z5] at op; omega) (fun F2 A _ => ?_)) (by omega)
          have iw := ih (k + 1) (up2 F2 p 3 (nI (2 * 2 ^ cntN (lsP g s) k))) (by omega) (by rw [e1]; exact V.add P' (loV_eq (by omega) hls) A)
          first | refine x_iincN eX8_fewest_100 rfl (by with_reducible rfl) (by decide) rfl rfl ?_ | refine x_iinc eX8_fewest_100 rfl rfl (by decide) rfl rfl ?_
          refine x_goto (tgt := 60) eX8_fewest_103 (by decide) ?_
          refine Rn.weak (iw) (by repeat' first | exact fun _ h => absurd h List.not_mem_nil | refine List.forall_mem_cons.mpr ⟨rfl, ?_⟩)
end FEW9

