/-! ===== undo ===== -/
section UNDO7
variable {G : GG} {d : Nat} {h h2 : AH} {Q : Option Value → AH → Prop} {ow o2 : Nat → Nat} {y kp nx : Nat} {g gp ld wd : Nat → Int32} {ps : Nat → Nat → Int32}
set_option maxRecDepth 100000 in
set_option maxHeartbeats 4000000 in
theorem Core.root {v6 v7 : Int32} (C : Core ow h y g ld wd) (W : GW g) : Core ow (wi (wi h y 7 v7) y 6 v6) y g ld wd ∧ Fr (fun t => t = 1) ow h ow (wi (wi h y 7 v7) y 6 v6) := by
  obtain ⟨C1, C2, C3, C4, C5, C6, -⟩ := id C
  have o1 := C2.1.2.2.2.2.2
  have h24 := W.1.2.2
  have h10 := W.2.1.2.2
  have F : Fr (fun t => t = 1) ow h ow (wi (wi h y 7 v7) y 6 v6) := Fr.tr (Fr.wi o1) (Fr.wi o1)
  have iy : hi (wi (wi h y 7 v7) y 6 v6) y = upd0 (upd0 (hi h y) 7 v7) 6 v6 := by
    show up2 (up2 (hi h) y 7 _) y 6 _ y = _
    rw [up2_at, up2_at]
  refine ⟨C.up F ⟨Nat.le_refl _, fun _ _ => rfl⟩ C1 To.rf (fun _ => rfl) (fun t h1 h2 h3 z => by omega) (by rw [iy, upd0_ne (by decide), upd0_ne (by decide)]; exact C3.1) (by rw [iy, upd0_ne (by decide), upd0_ne (by decide)]; exact C3.2) (fun i hi => (C4 i hi).fr F (by omega) (by omega) rfl) (fun i hi => ?_) (fun t ht => ?_), F⟩
  · exact (C5 i hi).fr F (by omega) (by omega) (by omega) (W.2.2.1 i hi) rfl (fun c hc => rfl) (fun k hk => rfl)
  · exact (C6 t ht).fr F (fun u hu z => by unfold sT at hu; omega) (W.2.2.2 t ht) rfl (fun c hc => rfl)
set_option maxRecDepth 100000 in
set_option maxHeartbeats 4000000 in
theorem c_X8_undo (C : Core ow h y g ld wd) (K : Acts ow h y g kp nx ps) (Ig : GI g) (Ip : ∀ j, j < kp → GI (ps j)) (hq0 : kp = 0 → Q (some (.int 0)) h) (hq1 : 0 < kp → ∀ h2, Ps G y ow h (ps 0) ld wd (kp - 1) ((nx + 15) % 16) (fun j => ps (j + 1)) h2 → Q (some (.int 1)) h2) : Rn G (d + 6) mX8_undo 0 [(0, .ref y)] [] h Q := by
  obtain ⟨⟨s1, s2, s3, s4, s5, s6⟩, -, -, -, -, -, -, ⟨t1, t2, t3⟩⟩ := id C.2.1
  obtain ⟨k6, k7, hnx, hkp, kk⟩ := id K
  obtain ⟨n1, hn1⟩ : ∃ n1, n1 = (nx + 15) % 16 := ⟨_, rfl⟩
  rcases Nat.eq_zero_or_pos kp with k0 | k0
  · skip
    first | refine x_aload_n eX8_undo_0 rfl rfl ?_ | refine x_aload_nN eX8_undo_0 rfl rfl ?_
    first | refine x_getIe eX8_undo_1 fk_X8_44 (by decide) (by assumption) (by assumption) ?_ | refine x_getI eX8_undo_1 fk_X8_44 (by decide) (by assumption) ?_
    refine x_if_gt (tgt := 9) eX8_undo_4 (by decide) (fun cq1 => ?_) (fun cq1 => ?_)
    · rw [k0] at cq1
      exact absurd cq1 (by decide)
    · refine x_iconst (v := nI 0) eX8_undo_7 (by decide) ?_
      refine x_zret eX8_undo_8 rfl (by first | exact Or.inl rfl | exact Or.inr rfl | exact bI_or _ | assumption) ?_
      exact hq0 k0
  · skip
    obtain ⟨q, hq, L⟩ := kk 0 k0
    rw [if_pos rfl, show (nx + 15 - 0) % 16 = n1 by omega] at L
    rw [show (nx + 15 - 0) % 16 = n1 by omega] at hq
    obtain ⟨C2, F⟩ := C.root (v6 := nI n1) (v7 := nI (kp - 1)) Ig.gw
    have i6 : hi (wi h y 7 (nI (kp - 1))) y 6 = nI nx := by
      show up2 (hi h) y 7 _ y 6 = _
      rw [up2_k (by decide)]
      exact k6
    have e6 : hi (wi (wi h y 7 (nI (kp - 1))) y 6 (nI n1)) y 6 = nI n1 := up2_same ..
    have e7 : hi (wi (wi h y 7 (nI (kp - 1))) y 6 (nI n1)) y 7 = nI (kp - 1) := by
      show up2 (up2 (hi h) y 7 _) y 6 _ y 7 = _
      rw [up2_k (by decide), up2_same]
    have ky' : hk (wi h y 7 (nI (kp - 1))) y = 7 := s1
    have ky2 : hk (wi (wi h y 7 (nI (kp - 1))) y 6 (nI n1)) y = 7 := s1
    have t1' : hk (wi (wi h y 7 (nI (kp - 1))) y 6 (nI n1)) (y + 7) = 30 := t1
    have t2' : hn (wi (wi h y 7 (nI (kp - 1))) y 6 (nI n1)) (y + 7) = 16 := t2
    have s5' : hr (wi (wi h y 7 (nI (kp - 1))) y 6 (nI n1)) y 5 = some (y + 7) := s5
    have hq' : hr (wi (wi h y 7 (nI (kp - 1))) y 6 (nI n1)) (y + 7) n1 = some q := hq
    have hn16 : n1 < 16 := by omega
    have tl : Rn G (d + 6) mX8_undo 38 [(0, .ref y)] [.int (nI n1), .ref y] (wi h y 7 (nI (kp - 1))) Q := by
      refine x_putI eX8_undo_38 fk_X8_41 (by decide) rfl ⟨_, rfl, Or.inl rfl⟩ (by assumption) ?_
      first | refine x_aload_n eX8_undo_41 rfl rfl ?_ | refine x_aload_nN eX8_undo_41 rfl rfl ?_
      first | refine x_getIe eX8_undo_42 fk_X8_41 (by decide) (by assumption) (by assumption) ?_ | refine x_getI eX8_undo_42 fk_X8_41 (by decide) (by assumption) ?_
      first | refine x_aload_n eX8_undo_45 rfl rfl ?_ | refine x_aload_nN eX8_undo_45 rfl rfl ?_
      first | refine x_getR eX8_undo_46 fk_X8_37 rfl (by assumption) (by assumption) ?_ | refine x_getN eX8_undo_46 fk_X8_37 rfl (by assumption) (by assumption) ?_
      first | refine x_alenN eX8_undo_49 (by assumption) (by decide) (by assumption) ?_ | refine x_slenN eX8_undo_49 (by assumption) (by assumption) ?_ | refine x_alen eX8_undo_49 (by assumption) (by decide) ?_
      first | refine x_icmp_geN (tgt := 65) eX8_undo_50 (by decide) (by with_reducible rfl) (by with_reducible rfl) (by omega) (by omega) (fun cq1 => ?_) (fun cq1 => ?_) | refine x_icmp_ge (tgt := 65) eX8_undo_50 (by decide) (fun cq1 => ?_) (fun cq1 => ?_)
      · exact absurd cq1 (by omega)
      · first | refine x_aload_n eX8_undo_53 rfl rfl ?_ | refine x_aload_nN eX8_undo_53 rfl rfl ?_
        first | refine x_getR eX8_undo_54 fk_X8_37 rfl (by assumption) (by assumption) ?_ | refine x_getN eX8_undo_54 fk_X8_37 rfl (by assumption) (by assumption) ?_
        first | refine x_aload_n eX8_undo_57 rfl rfl ?_ | refine x_aload_nN eX8_undo_57 rfl rfl ?_
        first | refine x_getIe eX8_undo_58 fk_X8_41 (by decide) (by assumption) (by assumption) ?_ | refine x_getI eX8_undo_58 fk_X8_41 (by decide) (by assumption) ?_
        first | refine x_aaldRN eX8_undo_61 (by with_reducible rfl) (by assumption) (by decide) (by assumption) (by omega) (by omega) (by assumption) ?_ | refine x_aaldNN eX8_undo_61 (by with_reducible rfl) (by assumption) (by decide) (by assumption) (by omega) (by omega) (by assumption) ?_ | refine x_aaldR eX8_undo_61 (by assumption) (by decide) (by assumption) (by assumption) ?_ | refine x_aaldN eX8_undo_61 (by assumption) (by decide) (by assumption) (by assumption) ?_
        refine x_goto (tgt := 66) eX8_undo_62 (by decide) ?_
        first | refine x_astore_n eX8_undo_66 rfl (by decide) rfl rfl ?_ | refine x_astore_nN eX8_undo_66 rfl (by decide) rfl rfl ?_
        first | refine x_aload_n eX8_undo_67 rfl rfl ?_ | refine x_aload_nN eX8_undo_67 rfl rfl ?_
        refine x_ifnonnullR (tgt := 73) eX8_undo_68 (by decide) ?_
        first | refine x_aload_n eX8_undo_73 rfl rfl ?_ | refine x_aload_nN eX8_undo_73 rfl rfl ?_
        first | refine x_aload_n eX8_undo_74 rfl rfl ?_ | refine x_aload_nN eX8_undo_74 rfl rfl ?_
        refine x_callV1 eX8_undo_75 lk_X8_319 (by assumption) (Nat.le_of_ble_eq_true rfl) (Nat.le_of_ble_eq_true rfl) ?_
        refine Rn.deep (c_X8_reverse (d := d) C2 Ig (Ip 0 k0) (L.fr F (fun u hu z => by unfold aT at hu; omega)) (by omega) (fun h2 R _ => ?_)) (by omega)
        refine x_iconst (v := nI 1) eX8_undo_78 (by decide) ?_
        refine x_zret eX8_undo_79 rfl (by first | exact Or.inl rfl | exact Or.inr rfl | exact bI_or _ | assumption) ?_
        obtain ⟨o2, R1, R2, ⟨R3, R4⟩, R5, R6, R7⟩ := R
        refine hq1 k0 h2 ⟨o2, R1, ⟨by rw [R3, e6, hn1], by rw [R4, e7], by omega, by omega, fun j hj => ?_⟩, ?_, by rw [R6]; exact Nat.le_add_right _ _, by rw [R7]; exact Nat.le_add_right _ _⟩
        · obtain ⟨b, b1, b2⟩ := kk (j + 1) (by omega)
          rw [show (nx + 15 - (j + 1)) % 16 = ((nx + 15) % 16 + 15 - j) % 16 by omega] at b1 b2
          refine ⟨b, by rw [R5]; exact b1, ?_⟩
          rw [if_neg (by omega), show j + 1 - 1 = j by omega] at b2
          have e : (if j = 0 then ps 0 else ps (j - 1 + 1)) = ps j := by
            by_cases z : j = 0
            · rw [if_pos z, z]
            · rw [if_neg z, show j - 1 + 1 = j by omega]
          rw [e]
          exact (b2.fr F (fun u hu z => by unfold aT at hu; omega)).fr R2 (fun u hu z => by
            unfold aT at hu
            rcases z with z | z
            · omega
            · unfold aT at z
              omega)
        · exact (F.mono (T2 := fun t => t ≠ 13) (fun t ht => by omega) |>.tr (R2.mono (fun t ht => by
            rcases ht with z | z
            · exact z.2.1
            · unfold aT at z
              omega))).zk (fun z => z rfl)
    first | refine x_aload_n eX8_undo_0 rfl rfl ?_ | refine x_aload_nN eX8_undo_0 rfl rfl ?_
    first | refine x_getIe eX8_undo_1 fk_X8_44 (by decide) (by assumption) (by assumption) ?_ | refine x_getI eX8_undo_1 fk_X8_44 (by decide) (by assumption) ?_
    refine x_if_gt (tgt := 9) eX8_undo_4 (by decide) (fun cq1 => ?_) (fun cq1 => ?_)
    · first | refine x_aload_n eX8_undo_9 rfl rfl ?_ | refine x_aload_nN eX8_undo_9 rfl rfl ?_
      refine x_dup eX8_undo_10 rfl ?_
      first | refine x_getIe eX8_undo_11 fk_X8_44 (by decide) (by assumption) (by assumption) ?_ | refine x_getI eX8_undo_11 fk_X8_44 (by decide) (by assumption) ?_
      refine x_iconst (v := nI 1) eX8_undo_14 (by decide) ?_
      first | refine x_isubN eX8_undo_15 (by with_reducible rfl) (by with_reducible rfl) (by omega) ?_ | refine x_isub eX8_undo_15 ?_
      refine x_putI eX8_undo_16 fk_X8_44 (by decide) rfl ⟨_, rfl, Or.inl rfl⟩ (by assumption) ?_
      first | refine x_aload_n eX8_undo_19 rfl rfl ?_ | refine x_aload_nN eX8_undo_19 rfl rfl ?_
      first | refine x_aload_n eX8_undo_20 rfl rfl ?_ | refine x_aload_nN eX8_undo_20 rfl rfl ?_
      first | refine x_getIe eX8_undo_21 fk_X8_41 (by decide) (by assumption) (by assumption) ?_ | refine x_getI eX8_undo_21 fk_X8_41 (by decide) (by assumption) ?_
      refine x_if_le (tgt := 36) eX8_undo_24 (by decide) (fun cq2 => ?_) (fun cq2 => ?_)
      · have z : nx = 0 := by
          rcases Nat.eq_zero_or_pos nx with z | z
          · exact z
          · exact absurd cq2 (Int32.not_le.mpr (show nI 0 < nI nx from nI_lt z (by omega)))
        rw [show n1 = 15 by omega] at tl
        refine x_bipush (v := nI 15) eX8_undo_36 (by decide) ?_
        exact tl
      · have z : 0 < nx := by
          rcases Nat.eq_zero_or_pos nx with z | z
          · rw [z] at cq2
            exact absurd (show nI 0 ≤ 0 by decide) cq2
          · exact z
        rw [show n1 = nx - 1 by omega] at tl
        first | refine x_aload_n eX8_undo_27 rfl rfl ?_ | refine x_aload_nN eX8_undo_27 rfl rfl ?_
        first | refine x_getIe eX8_undo_28 fk_X8_41 (by decide) (by assumption) (by assumption) ?_ | refine x_getI eX8_undo_28 fk_X8_41 (by decide) (by assumption) ?_
        refine x_iconst (v := nI 1) eX8_undo_31 (by decide) ?_
        first | refine x_isubN eX8_undo_32 (by with_reducible rfl) (by with_reducible rfl) (by omega) ?_ | refine x_isub eX8_undo_32 ?_
        refine x_goto (tgt := 38) eX8_undo_33 (by decide) ?_
        exact tl
    · exact absurd (show nI 0 < nI kp from nI_lt k0 (by omega)) cq1
end UNDO7

