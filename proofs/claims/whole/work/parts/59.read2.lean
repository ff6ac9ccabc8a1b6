/-! ===== the class: told, panel, count; the mast and the wind are told; an act is remembered ===== -/
/-- cells of the reference stay -/
def Zk (ow : Nat → Nat) (h : AH) (o2 : Nat → Nat) (h2 : AH) : Prop := ∀ a, ow a = 13 → o2 a = 13 ∧ hm h2 a = hm h a ∧ hi h2 a = hi h a ∧ hr h2 a = hr h a
set_option maxRecDepth 100000 in
set_option maxHeartbeats 4000000 in
theorem Fr.zk {T : Nat → Prop} {ow o2 : Nat → Nat} {h h2 : AH} (F : Fr T ow h o2 h2) (hT : ¬ T 13) : Zk ow h o2 h2 := fun a ha => by
  obtain ⟨b1, b2, b3, b4, -⟩ := F a (by rw [ha]; decide) (by rw [ha]; exact hT)
  exact ⟨b1.trans ha, b2, b3, b4⟩
/-- how a call leaves the class -/
def Ps (G : GG) (y : Nat) (ow : Nat → Nat) (h : AH) (g2 ld2 wd2 : Nat → Int32) (kp2 nx2 : Nat) (ps2 : Nat → Nat → Int32) (h2 : AH) : Prop := ∃ o2, Core o2 h2 y g2 ld2 wd2 ∧ Acts o2 h2 y g2 kp2 nx2 ps2 ∧ Zk ow h o2 h2 ∧ hz h2 ≤ hz h + 100 ∧ us G h2 ≤ us G h + 6000
def kpS (kp : Nat) : Nat := if kp + 1 < 16 then kp + 1 else 16
def rmH (h : AH) (y nx kp a : Nat) : AH := wi (wi (wq h (y + 7) nx (some a)) y 6 (nI ((nx + 1) % 16))) y 7 (nI (kpS kp))
/-- an act made and remembered -/
def mkA (h : AH) (k o i b : Int32) : AH := acI (nw h 0 8) (hz h) k o i b
def raH (h : AH) (y nx kp : Nat) (k o i b : Int32) : AH := rmH (mkA h k o i b) y nx kp (hz h)
set_option maxRecDepth 100000 in
set_option maxHeartbeats 4000000 in
theorem mkA_v (h : AH) (k o i b : Int32) : hi (mkA h k o i b) (hz h) 0 = k ∧ hi (mkA h k o i b) (hz h) 1 = o ∧ hi (mkA h k o i b) (hz h) 2 = i ∧ hi (mkA h k o i b) (hz h) 3 = b ∧ hi (mkA h k o i b) (hz h) 4 = 0 := by
  simp only [mkA, acI]
  refine ⟨?_, ?_, ?_, ?_, ?_⟩ <;> (show up2 (up2 (up2 (up2 (up2 _ _ 4 0) _ 0 k) _ 1 o) _ 2 i) _ 3 b _ _ = _) <;> simp [up2]
set_option maxRecDepth 100000 in
set_option maxHeartbeats 4000000 in
theorem mkA_ne {h : AH} {k o i b : Int32} {q : Nat} (hq : q ≠ hz h) : hm (mkA h k o i b) q = hm h q ∧ hi (mkA h k o i b) q = hi h q ∧ hr (mkA h k o i b) q = hr h q ∧ hl (mkA h k o i b) q = hl h q ∧ hf (mkA h k o i b) q = hf h q := by
  obtain ⟨n1, n2, n3, n4, n5⟩ := nw_ne (h := h) (kd := 0) (n := 8) hq
  refine ⟨n1, ?_, ?_, n4, n5⟩
  · show up2 (up2 (up2 (up2 (up2 (hi (nw h 0 8)) _ 4 0) _ 0 k) _ 1 o) _ 2 i) _ 3 b q = _
    rw [up2_a hq, up2_a hq, up2_a hq, up2_a hq, up2_a hq]
    exact n2
  · show up2 (up2 (up2 (hr (nw h 0 8)) _ 5 none) _ 6 none) _ 7 none q = _
    rw [up2_a hq, up2_a hq, up2_a hq]
    exact n3
set_option maxRecDepth 100000 in
set_option maxHeartbeats 4000000 in
theorem mkA_fr {T : Nat → Prop} {ow : Nat → Nat} {h : AH} {t : Nat} {k o i b : Int32} (L : Lv ow h) : Fr T ow h (upd0 ow (hz h) t) (mkA h k o i b) := fun q hq _ => by
  have hne : q ≠ hz h := Nat.ne_of_lt (L q hq).1
  exact ⟨upd0_ne hne, mkA_ne hne⟩
set_option maxRecDepth 100000 in
set_option maxHeartbeats 4000000 in
theorem mkA_lv {ow : Nat → Nat} {h : AH} {t : Nat} {k o i b : Int32} (L : Lv ow h) : Lv (upd0 ow (hz h) t) (mkA h k o i b) := Lv.nw (kd := 0) (n := 8) L (fun z => by cases z)
set_option maxRecDepth 100000 in
set_option maxHeartbeats 4000000 in
theorem mkA_us {G : GG} {h : AH} {k o i b : Int32} (hB : gB G ≤ hz h) : us G (mkA h k o i b) = us G h + 8 := us_nw (kd := 0) (n := 8) hB
set_option maxRecDepth 100000 in
set_option maxHeartbeats 4000000 in
theorem mkA_x (h : AH) (k o i b : Int32) : Ext h (mkA h k o i b) := Ext.nw h 0 8
section RM
variable {h : AH} {y nx kp a q : Nat}
set_option maxRecDepth 100000 in
set_option maxHeartbeats 4000000 in
theorem rmH_i (hq : q ≠ y) : hi (rmH h y nx kp a) q = hi h q := by
  show up2 (up2 (hi h) y 6 _) y 7 _ q = _
  rw [up2_a hq, up2_a hq]
set_option maxRecDepth 100000 in
set_option maxHeartbeats 4000000 in
theorem rmH_y {k : Nat} (h6 : k ≠ 6) (h7 : k ≠ 7) : hi (rmH h y nx kp a) y k = hi h y k := by
  show up2 (up2 (hi h) y 6 _) y 7 _ y k = _
  rw [up2_k h7, up2_k h6]
set_option maxRecDepth 100000 in
set_option maxHeartbeats 4000000 in
theorem rmH_6 : hi (rmH h y nx kp a) y 6 = nI ((nx + 1) % 16) := by
  show up2 (up2 (hi h) y 6 _) y 7 _ y 6 = _
  rw [up2_k (by decide), up2_same]
set_option maxRecDepth 100000 in
set_option maxHeartbeats 4000000 in
theorem rmH_7 : hi (rmH h y nx kp a) y 7 = nI (kpS kp) := by
  show up2 (up2 (hi h) y 6 _) y 7 _ y 7 = _
  rw [up2_same]
set_option maxRecDepth 100000 in
set_option maxHeartbeats 4000000 in
theorem rmH_r (hq : q ≠ y + 7) : hr (rmH h y nx kp a) q = hr h q := by
  show up2 (hr h) (y + 7) nx _ q = _
  rw [up2_a hq]
set_option maxRecDepth 100000 in
set_option maxHeartbeats 4000000 in
theorem rmH_a : hr (rmH h y nx kp a) (y + 7) = upd0 (hr h (y + 7)) nx (some a) := by
  show up2 (hr h) (y + 7) nx _ (y + 7) = _
  rw [up2_at]
set_option maxRecDepth 100000 in
set_option maxHeartbeats 4000000 in
theorem rmH_fr {ow : Nat → Nat} {n : Nat} {X : Nat → Prop} (o1 : ow y = 1) (o4 : ow (y + 7) = 4) : Fr (oT n X) ow h ow (rmH h y nx kp a) := by
  refine Fr.tr (Fr.wq (by rw [o4]; exact Or.inr (Or.inl rfl))) (Fr.tr (Fr.wi (by rw [o1]; exact Or.inl rfl)) (Fr.wi (by rw [o1]; exact Or.inl rfl)))
end RM
section READ2
variable {G : GG} {d : Nat} {h : AH} {Q : Option Value → AH → Prop} {ow : Nat → Nat} {y : Nat} {g ld wd : Nat → Int32} {kp nx : Nat} {ps : Nat → Nat → Int32}
set_option maxRecDepth 100000 in
set_option maxHeartbeats 4000000 in
theorem c_X8_remember {a : Nat} (ky : hk h y = 7) (h5 : hr h y 5 = some (y + 7)) (k7 : hk h (y + 7) = 30) (n7 : hn h (y + 7) = 16) (e6 : hi h y 6 = nI nx) (e7 : hi h y 7 = nI kp) (hnx : nx < 16) (hkp : kp ≤ 16) (ka : hk h a = 0) (hq : Q none (rmH h y nx kp a)) : Rn G (d + 1) mX8_remember 0 [(0, .ref y), (1, .ref a)] [] h Q := by
  have e6a : hi (wq h (y + 7) nx (some a)) y 6 = nI nx := e6
  have e7a : hi (wi (wq h (y + 7) nx (some a)) y 6 (nI ((nx + 1) % 16))) y 7 = nI kp := by
    show up2 (hi h) y 6 _ y 7 = _
    rw [up2_k (by decide)]
    exact e7
  have em : (if nI 16 < nI (kp + 1) then nI 16 else nI (kp + 1)) = nI (kpS kp) := by
    unfold kpS
    by_cases z : kp + 1 < 16
    · rw [if_neg (nI_nlt (by omega) (by omega)), if_pos z]
    · rw [if_neg z]
      by_cases z2 : 16 < kp + 1
      · rw [if_pos (nI_lt z2 (by omega))]
      · rw [if_neg (nI_nlt (by omega) (by omega)), show kp + 1 = 16 by omega]
  first | refine x_aload_n eX8_remember_0 rfl rfl ?_ | refine x_aload_nN eX8_remember_0 rfl rfl ?_
  first | refine x_getIe eX8_remember_1 fk_X8_41 (by decide) (by assumption) (by assumption) ?_ | refine x_getI eX8_remember_1 fk_X8_41 (by decide) (by assumption) ?_
  refine x_iconst (v := nI 0) eX8_remember_4 (by decide) ?_
  first | refine x_aload_n eX8_remember_5 rfl rfl ?_ | refine x_aload_nN eX8_remember_5 rfl rfl ?_
  first | refine x_getR eX8_remember_6 fk_X8_37 rfl (by assumption) (by assumption) ?_ | refine x_getN eX8_remember_6 fk_X8_37 rfl (by assumption) (by assumption) ?_
  first | refine x_alenN eX8_remember_9 (by assumption) (by decide) (by assumption) ?_ | refine x_slenN eX8_remember_9 (by assumption) (by assumption) ?_ | refine x_alen eX8_remember_9 (by assumption) (by decide) ?_
  refine x_iconst (v := nI 1) eX8_remember_10 (by decide) ?_
  first | refine x_isubN eX8_remember_11 (by with_reducible rfl) (by with_reducible rfl) (by omega) ?_ | refine x_isub eX8_remember_11 ?_
  refine x_callS3 eX8_remember_12 lk_X8_51 (Nat.le_of_ble_eq_true rfl) (Nat.le_of_ble_eq_true rfl) ?_
  refine c_X8_isWithin (fun _ => ?_)
  have ein : inR (nI nx) (nI 0) (nI (16 - 1)) = true := inR_nI (Nat.zero_le _) (by omega) (by omega)
  first | refine x_if_eqB (tgt := 28) eX8_remember_15 (by decide) (by with_reducible rfl) (fun cq1 => ?_) (fun cq1 => ?_) | refine x_if_eq (tgt := 28) eX8_remember_15 (by decide) (fun cq1 => ?_) (fun cq1 => ?_)
  · exact absurd (ein.symm.trans cq1) (by decide)
  · first | refine x_aload_n eX8_remember_18 rfl rfl ?_ | refine x_aload_nN eX8_remember_18 rfl rfl ?_
    first | refine x_getR eX8_remember_19 fk_X8_37 rfl (by assumption) (by assumption) ?_ | refine x_getN eX8_remember_19 fk_X8_37 rfl (by assumption) (by assumption) ?_
    first | refine x_aload_n eX8_remember_22 rfl rfl ?_ | refine x_aload_nN eX8_remember_22 rfl rfl ?_
    first | refine x_getIe eX8_remember_23 fk_X8_41 (by decide) (by assumption) (by assumption) ?_ | refine x_getI eX8_remember_23 fk_X8_41 (by decide) (by assumption) ?_
    first | refine x_aload_n eX8_remember_26 rfl rfl ?_ | refine x_aload_nN eX8_remember_26 rfl rfl ?_
    first | refine x_aastRN eX8_remember_27 (by with_reducible rfl) (by assumption) (by decide) rfl rfl (by assumption) (by assumption) (by omega) (by omega) ?_ | refine x_aastNN eX8_remember_27 (by with_reducible rfl) (by assumption) (by decide) (by assumption) (by omega) (by omega) ?_
    first | refine x_aload_n eX8_remember_28 rfl rfl ?_ | refine x_aload_nN eX8_remember_28 rfl rfl ?_
    first | refine x_aload_n eX8_remember_29 rfl rfl ?_ | refine x_aload_nN eX8_remember_29 rfl rfl ?_
    first | refine x_getIe eX8_remember_30 fk_X8_41 (by decide) (by assumption) (by assumption) ?_ | refine x_getI eX8_remember_30 fk_X8_41 (by decide) (by assumption) ?_
    refine x_iconst (v := nI 1) eX8_remember_33 (by decide) ?_
    first | refine x_iaddN eX8_remember_34 (by with_reducible rfl) (by with_reducible rfl) ?_ | refine x_iadd eX8_remember_34 ?_
    refine x_bipush (v := nI 16) eX8_remember_35 (by decide) ?_
    first | refine x_iremN eX8_remember_37 (by with_reducible rfl) (by with_reducible rfl) (by omega) (by omega) (by omega) ?_ | refine x_irem eX8_remember_37 (by first | assumption | decide) ?_
    refine x_putI eX8_remember_38 fk_X8_41 (by decide) rfl ⟨_, rfl, Or.inl rfl⟩ (by assumption) ?_
    first | refine x_aload_n eX8_remember_41 rfl rfl ?_ | refine x_aload_nN eX8_remember_41 rfl rfl ?_
    first | refine x_aload_n eX8_remember_42 rfl rfl ?_ | refine x_aload_nN eX8_remember_42 rfl rfl ?_
    first | refine x_getIe eX8_remember_43 fk_X8_44 (by decide) (by assumption) (by assumption) ?_ | refine x_getI eX8_remember_43 fk_X8_44 (by decide) (by assumption) ?_
    refine x_iconst (v := nI 1) eX8_remember_46 (by decide) ?_
    first | refine x_iaddN eX8_remember_47 (by with_reducible rfl) (by with_reducible rfl) ?_ | refine x_iadd eX8_remember_47 ?_
    refine x_bipush (v := nI 16) eX8_remember_48 (by decide) ?_
    refine x_min eX8_remember_50 lk_X8_322 (Nat.le_of_ble_eq_true rfl) ?_
    rw [em]
    refine x_putI eX8_remember_53 fk_X8_44 (by decide) rfl ⟨_, rfl, Or.inl rfl⟩ (by assumption) ?_
    refine x_ret (rt := none) eX8_remember_56 rfl ?_
    exact hq
set_option maxRecDepth 100000 in
set_option maxHeartbeats 4000000 in
theorem c_X8_count {w : Int32} (C : Core ow h y g ld wd) (K : Acts ow h y g kp nx ps) (hq : Q (some (.int (if w = 0 then g 0 else if w = 1 then g 1 else if w = 2 then nI kp else -1))) h) : Rn G d mX8_count 0 [(0, .ref y), (1, .int w)] [] h Q := by
  have ky := C.2.1.1.1
  obtain ⟨e1, e3⟩ := C.2.2.1
  have e7 := K.2.1
  by_cases hin : inR w 0 2 = true
  · obtain ⟨m, -, hm, rfl⟩ := inR_N (lo := 0) (hi := 2) hin rfl (by omega) (by omega)
    have hm9 : m = 0 ∨ m = 1 ∨ m = 2 := by omega
    rcases hm9 with rfl | rfl | rfl
    · skip
      refine x_iload_n eX8_count_0 rfl rfl ?_
      refine x_tabIn (off := 27) (tgt := 28) eX8_count_1 (by decide) (by decide) (by decide) (by decide) ?_
      first | refine x_aload_n eX8_count_28 rfl rfl ?_ | refine x_aload_nN eX8_count_28 rfl rfl ?_
      first | refine x_getIe eX8_count_29 fk_X8_15 (by decide) (by assumption) (by assumption) ?_ | refine x_getI eX8_count_29 fk_X8_15 (by decide) (by assumption) ?_
      refine x_iret eX8_count_32 rfl ?_
      exact hq
    · skip
      refine x_iload_n eX8_count_0 rfl rfl ?_
      refine x_tabIn (off := 32) (tgt := 33) eX8_count_1 (by decide) (by decide) (by decide) (by decide) ?_
      first | refine x_aload_n eX8_count_33 rfl rfl ?_ | refine x_aload_nN eX8_count_33 rfl rfl ?_
      first | refine x_getIe eX8_count_34 fk_X8_25 (by decide) (by assumption) (by assumption) ?_ | refine x_getI eX8_count_34 fk_X8_25 (by decide) (by assumption) ?_
      refine x_iret eX8_count_37 rfl ?_
      exact hq
    · skip
      refine x_iload_n eX8_count_0 rfl rfl ?_
      refine x_tabIn (off := 37) (tgt := 38) eX8_count_1 (by decide) (by decide) (by decide) (by decide) ?_
      first | refine x_aload_n eX8_count_38 rfl rfl ?_ | refine x_aload_nN eX8_count_38 rfl rfl ?_
      first | refine x_getIe eX8_count_39 fk_X8_44 (by decide) (by assumption) (by assumption) ?_ | refine x_getI eX8_count_39 fk_X8_44 (by decide) (by assumption) ?_
      refine x_iret eX8_count_42 rfl ?_
      exact hq
  · have hout := inR_out (n := 2) (by omega) (Bool.eq_false_iff.mpr hin)
    have z0 : ¬ w = 0 := fun z => by rw [z] at hin; exact hin (by decide)
    have z1 : ¬ w = 1 := fun z => by rw [z] at hin; exact hin (by decide)
    have z2 : ¬ w = 2 := fun z => by rw [z] at hin; exact hin (by decide)
    rw [if_neg z0, if_neg z1, if_neg z2] at hq
    refine x_iload_n eX8_count_0 rfl rfl ?_
    refine x_tabOut (tgt := 43) eX8_count_1 (by first | assumption | omega) (by decide) ?_
    refine x_iconst (v := (-1)) eX8_count_43 (by decide) ?_
    refine x_iret eX8_count_44 rfl ?_
    exact hq
set_option maxRecDepth 100000 in
set_option maxHeartbeats 4000000 in
theorem c_X8_told {s w : Int32} (C : Core ow h y g ld wd) (I : GI g) (hq : Q (some (.int (tolV g s w))) h) : Rn G (d + 5) mX8_told 0 [(0, .ref y), (1, .int s), (2, .int w)] [] h Q := by
  have ky := C.2.1.1.1
  have W := I.gw
  have h10 := W.2.1.2.2
  first | refine x_aload_n eX8_told_0 rfl rfl ?_ | refine x_aload_nN eX8_told_0 rfl rfl ?_
  refine x_iload_n eX8_told_1 rfl rfl ?_
  refine x_callV1 eX8_told_2 lk_X8_149 (by assumption) (Nat.le_of_ble_eq_true rfl) (Nat.le_of_ble_eq_true rfl) ?_
  refine Rn.deep (c_X8_sailNumbered (d := d) C W (fun z _ => ?_) (fun j a ej hj ha P _ => ?_)) (by omega)
  · first | refine x_astore_n eX8_told_5 rfl (by decide) rfl rfl ?_ | refine x_astore_nN eX8_told_5 rfl (by decide) rfl rfl ?_
    first | refine x_aload_n eX8_told_6 rfl rfl ?_ | refine x_aload_nN eX8_told_6 rfl rfl ?_
    refine x_ifnonnullN eX8_told_7 ?_
    refine x_iconst (v := (-1)) eX8_told_10 (by decide) ?_
    refine x_iret eX8_told_11 rfl ?_
    exact qi hq (by unfold tolV; rw [z]; rfl)
  · subst ej
    obtain ⟨E, ⟨e3, e5, e6, -⟩, ⟨e8, e9, e11, -⟩⟩ := id P
    obtain ⟨-, ka, -, -, e2⟩ := id E
    have hS : nt (nI j) = j := nt_nI (by omega)
    have hB := isS_of W hj
    obtain ⟨sw, sx⟩ := I.2.2.1 j hj
    by_cases hin : inR w 0 8 = true
    · obtain ⟨m, -, hm, rfl⟩ := inR_N (lo := 0) (hi := 8) hin rfl (by omega) (by omega)
      have hnm : nt (nI m) = m := nt_nI (by omega)
      have eV : tolV g (nI j) (nI m) = tolK g j m := by
        rw [tolV, hB, hin, hS, hnm]
        rfl
      have hm9 : m = 0 ∨ m = 1 ∨ m = 2 ∨ m = 3 ∨ m = 4 ∨ m = 5 ∨ m = 6 ∨ m = 7 ∨ m = 8 := by omega
      rw [eV] at hq
      rcases hm9 with rfl | rfl | rfl | rfl | rfl | rfl | rfl | rfl | rfl
      · first | refine x_astore_n eX8_told_5 rfl (by decide) rfl rfl ?_ | refine x_astore_nN eX8_told_5 rfl (by decide) rfl rfl ?_
        first | refine x_aload_n eX8_told_6 rfl rfl ?_ | refine x_aload_nN eX8_told_6 rfl rfl ?_
        refine x_ifnonnullR (tgt := 12) eX8_told_7 (by decide) ?_
        refine x_iload_n eX8_told_12 rfl rfl ?_
        refine x_tabIn (off := 51) (tgt := 64) eX8_told_13 (by decide) (by decide) (by decide) (by decide) ?_
        first | refine x_aload_n eX8_told_64 rfl rfl ?_ | refine x_aload_nN eX8_told_64 rfl rfl ?_
        first | refine x_getIe eX8_told_65 fk_X8_186 (by decide) (by assumption) (by assumption) ?_ | refine x_getI eX8_told_65 fk_X8_186 (by decide) (by assumption) ?_
        refine x_iret eX8_told_68 rfl ?_
        exact hq
      · first | refine x_astore_n eX8_told_5 rfl (by decide) rfl rfl ?_ | refine x_astore_nN eX8_told_5 rfl (by decide) rfl rfl ?_
        first | refine x_aload_n eX8_told_6 rfl rfl ?_ | refine x_aload_nN eX8_told_6 rfl rfl ?_
        refine x_ifnonnullR (tgt := 12) eX8_told_7 (by decide) ?_
        refine x_iload_n eX8_told_12 rfl rfl ?_
        refine x_tabIn (off := 56) (tgt := 69) eX8_told_13 (by decide) (by decide) (by decide) (by decide) ?_
        first | refine x_aload_n eX8_told_69 rfl rfl ?_ | refine x_aload_nN eX8_told_69 rfl rfl ?_
        first | refine x_getIe eX8_told_70 fk_X8_167 (by decide) (by assumption) (by assumption) ?_ | refine x_getI eX8_told_70 fk_X8_167 (by decide) (by assumption) ?_
        refine x_iret eX8_told_73 rfl ?_
        exact hq
      · have e5' : hi h a 5 = nI (nt (sl g j 8)) := e5.trans sw.2.2.1.1
        clear e5
        have hle : nt (sl g j 8) ≤ np g j := Nat.le_add_right _ _
        have e : nI (np g j - nt (sl g j 8)) = sl g j 9 := by
          rw [sw.2.2.2.1.1]
          congr 1
          unfold np
          omega
        first | refine x_astore_n eX8_told_5 rfl (by decide) rfl rfl ?_ | refine x_astore_nN eX8_told_5 rfl (by decide) rfl rfl ?_
        first | refine x_aload_n eX8_told_6 rfl rfl ?_ | refine x_aload_nN eX8_told_6 rfl rfl ?_
        refine x_ifnonnullR (tgt := 12) eX8_told_7 (by decide) ?_
        refine x_iload_n eX8_told_12 rfl rfl ?_
        refine x_tabIn (off := 61) (tgt := 74) eX8_told_13 (by decide) (by decide) (by decide) (by decide) ?_
        first | refine x_aload_n eX8_told_74 rfl rfl ?_ | refine x_aload_nN eX8_told_74 rfl rfl ?_
        first | refine x_getIe eX8_told_75 fk_X8_179 (by decide) (by assumption) (by assumption) ?_ | refine x_getI eX8_told_75 fk_X8_179 (by decide) (by assumption) ?_
        first | refine x_aload_n eX8_told_78 rfl rfl ?_ | refine x_aload_nN eX8_told_78 rfl rfl ?_
        first | refine x_getIe eX8_told_79 fk_X8_167 (by decide) (by assumption) (by assumption) ?_ | refine x_getI eX8_told_79 fk_X8_167 (by decide) (by assumption) ?_
        first | refine x_isubN eX8_told_82 (by with_reducible rfl) (by with_reducible rfl) (by omega) ?_ | refine x_isub eX8_told_82 ?_
        refine x_iret eX8_told_83 rfl ?_
        exact qi hq e
      · obtain ⟨w5, l5, u5⟩ := sw.2.1
        have e2' : hi h a 2 = nI (nt (sl g j 5)) := e2.trans w5
        clear e2
        first | refine x_astore_n eX8_told_5 rfl (by decide) rfl rfl ?_ | refine x_astore_nN eX8_told_5 rfl (by decide) rfl rfl ?_
        first | refine x_aload_n eX8_told_6 rfl rfl ?_ | refine x_aload_nN eX8_told_6 rfl rfl ?_
        refine x_ifnonnullR (tgt := 12) eX8_told_7 (by decide) ?_
        refine x_iload_n eX8_told_12 rfl rfl ?_
        refine x_tabIn (off := 71) (tgt := 84) eX8_told_13 (by decide) (by decide) (by decide) (by decide) ?_
        first | refine x_aload_n eX8_told_84 rfl rfl ?_ | refine x_aload_nN eX8_told_84 rfl rfl ?_
        refine x_iconst (v := nI 0) eX8_told_85 (by decide) ?_
        first | refine x_aload_n eX8_told_86 rfl rfl ?_ | refine x_aload_nN eX8_told_86 rfl rfl ?_
        first | refine x_getIe eX8_told_87 fk_X8_124 (by decide) (by assumption) (by assumption) ?_ | refine x_getI eX8_told_87 fk_X8_124 (by decide) (by assumption) ?_
        first | refine x_callV2 eX8_told_90 lk_X8_189 (by assumption) (Nat.le_of_ble_eq_true rfl) (Nat.le_of_ble_eq_true rfl) ?_ | refine x_callVw2 eX8_told_90 lk_X8_189 (by assumption) (Nat.le_of_ble_eq_true rfl) (Nat.le_of_ble_eq_true rfl) (Nat.le_of_ble_eq_true rfl) ?_
        refine c_X5_twiceBetween (lo := 0) E sw (Nat.zero_le _) u5 (fun _ => ?_)
        refine x_iret eX8_told_93 rfl ?_
        exact hq
      · first | refine x_astore_n eX8_told_5 rfl (by decide) rfl rfl ?_ | refine x_astore_nN eX8_told_5 rfl (by decide) rfl rfl ?_
        first | refine x_aload_n eX8_told_6 rfl rfl ?_ | refine x_aload_nN eX8_told_6 rfl rfl ?_
        refine x_ifnonnullR (tgt := 12) eX8_told_7 (by decide) ?_
        refine x_iload_n eX8_told_12 rfl rfl ?_
        refine x_tabIn (off := 81) (tgt := 94) eX8_told_13 (by decide) (by decide) (by decide) (by decide) ?_
        first | refine x_aload_n eX8_told_94 rfl rfl ?_ | refine x_aload_nN eX8_told_94 rfl rfl ?_
        first | refine x_getIe eX8_told_95 fk_X8_192 (by decide) (by assumption) (by assumption) ?_ | refine x_getI eX8_told_95 fk_X8_192 (by decide) (by assumption) ?_
        refine x_iret eX8_told_98 rfl ?_
        exact hq
      · have hz01 : sl g j 11 = 0 ∨ sl g j 11 = 1 := by
          obtain ⟨v1, v2, v3⟩ := sw.2.2.2.2.2.2.2.2.2.1
          rcases Nat.eq_zero_or_pos (nt (sl g j 11)) with z | z
          · rw [v1, z]; exact Or.inl rfl
          · rw [v1, show nt (sl g j 11) = 1 by omega]; exact Or.inr rfl
        first | refine x_astore_n eX8_told_5 rfl (by decide) rfl rfl ?_ | refine x_astore_nN eX8_told_5 rfl (by decide) rfl rfl ?_
        first | refine x_aload_n eX8_told_6 rfl rfl ?_ | refine x_aload_nN eX8_told_6 rfl rfl ?_
        refine x_ifnonnullR (tgt := 12) eX8_told_7 (by decide) ?_
        refine x_iload_n eX8_told_12 rfl rfl ?_
        refine x_tabIn (off := 86) (tgt := 99) eX8_told_13 (by decide) (by decide) (by decide) (by decide) ?_
        first | refine x_aload_n eX8_told_99 rfl rfl ?_ | refine x_aload_nN eX8_told_99 rfl rfl ?_
        first | refine x_getIe eX8_told_100 fk_X8_195 (by decide) (by assumption) (by assumption) ?_ | refine x_getI eX8_told_100 fk_X8_195 (by decide) (by assumption) ?_
        first | refine x_if_eqB (tgt := 110) eX8_told_103 (by decide) (by with_reducible rfl) (fun cq1 => ?_) (fun cq1 => ?_) | refine x_if_eq (tgt := 110) eX8_told_103 (by decide) (fun cq1 => ?_) (fun cq1 => ?_)
        · refine x_iconst (v := nI 0) eX8_told_110 (by decide) ?_
          refine x_iret eX8_told_111 rfl ?_
          exact qi hq (by have : sl g j 11 = 0 := cq1; exact this.symm)
        · refine x_iconst (v := nI 1) eX8_told_106 (by decide) ?_
          refine x_goto (tgt := 111) eX8_told_107 (by decide) ?_
          refine x_iret eX8_told_111 rfl ?_
          exact qi hq (by
            rcases hz01 with z | z
            · exact absurd z cq1
            · exact z.symm)
      · first | refine x_astore_n eX8_told_5 rfl (by decide) rfl rfl ?_ | refine x_astore_nN eX8_told_5 rfl (by decide) rfl rfl ?_
        first | refine x_aload_n eX8_told_6 rfl rfl ?_ | refine x_aload_nN eX8_told_6 rfl rfl ?_
        refine x_ifnonnullR (tgt := 12) eX8_told_7 (by decide) ?_
        refine x_iload_n eX8_told_12 rfl rfl ?_
        refine x_tabIn (off := 99) (tgt := 112) eX8_told_13 (by decide) (by decide) (by decide) (by decide) ?_
        first | refine x_aload_n eX8_told_112 rfl rfl ?_ | refine x_aload_nN eX8_told_112 rfl rfl ?_
        first | refine x_aload_n eX8_told_113 rfl rfl ?_ | refine x_aload_nN eX8_told_113 rfl rfl ?_
        refine x_callV1 eX8_told_114 lk_X8_199 (by assumption) (Nat.le_of_ble_eq_true rfl) (Nat.le_of_ble_eq_true rfl) ?_
        refine Rn.deep (c_X8_weightOfAll (d := d) C I hj P (fun _ => ?_)) (by omega)
        refine x_iret eX8_told_117 rfl ?_
        exact hq
      · first | refine x_astore_n eX8_told_5 rfl (by decide) rfl rfl ?_ | refine x_astore_nN eX8_told_5 rfl (by decide) rfl rfl ?_
        first | refine x_aload_n eX8_told_6 rfl rfl ?_ | refine x_aload_nN eX8_told_6 rfl rfl ?_
        refine x_ifnonnullR (tgt := 12) eX8_told_7 (by decide) ?_
        refine x_iload_n eX8_told_12 rfl rfl ?_
        refine x_tabIn (off := 105) (tgt := 118) eX8_told_13 (by decide) (by decide) (by decide) (by decide) ?_
        first | refine x_aload_n eX8_told_118 rfl rfl ?_ | refine x_aload_nN eX8_told_118 rfl rfl ?_
        first | refine x_getIe eX8_told_119 fk_X8_203 (by decide) (by assumption) (by assumption) ?_ | refine x_getI eX8_told_119 fk_X8_203 (by decide) (by assumption) ?_
        refine x_iret eX8_told_122 rfl ?_
        exact hq
      · first | refine x_astore_n eX8_told_5 rfl (by decide) rfl rfl ?_ | refine x_astore_nN eX8_told_5 rfl (by decide) rfl rfl ?_
        first | refine x_aload_n eX8_told_6 rfl rfl ?_ | refine x_aload_nN eX8_told_6 rfl rfl ?_
        refine x_ifnonnullR (tgt := 12) eX8_told_7 (by decide) ?_
        refine x_iload_n eX8_told_12 rfl rfl ?_
        refine x_tabIn (off := 110) (tgt := 123) eX8_told_13 (by decide) (by decide) (by decide) (by decide) ?_
        first | refine x_aload_n eX8_told_123 rfl rfl ?_ | refine x_aload_nN eX8_told_123 rfl rfl ?_
        first | refine x_getIe eX8_told_124 fk_X8_124 (by decide) (by assumption) (by assumption) ?_ | refine x_getI eX8_told_124 fk_X8_124 (by decide) (by assumption) ?_
        refine x_iret eX8_told_127 rfl ?_
        exact hq
    · have hout := inR_out (n := 8) (by omega) (Bool.eq_false_iff.mpr hin)
      first | refine x_astore_n eX8_told_5 rfl (by decide) rfl rfl ?_ | refine x_astore_nN eX8_told_5 rfl (by decide) rfl rfl ?_
      first | refine x_aload_n eX8_told_6 rfl rfl ?_ | refine x_aload_nN eX8_told_6 rfl rfl ?_
      refine x_ifnonnullR (tgt := 12) eX8_told_7 (by decide) ?_
      refine x_iload_n eX8_told_12 rfl rfl ?_
      refine x_tabOut (tgt := 128) eX8_told_13 (by first | assumption | omega) (by decide) ?_
      refine x_iconst (v := (-1)) eX8_told_128 (by decide) ?_
      refine x_iret eX8_told_129 rfl ?_
      exact qi hq (by rw [tolV, Bool.eq_false_iff.mpr hin, Bool.and_false]; rfl)
set_option maxRecDepth 100000 in
set_option maxHeartbeats 4000000 in
theorem c_X8_panel {s i w : Int32} (C : Core ow h y g ld wd) (I : GI g) (hq : Q (some (.int (panV g s i w))) h) : Rn G (d + 5) mX8_panel 0 [(0, .ref y), (1, .int s), (2, .int i), (3, .int w)] [] h Q := by
  have ky := C.2.1.1.1
  have W := I.gw
  have h10 := W.2.1.2.2
  first | refine x_aload_n eX8_panel_0 rfl rfl ?_ | refine x_aload_nN eX8_panel_0 rfl rfl ?_
  refine x_iload_n eX8_panel_1 rfl rfl ?_
  refine x_callV1 eX8_panel_2 lk_X8_149 (by assumption) (Nat.le_of_ble_eq_true rfl) (Nat.le_of_ble_eq_true rfl) ?_
  refine Rn.deep (c_X8_sailNumbered (d := d) C W (fun z _ => ?_) (fun j a ej hj ha P _ => ?_)) (by omega)
  · refine x_iload_n eX8_panel_5 rfl rfl ?_
    refine x_callS2 eX8_panel_6 lk_X8_206 (Nat.le_of_ble_eq_true rfl) (Nat.le_of_ble_eq_true rfl) ?_
    refine Rn.deep (c_X8_pieceNull (d := d) (fun _ => ?_)) (by omega)
    first | refine x_astore eX8_panel_9 (by decide) rfl rfl ?_ | refine x_astoreN eX8_panel_9 (by decide) rfl rfl ?_
    first | refine x_aload eX8_panel_11 rfl ?_ | refine x_aloadN eX8_panel_11 rfl ?_
    refine x_ifnonnullN eX8_panel_13 ?_
    refine x_iconst (v := (-1)) eX8_panel_16 (by decide) ?_
    refine x_iret eX8_panel_17 rfl ?_
    exact qi hq (by unfold panV; rw [z]; rfl)
  · subst ej
    have ka := P.1.2.1
    have hS : nt (nI j) = j := nt_nI (by omega)
    have hB := isS_of W hj
    obtain ⟨sw, sx⟩ := I.2.2.1 j hj
    have h40 : np g j ≤ 40 := sw.2.2.2.2.1
    refine x_iload_n eX8_panel_5 rfl rfl ?_
    refine x_callS2 eX8_panel_6 lk_X8_206 (Nat.le_of_ble_eq_true rfl) (Nat.le_of_ble_eq_true rfl) ?_
    refine Rn.deep (c_X8_pieceOf (d := d) P sw sx (fun z _ => ?_) (fun k p ek hk R _ => ?_)) (by omega)
    · first | refine x_astore eX8_panel_9 (by decide) rfl rfl ?_ | refine x_astoreN eX8_panel_9 (by decide) rfl rfl ?_
      first | refine x_aload eX8_panel_11 rfl ?_ | refine x_aloadN eX8_panel_11 rfl ?_
      refine x_ifnonnullN eX8_panel_13 ?_
      refine x_iconst (v := (-1)) eX8_panel_16 (by decide) ?_
      refine x_iret eX8_panel_17 rfl ?_
      exact qi hq (by
        unfold hpV at z
        unfold panV
        rw [hS, ← Bool.and_assoc (decide (0 ≤ i)), z, Bool.false_and, Bool.and_false]
        rfl)
    · subst ek
      have hK : nt (nI k) = k := nt_nI (by omega)
      have hPk : hpV (nI (np g j)) (nI k) = true := by rw [hpV_nI (by omega) (by omega)]; exact decide_eq_true hk
      obtain ⟨-, kpp, p0, p1, p2, p3, p4, p5, p6, p7, p8⟩ := id R
      by_cases hin : inR w 0 9 = true
      · obtain ⟨m, -, hm, rfl⟩ := inR_N (lo := 0) (hi := 9) hin rfl (by omega) (by omega)
        have hnm : nt (nI m) = m := nt_nI (by omega)
        have eV : panV g (nI j) (nI k) (nI m) = panK g j k m := by
          unfold hpV at hPk
          rw [panV, hB, hin, hS, hnm, hK, ← Bool.and_assoc (decide (0 ≤ nI k)), hPk]
          rfl
        have hm9 : m = 0 ∨ m = 1 ∨ m = 2 ∨ m = 3 ∨ m = 4 ∨ m = 5 ∨ m = 6 ∨ m = 7 ∨ m = 8 ∨ m = 9 := by omega
        rw [eV] at hq
        rcases hm9 with rfl | rfl | rfl | rfl | rfl | rfl | rfl | rfl | rfl | rfl
        · first | refine x_astore eX8_panel_9 (by decide) rfl rfl ?_ | refine x_astoreN eX8_panel_9 (by decide) rfl rfl ?_
          first | refine x_aload eX8_panel_11 rfl ?_ | refine x_aloadN eX8_panel_11 rfl ?_
          refine x_ifnonnullR (tgt := 18) eX8_panel_13 (by decide) ?_
          refine x_iload_n eX8_panel_18 rfl rfl ?_
          refine x_tabIn (off := 53) (tgt := 72) eX8_panel_19 (by decide) (by decide) (by decide) (by decide) ?_
          first | refine x_aload_n eX8_panel_72 rfl rfl ?_ | refine x_aload_nN eX8_panel_72 rfl rfl ?_
          first | refine x_aload eX8_panel_73 rfl ?_ | refine x_aloadN eX8_panel_73 rfl ?_
          refine x_callV1 eX8_panel_75 lk_X8_210 (by assumption) (Nat.le_of_ble_eq_true rfl) (Nat.le_of_ble_eq_true rfl) ?_
          refine Rn.deep (c_X8_kindOf (d := d) C I hj hk R (fun _ => ?_)) (by omega)
          refine x_iret eX8_panel_78 rfl ?_
          exact hq
        · first | refine x_astore eX8_panel_9 (by decide) rfl rfl ?_ | refine x_astoreN eX8_panel_9 (by decide) rfl rfl ?_
          first | refine x_aload eX8_panel_11 rfl ?_ | refine x_aloadN eX8_panel_11 rfl ?_
          refine x_ifnonnullR (tgt := 18) eX8_panel_13 (by decide) ?_
          refine x_iload_n eX8_panel_18 rfl rfl ?_
          refine x_tabIn (off := 60) (tgt := 79) eX8_panel_19 (by decide) (by decide) (by decide) (by decide) ?_
          first | refine x_aload eX8_panel_79 rfl ?_ | refine x_aloadN eX8_panel_79 rfl ?_
          first | refine x_getIe eX8_panel_81 fk_X8_214 (by decide) (by assumption) (by assumption) ?_ | refine x_getI eX8_panel_81 fk_X8_214 (by decide) (by assumption) ?_
          refine x_iret eX8_panel_84 rfl ?_
          exact hq
        · first | refine x_astore eX8_panel_9 (by decide) rfl rfl ?_ | refine x_astoreN eX8_panel_9 (by decide) rfl rfl ?_
          first | refine x_aload eX8_panel_11 rfl ?_ | refine x_aloadN eX8_panel_11 rfl ?_
          refine x_ifnonnullR (tgt := 18) eX8_panel_13 (by decide) ?_
          refine x_iload_n eX8_panel_18 rfl rfl ?_
          refine x_tabIn (off := 66) (tgt := 85) eX8_panel_19 (by decide) (by decide) (by decide) (by decide) ?_
          first | refine x_aload eX8_panel_85 rfl ?_ | refine x_aloadN eX8_panel_85 rfl ?_
          first | refine x_getIe eX8_panel_87 fk_X8_217 (by decide) (by assumption) (by assumption) ?_ | refine x_getI eX8_panel_87 fk_X8_217 (by decide) (by assumption) ?_
          refine x_iret eX8_panel_90 rfl ?_
          exact hq
        · first | refine x_astore eX8_panel_9 (by decide) rfl rfl ?_ | refine x_astoreN eX8_panel_9 (by decide) rfl rfl ?_
          first | refine x_aload eX8_panel_11 rfl ?_ | refine x_aloadN eX8_panel_11 rfl ?_
          refine x_ifnonnullR (tgt := 18) eX8_panel_13 (by decide) ?_
          refine x_iload_n eX8_panel_18 rfl rfl ?_
          refine x_tabIn (off := 72) (tgt := 91) eX8_panel_19 (by decide) (by decide) (by decide) (by decide) ?_
          first | refine x_aload eX8_panel_91 rfl ?_ | refine x_aloadN eX8_panel_91 rfl ?_
          first | refine x_getIe eX8_panel_93 fk_X8_220 (by decide) (by assumption) (by assumption) ?_ | refine x_getI eX8_panel_93 fk_X8_220 (by decide) (by assumption) ?_
          refine x_iret eX8_panel_96 rfl ?_
          exact hq
        · first | refine x_astore eX8_panel_9 (by decide) rfl rfl ?_ | refine x_astoreN eX8_panel_9 (by decide) rfl rfl ?_
          first | refine x_aload eX8_panel_11 rfl ?_ | refine x_aloadN eX8_panel_11 rfl ?_
          refine x_ifnonnullR (tgt := 18) eX8_panel_13 (by decide) ?_
          refine x_iload_n eX8_panel_18 rfl rfl ?_
          refine x_tabIn (off := 78) (tgt := 97) eX8_panel_19 (by decide) (by decide) (by decide) (by decide) ?_
          first | refine x_aload eX8_panel_97 rfl ?_ | refine x_aloadN eX8_panel_97 rfl ?_
          first | refine x_getIe eX8_panel_99 fk_X8_221 (by decide) (by assumption) (by assumption) ?_ | refine x_getI eX8_panel_99 fk_X8_221 (by decide) (by assumption) ?_
          refine x_iret eX8_panel_102 rfl ?_
          exact hq
        · first | refine x_astore eX8_panel_9 (by decide) rfl rfl ?_ | refine x_astoreN eX8_panel_9 (by decide) rfl rfl ?_
          first | refine x_aload eX8_panel_11 rfl ?_ | refine x_aloadN eX8_panel_11 rfl ?_
          refine x_ifnonnullR (tgt := 18) eX8_panel_13 (by decide) ?_
          refine x_iload_n eX8_panel_18 rfl rfl ?_
          refine x_tabIn (off := 84) (tgt := 103) eX8_panel_19 (by decide) (by decide) (by decide) (by decide) ?_
          first | refine x_aload eX8_panel_103 rfl ?_ | refine x_aloadN eX8_panel_103 rfl ?_
          first | refine x_getIe eX8_panel_105 fk_X8_224 (by decide) (by assumption) (by assumption) ?_ | refine x_getI eX8_panel_105 fk_X8_224 (by decide) (by assumption) ?_
          refine x_iret eX8_panel_108 rfl ?_
          exact hq
        · first | refine x_astore eX8_panel_9 (by decide) rfl rfl ?_ | refine x_astoreN eX8_panel_9 (by decide) rfl rfl ?_
          first | refine x_aload eX8_panel_11 rfl ?_ | refine x_aloadN eX8_panel_11 rfl ?_
          refine x_ifnonnullR (tgt := 18) eX8_panel_13 (by decide) ?_
          refine x_iload_n eX8_panel_18 rfl rfl ?_
          refine x_tabIn (off := 90) (tgt := 109) eX8_panel_19 (by decide) (by decide) (by decide) (by decide) ?_
          first | refine x_aload eX8_panel_109 rfl ?_ | refine x_aloadN eX8_panel_109 rfl ?_
          first | refine x_getIe eX8_panel_111 fk_X8_227 (by decide) (by assumption) (by assumption) ?_ | refine x_getI eX8_panel_111 fk_X8_227 (by decide) (by assumption) ?_
          refine x_iret eX8_panel_114 rfl ?_
          exact hq
        · first | refine x_astore eX8_panel_9 (by decide) rfl rfl ?_ | refine x_astoreN eX8_panel_9 (by decide) rfl rfl ?_
          first | refine x_aload eX8_panel_11 rfl ?_ | refine x_aloadN eX8_panel_11 rfl ?_
          refine x_ifnonnullR (tgt := 18) eX8_panel_13 (by decide) ?_
          refine x_iload_n eX8_panel_18 rfl rfl ?_
          refine x_tabIn (off := 96) (tgt := 115) eX8_panel_19 (by decide) (by decide) (by decide) (by decide) ?_
          first | refine x_aload eX8_panel_115 rfl ?_ | refine x_aloadN eX8_panel_115 rfl ?_
          first | refine x_getIe eX8_panel_117 fk_X8_230 (by decide) (by assumption) (by assumption) ?_ | refine x_getI eX8_panel_117 fk_X8_230 (by decide) (by assumption) ?_
          refine x_iret eX8_panel_120 rfl ?_
          exact hq
        · first | refine x_astore eX8_panel_9 (by decide) rfl rfl ?_ | refine x_astoreN eX8_panel_9 (by decide) rfl rfl ?_
          first | refine x_aload eX8_panel_11 rfl ?_ | refine x_aloadN eX8_panel_11 rfl ?_
          refine x_ifnonnullR (tgt := 18) eX8_panel_13 (by decide) ?_
          refine x_iload_n eX8_panel_18 rfl rfl ?_
          refine x_tabIn (off := 102) (tgt := 121) eX8_panel_19 (by decide) (by decide) (by decide) (by decide) ?_
          first | refine x_aload_n eX8_panel_121 rfl rfl ?_ | refine x_aload_nN eX8_panel_121 rfl rfl ?_
          first | refine x_aload eX8_panel_122 rfl ?_ | refine x_aloadN eX8_panel_122 rfl ?_
          refine x_callV1 eX8_panel_124 lk_X8_231 (by assumption) (Nat.le_of_ble_eq_true rfl) (Nat.le_of_ble_eq_true rfl) ?_
          refine Rn.deep (c_X8_weightOf (d := d) C I hj hk R (fun _ => ?_)) (by omega)
          refine x_iret eX8_panel_127 rfl ?_
          exact hq
        · first | refine x_astore eX8_panel_9 (by decide) rfl rfl ?_ | refine x_astoreN eX8_panel_9 (by decide) rfl rfl ?_
          first | refine x_aload eX8_panel_11 rfl ?_ | refine x_aloadN eX8_panel_11 rfl ?_
          refine x_ifnonnullR (tgt := 18) eX8_panel_13 (by decide) ?_
          refine x_iload_n eX8_panel_18 rfl rfl ?_
          refine x_tabIn (off := 109) (tgt := 128) eX8_panel_19 (by decide) (by decide) (by decide) (by decide) ?_
          first | refine x_aload eX8_panel_128 rfl ?_ | refine x_aloadN eX8_panel_128 rfl ?_
          first | refine x_getIe eX8_panel_130 fk_X8_174 (by decide) (by assumption) (by assumption) ?_ | refine x_getI eX8_panel_130 fk_X8_174 (by decide) (by assumption) ?_
          refine x_iret eX8_panel_133 rfl ?_
          exact hq
      · have hout := inR_out (n := 9) (by omega) (Bool.eq_false_iff.mpr hin)
        first | refine x_astore eX8_panel_9 (by decide) rfl rfl ?_ | refine x_astoreN eX8_panel_9 (by decide) rfl rfl ?_
        first | refine x_aload eX8_panel_11 rfl ?_ | refine x_aloadN eX8_panel_11 rfl ?_
        refine x_ifnonnullR (tgt := 18) eX8_panel_13 (by decide) ?_
        refine x_iload_n eX8_panel_18 rfl rfl ?_
        refine x_tabOut (tgt := 134) eX8_panel_19 (by first | assumption | omega) (by decide) ?_
        refine x_iconst (v := (-1)) eX8_panel_134 (by decide) ?_
        refine x_iret eX8_panel_135 rfl ?_
        exact qi hq (by rw [panV, Bool.eq_false_iff.mpr hin, Bool.and_false, Bool.and_false, Bool.and_false]; rfl)
set_option maxRecDepth 100000 in
set_option maxHeartbeats 4000000 in
theorem Core.spar {h2 : AH} {ld2 wd2 : Nat → Int32} (C : Core ow h y g ld wd) (W : GW g) (F : Fr (fun t => t = 6 ∨ t = 7) ow h ow h2) (x : Ext h h2) (L : Lv ow h2) (e4 : ∀ k, k < 61 → hi h2 (y + 4) k = ld2 k) (e5 : ∀ k, k < 60 → hi h2 (y + 5) k = wd2 k) : Core ow h2 y g ld2 wd2 := by
  obtain ⟨C1, C2, C3, C4, C5, C6, -, C9⟩ := id C
  have h24 := W.1.2.2
  have h10 := W.2.1.2.2
  have q1 := F.at_ C2.1.2.2.2.2.2 (by decide) (by decide)
  have q2 := F.at_ C2.2.1.2.2 (by decide) (by decide)
  have q3 := F.at_ C2.2.2.1.2.2 (by decide) (by decide)
  have q5 := F.at_ C2.2.2.2.1.2.2.2.2 (by decide) (by decide)
  exact ⟨L, C2.up C1 x To.rf (fun k _ => by rw [q1.2.2.2.2.1]) q5.2.2.2.2.1, by rw [q1.2.2.2.1]; exact C3, fun i hi => (C4 i hi).fr F (by omega) (by omega) (by rw [q2.2.2.2.2.1]), fun i hi => (C5 i hi).fr F (by omega) (by omega) (by omega) (W.2.2.1 i hi) (by rw [q2.2.2.2.2.1]) (fun _ _ => rfl) (fun _ _ => rfl), fun t ht => (C6 t ht).fr F (fun u hu z => by unfold sT at hu; omega) (W.2.2.2 t ht) (by rw [q3.2.2.2.2.1]) (fun _ _ => rfl), ⟨e4, e5⟩, C9.fr F (fun t h1 h2 z => by omega) (by rw [q1.2.2.2.2.1])⟩
set_option maxRecDepth 100000 in
set_option maxHeartbeats 4000000 in
theorem c_X8_mast {k v : Int32} (C : Core ow h y g ld wd) (I : GI g) (K : Acts ow h y g kp nx ps) (hq0 : (inR k 0 60 && inR v 0 2000000000) = false → Q (some (.int 0)) h) (hq1 : (inR k 0 60 && inR v 0 2000000000) = true → ∀ h2, Ps G y ow h g (upd0 ld (nt k) v) wd kp nx ps h2 → Q (some (.int 1)) h2) : Rn G (d + 1) mX8_mast 0 [(0, .ref y), (1, .int k), (2, .int v)] [] h Q := by
  obtain ⟨C1, C2, C3, C4, C5, C6, ⟨C7, C8⟩, C9⟩ := id C
  obtain ⟨⟨a1, a2, a3, a4, a5, a6⟩, ⟨b1, b2, b3⟩, ⟨c1, c2, c3⟩, ⟨d1, d2, d3, d4, d5⟩, ⟨e1, e2, e3⟩, ⟨f1, f2, f3⟩, ⟨g1, g2, g3⟩, ⟨h1, h2', h3⟩⟩ := id C2
  refine x_iload_n eX8_mast_0 rfl rfl ?_
  refine x_iconst (v := nI 0) eX8_mast_1 (by decide) ?_
  refine x_bipush (v := nI 60) eX8_mast_2 (by decide) ?_
  refine x_callS3 eX8_mast_4 lk_X8_51 (Nat.le_of_ble_eq_true rfl) (Nat.le_of_ble_eq_true rfl) ?_
  refine c_X8_isWithin (fun _ => ?_)
  first | refine x_if_eqB (tgt := 21) eX8_mast_7 (by decide) (by with_reducible rfl) (fun cq1 => ?_) (fun cq1 => ?_) | refine x_if_eq (tgt := 21) eX8_mast_7 (by decide) (fun cq1 => ?_) (fun cq1 => ?_)
  · refine x_iconst (v := nI 0) eX8_mast_21 (by decide) ?_
    refine x_zret eX8_mast_22 rfl (by first | exact Or.inl rfl | exact Or.inr rfl | exact bI_or _ | assumption) ?_
    exact hq0 (by rw [show inR k 0 60 = false from cq1]; rfl)
  · obtain ⟨m, -, hm, rfl⟩ := inR_N (lo := 0) (hi := 60) cq1 rfl (by omega) (by omega)
    have hnm : nt (nI m) = m := nt_nI (by omega)
    refine x_iload_n eX8_mast_10 rfl rfl ?_
    refine x_iconst (v := nI 0) eX8_mast_11 (by decide) ?_
    refine x_ldcw (v := 2000000000) eX8_mast_12 kk_X8_293 ?_
    refine x_callS3 eX8_mast_15 lk_X8_51 (Nat.le_of_ble_eq_true rfl) (Nat.le_of_ble_eq_true rfl) ?_
    refine c_X8_isWithin (fun _ => ?_)
    first | refine x_if_neB (tgt := 23) eX8_mast_18 (by decide) (by with_reducible rfl) (fun cq2 => ?_) (fun cq2 => ?_) | refine x_if_ne (tgt := 23) eX8_mast_18 (by decide) (fun cq2 => ?_) (fun cq2 => ?_)
    · first | refine x_aload_n eX8_mast_23 rfl rfl ?_ | refine x_aload_nN eX8_mast_23 rfl rfl ?_
      first | refine x_getR eX8_mast_24 fk_X8_31 rfl (by assumption) (by assumption) ?_ | refine x_getN eX8_mast_24 fk_X8_31 rfl (by assumption) (by assumption) ?_
      first | refine x_getR eX8_mast_27 fk_X8_294 rfl (by assumption) (by assumption) ?_ | refine x_getN eX8_mast_27 fk_X8_294 rfl (by assumption) (by assumption) ?_
      refine x_iload_n eX8_mast_30 rfl rfl ?_
      refine x_iload_n eX8_mast_31 rfl rfl ?_
      first | refine x_iastN eX8_mast_32 (by with_reducible rfl) (by assumption) (by assumption) (by omega) (by omega) ?_ | refine x_iast eX8_mast_32 (by assumption) (by assumption) ?_
      refine x_iconst (v := nI 1) eX8_mast_33 (by decide) ?_
      refine x_zret eX8_mast_34 rfl (by first | exact Or.inl rfl | exact Or.inr rfl | exact bI_or _ | assumption) ?_
      refine hq1 (by rw [show inR (nI m) 0 60 = true from cq1, show inR v 0 2000000000 = true from cq2]; rfl) _ ?_
      have F : Fr (fun t => t = 6 ∨ t = 7) ow h ow (wi h (y + 4) m v) := Fr.wi (Or.inl e3)
      have q : ∀ b, b ≠ y + 4 → hi (wi h (y + 4) m v) b = hi h b := fun b hb => up2_a (f := hi h) hb
      refine ⟨ow, C.spar I.gw F (Ext.wi _ _ _ _) C1 (fun j hj => ?_) (fun j hj => ?_), K.fr F (fun t ht z => by omega) rfl (by rw [q y (by omega)]) (by rw [q y (by omega)]), F.zk (by decide), by show hz h ≤ _; omega, by show us G h ≤ _; omega⟩
      · rw [hnm]
        show up2 (hi h) (y + 4) m v (y + 4) j = _
        rw [up2_at]
        unfold upd0
        by_cases z : j = m
        · rw [if_pos z, if_pos z]
        · rw [if_neg z, if_neg z]
          exact C7 j hj
      · rw [q (y + 5) (by omega)]
        exact C8 j hj
    · refine x_iconst (v := nI 0) eX8_mast_21 (by decide) ?_
      refine x_zret eX8_mast_22 rfl (by first | exact Or.inl rfl | exact Or.inr rfl | exact bI_or _ | assumption) ?_
      exact hq0 (by rw [show inR v 0 2000000000 = false from cq2, Bool.and_false])
set_option maxRecDepth 100000 in
set_option maxHeartbeats 4000000 in
theorem c_X8_wind {k v : Int32} (C : Core ow h y g ld wd) (I : GI g) (K : Acts ow h y g kp nx ps) (hq0 : (inR k 0 59 && inR v 0 1000) = false → Q (some (.int 0)) h) (hq1 : (inR k 0 59 && inR v 0 1000) = true → ∀ h2, Ps G y ow h g ld (upd0 wd (nt k) v) kp nx ps h2 → Q (some (.int 1)) h2) : Rn G (d + 1) mX8_wind 0 [(0, .ref y), (1, .int k), (2, .int v)] [] h Q := by
  obtain ⟨C1, C2, C3, C4, C5, C6, ⟨C7, C8⟩, C9⟩ := id C
  obtain ⟨⟨a1, a2, a3, a4, a5, a6⟩, ⟨b1, b2, b3⟩, ⟨c1, c2, c3⟩, ⟨d1, d2, d3, d4, d5⟩, ⟨e1, e2, e3⟩, ⟨f1, f2, f3⟩, ⟨g1, g2, g3⟩, ⟨h1, h2', h3⟩⟩ := id C2
  refine x_iload_n eX8_wind_0 rfl rfl ?_
  refine x_iconst (v := nI 0) eX8_wind_1 (by decide) ?_
  refine x_bipush (v := nI 59) eX8_wind_2 (by decide) ?_
  refine x_callS3 eX8_wind_4 lk_X8_51 (Nat.le_of_ble_eq_true rfl) (Nat.le_of_ble_eq_true rfl) ?_
  refine c_X8_isWithin (fun _ => ?_)
  first | refine x_if_eqB (tgt := 21) eX8_wind_7 (by decide) (by with_reducible rfl) (fun cq1 => ?_) (fun cq1 => ?_) | refine x_if_eq (tgt := 21) eX8_wind_7 (by decide) (fun cq1 => ?_) (fun cq1 => ?_)
  · refine x_iconst (v := nI 0) eX8_wind_21 (by decide) ?_
    refine x_zret eX8_wind_22 rfl (by first | exact Or.inl rfl | exact Or.inr rfl | exact bI_or _ | assumption) ?_
    exact hq0 (by rw [show inR k 0 59 = false from cq1]; rfl)
  · obtain ⟨m, -, hm, rfl⟩ := inR_N (lo := 0) (hi := 59) cq1 rfl (by omega) (by omega)
    have hnm : nt (nI m) = m := nt_nI (by omega)
    refine x_iload_n eX8_wind_10 rfl rfl ?_
    refine x_iconst (v := nI 0) eX8_wind_11 (by decide) ?_
    refine x_sipush (v := nI 1000) eX8_wind_12 (by decide) ?_
    refine x_callS3 eX8_wind_15 lk_X8_51 (Nat.le_of_ble_eq_true rfl) (Nat.le_of_ble_eq_true rfl) ?_
    refine c_X8_isWithin (fun _ => ?_)
    first | refine x_if_neB (tgt := 23) eX8_wind_18 (by decide) (by with_reducible rfl) (fun cq2 => ?_) (fun cq2 => ?_) | refine x_if_ne (tgt := 23) eX8_wind_18 (by decide) (fun cq2 => ?_) (fun cq2 => ?_)
    · first | refine x_aload_n eX8_wind_23 rfl rfl ?_ | refine x_aload_nN eX8_wind_23 rfl rfl ?_
      first | refine x_getR eX8_wind_24 fk_X8_31 rfl (by assumption) (by assumption) ?_ | refine x_getN eX8_wind_24 fk_X8_31 rfl (by assumption) (by assumption) ?_
      first | refine x_getR eX8_wind_27 fk_X8_297 rfl (by assumption) (by assumption) ?_ | refine x_getN eX8_wind_27 fk_X8_297 rfl (by assumption) (by assumption) ?_
      refine x_iload_n eX8_wind_30 rfl rfl ?_
      refine x_iload_n eX8_wind_31 rfl rfl ?_
      first | refine x_iastN eX8_wind_32 (by with_reducible rfl) (by assumption) (by assumption) (by omega) (by omega) ?_ | refine x_iast eX8_wind_32 (by assumption) (by assumption) ?_
      refine x_iconst (v := nI 1) eX8_wind_33 (by decide) ?_
      refine x_zret eX8_wind_34 rfl (by first | exact Or.inl rfl | exact Or.inr rfl | exact bI_or _ | assumption) ?_
      refine hq1 (by rw [show inR (nI m) 0 59 = true from cq1, show inR v 0 1000 = true from cq2]; rfl) _ ?_
      have F : Fr (fun t => t = 6 ∨ t = 7) ow h ow (wi h (y + 5) m v) := Fr.wi (Or.inr f3)
      have q : ∀ b, b ≠ y + 5 → hi (wi h (y + 5) m v) b = hi h b := fun b hb => up2_a (f := hi h) hb
      refine ⟨ow, C.spar I.gw F (Ext.wi _ _ _ _) C1 (fun j hj => ?_) (fun j hj => ?_), K.fr F (fun t ht z => by omega) rfl (by rw [q y (by omega)]) (by rw [q y (by omega)]), F.zk (by decide), by show hz h ≤ _; omega, by show us G h ≤ _; omega⟩
      · rw [q (y + 4) (by omega)]
        exact C7 j hj
      · rw [hnm]
        show up2 (hi h) (y + 5) m v (y + 5) j = _
        rw [up2_at]
        unfold upd0
        by_cases z : j = m
        · rw [if_pos z, if_pos z]
        · rw [if_neg z, if_neg z]
          exact C8 j hj
    · refine x_iconst (v := nI 0) eX8_wind_21 (by decide) ?_
      refine x_zret eX8_wind_22 rfl (by first | exact Or.inl rfl | exact Or.inr rfl | exact bI_or _ | assumption) ?_
      exact hq0 (by rw [show inR v 0 1000 = false from cq2, Bool.and_false])
end READ2

