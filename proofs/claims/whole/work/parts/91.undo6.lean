/-! ===== undo: reverse ===== -/
section UNDO6
variable {G : GG} {d : Nat} {h h2 : AH} {Q : Option Value → AH → Prop} {ow o2 : Nat → Nat} {y : Nat} {g gp ld wd : Nat → Int32} {nx s a q i : Nat} {R : AH → Prop}
set_option maxRecDepth 100000 in
set_option maxHeartbeats 4000000 in
theorem c_rvM {k : Nat} (C : Core ow h y g ld wd) (I : GI g) (kq : hk h q = 0) (e0 : hi h q 0 = nI k) (hk4 : 4 ≤ k) (hk8 : k ≤ 8) (e1 : hi h q 1 = nI s) (hs : s < nt (g 1)) (W : ∀ a Q', hr h (y + 2) s = some a → SailP ow h g s a → (∀ h2, R h2 → Q' none h2) → Rn G (d + 4) mX8_reverseMaking 0 [(0, .ref q), (1, .ref a)] [] h Q') (hq : ∀ h2, R h2 → Q none h2) : Rn G (d + 5) mX8_reverse 0 [(0, .ref y), (1, .ref q)] [] h Q := by
  have Wg := I.gw
  have h10 := Wg.2.1.2.2
  have ky := C.2.1.1.1
  rcases (show k = 4 ∨ k = 5 ∨ k = 6 ∨ k = 7 ∨ k = 8 by omega) with z | z | z | z | z
  · subst z
    first | refine x_aload_n eX8_reverse_0 rfl rfl ?_ | refine x_aload_nN eX8_reverse_0 rfl rfl ?_
    first | refine x_getIe eX8_reverse_1 fk_X8_327 (by decide) (by assumption) (by assumption) ?_ | refine x_getI eX8_reverse_1 fk_X8_327 (by decide) (by assumption) ?_
    refine x_tabIn (off := 140) (tgt := 144) eX8_reverse_4 (by decide) (by decide) (by decide) (by decide) ?_
    first | refine x_aload_n eX8_reverse_144 rfl rfl ?_ | refine x_aload_nN eX8_reverse_144 rfl rfl ?_
    first | refine x_aload_n eX8_reverse_145 rfl rfl ?_ | refine x_aload_nN eX8_reverse_145 rfl rfl ?_
    first | refine x_aload_n eX8_reverse_146 rfl rfl ?_ | refine x_aload_nN eX8_reverse_146 rfl rfl ?_
    first | refine x_getIe eX8_reverse_147 fk_X8_337 (by decide) (by assumption) (by assumption) ?_ | refine x_getI eX8_reverse_147 fk_X8_337 (by decide) (by assumption) ?_
    refine x_callV1 eX8_reverse_150 lk_X8_149 (by assumption) (Nat.le_of_ble_eq_true rfl) (Nat.le_of_ble_eq_true rfl) ?_
    refine Rn.deep (c_X8_sailNumbered (d := d) C Wg (fun z _ => ?_) (fun s' sa es hs' hsa S _ => ?_)) (by omega)
    · rw [isS_of Wg hs] at z
      cases z
    · have ess : s = s' := (nI_eq (by omega) (by omega)).mp es
      subst ess
      refine x_callS2 eX8_reverse_153 lk_X8_353 (Nat.le_of_ble_eq_true rfl) (Nat.le_of_ble_eq_true rfl) ?_
      refine W sa _ hsa S (fun h2 r _ => ?_)
      refine x_goto (tgt := 172) eX8_reverse_156 (by decide) ?_
      refine x_ret (rt := none) eX8_reverse_172 rfl ?_
      exact hq h2 r
  · subst z
    first | refine x_aload_n eX8_reverse_0 rfl rfl ?_ | refine x_aload_nN eX8_reverse_0 rfl rfl ?_
    first | refine x_getIe eX8_reverse_1 fk_X8_327 (by decide) (by assumption) (by assumption) ?_ | refine x_getI eX8_reverse_1 fk_X8_327 (by decide) (by assumption) ?_
    refine x_tabIn (off := 140) (tgt := 144) eX8_reverse_4 (by decide) (by decide) (by decide) (by decide) ?_
    first | refine x_aload_n eX8_reverse_144 rfl rfl ?_ | refine x_aload_nN eX8_reverse_144 rfl rfl ?_
    first | refine x_aload_n eX8_reverse_145 rfl rfl ?_ | refine x_aload_nN eX8_reverse_145 rfl rfl ?_
    first | refine x_aload_n eX8_reverse_146 rfl rfl ?_ | refine x_aload_nN eX8_reverse_146 rfl rfl ?_
    first | refine x_getIe eX8_reverse_147 fk_X8_337 (by decide) (by assumption) (by assumption) ?_ | refine x_getI eX8_reverse_147 fk_X8_337 (by decide) (by assumption) ?_
    refine x_callV1 eX8_reverse_150 lk_X8_149 (by assumption) (Nat.le_of_ble_eq_true rfl) (Nat.le_of_ble_eq_true rfl) ?_
    refine Rn.deep (c_X8_sailNumbered (d := d) C Wg (fun z _ => ?_) (fun s' sa es hs' hsa S _ => ?_)) (by omega)
    · rw [isS_of Wg hs] at z
      cases z
    · have ess : s = s' := (nI_eq (by omega) (by omega)).mp es
      subst ess
      refine x_callS2 eX8_reverse_153 lk_X8_353 (Nat.le_of_ble_eq_true rfl) (Nat.le_of_ble_eq_true rfl) ?_
      refine W sa _ hsa S (fun h2 r _ => ?_)
      refine x_goto (tgt := 172) eX8_reverse_156 (by decide) ?_
      refine x_ret (rt := none) eX8_reverse_172 rfl ?_
      exact hq h2 r
  · subst z
    first | refine x_aload_n eX8_reverse_0 rfl rfl ?_ | refine x_aload_nN eX8_reverse_0 rfl rfl ?_
    first | refine x_getIe eX8_reverse_1 fk_X8_327 (by decide) (by assumption) (by assumption) ?_ | refine x_getI eX8_reverse_1 fk_X8_327 (by decide) (by assumption) ?_
    refine x_tabIn (off := 140) (tgt := 144) eX8_reverse_4 (by decide) (by decide) (by decide) (by decide) ?_
    first | refine x_aload_n eX8_reverse_144 rfl rfl ?_ | refine x_aload_nN eX8_reverse_144 rfl rfl ?_
    first | refine x_aload_n eX8_reverse_145 rfl rfl ?_ | refine x_aload_nN eX8_reverse_145 rfl rfl ?_
    first | refine x_aload_n eX8_reverse_146 rfl rfl ?_ | refine x_aload_nN eX8_reverse_146 rfl rfl ?_
    first | refine x_getIe eX8_reverse_147 fk_X8_337 (by decide) (by assumption) (by assumption) ?_ | refine x_getI eX8_reverse_147 fk_X8_337 (by decide) (by assumption) ?_
    refine x_callV1 eX8_reverse_150 lk_X8_149 (by assumption) (Nat.le_of_ble_eq_true rfl) (Nat.le_of_ble_eq_true rfl) ?_
    refine Rn.deep (c_X8_sailNumbered (d := d) C Wg (fun z _ => ?_) (fun s' sa es hs' hsa S _ => ?_)) (by omega)
    · rw [isS_of Wg hs] at z
      cases z
    · have ess : s = s' := (nI_eq (by omega) (by omega)).mp es
      subst ess
      refine x_callS2 eX8_reverse_153 lk_X8_353 (Nat.le_of_ble_eq_true rfl) (Nat.le_of_ble_eq_true rfl) ?_
      refine W sa _ hsa S (fun h2 r _ => ?_)
      refine x_goto (tgt := 172) eX8_reverse_156 (by decide) ?_
      refine x_ret (rt := none) eX8_reverse_172 rfl ?_
      exact hq h2 r
  · subst z
    first | refine x_aload_n eX8_reverse_0 rfl rfl ?_ | refine x_aload_nN eX8_reverse_0 rfl rfl ?_
    first | refine x_getIe eX8_reverse_1 fk_X8_327 (by decide) (by assumption) (by assumption) ?_ | refine x_getI eX8_reverse_1 fk_X8_327 (by decide) (by assumption) ?_
    refine x_tabIn (off := 140) (tgt := 144) eX8_reverse_4 (by decide) (by decide) (by decide) (by decide) ?_
    first | refine x_aload_n eX8_reverse_144 rfl rfl ?_ | refine x_aload_nN eX8_reverse_144 rfl rfl ?_
    first | refine x_aload_n eX8_reverse_145 rfl rfl ?_ | refine x_aload_nN eX8_reverse_145 rfl rfl ?_
    first | refine x_aload_n eX8_reverse_146 rfl rfl ?_ | refine x_aload_nN eX8_reverse_146 rfl rfl ?_
    first | refine x_getIe eX8_reverse_147 fk_X8_337 (by decide) (by assumption) (by assumption) ?_ | refine x_getI eX8_reverse_147 fk_X8_337 (by decide) (by assumption) ?_
    refine x_callV1 eX8_reverse_150 lk_X8_149 (by assumption) (Nat.le_of_ble_eq_true rfl) (Nat.le_of_ble_eq_true rfl) ?_
    refine Rn.deep (c_X8_sailNumbered (d := d) C Wg (fun z _ => ?_) (fun s' sa es hs' hsa S _ => ?_)) (by omega)
    · rw [isS_of Wg hs] at z
      cases z
    · have ess : s = s' := (nI_eq (by omega) (by omega)).mp es
      subst ess
      refine x_callS2 eX8_reverse_153 lk_X8_353 (Nat.le_of_ble_eq_true rfl) (Nat.le_of_ble_eq_true rfl) ?_
      refine W sa _ hsa S (fun h2 r _ => ?_)
      refine x_goto (tgt := 172) eX8_reverse_156 (by decide) ?_
      refine x_ret (rt := none) eX8_reverse_172 rfl ?_
      exact hq h2 r
  · subst z
    first | refine x_aload_n eX8_reverse_0 rfl rfl ?_ | refine x_aload_nN eX8_reverse_0 rfl rfl ?_
    first | refine x_getIe eX8_reverse_1 fk_X8_327 (by decide) (by assumption) (by assumption) ?_ | refine x_getI eX8_reverse_1 fk_X8_327 (by decide) (by assumption) ?_
    refine x_tabIn (off := 140) (tgt := 144) eX8_reverse_4 (by decide) (by decide) (by decide) (by decide) ?_
    first | refine x_aload_n eX8_reverse_144 rfl rfl ?_ | refine x_aload_nN eX8_reverse_144 rfl rfl ?_
    first | refine x_aload_n eX8_reverse_145 rfl rfl ?_ | refine x_aload_nN eX8_reverse_145 rfl rfl ?_
    first | refine x_aload_n eX8_reverse_146 rfl rfl ?_ | refine x_aload_nN eX8_reverse_146 rfl rfl ?_
    first | refine x_getIe eX8_reverse_147 fk_X8_337 (by decide) (by assumption) (by assumption) ?_ | refine x_getI eX8_reverse_147 fk_X8_337 (by decide) (by assumption) ?_
    refine x_callV1 eX8_reverse_150 lk_X8_149 (by assumption) (Nat.le_of_ble_eq_true rfl) (Nat.le_of_ble_eq_true rfl) ?_
    refine Rn.deep (c_X8_sailNumbered (d := d) C Wg (fun z _ => ?_) (fun s' sa es hs' hsa S _ => ?_)) (by omega)
    · rw [isS_of Wg hs] at z
      cases z
    · have ess : s = s' := (nI_eq (by omega) (by omega)).mp es
      subst ess
      refine x_callS2 eX8_reverse_153 lk_X8_353 (Nat.le_of_ble_eq_true rfl) (Nat.le_of_ble_eq_true rfl) ?_
      refine W sa _ hsa S (fun h2 r _ => ?_)
      refine x_goto (tgt := 172) eX8_reverse_156 (by decide) ?_
      refine x_ret (rt := none) eX8_reverse_172 rfl ?_
      exact hq h2 r
set_option maxRecDepth 100000 in
set_option maxHeartbeats 4000000 in
theorem c_rvL {k : Nat} (C : Core ow h y g ld wd) (I : GI g) (kq : hk h q = 0) (e0 : hi h q 0 = nI k) (hk4 : 12 ≤ k) (hk8 : k ≤ 15) (e1 : hi h q 1 = nI s) (hs : s < nt (g 1)) (W : ∀ a Q', hr h (y + 2) s = some a → SailP ow h g s a → (∀ h2, R h2 → Q' none h2) → Rn G (d + 4) mX8_reverseSailing 0 [(0, .ref y), (1, .ref q), (2, .ref a)] [] h Q') (hq : ∀ h2, R h2 → Q none h2) : Rn G (d + 5) mX8_reverse 0 [(0, .ref y), (1, .ref q)] [] h Q := by
  have Wg := I.gw
  have h10 := Wg.2.1.2.2
  have ky := C.2.1.1.1
  have hout : (nI k).toInt < 0 ∨ (11 : Int) < (nI k).toInt := Or.inr (by rw [nI_toInt (by omega)]; omega)
  first | refine x_aload_n eX8_reverse_0 rfl rfl ?_ | refine x_aload_nN eX8_reverse_0 rfl rfl ?_
  first | refine x_getIe eX8_reverse_1 fk_X8_327 (by decide) (by assumption) (by assumption) ?_ | refine x_getI eX8_reverse_1 fk_X8_327 (by decide) (by assumption) ?_
  refine x_tabOut (tgt := 159) eX8_reverse_4 (by first | assumption | omega) (by decide) ?_
  first | refine x_aload_n eX8_reverse_159 rfl rfl ?_ | refine x_aload_nN eX8_reverse_159 rfl rfl ?_
  first | refine x_aload_n eX8_reverse_160 rfl rfl ?_ | refine x_aload_nN eX8_reverse_160 rfl rfl ?_
  first | refine x_aload_n eX8_reverse_161 rfl rfl ?_ | refine x_aload_nN eX8_reverse_161 rfl rfl ?_
  first | refine x_aload_n eX8_reverse_162 rfl rfl ?_ | refine x_aload_nN eX8_reverse_162 rfl rfl ?_
  first | refine x_getIe eX8_reverse_163 fk_X8_337 (by decide) (by assumption) (by assumption) ?_ | refine x_getI eX8_reverse_163 fk_X8_337 (by decide) (by assumption) ?_
  refine x_callV1 eX8_reverse_166 lk_X8_149 (by assumption) (Nat.le_of_ble_eq_true rfl) (Nat.le_of_ble_eq_true rfl) ?_
  refine Rn.deep (c_X8_sailNumbered (d := d) C Wg (fun z _ => ?_) (fun s' sa es hs' hsa S _ => ?_)) (by omega)
  · rw [isS_of Wg hs] at z
    cases z
  · have ess : s = s' := (nI_eq (by omega) (by omega)).mp es
    subst ess
    first | refine x_callV2 eX8_reverse_169 lk_X8_357 (by assumption) (Nat.le_of_ble_eq_true rfl) (Nat.le_of_ble_eq_true rfl) ?_ | refine x_callVw2 eX8_reverse_169 lk_X8_357 (by assumption) (Nat.le_of_ble_eq_true rfl) (Nat.le_of_ble_eq_true rfl) (Nat.le_of_ble_eq_true rfl) ?_
    refine W sa _ hsa S (fun h2 r _ => ?_)
    refine x_ret (rt := none) eX8_reverse_172 rfl ?_
    exact hq h2 r
set_option maxRecDepth 100000 in
set_option maxHeartbeats 4000000 in
theorem c_rvB2 {b k : Nat} (C : Core ow h y g ld wd) (I : GI g) (kq : hk h q = 0) (e0 : hi h q 0 = nI k) (hk4 : 1 ≤ k) (hk8 : k ≤ 2) (e1 : hi h q 1 = nI b) (hb : b < nt (g 0)) (W : ∀ a Q', hr h (y + 1) b = some a → BoltP ow h a b (bl g b) (fun k => liesV g (nI b) (nI k)) → (∀ h2, R h2 → Q' none h2) → Rn G (d + 4) mX8_reverseOnBolt 0 [(0, .ref q), (1, .ref a)] [] h Q') (hq : ∀ h2, R h2 → Q none h2) : Rn G (d + 5) mX8_reverse 0 [(0, .ref y), (1, .ref q)] [] h Q := by
  have Wg := I.gw
  have h24 := Wg.1.2.2
  have ky := C.2.1.1.1
  rcases (show k = 1 ∨ k = 2 by omega) with z | z
  · subst z
    first | refine x_aload_n eX8_reverse_0 rfl rfl ?_ | refine x_aload_nN eX8_reverse_0 rfl rfl ?_
    first | refine x_getIe eX8_reverse_1 fk_X8_327 (by decide) (by assumption) (by assumption) ?_ | refine x_getI eX8_reverse_1 fk_X8_327 (by decide) (by assumption) ?_
    refine x_tabIn (off := 79) (tgt := 83) eX8_reverse_4 (by decide) (by decide) (by decide) (by decide) ?_
    first | refine x_aload_n eX8_reverse_83 rfl rfl ?_ | refine x_aload_nN eX8_reverse_83 rfl rfl ?_
    first | refine x_aload_n eX8_reverse_84 rfl rfl ?_ | refine x_aload_nN eX8_reverse_84 rfl rfl ?_
    first | refine x_aload_n eX8_reverse_85 rfl rfl ?_ | refine x_aload_nN eX8_reverse_85 rfl rfl ?_
    first | refine x_getIe eX8_reverse_86 fk_X8_337 (by decide) (by assumption) (by assumption) ?_ | refine x_getI eX8_reverse_86 fk_X8_337 (by decide) (by assumption) ?_
    refine x_callV1 eX8_reverse_89 lk_X8_76 (by assumption) (Nat.le_of_ble_eq_true rfl) (Nat.le_of_ble_eq_true rfl) ?_
    refine Rn.deep (c_X8_boltNumbered (d := d) C Wg (fun z _ => ?_) (fun b' a eb hb' hba B _ => ?_)) (by omega)
    · rw [isB_of Wg hb] at z
      cases z
    · have ebb : b = b' := (nI_eq (by omega) (by omega)).mp eb
      subst ebb
      refine x_callS2 eX8_reverse_92 lk_X8_340 (Nat.le_of_ble_eq_true rfl) (Nat.le_of_ble_eq_true rfl) ?_
      refine W a _ hba B (fun h2 r _ => ?_)
      refine x_goto (tgt := 172) eX8_reverse_95 (by decide) ?_
      refine x_ret (rt := none) eX8_reverse_172 rfl ?_
      exact hq h2 r
  · subst z
    first | refine x_aload_n eX8_reverse_0 rfl rfl ?_ | refine x_aload_nN eX8_reverse_0 rfl rfl ?_
    first | refine x_getIe eX8_reverse_1 fk_X8_327 (by decide) (by assumption) (by assumption) ?_ | refine x_getI eX8_reverse_1 fk_X8_327 (by decide) (by assumption) ?_
    refine x_tabIn (off := 79) (tgt := 83) eX8_reverse_4 (by decide) (by decide) (by decide) (by decide) ?_
    first | refine x_aload_n eX8_reverse_83 rfl rfl ?_ | refine x_aload_nN eX8_reverse_83 rfl rfl ?_
    first | refine x_aload_n eX8_reverse_84 rfl rfl ?_ | refine x_aload_nN eX8_reverse_84 rfl rfl ?_
    first | refine x_aload_n eX8_reverse_85 rfl rfl ?_ | refine x_aload_nN eX8_reverse_85 rfl rfl ?_
    first | refine x_getIe eX8_reverse_86 fk_X8_337 (by decide) (by assumption) (by assumption) ?_ | refine x_getI eX8_reverse_86 fk_X8_337 (by decide) (by assumption) ?_
    refine x_callV1 eX8_reverse_89 lk_X8_76 (by assumption) (Nat.le_of_ble_eq_true rfl) (Nat.le_of_ble_eq_true rfl) ?_
    refine Rn.deep (c_X8_boltNumbered (d := d) C Wg (fun z _ => ?_) (fun b' a eb hb' hba B _ => ?_)) (by omega)
    · rw [isB_of Wg hb] at z
      cases z
    · have ebb : b = b' := (nI_eq (by omega) (by omega)).mp eb
      subst ebb
      refine x_callS2 eX8_reverse_92 lk_X8_340 (Nat.le_of_ble_eq_true rfl) (Nat.le_of_ble_eq_true rfl) ?_
      refine W a _ hba B (fun h2 r _ => ?_)
      refine x_goto (tgt := 172) eX8_reverse_95 (by decide) ?_
      refine x_ret (rt := none) eX8_reverse_172 rfl ?_
      exact hq h2 r
set_option maxRecDepth 100000 in
set_option maxHeartbeats 4000000 in
theorem sl_i16 {b k : Nat} (x : SX g s) (hb : b < 2) (hkb : k < nt (sl g s (16 + b))) : (sl g s (18 + 61 * b + k)).toInt16.toInt32 = sl g s (18 + 61 * b + k) := by
  have z := inR_int (x.2.2.2.2.2.2.2.2.1 b k hb hkb)
  have e1 : (-200 : Int32).toInt = -200 := by decide
  have e2 : (200 : Int32).toInt = 200 := by decide
  rw [e1, e2] at z
  exact i16_ok (by omega) (by omega)
set_option maxRecDepth 100000 in
set_option maxHeartbeats 4000000 in
/-- an act is undone -/
theorem c_X8_reverse (C : Core ow h y g ld wd) (Ig : GI g) (Ip : GI gp) (K : Link ow h q nx gp g) (hnx : nx < 16) (hq : ∀ h2, Rv G ow h y gp ld wd nx h2 → Q none h2) : Rn G (d + 5) mX8_reverse 0 [(0, .ref y), (1, .ref q)] [] h Q := by
  obtain ⟨oq, kq, L⟩ := K
  have ky := C.2.1.1.1
  have Wg := Ig.gw
  have Wp := Ip.gw
  have h24 := Wg.1.2.2
  have h10 := Wg.2.1.2.2
  have p24 := Wp.1.2.2
  have p10 := Wp.2.1.2.2
  obtain ⟨-, -, ⟨c1, c3⟩, -⟩ := id C
  rcases L with L | ⟨e0, b, n, e1, hb, hn2, rfl, RR⟩ | ⟨e0, s, b, n, e1, e2, hs, hb, hn61, h0, rfl, RR⟩ | ⟨e0, n, m, la, sq, iq, e2, e7, ol, kl, nl, hnm, hm, hh, rfl⟩
  rotate_left
  · have g0 : gRow gp b n 0 = gp 0 := by
      unfold gRow filG
      rw [if_neg (by omega), upd0_ne (by omega)]
    refine c_rvB2 C Ig kq e0 (by omega) (by omega) e1 (by rw [g0]; exact hb) (fun a Q' ha B hq' => ?_) hq
    exact c_rvRow kq e0 rfl B.2.1 (hq' _ (rv_row C Ig Ip hb hn2 hnx ha B RR))
  · have g1 : gEdge gp s b n 1 = gp 1 := by
      unfold gEdge filG
      rw [if_neg (by omega), upd0_ne (by omega)]
    have hs' : s < nt (gEdge gp s b n 1) := by rw [g1]; exact hs
    obtain ⟨w, x⟩ := Ig.2.2.1 s hs'
    refine c_rvM C Ig kq e0 (by omega) (by omega) e1 hs' (fun a Q' ha S hq' => ?_) hq
    exact c_rvEdge (d := d + 3) kq e0 e2 hb rfl S w x (fun l SB => hq' _ (rv_edge C Ig Ip hs h0 hb hn61 hnx ha S SB RR))
  · skip
    first | refine x_aload_n eX8_reverse_0 rfl rfl ?_ | refine x_aload_nN eX8_reverse_0 rfl rfl ?_
    first | refine x_getIe eX8_reverse_1 fk_X8_327 (by decide) (by assumption) (by assumption) ?_ | refine x_getI eX8_reverse_1 fk_X8_327 (by decide) (by assumption) ?_
    refine x_tabIn (off := 132) (tgt := 136) eX8_reverse_4 (by decide) (by decide) (by decide) (by decide) ?_
    first | refine x_aload_n eX8_reverse_136 rfl rfl ?_ | refine x_aload_nN eX8_reverse_136 rfl rfl ?_
    first | refine x_aload_n eX8_reverse_137 rfl rfl ?_ | refine x_aload_nN eX8_reverse_137 rfl rfl ?_
    refine x_callV1 eX8_reverse_138 lk_X8_350 (by assumption) (Nat.le_of_ble_eq_true rfl) (Nat.le_of_ble_eq_true rfl) ?_
    refine c_rvPlan C Ig oq hnx kq e2 e7 ol kl nl hnm hm hh (fun h2 P _ => ?_)
    refine x_goto (tgt := 172) eX8_reverse_141 (by decide) ?_
    refine x_ret (rt := none) eX8_reverse_172 rfl ?_
    exact hq h2 (Rv.pu C P)
  · rcases L with ⟨e0, w, l, gr, hn24, rfl⟩ | ⟨e0, b, k, v, e1, e2, e3, hb, hkb, rfl⟩ | ⟨e0, e1, e2, e3, e4, e5, hn10, rfl⟩ | ⟨e0, s, b, k, v, e1, e2, e3, e4, hs, hb, hkb, h0, rfl⟩ | ⟨e0, s, w, b, e1, hs, h0, rfl⟩ | ⟨e0, s, i, v, e1, e2, e3, hs, h1, hi4, rfl⟩ | ⟨e0, s, u, b, l, e1, hs, h1, hn40, rfl⟩ | ⟨e0, s, i, b, p, e1, e2, hs, hi4, hon, rfl⟩ | ⟨e0, s, i, e1, e2, e3, e4, hs, hi4, hon, rfl⟩ | ⟨e0, s, z, e1, e3, hs, rfl⟩ | ⟨e0, s, z, e1, e3, hs, rfl⟩ | ⟨e0, s, z, e1, hs, hl3, rfl⟩ | ⟨e0, s, e1, e2, e3, hs, htk, rfl⟩
    · have g0 : gBolt gp (nt (gp 0)) w l gr (-1) 0 = nI (nt (gp 0) + 1) := g0_gBolt ..
      first | refine x_aload_n eX8_reverse_0 rfl rfl ?_ | refine x_aload_nN eX8_reverse_0 rfl rfl ?_
      first | refine x_getIe eX8_reverse_1 fk_X8_327 (by decide) (by assumption) (by assumption) ?_ | refine x_getI eX8_reverse_1 fk_X8_327 (by decide) (by assumption) ?_
      refine x_tabIn (off := 64) (tgt := 68) eX8_reverse_4 (by decide) (by decide) (by decide) (by decide) ?_
      first | refine x_aload_n eX8_reverse_68 rfl rfl ?_ | refine x_aload_nN eX8_reverse_68 rfl rfl ?_
      refine x_iconst (v := nI 1) eX8_reverse_69 (by decide) ?_
      refine x_callV1 eX8_reverse_70 lk_X8_330 (by assumption) (Nat.le_of_ble_eq_true rfl) (Nat.le_of_ble_eq_true rfl) ?_
      refine Rn.deep (c_X8_dropBolts (d := d) (n := nt (gp 0) + 1) (k := 1) ky (c1.trans g0) (by omega) (by omega) (fun _ => ?_)) (by omega)
      rw [show nt (gp 0) + 1 - 1 = nt (gp 0) by omega]
      refine x_goto (tgt := 172) eX8_reverse_73 (by decide) ?_
      refine x_ret (rt := none) eX8_reverse_172 rfl ?_
      exact hq _ (rv_bolt C Ig Ip hn24)
    · have g0 : gWear gp b k v 0 = gp 0 := upd0_ne (by omega)
      have gb : ∀ c, c ≠ 6 + k → bl (gWear gp b k v) b c = bl gp b c := fun c hc => upd0_ne (by omega)
      have v8 : (bl gp b (6 + k)).toInt8.toInt32 = bl gp b (6 + k) := by
        obtain ⟨z1, -, z3⟩ := (Ip.2.1 b hb).2.2 k hkb
        rw [z1]
        exact i8_nI (by omega)
      refine c_rvB2 C Ig kq e0 (by omega) (by omega) e1 (by rw [g0]; exact hb) (fun a Q' ha B hq' => ?_) hq
      refine c_rvWear (d := d + 2) kq e0 e2 Ig (by rw [g0]; exact hb) (by rw [gb 3 (by omega)]; exact hkb) B (by rw [e3]; exact v8) (fun r er => ?_)
      rw [e3]
      exact hq' _ (rv_wear C Ig Ip hb hkb ha B er)
    · have g1 : gSail gp (nt (gp 1)) e1 e2 e3 e4 e5 1 = nI (nt (gp 1) + 1) := gSail_1
      first | refine x_aload_n eX8_reverse_0 rfl rfl ?_ | refine x_aload_nN eX8_reverse_0 rfl rfl ?_
      first | refine x_getIe eX8_reverse_1 fk_X8_327 (by decide) (by assumption) (by assumption) ?_ | refine x_getI eX8_reverse_1 fk_X8_327 (by decide) (by assumption) ?_
      refine x_tabIn (off := 72) (tgt := 76) eX8_reverse_4 (by decide) (by decide) (by decide) (by decide) ?_
      first | refine x_aload_n eX8_reverse_76 rfl rfl ?_ | refine x_aload_nN eX8_reverse_76 rfl rfl ?_
      refine x_callV0 eX8_reverse_77 lk_X8_334 (by assumption) (Nat.le_of_ble_eq_true rfl) (Nat.le_of_ble_eq_true rfl) ?_
      refine Rn.deep (c_X8_dropSail (d := d) (n := nt (gp 1)) C (c3.trans g1) hn10 (fun _ => ?_)) (by omega)
      refine x_goto (tgt := 172) eX8_reverse_80 (by decide) ?_
      refine x_ret (rt := none) eX8_reverse_172 rfl ?_
      exact hq _ (rv_sail C Ig Ip rfl hn10)
    · have g1 : gStand gp s b k v 1 = gp 1 := upd0_ne (by omega)
      have hs' : s < nt (gStand gp s b k v 1) := by rw [g1]; exact hs
      obtain ⟨w, x⟩ := Ig.2.2.1 s hs'
      have e16 : sl (gStand gp s b k v) s (16 + b) = sl gp s (16 + b) := upd0_ne (by omega)
      refine c_rvM C Ig kq e0 (by omega) (by omega) e1 hs' (fun a Q' ha S hq' => ?_) hq
      exact c_rvStand (d := d + 2) kq e0 e2 hb e4 e3 (sl_i16 (Ip.2.2.1 s hs).2 hb hkb) (by rw [e16]; exact hkb) S w x (fun l r SB er => hq' _ (rv_stand C Ig Ip hs h0 hb hkb hnx ha S SB er))
    · have g1 : gCut gp s w b 1 = gp 1 := by
        unfold gCut
        rw [upd0_ne (by omega), upd0_ne (by omega), upd0_ne (by omega), upd0_ne (by omega)]
      have hs' : s < nt (gCut gp s w b 1) := by rw [g1]; exact hs
      obtain ⟨w', x⟩ := Ig.2.2.1 s hs'
      refine c_rvM C Ig kq e0 (by omega) (by omega) e1 hs' (fun a Q' ha S hq' => ?_) hq
      exact c_rvCut (d := d + 3) kq e0 S w' x (hq' _ (rv_cut C Ig Ip hs hnx h0 ha S))
    · have g1 : gNar gp s i v 1 = gp 1 := upd0_ne (by omega)
      have hs' : s < nt (gNar gp s i v 1) := by rw [g1]; exact hs
      obtain ⟨w', x⟩ := Ig.2.2.1 s hs'
      have e8 : sl (gNar gp s i v) s 8 = sl gp s 8 := upd0_ne (by omega)
      refine c_rvM C Ig kq e0 (by omega) (by omega) e1 hs' (fun a Q' ha S hq' => ?_) hq
      exact c_rvNar (d := d + 3) kq e0 e2 e3 (by unfold np; rw [e8]; omega) S w' x (fun p hpa P => hq' _ (rv_narrow C Ig Ip hs hnx hi4 ha S hpa P))
    · have g1 : gPat gp s u b l 1 = gp 1 := by
        unfold gPat
        rw [upd0_ne (by omega), upd0_ne (by omega), upd0_ne (by omega), upd0_ne (by omega)]
      have hs' : s < nt (gPat gp s u b l 1) := by rw [g1]; exact hs
      obtain ⟨w', x⟩ := Ig.2.2.1 s hs'
      have enp := gPat_np (u := u) (b := b) (l := l) (Ip.2.2.1 s hs).1 hn40
      have e8 : sl (gPat gp s u b l) s 8 = sl gp s 8 := by
        show gPat gp s u b l (5050 + 390 * s + 8) = _
        unfold gPat
        rw [upd0_ne (by omega), upd0_ne (by omega), upd0_ne (by omega), upd0_ne (by omega)]
        rfl
      have i8 := (Ip.2.2.1 s hs).1.2.2.1.1
      have u8 : nt (sl gp s 8) ≤ np gp s := Nat.le_add_right _ _
      refine c_rvM C Ig kq e0 (by omega) (by omega) e1 hs' (fun a Q' ha S hq' => ?_) hq
      refine c_rvPat (d := d + 3) (m := nt (sl gp s 8)) (n := np gp s + 1) kq e0 S w' x (by rw [S.2.1.2.1, e8]; exact i8) (by rw [S.2.1.2.2.1, enp]) (by omega) (by omega) ?_
      rw [show np gp s + 1 - 1 = np gp s by omega]
      exact hq' _ (rv_patch C Ig Ip hs hnx hn40 ha S h1)
    · have g1 : gPut gp s i b p 1 = gp 1 := gPut_lo gp s i b p (by omega)
      have i40 : i < 40 := Nat.lt_of_lt_of_le hi4 ((Ip.2.2.1 s hs).1.2.2.2.2.1)
      have enp : np (gPut gp s i b p) s = np gp s := np_lo (gPut_SE _ _ _ i40 s)
      have eg : gPut (gPut gp s i b p) s i (-1) (-1) = gp := gPut_gPut.trans (gPut_id hon ((Ip.2.2.1 s hs).2.2.2.2.2.1 i hi4 hon))
      first | refine x_aload_n eX8_reverse_0 rfl rfl ?_ | refine x_aload_nN eX8_reverse_0 rfl rfl ?_
      first | refine x_getIe eX8_reverse_1 fk_X8_327 (by decide) (by assumption) (by assumption) ?_ | refine x_getI eX8_reverse_1 fk_X8_327 (by decide) (by assumption) ?_
      refine x_tabIn (off := 94) (tgt := 98) eX8_reverse_4 (by decide) (by decide) (by decide) (by decide) ?_
      first | refine x_aload_n eX8_reverse_98 rfl rfl ?_ | refine x_aload_nN eX8_reverse_98 rfl rfl ?_
      first | refine x_aload_n eX8_reverse_99 rfl rfl ?_ | refine x_aload_nN eX8_reverse_99 rfl rfl ?_
      first | refine x_getIe eX8_reverse_100 fk_X8_337 (by decide) (by assumption) (by assumption) ?_ | refine x_getI eX8_reverse_100 fk_X8_337 (by decide) (by assumption) ?_
      first | refine x_aload_n eX8_reverse_103 rfl rfl ?_ | refine x_aload_nN eX8_reverse_103 rfl rfl ?_
      first | refine x_getIe eX8_reverse_104 fk_X8_344 (by decide) (by assumption) (by assumption) ?_ | refine x_getI eX8_reverse_104 fk_X8_344 (by decide) (by assumption) ?_
      first | refine x_callV2 eX8_reverse_107 lk_X8_244 (by assumption) (Nat.le_of_ble_eq_true rfl) (Nat.le_of_ble_eq_true rfl) ?_ | refine x_callVw2 eX8_reverse_107 lk_X8_244 (by assumption) (Nat.le_of_ble_eq_true rfl) (Nat.le_of_ble_eq_true rfl) (Nat.le_of_ble_eq_true rfl) ?_
      refine Rn.deep (c_X8_pickUpA (d := d) C Ig (by rw [g1]; exact hs) (by rw [enp]; exact hi4) (fun h2 P _ => ?_)) (by omega)
      refine x_goto (tgt := 172) eX8_reverse_110 (by decide) ?_
      refine x_ret (rt := none) eX8_reverse_172 rfl ?_
      rw [eg] at P
      exact hq h2 (Rv.pu C P)
    · have g1 : gPut gp s i (-1) (-1) 1 = gp 1 := gPut_lo gp s i _ _ (by omega)
      have g0 : gPut gp s i (-1) (-1) 0 = gp 0 := gPut_lo gp s i _ _ (by omega)
      obtain ⟨wp, xp⟩ := Ip.2.2.1 s hs
      have i40 : i < 40 := Nat.lt_of_lt_of_le hi4 wp.2.2.2.2.1
      have enp : np (gPut gp s i (-1) (-1)) s = np gp s := np_lo (gPut_SE _ _ _ i40 s)
      have eln : lenV (gPut gp s i (-1) (-1)) s i = lenV gp s i := lenV_lo (gPut_SE _ _ _ i40 s) wp i40
      obtain ⟨zb, zb0⟩ := (wp.2.2.2.2.2.2.2.2.2.2.2.2.2 i hi4).resolve_left hon
      obtain ⟨b1, b2, b3⟩ := Ip.2.2.2.1 s i hs hi4 hon
      obtain ⟨bn, hbn⟩ : ∃ bn, bn = nt (sl gp s (300 + i)) := ⟨_, rfl⟩
      obtain ⟨pn, hpn⟩ : ∃ pn, pn = nt (sl gp s (340 + i)) := ⟨_, rfl⟩
      have eb : sl gp s (300 + i) = nI bn := by rw [hbn]; exact zb.1
      have ep : sl gp s (340 + i) = nI pn := by rw [hpn]; exact b1.1
      have lb : bn < nt (gp 0) := by have := zb.2.2; omega
      have lp : pn ≤ 200 := by have := b1.2.2; omega
      have ll := b2.2.2
      have e3' : hi h q 3 = nI bn := e3.trans eb
      have e4' : hi h q 4 = nI pn := e4.trans ep
      clear e3 e4
      rw [← hbn, ← hpn] at b3
      have eg : gPut (gPut gp s i (-1) (-1)) s i (nI bn) (nI pn) = gp := gPut_gPut.trans (gPut_id eb ep)
      first | refine x_aload_n eX8_reverse_0 rfl rfl ?_ | refine x_aload_nN eX8_reverse_0 rfl rfl ?_
      first | refine x_getIe eX8_reverse_1 fk_X8_327 (by decide) (by assumption) (by assumption) ?_ | refine x_getI eX8_reverse_1 fk_X8_327 (by decide) (by assumption) ?_
      refine x_tabIn (off := 109) (tgt := 113) eX8_reverse_4 (by decide) (by decide) (by decide) (by decide) ?_
      first | refine x_aload_n eX8_reverse_113 rfl rfl ?_ | refine x_aload_nN eX8_reverse_113 rfl rfl ?_
      first | refine x_aload_n eX8_reverse_114 rfl rfl ?_ | refine x_aload_nN eX8_reverse_114 rfl rfl ?_
      first | refine x_getIe eX8_reverse_115 fk_X8_337 (by decide) (by assumption) (by assumption) ?_ | refine x_getI eX8_reverse_115 fk_X8_337 (by decide) (by assumption) ?_
      first | refine x_aload_n eX8_reverse_118 rfl rfl ?_ | refine x_aload_nN eX8_reverse_118 rfl rfl ?_
      first | refine x_getIe eX8_reverse_119 fk_X8_344 (by decide) (by assumption) (by assumption) ?_ | refine x_getI eX8_reverse_119 fk_X8_344 (by decide) (by assumption) ?_
      first | refine x_aload_n eX8_reverse_122 rfl rfl ?_ | refine x_aload_nN eX8_reverse_122 rfl rfl ?_
      first | refine x_getIe eX8_reverse_123 fk_X8_347 (by decide) (by assumption) (by assumption) ?_ | refine x_getI eX8_reverse_123 fk_X8_347 (by decide) (by assumption) ?_
      first | refine x_aload_n eX8_reverse_126 rfl rfl ?_ | refine x_aload_nN eX8_reverse_126 rfl rfl ?_
      first | refine x_getIe eX8_reverse_127 fk_X8_143 (by decide) (by assumption) (by assumption) ?_ | refine x_getI eX8_reverse_127 fk_X8_143 (by decide) (by assumption) ?_
      refine x_callV4 eX8_reverse_130 lk_X8_241 (by assumption) (Nat.le_of_ble_eq_true rfl) (Nat.le_of_ble_eq_true rfl) ?_
      refine Rn.deep (c_X8_putDown (d := d) C Ig (by rw [g1]; exact hs) (by rw [enp]; exact hi4) (by rw [g0]; exact lb) (gPut_on gp _ _ i40) (by rw [eln, gPut_bl gp _ _ (by omega) (by omega)]; exact b3) (fun k k1 k2 => ?_) (fun h2 P _ => ?_)) (by omega)
      · rw [eln] at k2
        rw [lies_pick Ip hs hi4 eb (by omega) (by omega) (by omega), if_pos ⟨rfl, by rw [← hpn]; exact k1, by rw [← hpn]; exact k2⟩]
      · rw [eg] at P
        refine x_goto (tgt := 172) eX8_reverse_133 (by decide) ?_
        refine x_ret (rt := none) eX8_reverse_172 rfl ?_
        exact hq h2 (Rv.pu C ⟨P.1, P.2.1.mono (fun t ht => by unfold puT; rcases ht with e | e | e <;> omega), P.2.2⟩)
    · have g1 : gSet gp s z 1 = gp 1 := upd0_ne (by omega)
      have hs' : s < nt (gSet gp s z 1) := by rw [g1]; exact hs
      obtain ⟨z1, -, z3⟩ := (Ip.2.2.1 s hs).1.2.2.2.2.2.2.2.2.2.1
      refine c_rvL C Ig kq e0 (by omega) (by omega) e1 hs' (fun a Q' ha S hq' => ?_) hq
      refine c_rvSet (v := nt (sl gp s 11)) kq e0 (e3.trans z1) (by omega) S.1.2.1 ?_
      rw [← z1]
      exact hq' _ (rv_set C Ig hs hnx ha S)
    · have g1 : gReef gp s z 1 = gp 1 := upd0_ne (by omega)
      have hs' : s < nt (gReef gp s z 1) := by rw [g1]; exact hs
      refine c_rvL C Ig kq e0 (by omega) (by omega) e1 hs' (fun a Q' ha S hq' => ?_) hq
      exact c_rvReef kq e0 e3 S.1.2.1 (hq' _ (rv_reef C Ig hs hnx ha S))
    · have g1 : gLine gp s z 1 = gp 1 := by
        unfold gLine
        rw [upd0_ne (by omega), upd0_ne (by omega)]
      have hs' : s < nt (gLine gp s z 1) := by rw [g1]; exact hs
      have e12 : sl (gLine gp s z) s 12 = nI (nt (sl gp s 12) + 1) := upd0_same _ _ _
      have z1 := (Ip.2.2.1 s hs).1.2.2.2.2.2.2.2.2.2.2.1.1
      refine c_rvL C Ig kq e0 (by omega) (by omega) e1 hs' (fun a Q' ha S hq' => ?_) hq
      refine c_rvLine (d := d + 3) (n := nt (sl gp s 12)) kq e0 S.1.2.1 (by rw [S.2.2.2.2.1]; exact e12) hl3 ?_
      rw [← z1]
      exact hq' _ (rv_line C Ig Ip hs hnx hl3 ha S)
    · obtain ⟨z1, -, z3⟩ := (Ip.2.2.1 s hs).1.2.2.2.2.2.2.2.2.2.1
      have t0 : gTake gp s 0 = nI (nt (gp 0) + np gp s) := by
        unfold gTake
        rw [upd0_ne (by omega), upd0_ne (by omega)]
        exact g0_gTk gp s Ip.1.1.1
      have t1 : gTake gp s 1 = gp 1 := by
        unfold gTake
        rw [upd0_ne (by omega), upd0_ne (by omega)]
        exact gTk_1
      unfold takOK isC at htk
      simp only [Bool.and_eq_true, decide_eq_true_eq] at htk
      obtain ⟨⟨-, h1⟩, -, hmb⟩ := htk
      rw [nt_nI (by omega)] at h1 hmb
      have hs' : s < nt (gTake gp s 1) := by rw [t1]; exact hs
      have oy := C.2.1.1.2.2.2.2.2
      refine c_rvL C Ig kq e0 (by omega) (by omega) e1 hs' (fun a Q' ha S hq' => ?_) hq
      have oa := S.1.1
      refine c_rvTake (d := d + 2) (v := nt (sl gp s 11)) (n := nt (gp 0)) kq e0 (e3.trans z1) (by omega) e2 S.1.2.1 ky (fun z => by rw [z, oy] at oq; omega) (fun z => by rw [z, oa] at oq; omega) (c1.trans t0) hmb ?_
      rw [← z1]
      exact hq' _ (rv_take C Ig Ip hs h1 hmb hnx ha S)
end UNDO6

