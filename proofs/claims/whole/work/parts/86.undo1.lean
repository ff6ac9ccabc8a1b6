/-! ===== undo: bolts and sails go ===== -/
section UNDO1
variable {G : GG} {d : Nat} {h h2 : AH} {Q : Option Value → AH → Prop} {ow o2 : Nat → Nat} {y : Nat} {g gp ld wd : Nat → Int32} {nx s a : Nat} {T : Nat → Prop}
def rvT (n t : Nat) : Prop := (t < 2000 ∧ t ≠ 13 ∧ t ≠ 4) ∨ aT n t
/-- how the undoing of an act leaves the class -/
def Rv (G : GG) (ow : Nat → Nat) (h : AH) (y : Nat) (gp ld wd : Nat → Int32) (n : Nat) (h2 : AH) : Prop := ∃ o2, Core o2 h2 y gp ld wd ∧ Fr (rvT n) ow h o2 h2 ∧ (hi h2 y 6 = hi h y 6 ∧ hi h2 y 7 = hi h y 7) ∧ hr h2 (y + 7) = hr h (y + 7) ∧ hz h2 = hz h ∧ us G h2 = us G h
set_option maxRecDepth 100000 in
set_option maxHeartbeats 4000000 in
theorem Rv.sail (C : Core ow h y g ld wd) (W : GW g) (hs : s < nt (g 1)) (hnx : nx < 16) (F : Fr (fun t => sT s t ∨ aT nx t) ow h o2 h2) (x : Ext h h2) (L2 : Lv o2 h2) (to : To ow o2) (hzu : hz h2 = hz h ∧ us G h2 = us G h) (ge : ∀ j, (j < 5050 + 390 * s ∨ 5050 + 390 * s + 390 ≤ j) → gp j = g j) (el : ∀ i k, i < nt (g 0) → k < nt (bl g i 1) → liesV gp (nI i) (nI k) = liesV g (nI i) (nI k)) (S : SailR o2 h2 y gp s) : Rv G ow h y gp ld wd nx h2 := by
  obtain ⟨C1, C2, C3, -⟩ := id C
  have h10 := W.2.1.2.2
  have q1 := F.at_ C2.1.2.2.2.2.2 (by decide) (fun z => by unfold sT aT at z; omega)
  have q7 := F.at_ C2.2.2.2.2.2.2.2.2.2 (by decide) (fun z => by unfold sT aT at z; omega)
  refine ⟨o2, C.sail (n := nx) W hs (F.mono (fun t ht => ?_)) x L2 to (fun k => by rw [q1.2.2.2.2.1]) (by rw [q1.2.2.2.1]; exact C3.1) (by rw [q1.2.2.2.1]; exact C3.2) ge el S, F.mono (fun t ht => ?_), ⟨by rw [q1.2.2.2.1], by rw [q1.2.2.2.1]⟩, q7.2.2.2.2.1, hzu.1, hzu.2⟩
  · rcases ht with z | z
    · exact Or.inr (Or.inr (Or.inr z))
    · exact Or.inr (Or.inr (Or.inl z))
  · rcases ht with z | z
    · exact Or.inl (by unfold sT at z; omega)
    · exact Or.inr z
set_option maxRecDepth 100000 in
set_option maxHeartbeats 4000000 in
theorem c_X8_dropBolts {n k : Nat} (ky : hk h y = 7) (e1 : hi h y 1 = nI n) (hkn : k ≤ n) (hn24 : n ≤ 24) (hq : Q none (wi h y 1 (nI (n - k)))) : Rn G (d + 1) mX8_dropBolts 0 [(0, .ref y), (1, .int (nI k))] [] h Q := by
  have em : (if nI 0 < nI (n - k) then nI (n - k) else nI 0) = nI (n - k) := by
    rcases Nat.eq_zero_or_pos (n - k) with z | z
    · rw [z, if_neg (nI_nlt (Nat.le_refl _) (by omega))]
    · rw [if_pos (nI_lt z (by omega))]
  first | refine x_aload_n eX8_dropBolts_0 rfl rfl ?_ | refine x_aload_nN eX8_dropBolts_0 rfl rfl ?_
  refine x_iconst (v := nI 0) eX8_dropBolts_1 (by decide) ?_
  first | refine x_aload_n eX8_dropBolts_2 rfl rfl ?_ | refine x_aload_nN eX8_dropBolts_2 rfl rfl ?_
  first | refine x_getIe eX8_dropBolts_3 fk_X8_15 (by decide) (by assumption) (by assumption) ?_ | refine x_getI eX8_dropBolts_3 fk_X8_15 (by decide) (by assumption) ?_
  refine x_iload_n eX8_dropBolts_6 rfl rfl ?_
  first | refine x_isubN eX8_dropBolts_7 (by with_reducible rfl) (by with_reducible rfl) (by omega) ?_ | refine x_isub eX8_dropBolts_7 ?_
  refine x_max eX8_dropBolts_8 lk_X8_376 (Nat.le_of_ble_eq_true rfl) ?_
  rw [em]
  refine x_putI eX8_dropBolts_11 fk_X8_15 (by decide) rfl ⟨_, rfl, Or.inl rfl⟩ (by assumption) ?_
  refine x_ret (rt := none) eX8_dropBolts_14 rfl ?_
  exact hq
set_option maxRecDepth 100000 in
set_option maxHeartbeats 4000000 in
/-- fewer bolts -/
theorem Core.fewer {m : Nat} (C : Core ow h y g ld wd) (Wp : gp 0 = nI m) (hm : nt (gp 0) = m) (hmg : m ≤ nt (g 0)) (e1 : gp 1 = g 1) (ebl : ∀ b c, b < m → c < 206 → bl gp b c = bl g b c) (esl : ∀ s c, s < nt (g 1) → c < 390 → sl gp s c = sl g s c) (Wg : GW g) : Core ow (wi h y 1 (nI m)) y gp ld wd ∧ Fr (fun t => t = 1) ow h ow (wi h y 1 (nI m)) := by
  obtain ⟨C1, C2, C3, C4, C5, C6, -⟩ := id C
  have o1 := C2.1.2.2.2.2.2
  have h24 := Wg.1.2.2
  have h10 := Wg.2.1.2.2
  have F : Fr (fun t => t = 1) ow h ow (wi h y 1 (nI m)) := Fr.wi o1
  have iy : hi (wi h y 1 (nI m)) y = upd0 (hi h y) 1 (nI m) := by
    show up2 (hi h) y 1 _ y = _
    rw [up2_at]
  refine ⟨C.up F (Ext.wi _ _ _ _) C1 To.rf (fun _ => rfl) (fun t h1 h2 h3 z => by omega) (by rw [iy, upd0_same, Wp]) (by rw [iy, upd0_ne (by decide), e1]; exact C3.2) (fun i hi => (C4 i hi).fr F (by omega) (by omega) rfl) (fun i hi => ?_) (fun t ht => ?_), F⟩
  · rw [hm] at hi
    exact (C5 i (by omega)).fr F (by omega) (by omega) (by omega) (Wg.2.2.1 i (by omega)) rfl (fun c hc => ebl i c hi hc) (fun k hk => LE.lies Wg e1 (fun t ht => LE.all (fun c hc => esl t c ht hc) (Wg.2.2.2 t ht).2.2.2.2.1))
  · rw [e1] at ht
    exact (C6 t ht).fr F (fun u hu z => by unfold sT at hu; omega) (Wg.2.2.2 t ht) rfl (fun c hc => esl t c ht hc)
set_option maxRecDepth 100000 in
set_option maxHeartbeats 4000000 in
theorem rv_bolt {w l gr f : Int32} (C : Core ow h y (gBolt gp (nt (gp 0)) w l gr f) ld wd) (Ig : GI (gBolt gp (nt (gp 0)) w l gr f)) (Ip : GI gp) (hn24 : nt (gp 0) < 24) : Rv G ow h y gp ld wd nx (wi h y 1 (nI (nt (gp 0)))) := by
  obtain ⟨C', F⟩ := C.fewer Ip.1.1.1 rfl (by rw [g0_gBolt, nt_nI (by omega)]; omega) gBolt_1.symm (fun b c hb hc => (bl_gBolt gp hb w l gr f (by omega)).symm) (fun s c _ _ => (sl_gBolt gp hn24 w l gr f s c).symm) Ig.gw
  have hne : ∀ k, k ≠ 1 → hi (wi h y 1 (nI (nt (gp 0)))) y k = hi h y k := fun k hk => up2_k (f := hi h) hk
  exact ⟨ow, C', F.mono (fun t ht => Or.inl (by omega)), ⟨hne 6 (by decide), hne 7 (by decide)⟩, rfl, rfl, rfl⟩
set_option maxRecDepth 100000 in
set_option maxHeartbeats 4000000 in
theorem rv_sail {n : Nat} {e1 e2 e3 e4 e5 : Int32} (C : Core ow h y (gSail gp n e1 e2 e3 e4 e5) ld wd) (Ig : GI (gSail gp n e1 e2 e3 e4 e5)) (Ip : GI gp) (en : n = nt (gp 1)) (hn10 : n < 10) : Rv G ow h y gp ld wd nx (wq (wi h y 3 (nI n)) (y + 2) n none) := by
  obtain ⟨C1, C2, C3, C4, C5, C6, -⟩ := id C
  have o1 := C2.1.2.2.2.2.2
  have o3 := C2.2.2.1.2.2
  have Wg := Ig.gw
  have h24 := Wg.1.2.2
  have g0 : gSail gp n e1 e2 e3 e4 e5 0 = gp 0 := gSail_ne (by omega) (by omega)
  have g1 : nt (gSail gp n e1 e2 e3 e4 e5 1) = n + 1 := by rw [gSail_1, nt_nI (by omega)]
  have F : Fr (fun t => t = 1 ∨ t = 3) ow h ow (wq (wi h y 3 (nI n)) (y + 2) n none) := Fr.tr (Fr.wi (Or.inl o1)) (Fr.wq (Or.inr o3))
  have iy : hi (wq (wi h y 3 (nI n)) (y + 2) n none) y = upd0 (hi h y) 3 (nI n) := by
    show up2 (hi h) y 3 _ y = _
    rw [up2_at]
  have r2 : ∀ k, k ≠ n → hr (wq (wi h y 3 (nI n)) (y + 2) n none) (y + 2) k = hr h (y + 2) k := fun k hk => up2_k (f := hr h) hk
  have rq : ∀ q, q ≠ y + 2 → hr (wq (wi h y 3 (nI n)) (y + 2) n none) q = hr h q := fun q hq => up2_a (f := hr h) hq
  rw [g0] at h24
  refine ⟨ow, C.up F ⟨Nat.le_refl _, fun _ _ => rfl⟩ C1 To.rf (fun k => by rw [rq y (by omega)]) (fun t h1 h2 h3 z => by omega) (by rw [iy, upd0_ne (by decide), ← g0]; exact C3.1) (by rw [iy, upd0_same, en]; exact Ip.1.2.1.symm) (fun i hi => (C4 i hi).fr F (by omega) (by omega) (by rw [rq (y + 1) (by omega)])) (fun i hi => ?_) (fun t ht => ?_), F.mono (fun t ht => Or.inl (by omega)), ⟨by rw [iy, upd0_ne (by decide)], by rw [iy, upd0_ne (by decide)]⟩, rq (y + 7) (by omega), rfl, rfl⟩
  · exact (C5 i (by rw [g0]; exact hi)).fr F (by omega) (by omega) (by omega) (Wg.2.2.1 i (by rw [g0]; exact hi)) (by rw [rq (y + 1) (by omega)]) (fun c hc => (gSail_ne (q := 10 + 210 * i + c) (by omega) (by omega)).symm) (fun k hk => (gSail_lies Ip.gw en hn10).symm)
  · exact (C6 t (by omega)).fr F (fun u hu z => by unfold sT at hu; omega) (Wg.2.2.2 t (by omega)) (r2 t (by omega)) (fun c hc => (gSail_ne (q := 5050 + 390 * t + c) (by omega) (by omega)).symm)
set_option maxRecDepth 100000 in
set_option maxHeartbeats 4000000 in
theorem c_X8_dropSail {n : Nat} (C : Core ow h y g ld wd) (e3 : hi h y 3 = nI (n + 1)) (hn10 : n < 10) (hq : Q none (wq (wi h y 3 (nI n)) (y + 2) n none)) : Rn G d mX8_dropSail 0 [(0, .ref y)] [] h Q := by
  obtain ⟨⟨s1, s2, s3, s4, s5, s6⟩, -, ⟨b1, b2, b3⟩, -⟩ := id C.2.1
  have i3 : hi (wi h y 3 (nI n)) y 3 = nI n := by
    show up2 (hi h) y 3 _ y 3 = _
    rw [up2_same]
  first | refine x_aload_n eX8_dropSail_0 rfl rfl ?_ | refine x_aload_nN eX8_dropSail_0 rfl rfl ?_
  first | refine x_getIe eX8_dropSail_1 fk_X8_25 (by decide) (by assumption) (by assumption) ?_ | refine x_getI eX8_dropSail_1 fk_X8_25 (by decide) (by assumption) ?_
  refine x_if_le (tgt := 27) eX8_dropSail_4 (by decide) (fun cq1 => ?_) (fun cq1 => ?_)
  · exact absurd cq1 (nI_nle (by omega) (by omega))
  · first | refine x_aload_n eX8_dropSail_7 rfl rfl ?_ | refine x_aload_nN eX8_dropSail_7 rfl rfl ?_
    refine x_dup eX8_dropSail_8 rfl ?_
    first | refine x_getIe eX8_dropSail_9 fk_X8_25 (by decide) (by assumption) (by assumption) ?_ | refine x_getI eX8_dropSail_9 fk_X8_25 (by decide) (by assumption) ?_
    refine x_iconst (v := nI 1) eX8_dropSail_12 (by decide) ?_
    first | refine x_isubN eX8_dropSail_13 (by with_reducible rfl) (by with_reducible rfl) (by omega) ?_ | refine x_isub eX8_dropSail_13 ?_
    refine x_putI eX8_dropSail_14 fk_X8_25 (by decide) rfl ⟨_, rfl, Or.inl rfl⟩ (by assumption) ?_
    first | refine x_aload_n eX8_dropSail_17 rfl rfl ?_ | refine x_aload_nN eX8_dropSail_17 rfl rfl ?_
    first | refine x_getR eX8_dropSail_18 fk_X8_21 rfl (by assumption) (by assumption) ?_ | refine x_getN eX8_dropSail_18 fk_X8_21 rfl (by assumption) (by assumption) ?_
    first | refine x_aload_n eX8_dropSail_21 rfl rfl ?_ | refine x_aload_nN eX8_dropSail_21 rfl rfl ?_
    first | refine x_getIe eX8_dropSail_22 fk_X8_25 (by decide) (by assumption) (by assumption) ?_ | refine x_getI eX8_dropSail_22 fk_X8_25 (by decide) (by assumption) ?_
    refine x_null eX8_dropSail_25 ?_
    first | refine x_aastRN eX8_dropSail_26 (by with_reducible rfl) (by assumption) (by decide) rfl rfl (by assumption) (by assumption) (by omega) (by omega) ?_ | refine x_aastNN eX8_dropSail_26 (by with_reducible rfl) (by assumption) (by decide) (by assumption) (by omega) (by omega) ?_
    refine x_ret (rt := none) eX8_dropSail_27 rfl ?_
    exact hq
set_option maxRecDepth 100000 in
set_option maxHeartbeats 4000000 in
/-- a bolt has its row of before -/
theorem rv_row {b n : Nat} {ro : Option Nat} (C : Core ow h y (gRow gp b n) ld wd) (Ig : GI (gRow gp b n)) (Ip : GI gp) (hb : b < nt (gp 0)) (hn2 : n ≤ 200) (hnx : nx < 16) (ha : hr h (y + 1) b = some a) (B : BoltP ow h a b (bl (gRow gp b n) b) (fun k => liesV (gRow gp b n) (nI b) (nI k))) (R : RowR ow h 21 (2100 + nx) ro (nt (bl gp b 3)) (fun k => bl gp b (6 + k))) : Rv G ow h y gp ld wd nx (wq h a 4 ro) := by
  obtain ⟨C1, C2, C3, C4, C5, C6, -⟩ := id C
  have Wg := Ig.gw
  have Wp := Ip.gw
  have h24 := Wp.1.2.2
  have h10 := Wp.2.1.2.2
  obtain ⟨⟨s1, s2, s3, s4, s5, s6⟩, ⟨-, -, b3⟩, ⟨-, -, c3⟩, -, -, -, -, ⟨t1, t2, t3⟩⟩ := id C2
  obtain ⟨oa, ka, e0, e1, ef, e3, hrow, c, ec, oc, kc, nc, e5, eL⟩ := id B
  have gb := fun c (hc : c < 206) => gRow_bl (g := gp) (j := b) (n := n) hc hn2
  have nya : y ≠ a := fun z => by rw [z, oa] at s6; omega
  have n1a : y + 1 ≠ a := fun z => by rw [z, oa] at b3; omega
  have n7a : y + 7 ≠ a := fun z => by rw [z, oa] at t3; omega
  have ge : ∀ j, (j < 10 + 210 * b ∨ 10 + 210 * b + 210 ≤ j) → gRow gp b n j = gp j := fun q hq => by
    unfold gRow filG
    rw [if_neg (by omega), upd0_ne (by omega)]
  have el : ∀ i k, liesV gp i k = liesV (gRow gp b n) i k := fun i k => (LE.lies Wp (ge 1 (by omega)) (fun t ht => LE.all (fun c hc => ge _ (by omega)) (Wp.2.2.2 t ht).2.2.2.2.1)).symm
  have g0 : gRow gp b n 0 = gp 0 := ge 0 (by omega)
  have rq : ∀ q, q ≠ a → hr (wq h a 4 ro) q = hr h q := fun q hq => up2_a (f := hr h) hq
  have ra : hr (wq h a 4 ro) a = upd0 (hr h a) 4 ro := up2_at (hr h) a 4 ro
  have main : ∀ oF : Nat → Nat, Fr (fun t => t = 100 + b ∨ aT nx t) ow h oF (wq h a 4 ro) → Lv oF (wq h a 4 ro) → To ow oF → (∀ q, some q ≠ ro → oF q = ow q) → RowR oF (wq h a 4 ro) 21 (300 + b) ro (nt (bl gp b 3)) (fun k => bl gp b (6 + k)) → Rv G ow h y gp ld wd nx (wq h a 4 ro) := by
    intro oF F L to oq R'
    have nr : ∀ q, hk h q ≠ 21 → some q ≠ ro := fun q hq z => by
      rcases R with ⟨r1, -⟩ | ⟨r, r1, r2, r3, -⟩
      · rw [r1] at z; cases z
      · rw [r1] at z
        cases z
        exact hq r3
    have cF := F.at_ oc (by omega) (fun z => by unfold aT at z; omega)
    refine ⟨oF, C.bolt (b := b) (n := nx) Wg (by rw [g0]; exact hb) (F.mono (fun t ht => ?_)) ⟨Nat.le_refl _, fun _ _ => rfl⟩ L to (fun k => by rw [rq y nya]) C3.1 C3.2 (fun j hj => (ge j hj).symm) el (fun a' c' h1 h2 => ?_) ⟨a, by rw [rq (y + 1) n1a]; exact ha, ?_⟩, F.mono (fun t ht => ?_), ⟨rfl, rfl⟩, rq (y + 7) n7a, rfl, rfl⟩
    · rcases ht with z | z
      · exact Or.inr (Or.inr (Or.inr (Or.inl z)))
      · exact Or.inr (Or.inr (Or.inl z))
    · cases ha.symm.trans h1
      cases ec.symm.trans h2
      exact ⟨by rw [oq a (nr a (by rw [ka]; decide))]; exact oa, by rw [ra, upd0_ne (by decide)]; exact ec⟩
    · refine ⟨by rw [oq a (nr a (by rw [ka]; decide))]; exact oa, ka, ?_, ?_, ?_, ?_, by rw [ra, upd0_same]; exact R', c, by rw [ra, upd0_ne (by decide)]; exact ec, cF.1, kc, nc, ?_, fun k hk => ?_⟩
      · show hi h a 0 = _
        rw [e0, gb 0 (by omega), if_neg (by omega), if_neg (by omega)]
      · show hi h a 1 = _
        rw [e1, gb 1 (by omega), if_neg (by omega), if_neg (by omega)]
      · show hf h a 2 = _
        rw [ef, gb 2 (by omega), if_neg (by omega), if_neg (by omega)]
      · show hi h a 3 = _
        rw [e3, gb 4 (by omega), if_neg (by omega), if_neg (by omega)]
      · show hi h a 5 = nI (cvN (hi h c) _)
        rw [e5, gb 1 (by omega), if_neg (by omega), if_neg (by omega)]
      · show hi h c k = liesV gp (nI b) (nI k)
        rw [el]
        exact eL k (by rw [gb 1 (by omega), if_neg (by omega), if_neg (by omega)]; exact hk)
    · rcases ht with z | z
      · exact Or.inl (by omega)
      · exact Or.inr z
  rcases R with ⟨r1, r2⟩ | ⟨r, r1, r2, r3, r4, r5, r6⟩
  · exact main ow (Fr.wq (Or.inl oa)) C1 To.rf (fun _ _ => rfl) (Or.inl ⟨r1, r2⟩)
  · exact main (upd0 ow r (300 + b)) (Fr.tr (Fr.wq (Or.inl oa)) (Fr.tag (Or.inr (Or.inr (Or.inl r2))))) (Lv.tag (h := wq h a 4 ro) C1 (by omega) (by show hk h r ≠ 4; rw [r3]; decide)) (To.tag (by omega)) (fun q hq => upd0_ne (fun z => hq (by rw [z]; exact r1.symm))) (Or.inr ⟨r, r1, upd0_same _ _ _, r3, r4, r5, r6⟩)
set_option maxRecDepth 100000 in
set_option maxHeartbeats 4000000 in
theorem rv_wear {b k r : Nat} {v : Int32} (C : Core ow h y (gWear gp b k v) ld wd) (Ig : GI (gWear gp b k v)) (Ip : GI gp) (hb : b < nt (gp 0)) (hkb : k < nt (bl gp b 3)) (ha : hr h (y + 1) b = some a) (B : BoltP ow h a b (bl (gWear gp b k v) b) (fun q => liesV (gWear gp b k v) (nI b) (nI q))) (er : hr h a 4 = some r) : Rv G ow h y gp ld wd nx (wi h r k (bl gp b (6 + k))) := by
  obtain ⟨C1, C2, C3, C4, C5, C6, -⟩ := id C
  have Wg := Ig.gw
  have Wp := Ip.gw
  have h24 := Wp.1.2.2
  have h10 := Wp.2.1.2.2
  obtain ⟨⟨s1, s2, s3, s4, s5, s6⟩, ⟨-, -, b3⟩, ⟨-, -, c3⟩, -, -, -, -, ⟨t1, t2, t3⟩⟩ := id C2
  obtain ⟨oa, ka, e0, e1, ef, e3, hrow, c, ec, oc, kc, nc, e5, eL⟩ := id B
  have u3 := (Wp.2.2.1 b hb).2.2.2.2
  have u1 := (Wp.2.2.1 b hb).2.1.2.2
  have gb : ∀ c, c ≠ 6 + k → c < 206 → bl (gWear gp b k v) b c = bl gp b c := fun c h1 h2 => upd0_ne (by omega)
  rw [er, gb 3 (by omega) (by omega)] at hrow
  obtain ⟨or_, kr, nr, n0, ev⟩ : ow r = 300 + b ∧ hk h r = 21 ∧ hn h r = nt (bl gp b 3) ∧ 0 < nt (bl gp b 3) ∧ ∀ q, q < nt (bl gp b 3) → hi h r q = bl (gWear gp b k v) b (6 + q) := by
    rcases hrow with ⟨z, -⟩ | ⟨r', z, z2⟩
    · cases z
    · cases z
      exact z2
  have nyr : y ≠ r := fun z => by rw [z, or_] at s6; omega
  have nar : a ≠ r := fun z => by rw [z, or_] at oa; omega
  have ncr : c ≠ r := fun z => by rw [z, or_] at oc; omega
  have ge : ∀ j, (j < 10 + 210 * b ∨ 10 + 210 * b + 210 ≤ j) → gWear gp b k v j = gp j := fun q hq => upd0_ne (by omega)
  have el : ∀ i q, liesV gp i q = liesV (gWear gp b k v) i q := fun i q => (LE.lies Wp (ge 1 (by omega)) (fun t ht => LE.all (fun c hc => ge _ (by omega)) (Wp.2.2.2 t ht).2.2.2.2.1)).symm
  have g0 : gWear gp b k v 0 = gp 0 := ge 0 (by omega)
  have iq : ∀ q, q ≠ r → hi (wi h r k (bl gp b (6 + k))) q = hi h q := fun q hq => up2_a (f := hi h) hq
  have ir : hi (wi h r k (bl gp b (6 + k))) r = upd0 (hi h r) k (bl gp b (6 + k)) := up2_at (hi h) r k _
  have F : Fr (fun t => t = 300 + b) ow h ow (wi h r k (bl gp b (6 + k))) := Fr.wi or_
  refine ⟨ow, C.bolt (b := b) (n := nx) Wg (by rw [g0]; exact hb) (F.mono (fun t ht => Or.inr (Or.inr (Or.inr (Or.inr ht))))) ⟨Nat.le_refl _, fun _ _ => rfl⟩ C1 To.rf (fun k => rfl) (by rw [iq y nyr]; exact C3.1) (by rw [iq y nyr]; exact C3.2) (fun j hj => (ge j hj).symm) el (fun a' c' h1 h2 => ?_) ⟨a, ha, oa, ka, by rw [iq a nar, e0, gb 0 (by omega) (by omega)], by rw [iq a nar, e1, gb 1 (by omega) (by omega)], by show hf h a 2 = _; rw [ef, gb 2 (by omega) (by omega)], by rw [iq a nar, e3, gb 4 (by omega) (by omega)], Or.inr ⟨r, er, or_, kr, nr, n0, fun q hq => ?_⟩, c, ec, oc, kc, nc, by rw [iq a nar, iq c ncr, e5, gb 1 (by omega) (by omega)], fun q hq => ?_⟩, F.mono (fun t ht => Or.inl (by omega)), ⟨by rw [iq y nyr], by rw [iq y nyr]⟩, rfl, rfl, rfl⟩
  · cases ha.symm.trans h1
    cases ec.symm.trans h2
    exact ⟨oa, ec⟩
  · show _ = bl gp b (6 + q)
    rw [ir]
    by_cases e : q = k
    · rw [e, upd0_same]
    · rw [upd0_ne e, ev q hq, gb _ (by omega) (by omega)]
  · show _ = liesV gp (nI b) (nI q)
    rw [iq c ncr, el]
    exact eL q (by rw [gb 1 (by omega) (by omega)]; exact hq)
end UNDO1

