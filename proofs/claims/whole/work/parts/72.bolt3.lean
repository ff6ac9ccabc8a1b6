/-! ===== a bolt more ===== -/
section BOLT3
variable {G : GG} {d : Nat} {h h2 : AH} {Q : Option Value → AH → Prop} {ow o2 : Nat → Nat} {y : Nat} {g g2 ld wd : Nat → Int32} {kp nx s a : Nat} {ps : Nat → Nat → Int32} {T : Nat → Prop}
/-- what adding bolt n may touch -/
def nT (n t : Nat) : Prop := t = 1 ∨ t = 2 ∨ bT n t
/-- how a bolt more leaves things -/
def AdB (G : GG) (ow : Nat → Nat) (h : AH) (y n : Nat) (g2 ld wd : Nat → Int32) (o2 : Nat → Nat) (h2 : AH) : Prop :=
  Core o2 h2 y g2 ld wd ∧ Fr (nT n) ow h o2 h2 ∧ To ow o2 ∧ Ext h h2 ∧ (∀ k, k ≠ 1 → hi h2 y k = hi h y k) ∧ hr h2 y = hr h y ∧ hz h2 ≤ hz h + 2 ∧ us G h2 ≤ us G h + 207
set_option maxRecDepth 100000 in
set_option maxHeartbeats 4000000 in
theorem gBolt_bl {n c : Nat} {w l gr f : Int32} (hn : n < 24) (hc : c < 210) : bl (gBolt g n w l gr f) n c = if c = 0 then w else if c = 1 then l else if c = 2 then gr else if c = 3 then 0 else if c = 4 then f else bl g n c := by
  unfold bl gBolt
  by_cases z4 : c = 4
  · rw [z4, upd0_same, if_neg (by omega), if_neg (by omega), if_neg (by omega), if_neg (by omega), if_pos rfl]
  · rw [upd0_ne (by omega)]
    by_cases z3 : c = 3
    · rw [z3, upd0_same, if_neg (by omega), if_neg (by omega), if_neg (by omega), if_pos rfl]
    · rw [upd0_ne (by omega)]
      by_cases z2 : c = 2
      · rw [z2, upd0_same, if_neg (by omega), if_neg (by omega), if_pos rfl]
      · rw [upd0_ne (by omega)]
        by_cases z1 : c = 1
        · rw [z1, upd0_same, if_neg (by omega), if_pos rfl]
        · rw [upd0_ne (by omega)]
          by_cases z0 : c = 0
          · rw [z0, upd0_same, if_pos rfl]
          · rw [upd0_ne (by omega), upd0_ne (by omega), if_neg z0, if_neg z1, if_neg z2, if_neg z3, if_neg z4]
set_option maxRecDepth 100000 in
set_option maxHeartbeats 4000000 in
theorem gBolt_1 {n : Nat} {w l gr f : Int32} : gBolt g n w l gr f 1 = g 1 := by
  unfold gBolt
  rw [upd0_ne (by omega), upd0_ne (by omega), upd0_ne (by omega), upd0_ne (by omega), upd0_ne (by omega), upd0_ne (by omega)]
set_option maxRecDepth 100000 in
set_option maxHeartbeats 4000000 in
theorem gBolt_lies {n : Nat} {w l gr f : Int32} (W : GW g) (hn : n < 24) (b k : Int32) : liesV (gBolt g n w l gr f) b k = liesV g b k := LE.lies W gBolt_1 (fun t ht => LE.all (fun c hc => sl_gBolt g hn w l gr f t c) (W.2.2.2 t ht).2.2.2.2.1)
set_option maxRecDepth 100000 in
set_option maxHeartbeats 4000000 in
/-- nothing lies on a bolt that isn't there yet -/
theorem lies_new {n : Nat} {k : Int32} (W : GW g) (hn : n = nt (g 0)) : liesV g (nI n) k = -1 := by
  have h24 := W.1.2.2
  refine lies_none (fun s i hs hi => ?_)
  unfold onB
  rcases (W.2.2.2 s hs).2.2.2.2.2.2.2.2.2.2.2.2.2 i hi with z | ⟨⟨z1, -, z2⟩, z3⟩
  · exact onB_m1 (by omega) z
  · rw [decide_eq_false, Bool.false_and]
    intro z
    rw [z1, nI_eq (by omega) (by omega)] at z
    omega
set_option maxRecDepth 100000 in
set_option maxHeartbeats 4000000 in
theorem add_fin {hA : AH} {oA : Nat → Nat} {n c : Nat} {w l gr f : Int32} (C : Core ow h y g ld wd) (W : GW g) (en : n = nt (g 0)) (hn24 : n < 24) (hl1 : inR l 1 200 = true) (FA : Fr (fun t => t = 2 ∨ bT n t) ow h oA hA) (xA : Ext h hA) (LA : Lv oA hA) (toA : To ow oA) (ra : hr hA (y + 1) = upd0 (hr h (y + 1)) n (some a)) (oa : oA a = 100 + n) (ka : hk hA a = 1) (ec : hr hA a 6 = some c) (oc : oA c = 200 + n) (kc : hk hA c = 22) (nc : hn hA c = 200) (hzA : hz hA ≤ hz h + 2) (usA : us G hA ≤ us G h + 207) : AdB G ow h y n (gBolt g n w l gr f) ld wd oA (wi (bgH hA a c w l (grF gr) f) y 1 (nI (n + 1))) := by
  obtain ⟨C1, C2, C3, C4, C5, C6, -⟩ := id C
  obtain ⟨⟨s1, s2, s3, s4, s5, s6⟩, ⟨-, -, b3⟩, ⟨-, -, c3⟩, -⟩ := id C2
  have h24 := W.1.2.2
  have h10 := W.2.1.2.2
  obtain ⟨ln, l1, l2, rfl⟩ := inR_N (lo := 1) (hi := 200) hl1 rfl (by omega) (by omega)
  have oAy : oA y = 1 := by rw [toA y (by omega) (by omega)]; exact s6
  have nya : y ≠ a := fun z => by rw [z, oa] at oAy; omega
  have nyc : y ≠ c := fun z => by rw [z, oc] at oAy; omega
  have nac : a ≠ c := fun z => by rw [z, oc] at oa; omega
  have ny1 : y + 1 ≠ a := fun z => by have := toA (y + 1) (by omega) (by omega); rw [z, oa, ← z, b3] at this; omega
  -- the heap at the end
  have iq : ∀ q, q ≠ y → q ≠ a → q ≠ c → hi (wi (bgH hA a c w (nI ln) (grF gr) f) y 1 (nI (n + 1))) q = hi hA q := fun q h1 h2 h3 => by
    show up2 (filF (up2 (up2 (up2 (up2 (hi hA) a 0 w) a 1 (nI ln)) a 3 f) a 5 0) c 0 200 (-1)) y 1 _ q = _
    rw [up2_a h1, filF_a h3, up2_a h2, up2_a h2, up2_a h2, up2_a h2]
  have iy : hi (wi (bgH hA a c w (nI ln) (grF gr) f) y 1 (nI (n + 1))) y = upd0 (hi hA y) 1 (nI (n + 1)) := by
    show up2 (filF (up2 (up2 (up2 (up2 (hi hA) a 0 w) a 1 (nI ln)) a 3 f) a 5 0) c 0 200 (-1)) y 1 _ y = _
    rw [up2_at, filF_a nyc, up2_a nya, up2_a nya, up2_a nya, up2_a nya]
  have ia : hi (wi (bgH hA a c w (nI ln) (grF gr) f) y 1 (nI (n + 1))) a = upd0 (upd0 (upd0 (upd0 (hi hA a) 0 w) 1 (nI ln)) 3 f) 5 0 := by
    show up2 (filF (up2 (up2 (up2 (up2 (hi hA) a 0 w) a 1 (nI ln)) a 3 f) a 5 0) c 0 200 (-1)) y 1 _ a = _
    rw [up2_a nya.symm, filF_a nac, up2_at, up2_at, up2_at, up2_at]
  have ic : ∀ k, k < 200 → hi (wi (bgH hA a c w (nI ln) (grF gr) f) y 1 (nI (n + 1))) c k = -1 := fun k hk => by
    show up2 (filF (up2 (up2 (up2 (up2 (hi hA) a 0 w) a 1 (nI ln)) a 3 f) a 5 0) c 0 200 (-1)) y 1 _ c k = _
    rw [up2_a nyc.symm, filF_c]
    exact if_pos (by omega)
  have rq : ∀ q, q ≠ a → hr (wi (bgH hA a c w (nI ln) (grF gr) f) y 1 (nI (n + 1))) q = hr hA q := fun q h1 => by
    show up2 (hr hA) a 4 none q = _
    rw [up2_a h1]
  have raa : hr (wi (bgH hA a c w (nI ln) (grF gr) f) y 1 (nI (n + 1))) a = upd0 (hr hA a) 4 none := by
    show up2 (hr hA) a 4 none a = _
    rw [up2_at]
  have fa : hf (wi (bgH hA a c w (nI ln) (grF gr) f) y 1 (nI (n + 1))) a 2 = grF gr := by
    show up2 (hf hA) a 2 (grF gr) a 2 = _
    rw [up2_same]
  have fq : ∀ q, q ≠ a → hf (wi (bgH hA a c w (nI ln) (grF gr) f) y 1 (nI (n + 1))) q = hf hA q := fun q h1 => by
    show up2 (hf hA) a 2 (grF gr) q = _
    rw [up2_a h1]
  have xB : Ext hA (wi (bgH hA a c w (nI ln) (grF gr) f) y 1 (nI (n + 1))) := ⟨Nat.le_refl _, fun _ _ => rfl⟩
  have FB : Fr (nT n) oA hA oA (wi (bgH hA a c w (nI ln) (grF gr) f) y 1 (nI (n + 1))) := fun q q1 q2 => by
    have e1 : q ≠ y := fun z => q2 (by rw [z, oAy]; exact Or.inl rfl)
    have e2 : q ≠ a := fun z => q2 (by rw [z, oa]; exact Or.inr (Or.inr (Or.inl rfl)))
    have e3 : q ≠ c := fun z => q2 (by rw [z, oc]; exact Or.inr (Or.inr (Or.inr (Or.inl rfl))))
    exact ⟨rfl, rfl, iq q e1 e2 e3, rq q e2, rfl, fq q e2⟩
  have F : Fr (nT n) ow h oA (wi (bgH hA a c w (nI ln) (grF gr) f) y 1 (nI (n + 1))) := (FA.mono (fun t ht => Or.inr ht)).tr FB
  have yA := FA.at_ s6 (by omega) (fun q => by unfold bT at q; omega)
  have y1 : hr (wi (bgH hA a c w (nI ln) (grF gr) f) y 1 (nI (n + 1))) (y + 1) = upd0 (hr h (y + 1)) n (some a) := by rw [rq (y + 1) ny1]; exact ra
  have q3 := F.at_ c3 (by omega) (fun q => by unfold nT bT at q; omega)
  have g1 := gBolt_1 (g := g) (n := n) (w := w) (l := nI ln) (gr := gr) (f := f)
  have g0 := g0_gBolt g n w (nI ln) gr f
  have gl := fun b k => gBolt_lies (w := w) (l := nI ln) (gr := gr) (f := f) W hn24 b k
  have gb := fun c (hc : c < 210) => gBolt_bl (g := g) (w := w) (l := nI ln) (gr := gr) (f := f) hn24 hc
  have hzB : hz (wi (bgH hA a c w (nI ln) (grF gr) f) y 1 (nI (n + 1))) = hz hA := rfl
  have usB : us G (wi (bgH hA a c w (nI ln) (grF gr) f) y 1 (nI (n + 1))) = us G hA := rfl
  generalize wi (bgH hA a c w (nI ln) (grF gr) f) y 1 (nI (n + 1)) = hB at *
  have ry : hr hB y = hr h y := by rw [rq y nya]; exact yA.2.2.2.2.1
  have lA := (LA a (by omega)).1
  have lC := (LA c (by omega)).1
  have rca : hr hB a 6 = some c := by rw [raa, upd0_ne (by decide)]; exact ec
  refine ⟨C.up F (xA.tr xB) ?_ toA (fun k => by rw [ry]) (fun t h1 h2 h3 z => by unfold nT bT at z; omega) (by rw [iy, upd0_same, g0]) (by rw [iy, upd0_ne (by decide), yA.2.2.2.1, g1]; exact C3.2) (fun i hib => ?_) (fun i hib => ?_) (fun t ht => ?_), F, toA, xA.tr xB, fun k hk => ?_, ry, by omega, by omega⟩
  · intro q hq
    have := LA q hq
    exact ⟨by omega, fun z => this.2 ((xB.k this.1).symm.trans z)⟩
  · by_cases e : i = n
    · subst e
      exact Or.inr ⟨a, c, by rw [y1, upd0_same], oa, (xB.k lA).trans ka, rca, oc, (xB.k lC).trans kc, (xB.n lC).trans nc⟩
    · exact (C4 i hib).fr F (fun z => by unfold nT bT at z; omega) (fun z => by unfold nT bT at z; omega) (by rw [y1, upd0_ne e])
  · rw [g0, nt_nI (by omega)] at hib
    by_cases e : i = n
    · subst e
      refine ⟨a, by rw [y1, upd0_same], oa, (xB.k lA).trans ka, ?_, ?_, ?_, ?_, Or.inl ⟨?_, ?_⟩, c, rca, oc, (xB.k lC).trans kc, (xB.n lC).trans nc, ?_, fun k hk => ?_⟩
      · rw [ia, upd0_ne (by decide), upd0_ne (by decide), upd0_ne (by decide), upd0_same, gb 0 (by omega), if_pos rfl]
      · rw [ia, upd0_ne (by decide), upd0_ne (by decide), upd0_same, gb 1 (by omega), if_neg (by omega), if_pos rfl]
      · rw [fa, gb 2 (by omega), if_neg (by omega), if_neg (by omega), if_pos rfl]
      · rw [ia, upd0_ne (by decide), upd0_same, gb 4 (by omega), if_neg (by omega), if_neg (by omega), if_neg (by omega), if_neg (by omega), if_pos rfl]
      · rw [raa, upd0_same]
      · rw [gb 3 (by omega), if_neg (by omega), if_neg (by omega), if_neg (by omega), if_pos rfl]
        exact nt_nI (n := 0) (by omega)
      · rw [gb 1 (by omega), if_neg (by omega), if_pos rfl, nt_nI (by omega), ia, upd0_same]
        rw [show cvN (hi hB c) ln = 0 from (cv_0 (L := fun _ => -1) (fun k hk => ic k (by omega))).mpr (fun _ _ => rfl)]
        rfl
      · rw [gb 1 (by omega), if_neg (by omega), if_pos rfl, nt_nI (by omega)] at hk
        show _ = liesV (gBolt g i w (nI ln) gr f) (nI i) (nI k)
        rw [gl, lies_new W en, ic k (by omega)]
    · exact (C5 i (by omega)).fr F (fun z => by unfold nT bT at z; omega) (fun z => by unfold nT bT at z; omega) (fun z => by unfold nT bT at z; omega) (W.2.2.1 i (by omega)) (by rw [y1, upd0_ne e]) (fun c hc => bl_gBolt g (by omega) w (nI ln) gr f (by omega)) (fun k hk => gl _ _)
  · rw [g1] at ht
    exact (C6 t ht).fr F (fun u hu z => by unfold nT bT at z; unfold sT at hu; omega) (W.2.2.2 t ht) (by rw [q3.2.2.2.2.1]) (fun c hc => sl_gBolt g hn24 w (nI ln) gr f t c)
  · rw [iy, upd0_ne hk, yA.2.2.2.1]
set_option maxRecDepth 100000 in
set_option maxHeartbeats 4000000 in
theorem c_X8_addBolt {n : Nat} {w l gr f : Int32} (C : Core ow h y g ld wd) (W : GW g) (rm : Rm G h 2 207) (en : n = nt (g 0)) (hn24 : n < 24) (hl1 : inR l 1 200 = true) (hq : ∀ o2 h2, AdB G ow h y n (gBolt g n w l gr f) ld wd o2 h2 → Q none h2) : Rn G (d + 2) mX8_addBolt 0 [(0, .ref y), (1, .int w), (2, .int l), (3, .float (grF gr)), (4, .int f)] [] h Q := by
  obtain ⟨C1, C2, C3, C4, C5, C6, -⟩ := id C
  obtain ⟨⟨s1, s2, s3, s4, s5, s6⟩, ⟨b1, b2, b3⟩, ⟨-, -, c3⟩, -⟩ := id C2
  have e1 : hi h y 1 = nI n := by rw [C3.1, W.1.1, en]
  have l1 := (C1 (y + 1) (by omega)).1
  have k49 : ∀ (hA : AH) (oA : Nat → Nat) (a c : Nat), Fr (fun t => t = 2 ∨ bT n t) ow h oA hA → Ext h hA → Lv oA hA → To ow oA → hr hA (y + 1) = upd0 (hr h (y + 1)) n (some a) → oA a = 100 + n → hk hA a = 1 → hr hA a 6 = some c → oA c = 200 + n → hk hA c = 22 → hn hA c = 200 → hz hA ≤ hz h + 2 → us G hA ≤ us G h + 207 → Rn G (d + 2) mX8_addBolt 49 [(0, .ref y), (1, .int w), (2, .int l), (3, .float (grF gr)), (4, .int f), (5, .ref a)] [] hA Q := by
    intro hA oA a c FA xA LA toA ra oa ka ec oc kc nc hzA usA
    have kyA : hk hA y = 7 := (xA.k (by omega)).trans s1
    have oAy : oA y = 1 := by rw [toA y (by omega) (by omega)]; exact s6
    have nya : y ≠ a := fun z => by rw [z, oa] at oAy; omega
    have nyc : y ≠ c := fun z => by rw [z, oc] at oAy; omega
    have e1A : hi (bgH hA a c w l (grF gr) f) y 1 = nI n := by
      show filF (up2 (up2 (up2 (up2 (hi hA) a 0 w) a 1 l) a 3 f) a 5 0) c 0 200 (-1) y 1 = _
      rw [filF_a nyc, up2_a nya, up2_a nya, up2_a nya, up2_a nya, (FA.at_ s6 (by omega) (fun q => by unfold bT at q; omega)).2.2.2.1]
      exact e1
    have fin := hq oA _ (add_fin (w := w) (gr := gr) (f := f) C W en hn24 hl1 FA xA LA toA ra oa ka ec oc kc nc hzA usA)
    have kyB : hk (bgH hA a c w l (grF gr) f) y = 7 := kyA
    first | refine x_aload eX8_addBolt_49 rfl ?_ | refine x_aloadN eX8_addBolt_49 rfl ?_
    refine x_iload_n eX8_addBolt_51 rfl rfl ?_
    refine x_iload_n eX8_addBolt_52 rfl rfl ?_
    refine x_fload_n eX8_addBolt_53 rfl rfl ?_
    refine x_iload eX8_addBolt_54 rfl ?_
    refine x_callV4 eX8_addBolt_56 lk_X8_370 (by assumption) (Nat.le_of_ble_eq_true rfl) (Nat.le_of_ble_eq_true rfl) ?_
    refine Rn.deep (c_X1_begin (d := d) ka ec kc nc (fun _ => ?_)) (by omega)
    first | refine x_aload_n eX8_addBolt_59 rfl rfl ?_ | refine x_aload_nN eX8_addBolt_59 rfl rfl ?_
    refine x_dup eX8_addBolt_60 rfl ?_
    first | refine x_getIe eX8_addBolt_61 fk_X8_15 (by decide) (by assumption) (by assumption) ?_ | refine x_getI eX8_addBolt_61 fk_X8_15 (by decide) (by assumption) ?_
    refine x_iconst (v := nI 1) eX8_addBolt_64 (by decide) ?_
    first | refine x_iaddN eX8_addBolt_65 (by with_reducible rfl) (by with_reducible rfl) ?_ | refine x_iadd eX8_addBolt_65 ?_
    refine x_putI eX8_addBolt_66 fk_X8_15 (by decide) rfl ⟨_, rfl, Or.inl rfl⟩ (by assumption) ?_
    refine x_ret (rt := none) eX8_addBolt_69 rfl ?_
    exact fin
  rcases C4 n hn24 with z | ⟨a, c, z1, z2, z3, z4, z5, z6, z7⟩
  · have hr1 : hz h < gB G + 600000 ∧ us G h + 7 ≤ 7302250 := ⟨by have := rm.2.1; omega, by have := rm.2.2; omega⟩
    have us1 : us G (nw h 1 7) = us G h + 7 := us_nw rm.1
    have hr2 : hz (nw h 1 7) < gB G + 600000 ∧ us G (nw h 1 7) + 200 ≤ 7302250 := ⟨by show hz h + 1 < _; have := rm.2.1; omega, by have := rm.2.2; omega⟩
    have kN : hk (nw h 1 7) (hz h) = 1 := hk_nw'
    have hzI : hz (inB (nw h 1 7) (hz h)) = hz h + 2 := rfl
    have L1 : Lv (upd0 ow (hz h) (100 + n)) (nw h 1 7) := Lv.nw C1 (fun z => by cases z)
    have L2 : Lv (upd0 (upd0 ow (hz h) (100 + n)) (hz h + 1) (200 + n)) (inB (nw h 1 7) (hz h)) := Lv.nw (h := nw h 1 7) (kd := 22) (n := 200) L1 (fun z => by cases z)
    have F1 : Fr (fun t => t = 2 ∨ bT n t) ow h (upd0 ow (hz h) (100 + n)) (wi (wq (wi (wf (wi (wi (nw h 1 7) (hz h) 0 0) (hz h) 1 0) (hz h) 2 0) (hz h) 3 (-1)) (hz h) 4 none) (hz h) 5 0) := by
      have t : (fun t => t = 2 ∨ bT n t) (upd0 ow (hz h) (100 + n) (hz h)) := by rw [upd0_same]; exact Or.inr (Or.inl rfl)
      exact Fr.tr (Fr.nw C1) (Fr.tr (Fr.wi t) (Fr.tr (Fr.wi t) (Fr.tr (Fr.wf t) (Fr.tr (Fr.wi t) (Fr.tr (Fr.wq t) (Fr.wi t))))))
    have F2 : Fr (fun t => t = 2 ∨ bT n t) ow h (upd0 (upd0 ow (hz h) (100 + n)) (hz h + 1) (200 + n)) (inB (nw h 1 7) (hz h)) := F1.tr (Fr.tr (Fr.nw (h := wi (wq (wi (wf (wi (wi (nw h 1 7) (hz h) 0 0) (hz h) 1 0) (hz h) 2 0) (hz h) 3 (-1)) (hz h) 4 none) (hz h) 5 0) (kd := 22) (n := 200) L1) (Fr.wq (by show (fun t => t = 2 ∨ bT n t) (upd0 (upd0 ow (hz h) (100 + n)) (hz h + 1) (200 + n) (hz h)); rw [upd0_ne (by omega), upd0_same]; exact Or.inr (Or.inl rfl))))
    have oy1 : upd0 (upd0 ow (hz h) (100 + n)) (hz h + 1) (200 + n) (y + 1) = 2 := by rw [upd0_ne (by omega), upd0_ne (by omega)]; exact b3
    have x2 : Ext h (inB (nw h 1 7) (hz h)) := (Ext.nw h 1 7).tr (Ext.nw (nw h 1 7) 22 200)
    have rI : hr (inB (nw h 1 7) (hz h)) (y + 1) = hr h (y + 1) := by
      show up2 (up1 (up2 (hr (nw h 1 7)) (hz h) 4 none) (hz h + 1) none) (hz h) 6 _ (y + 1) = _
      rw [up2_a (by omega)]
      unfold up1
      funext j
      rw [if_neg (by omega), up2_a (by omega), (nw_ne (by omega)).2.2.1]
    have r6 : hr (inB (nw h 1 7) (hz h)) (hz h) 6 = some (hz h + 1) := up2_same _ _ _ _
    have kyI : hk (inB (nw h 1 7) (hz h)) y = 7 := (x2.k (by omega)).trans s1
    have k1I : hk (inB (nw h 1 7) (hz h)) (y + 1) = 31 := (x2.k l1).trans b1
    have n1I : hn (inB (nw h 1 7) (hz h)) (y + 1) = 24 := (x2.n l1).trans b2
    have qy := F2.at_ s6 (by omega) (fun q => by unfold bT at q; omega)
    have r0I : hr (inB (nw h 1 7) (hz h)) y 0 = some (y + 1) := by rw [qy.2.2.2.2.1]; exact s2
    have e1I : hi (inB (nw h 1 7) (hz h)) y 1 = nI n := by rw [qy.2.2.2.1]; exact e1
    have kaI : hk (inB (nw h 1 7) (hz h)) (hz h) = 1 := ((Ext.nw (nw h 1 7) 22 200).k (by show hz h < hz h + 1; omega)).trans kN
    have kcI : hk (inB (nw h 1 7) (hz h)) (hz h + 1) = 22 := hk_nw' (h := nw h 1 7)
    have ncI : hn (inB (nw h 1 7) (hz h)) (hz h + 1) = 200 := hn_nw' (h := nw h 1 7)
    have usI : us G (inB (nw h 1 7) (hz h)) = us G h + 207 := by
      show us G (nw (nw h 1 7) 22 200) = _
      rw [us_nw (by show gB G ≤ hz h + 1; have := rm.1; omega), us1]
    have w49 := k49 (wq (inB (nw h 1 7) (hz h)) (y + 1) n (some (hz h))) _ (hz h) (hz h + 1) (F2.tr (Fr.wq (by rw [oy1]; exact Or.inl rfl))) x2 L2 ((To.nw C1).tr (To.nw (h := nw h 1 7) L1)) (by show up2 (hr (inB (nw h 1 7) (hz h))) (y + 1) n _ (y + 1) = _; rw [up2_at, rI]) (by rw [upd0_ne (by omega), upd0_same]) kaI (by show up2 (hr (inB (nw h 1 7) (hz h))) (y + 1) n _ (hz h) 6 = _; rw [up2_a (by omega)]; exact r6) (upd0_same _ _ _) kcI ncI (by show hz h + 2 ≤ _; omega) (by show us G (inB (nw h 1 7) (hz h)) ≤ _; omega)
    first | refine x_aload_n eX8_addBolt_0 rfl rfl ?_ | refine x_aload_nN eX8_addBolt_0 rfl rfl ?_
    first | refine x_getIe eX8_addBolt_1 fk_X8_15 (by decide) (by assumption) (by assumption) ?_ | refine x_getI eX8_addBolt_1 fk_X8_15 (by decide) (by assumption) ?_
    first | refine x_aload_n eX8_addBolt_4 rfl rfl ?_ | refine x_aload_nN eX8_addBolt_4 rfl rfl ?_
    first | refine x_getR eX8_addBolt_5 fk_X8_11 rfl (by assumption) (by assumption) ?_ | refine x_getN eX8_addBolt_5 fk_X8_11 rfl (by assumption) (by assumption) ?_
    first | refine x_alenN eX8_addBolt_8 (by assumption) (by decide) (by assumption) ?_ | refine x_slenN eX8_addBolt_8 (by assumption) (by assumption) ?_ | refine x_alen eX8_addBolt_8 (by assumption) (by decide) ?_
    first | refine x_icmp_ltN (tgt := 13) eX8_addBolt_9 (by decide) (by with_reducible rfl) (by with_reducible rfl) (by omega) (by omega) (fun cq1 => ?_) (fun cq1 => ?_) | refine x_icmp_lt (tgt := 13) eX8_addBolt_9 (by decide) (fun cq1 => ?_) (fun cq1 => ?_)
    · first | refine x_aload_n eX8_addBolt_13 rfl rfl ?_ | refine x_aload_nN eX8_addBolt_13 rfl rfl ?_
      first | refine x_getR eX8_addBolt_14 fk_X8_11 rfl (by assumption) (by assumption) ?_ | refine x_getN eX8_addBolt_14 fk_X8_11 rfl (by assumption) (by assumption) ?_
      first | refine x_aload_n eX8_addBolt_17 rfl rfl ?_ | refine x_aload_nN eX8_addBolt_17 rfl rfl ?_
      first | refine x_getIe eX8_addBolt_18 fk_X8_15 (by decide) (by assumption) (by assumption) ?_ | refine x_getI eX8_addBolt_18 fk_X8_15 (by decide) (by assumption) ?_
      first | refine x_aaldRN eX8_addBolt_21 (by with_reducible rfl) (by assumption) (by decide) (by assumption) (by omega) (by omega) (by assumption) ?_ | refine x_aaldNN eX8_addBolt_21 (by with_reducible rfl) (by assumption) (by decide) (by assumption) (by omega) (by omega) (by assumption) ?_ | refine x_aaldR eX8_addBolt_21 (by assumption) (by decide) (by assumption) (by assumption) ?_ | refine x_aaldN eX8_addBolt_21 (by assumption) (by decide) (by assumption) (by assumption) ?_
      first | refine x_astore eX8_addBolt_22 (by decide) rfl rfl ?_ | refine x_astoreN eX8_addBolt_22 (by decide) rfl rfl ?_
      first | refine x_aload eX8_addBolt_24 rfl ?_ | refine x_aloadN eX8_addBolt_24 rfl ?_
      refine x_ifnonnullN eX8_addBolt_26 ?_
      refine x_new (ci := 1) eX8_addBolt_29 rfl ck_X8_9 (by first | assumption | omega) ?_
      refine x_dup eX8_addBolt_32 rfl ?_
      refine x_callIN0 eX8_addBolt_33 lk_X8_369 (Nat.le_of_ble_eq_true rfl) (Nat.le_of_ble_eq_true rfl) ?_
      refine Rn.deep (c_X1_init (d := d) kN (by show hz h < hz h + 1; omega) hr2 (fun _ => ?_)) (by omega)
      first | refine x_astore eX8_addBolt_36 (by decide) rfl rfl ?_ | refine x_astoreN eX8_addBolt_36 (by decide) rfl rfl ?_
      first | refine x_aload_n eX8_addBolt_38 rfl rfl ?_ | refine x_aload_nN eX8_addBolt_38 rfl rfl ?_
      first | refine x_getR eX8_addBolt_39 fk_X8_11 rfl (by assumption) (by assumption) ?_ | refine x_getN eX8_addBolt_39 fk_X8_11 rfl (by assumption) (by assumption) ?_
      first | refine x_aload_n eX8_addBolt_42 rfl rfl ?_ | refine x_aload_nN eX8_addBolt_42 rfl rfl ?_
      first | refine x_getIe eX8_addBolt_43 fk_X8_15 (by decide) (by assumption) (by assumption) ?_ | refine x_getI eX8_addBolt_43 fk_X8_15 (by decide) (by assumption) ?_
      first | refine x_aload eX8_addBolt_46 rfl ?_ | refine x_aloadN eX8_addBolt_46 rfl ?_
      first | refine x_aastRN eX8_addBolt_48 (by with_reducible rfl) (by assumption) (by decide) rfl rfl (by assumption) (by assumption) (by omega) (by omega) ?_ | refine x_aastNN eX8_addBolt_48 (by with_reducible rfl) (by assumption) (by decide) (by assumption) (by omega) (by omega) ?_
      refine Rn.weak (w49) (by repeat' first | exact fun _ h => absurd h List.not_mem_nil | refine List.forall_mem_cons.mpr ⟨rfl, ?_⟩)
    · exact absurd cq1 (by omega)
  · have w49 := k49 h ow a c Fr.rf (Ext.rf h) C1 To.rf (funext fun j => by
      unfold upd0
      by_cases e : j = n
      · rw [if_pos e, e, z1]
      · rw [if_neg e]) z2 z3 z4 z5 z6 z7 (by omega) (by omega)
    first | refine x_aload_n eX8_addBolt_0 rfl rfl ?_ | refine x_aload_nN eX8_addBolt_0 rfl rfl ?_
    first | refine x_getIe eX8_addBolt_1 fk_X8_15 (by decide) (by assumption) (by assumption) ?_ | refine x_getI eX8_addBolt_1 fk_X8_15 (by decide) (by assumption) ?_
    first | refine x_aload_n eX8_addBolt_4 rfl rfl ?_ | refine x_aload_nN eX8_addBolt_4 rfl rfl ?_
    first | refine x_getR eX8_addBolt_5 fk_X8_11 rfl (by assumption) (by assumption) ?_ | refine x_getN eX8_addBolt_5 fk_X8_11 rfl (by assumption) (by assumption) ?_
    first | refine x_alenN eX8_addBolt_8 (by assumption) (by decide) (by assumption) ?_ | refine x_slenN eX8_addBolt_8 (by assumption) (by assumption) ?_ | refine x_alen eX8_addBolt_8 (by assumption) (by decide) ?_
    first | refine x_icmp_ltN (tgt := 13) eX8_addBolt_9 (by decide) (by with_reducible rfl) (by with_reducible rfl) (by omega) (by omega) (fun cq1 => ?_) (fun cq1 => ?_) | refine x_icmp_lt (tgt := 13) eX8_addBolt_9 (by decide) (fun cq1 => ?_) (fun cq1 => ?_)
    · first | refine x_aload_n eX8_addBolt_13 rfl rfl ?_ | refine x_aload_nN eX8_addBolt_13 rfl rfl ?_
      first | refine x_getR eX8_addBolt_14 fk_X8_11 rfl (by assumption) (by assumption) ?_ | refine x_getN eX8_addBolt_14 fk_X8_11 rfl (by assumption) (by assumption) ?_
      first | refine x_aload_n eX8_addBolt_17 rfl rfl ?_ | refine x_aload_nN eX8_addBolt_17 rfl rfl ?_
      first | refine x_getIe eX8_addBolt_18 fk_X8_15 (by decide) (by assumption) (by assumption) ?_ | refine x_getI eX8_addBolt_18 fk_X8_15 (by decide) (by assumption) ?_
      first | refine x_aaldRN eX8_addBolt_21 (by with_reducible rfl) (by assumption) (by decide) (by assumption) (by omega) (by omega) (by assumption) ?_ | refine x_aaldNN eX8_addBolt_21 (by with_reducible rfl) (by assumption) (by decide) (by assumption) (by omega) (by omega) (by assumption) ?_ | refine x_aaldR eX8_addBolt_21 (by assumption) (by decide) (by assumption) (by assumption) ?_ | refine x_aaldN eX8_addBolt_21 (by assumption) (by decide) (by assumption) (by assumption) ?_
      first | refine x_astore eX8_addBolt_22 (by decide) rfl rfl ?_ | refine x_astoreN eX8_addBolt_22 (by decide) rfl rfl ?_
      first | refine x_aload eX8_addBolt_24 rfl ?_ | refine x_aloadN eX8_addBolt_24 rfl ?_
      refine x_ifnonnullR (tgt := 49) eX8_addBolt_26 (by decide) ?_
      refine Rn.weak (w49) (by repeat' first | exact fun _ h => absurd h List.not_mem_nil | refine List.forall_mem_cons.mpr ⟨rfl, ?_⟩)
    · exact absurd cq1 (by omega)
end BOLT3

