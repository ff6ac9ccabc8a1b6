/-! ===== acts on a sail that is cut: set, reef, line ===== -/
set_option maxRecDepth 100000 in
set_option maxHeartbeats 4000000 in
theorem fstN_eq {P R : Nat → Bool} : ∀ {n : Nat}, (∀ j, j < n → P j = R j) → fstN P n = fstN R n
  | 0, _ => rfl
  | n + 1, h => by
    rw [fstN, fstN, fstN_eq (n := n) (fun j hj => h j (by omega)), h n (by omega)]
set_option maxRecDepth 100000 in
set_option maxHeartbeats 4000000 in
theorem liesV_eq {g g2 : Nat → Int32} {b k : Int32} (e1 : g2 1 = g 1) (en : ∀ s, s < nt (g 1) → np g2 s = np g s) (eo : ∀ s i, s < nt (g 1) → i < np g s → onB g2 b k s i = onB g b k s i) : liesV g2 b k = liesV g b k := by
  have e : ∀ s, s < nt (g 1) → fstN (onB g2 b k s) (np g2 s) = fstN (onB g b k s) (np g s) := fun s hs => by
    rw [en s hs]
    exact fstN_eq (fun i hi => eo s i hs hi)
  have e2 : fstN (fun s => (fstN (onB g2 b k s) (np g2 s)).isSome) (nt (g2 1)) = fstN (fun s => (fstN (onB g b k s) (np g s)).isSome) (nt (g 1)) := by
    rw [e1]
    exact fstN_eq (fun s hs => by rw [e s hs])
  unfold liesV
  rw [e2]
  rcases fstN_spec (P := fun s => (fstN (onB g b k s) (np g s)).isSome) (n := nt (g 1)) with ⟨z, -⟩ | ⟨i, z, z1, -, -⟩
  · rw [z]
  · rw [z]
    show nI (100 * i + (fstN (onB g2 b k i) (np g2 i)).getD 0) = nI (100 * i + (fstN (onB g b k i) (np g i)).getD 0)
    rw [e i z1]
set_option maxRecDepth 100000 in
set_option maxHeartbeats 4000000 in
theorem onB_eq {g g2 : Nat → Int32} {b k : Int32} {s i : Nat} (e3 : sl g2 s (300 + i) = sl g s (300 + i)) (e4 : sl g2 s (340 + i) = sl g s (340 + i)) (el : lenV g2 s i = lenV g s i) : onB g2 b k s i = onB g b k s i := by
  unfold onB
  rw [e3, e4, el]
/-- nothing that laying rests on has changed -/
def LE (g g2 : Nat → Int32) (s : Nat) : Prop := np g2 s = np g s ∧ ∀ i, i < np g s → KE g g2 s i ∧ sl g2 s (300 + i) = sl g s (300 + i) ∧ sl g2 s (340 + i) = sl g s (340 + i)
set_option maxRecDepth 100000 in
set_option maxHeartbeats 4000000 in
theorem LE.all {g g2 : Nat → Int32} {s : Nat} (e : ∀ c, c < 390 → sl g2 s c = sl g s c) (h40 : np g s ≤ 40) : LE g g2 s := ⟨by unfold np; rw [e 8 (by omega), e 9 (by omega)], fun i hi => ⟨⟨fun c h1 h2 => e c (by omega), fun c h1 h2 => e c (by omega), e _ (by omega), e _ (by omega), e _ (by omega)⟩, e _ (by omega), e _ (by omega)⟩⟩
set_option maxRecDepth 100000 in
set_option maxHeartbeats 4000000 in
theorem LE.lies {g g2 : Nat → Int32} {b k : Int32} (W : GW g) (e1 : g2 1 = g 1) (e : ∀ s, s < nt (g 1) → LE g g2 s) : liesV g2 b k = liesV g b k := liesV_eq e1 (fun s hs => (e s hs).1) (fun s i hs hi => onB_eq ((e s hs).2 i hi).2.1 ((e s hs).2 i hi).2.2 (((e s hs).2 i hi).1.ln (W.2.2.2 s hs)))
set_option maxRecDepth 100000 in
set_option maxHeartbeats 4000000 in
/-- one sail's cells have changed, and nothing there that laying rests on -/
theorem LE.one {g g2 : Nat → Int32} {b k : Int32} {s : Nat} (W : GW g) (hs : s < nt (g 1)) (ge : ∀ j, (j < 5050 + 390 * s ∨ 5050 + 390 * s + 390 ≤ j) → g2 j = g j) (e : LE g g2 s) : liesV g2 b k = liesV g b k := LE.lies W (ge 1 (by omega)) (fun t ht => by
  by_cases z : t = s
  · rw [z]; exact e
  · exact LE.all (fun c hc => ge _ (by omega)) (W.2.2.2 t ht).2.2.2.2.1)
set_option maxRecDepth 100000 in
set_option maxHeartbeats 4000000 in
theorem lk_bolt {A gp g : Nat → Int32} (z : (A 0 = nI 0 ∧ ∃ w l gr, nt (gp 0) < 24 ∧ g = gBolt gp (nt (gp 0)) w l gr (-1))) : LkN A gp g := (Or.inl z)
set_option maxRecDepth 100000 in
set_option maxHeartbeats 4000000 in
theorem lk_wear {A gp g : Nat → Int32} (z : (A 0 = nI 2 ∧ ∃ b k v, A 1 = nI b ∧ A 2 = nI k ∧ A 3 = bl gp b (6 + k) ∧ b < nt (gp 0) ∧ k < nt (bl gp b 3) ∧ g = gWear gp b k v)) : LkN A gp g := (Or.inr (Or.inl z))
set_option maxRecDepth 100000 in
set_option maxHeartbeats 4000000 in
theorem lk_sail {A gp g : Nat → Int32} (z : (A 0 = nI 3 ∧ ∃ e1 e2 e3 e4 e5, nt (gp 1) < 10 ∧ g = gSail gp (nt (gp 1)) e1 e2 e3 e4 e5)) : LkN A gp g := (Or.inr (Or.inr (Or.inl z)))
set_option maxRecDepth 100000 in
set_option maxHeartbeats 4000000 in
theorem lk_stand {A gp g : Nat → Int32} (z : (A 0 = nI 5 ∧ ∃ s b k v, A 1 = nI s ∧ A 2 = nI b ∧ A 3 = sl gp s (18 + 61 * b + k) ∧ A 4 = nI k ∧ s < nt (gp 1) ∧ b < 2 ∧ k < nt (sl gp s (16 + b)) ∧ sl gp s 0 = 0 ∧ g = gStand gp s b k v)) : LkN A gp g := (Or.inr (Or.inr (Or.inr (Or.inl z))))
set_option maxRecDepth 100000 in
set_option maxHeartbeats 4000000 in
theorem lk_cut {A gp g : Nat → Int32} (z : (A 0 = nI 6 ∧ ∃ s w b, A 1 = nI s ∧ s < nt (gp 1) ∧ sl gp s 0 = 0 ∧ g = gCut gp s w b)) : LkN A gp g := (Or.inr (Or.inr (Or.inr (Or.inr (Or.inl z)))))
set_option maxRecDepth 100000 in
set_option maxHeartbeats 4000000 in
theorem lk_narrow {A gp g : Nat → Int32} (z : (A 0 = nI 7 ∧ ∃ s i v, A 1 = nI s ∧ A 2 = nI i ∧ A 3 = sl gp s (140 + i) ∧ s < nt (gp 1) ∧ sl gp s 0 = 1 ∧ i + 1 < nt (sl gp s 8) ∧ g = gNar gp s i v)) : LkN A gp g := (Or.inr (Or.inr (Or.inr (Or.inr (Or.inr (Or.inl z))))))
set_option maxRecDepth 100000 in
set_option maxHeartbeats 4000000 in
theorem lk_patch {A gp g : Nat → Int32} (z : (A 0 = nI 8 ∧ ∃ s y b l, A 1 = nI s ∧ s < nt (gp 1) ∧ sl gp s 0 = 1 ∧ np gp s < 40 ∧ g = gPat gp s y b l)) : LkN A gp g := (Or.inr (Or.inr (Or.inr (Or.inr (Or.inr (Or.inr (Or.inl z)))))))
set_option maxRecDepth 100000 in
set_option maxHeartbeats 4000000 in
theorem lk_lay {A gp g : Nat → Int32} (z : (A 0 = nI 9 ∧ ∃ s i b p, A 1 = nI s ∧ A 2 = nI i ∧ s < nt (gp 1) ∧ i < np gp s ∧ sl gp s (300 + i) = -1 ∧ g = gPut gp s i b p)) : LkN A gp g := (Or.inr (Or.inr (Or.inr (Or.inr (Or.inr (Or.inr (Or.inr (Or.inl z))))))))
set_option maxRecDepth 100000 in
set_option maxHeartbeats 4000000 in
theorem lk_lift {A gp g : Nat → Int32} (z : (A 0 = nI 10 ∧ ∃ s i, A 1 = nI s ∧ A 2 = nI i ∧ A 3 = sl gp s (300 + i) ∧ A 4 = sl gp s (340 + i) ∧ s < nt (gp 1) ∧ i < np gp s ∧ ¬ sl gp s (300 + i) = -1 ∧ g = gPut gp s i (-1) (-1))) : LkN A gp g := (Or.inr (Or.inr (Or.inr (Or.inr (Or.inr (Or.inr (Or.inr (Or.inr (Or.inl z)))))))))
set_option maxRecDepth 100000 in
set_option maxHeartbeats 4000000 in
theorem lk_set {A gp g : Nat → Int32} (z : (A 0 = nI 12 ∧ ∃ s z, A 1 = nI s ∧ A 3 = sl gp s 11 ∧ s < nt (gp 1) ∧ g = gSet gp s z)) : LkN A gp g := (Or.inr (Or.inr (Or.inr (Or.inr (Or.inr (Or.inr (Or.inr (Or.inr (Or.inr (Or.inl z))))))))))
set_option maxRecDepth 100000 in
set_option maxHeartbeats 4000000 in
theorem lk_reef {A gp g : Nat → Int32} (z : (A 0 = nI 13 ∧ ∃ s z, A 1 = nI s ∧ A 3 = sl gp s 10 ∧ s < nt (gp 1) ∧ g = gReef gp s z)) : LkN A gp g := (Or.inr (Or.inr (Or.inr (Or.inr (Or.inr (Or.inr (Or.inr (Or.inr (Or.inr (Or.inr (Or.inl z)))))))))))
set_option maxRecDepth 100000 in
set_option maxHeartbeats 4000000 in
theorem lk_line {A gp g : Nat → Int32} (z : (A 0 = nI 14 ∧ ∃ s z, A 1 = nI s ∧ s < nt (gp 1) ∧ nt (sl gp s 12) < 3 ∧ g = gLine gp s z)) : LkN A gp g := (Or.inr (Or.inr (Or.inr (Or.inr (Or.inr (Or.inr (Or.inr (Or.inr (Or.inr (Or.inr (Or.inr (Or.inl z))))))))))))
set_option maxRecDepth 100000 in
set_option maxHeartbeats 4000000 in
theorem lk_take {A gp g : Nat → Int32} (z : (A 0 = nI 15 ∧ ∃ s, A 1 = nI s ∧ A 2 = nI (np gp s) ∧ A 3 = sl gp s 11 ∧ s < nt (gp 1) ∧ takOK gp (nI s) = true ∧ g = gTake gp s)) : LkN A gp g := (Or.inr (Or.inr (Or.inr (Or.inr (Or.inr (Or.inr (Or.inr (Or.inr (Or.inr (Or.inr (Or.inr (Or.inr z))))))))))))
set_option maxRecDepth 100000 in
set_option maxHeartbeats 4000000 in
theorem oT_mono {n : Nat} {X Y : Nat → Prop} (h : ∀ t, X t → Y t) : ∀ t, oT n X t → oT n Y t := fun t z => by
  rcases z with z | z | z | z
  · exact Or.inl z
  · exact Or.inr (Or.inl z)
  · exact Or.inr (Or.inr (Or.inl z))
  · exact Or.inr (Or.inr (Or.inr (h t z)))
section ACT1
variable {G : GG} {d : Nat} {h h2 : AH} {Q : Option Value → AH → Prop} {ow o2 : Nat → Nat} {y : Nat} {g g2 ld wd : Nat → Int32} {kp nx s a : Nat} {ps : Nat → Nat → Int32} {T : Nat → Prop}
set_option maxRecDepth 100000 in
set_option maxHeartbeats 4000000 in
theorem SailC.mod (F : Fr T ow h o2 h2) (hT1 : ¬ T (450 + s)) (hT2 : ¬ T (460 + s)) (hT3 : ∀ i, i < 40 → ¬ T (1000 + 40 * s + i)) (w : SW g s) (e : LE g g2 s) (ee : EE g g2 s) (e4 : ∀ i, i < np g s → sl g2 s (140 + i) = sl g s (140 + i)) (r4 : hr h2 a 4 = hr h a 4) (r7 : hr h2 a 7 = hr h a 7) (i3 : hi h2 a 3 = sl g2 s 0) (i5 : hi h2 a 5 = sl g2 s 8) (i6 : hi h2 a 6 = nI (np g2 s)) (h0 : sl g2 s 0 = 0 ↔ sl g s 0 = 0) (C : SailC ow h g s a) : SailC o2 h2 g2 s a := by
  obtain ⟨c1, c2, c3, c4⟩ := C
  have h40 : np g s ≤ 40 := w.2.2.2.2.1
  have u5 := w.2.1.2.2
  refine ⟨i3, i5, i6, ?_⟩
  rw [r4, r7]
  rcases c4 with ⟨z1, z2, z3⟩ | ⟨z, ⟨pa, p1, p2, p3, p4, p5⟩, st, s1, s2, s3, s4, s5⟩
  · exact Or.inl ⟨h0.mpr z1, z2, z3⟩
  · obtain ⟨x1, x2, x3, x4, x5, -⟩ := F.at_ p2 (by omega) hT1
    obtain ⟨y1, y2, y3, y4, -⟩ := F.at_ s2 (by omega) hT2
    refine Or.inr ⟨fun q => z (h0.mp q), ⟨pa, p1, x1, x2.trans p3, x3.trans p4, fun i hi => ?_⟩, st, s1, y1, y2.trans s3, by rw [y3, s4, ee.1 5 (by omega) (by omega)], fun k hk => ?_⟩
    · rw [e.1] at hi
      obtain ⟨p, hp, P⟩ := p5 i hi
      exact ⟨p, by rw [x5]; exact hp, P.fr F (hT3 i (by omega)) w (e.2 i hi).1 (e4 i hi) (e.2 i hi).2.1 (e.2 i hi).2.2⟩
    · rw [ee.1 5 (by omega) (by omega)] at hk
      rw [y4, s5 k hk, ee.tp (by omega)]
set_option maxRecDepth 100000 in
set_option maxHeartbeats 4000000 in
theorem SailL.mod (F : Fr T ow h o2 h2) (hT1 : ¬ T (470 + s)) (w : SW g s) (r10 : hr h2 a 10 = hr h a 10) (i8 : hi h2 a 8 = sl g2 s 10) (i9 : hi h2 a 9 = sl g2 s 11) (i11 : hi h2 a 11 = hi h a 11) (e : ∀ c, 12 ≤ c → c ≤ 15 → sl g2 s c = sl g s c) (L : SailL ow h g s a) : SailL o2 h2 g2 s a := by
  obtain ⟨l1, l2, l3, q, l4, l5, l6, l7, l8⟩ := L
  obtain ⟨y1, y2, y3, y4, -⟩ := F.at_ l5 (by omega) hT1
  have u12 := w.2.2.2.2.2.2.2.2.2.2.1.2.2
  exact ⟨i8, i9, by rw [i11, l3, e 12 (by omega) (by omega)], q, by rw [r10]; exact l4, y1, y2.trans l6, y3.trans l7, fun n hn => by
      rw [e 12 (by omega) (by omega)] at hn
      rw [y4, l8 n hn, e (13 + n) (by omega) (by omega)]⟩
set_option maxRecDepth 100000 in
set_option maxHeartbeats 4000000 in
theorem Ps.sail {aa : Nat} (C : Core ow h y g ld wd) (K : Acts ow h y g kp nx ps) (I : GI g) (hs : s < nt (g 1)) (F : Fr (oT nx (sT s)) ow h o2 h2) (x : Ext h h2) (L2 : Lv o2 h2) (to : To ow o2) (r : ∀ k, hr h2 y k = hr h y k) (e1 : hi h2 y 1 = hi h y 1) (e3 : hi h2 y 3 = hi h y 3) (e6 : hi h2 y 6 = nI ((nx + 1) % 16)) (e7 : hi h2 y 7 = nI (kpS kp)) (er : hr h2 (y + 7) = upd0 (hr h (y + 7)) nx (some aa)) (ge : ∀ j, (j < 5050 + 390 * s ∨ 5050 + 390 * s + 390 ≤ j) → g2 j = g j) (el : ∀ i k, i < nt (g 0) → k < nt (bl g i 1) → liesV g2 (nI i) (nI k) = liesV g (nI i) (nI k)) (S : SailR o2 h2 y g2 s) (N : Link o2 h2 aa nx g g2) (hz2 : hz h2 ≤ hz h + 100) (us2 : us G h2 ≤ us G h + 6000) : Ps G y ow h g2 ld wd (kpS kp) ((nx + 1) % 16) (cns g ps) h2 := by
  have h10 := I.1.2.2.2
  exact ⟨o2, C.sail I.gw hs F x L2 to r (e1.trans C.2.2.1.1) (e3.trans C.2.2.1.2) ge el S, K.push F (fun t ht => by unfold sT at ht; omega) er e6 e7 N, F.zk (fun z => by unfold oT aT sT at z; omega), hz2, us2⟩
set_option maxRecDepth 100000 in
set_option maxHeartbeats 4000000 in
/-- the act is remembered, then one field of the sail is written -/
theorem act_then {X : Nat → Prop} {k o i b : Int32} {f : Nat} {v : Int32} (L : Lv ow h) (S : Sk ow h y) (oa : ow a = s) (hs100 : 100 ≤ s) (hX : X s) :
    Fr (oT nx X) ow h (upd0 ow (hz h) (2000 + nx)) (wi (raH h y nx kp k o i b) a f v) ∧ Ext h (wi (raH h y nx kp k o i b) a f v) ∧ Lv (upd0 ow (hz h) (2000 + nx)) (wi (raH h y nx kp k o i b) a f v) ∧ To ow (upd0 ow (hz h) (2000 + nx)) ∧
    (∀ q, hr (wi (raH h y nx kp k o i b) a f v) y q = hr h y q) ∧ hr (wi (raH h y nx kp k o i b) a f v) (y + 7) = upd0 (hr h (y + 7)) nx (some (hz h)) ∧
    (∀ q, q ≠ 6 → q ≠ 7 → hi (wi (raH h y nx kp k o i b) a f v) y q = hi h y q) ∧ hi (wi (raH h y nx kp k o i b) a f v) y 6 = nI ((nx + 1) % 16) ∧ hi (wi (raH h y nx kp k o i b) a f v) y 7 = nI (kpS kp) ∧
    hi (wi (raH h y nx kp k o i b) a f v) a = upd0 (hi h a) f v ∧ hr (wi (raH h y nx kp k o i b) a f v) a = hr h a ∧ upd0 ow (hz h) (2000 + nx) a = s ∧
    upd0 ow (hz h) (2000 + nx) (hz h) = 2000 + nx ∧ hk (wi (raH h y nx kp k o i b) a f v) (hz h) = 0 ∧ (hi (wi (raH h y nx kp k o i b) a f v) (hz h) = hi (mkA h k o i b) (hz h)) ∧ hr (wi (raH h y nx kp k o i b) a f v) (y + 2) = hr h (y + 2) ∧ hk (wi (raH h y nx kp k o i b) a f v) a = hk h a := by
  obtain ⟨⟨a1, a2, a3, a4, a5, a6⟩, ⟨b1, b2, b3⟩, ⟨c1, c2, c3⟩, ⟨d1, d2, d3, d4, d5⟩, ⟨e1, e2, e3⟩, ⟨f1, f2, f3⟩, ⟨g1, g2, g3⟩, ⟨h1, h2', h3⟩⟩ := S
  have ly := (L y (by omega)).1
  have l7 := (L (y + 7) (by omega)).1
  have la := (L a (by omega)).1
  have ny : y ≠ a := fun z => by rw [z, oa] at a6; omega
  have n7 : y + 7 ≠ a := fun z => by rw [z, oa] at h3; omega
  have n2 : y + 2 ≠ a := fun z => by rw [z, oa] at c3; omega
  have oy : upd0 ow (hz h) (2000 + nx) y = 1 := by rw [upd0_ne (by omega)]; exact a6
  have o7 : upd0 ow (hz h) (2000 + nx) (y + 7) = 4 := by rw [upd0_ne (by omega)]; exact h3
  have oA : upd0 ow (hz h) (2000 + nx) a = s := by rw [upd0_ne (by omega)]; exact oa
  have w1 : ∀ q, q ≠ a → hi (wi (raH h y nx kp k o i b) a f v) q = hi (raH h y nx kp k o i b) q := fun q hq => up2_a (f := hi (raH h y nx kp k o i b)) hq
  refine ⟨Fr.tr (mkA_fr L) (Fr.tr (rmH_fr oy o7) (Fr.wi (by rw [oA]; exact Or.inr (Or.inr (Or.inr hX))))), mkA_x h k o i b, mkA_lv (k := k) (o := o) (i := i) (b := b) L, To.nw L, fun q => ?_, ?_, fun q q6 q7 => ?_, ?_, ?_, ?_, ?_, oA, upd0_same _ _ _, ?_, ?_, ?_, ?_⟩
  · show hr (rmH (mkA h k o i b) y nx kp (hz h)) y q = _
    rw [rmH_r (by omega), (mkA_ne (by omega)).2.2.1]
  · show hr (rmH (mkA h k o i b) y nx kp (hz h)) (y + 7) = _
    rw [rmH_a, (mkA_ne (by omega)).2.2.1]
  · rw [w1 y ny]
    show hi (rmH (mkA h k o i b) y nx kp (hz h)) y q = _
    rw [rmH_y q6 q7, (mkA_ne (by omega)).2.1]
  · rw [w1 y ny]
    exact rmH_6
  · rw [w1 y ny]
    exact rmH_7
  · show up2 (hi (rmH (mkA h k o i b) y nx kp (hz h))) a f v a = _
    rw [up2_at, rmH_i (fun z => ny z.symm), (mkA_ne (by omega)).2.1]
  · show hr (rmH (mkA h k o i b) y nx kp (hz h)) a = _
    rw [rmH_r (fun z => n7 z.symm), (mkA_ne (by omega)).2.2.1]
  · exact hk_nw'
  · rw [w1 _ (by omega)]
    exact rmH_i (by omega)
  · show hr (rmH (mkA h k o i b) y nx kp (hz h)) (y + 2) = _
    rw [rmH_r (by omega), (mkA_ne (by omega)).2.2.1]
  · exact hk_nw (by omega)
set_option maxRecDepth 100000 in
set_option maxHeartbeats 4000000 in
theorem c_X8_set {v z : Int32} (C : Core ow h y g ld wd) (K : Acts ow h y g kp nx ps) (I : GI g) (rm : Rm G h 100 6000) (hz01 : z = 0 ∨ z = 1) (hq0 : setOK g v z = false → Q (some (.int 0)) h) (hq1 : setOK g v z = true → ∀ h2, Ps G y ow h (gSet g (nt v) z) ld wd (kpS kp) ((nx + 1) % 16) (cns g ps) h2 → Q (some (.int 1)) h2) : Rn G (d + 3) mX8_set 0 [(0, .ref y), (1, .int v), (2, .int z)] [] h Q := by
  obtain ⟨C1, C2, -⟩ := id C
  have W := I.gw
  have h10 := W.2.1.2.2
  obtain ⟨⟨s1, s2, s3, s4, s5, s6⟩, -, -, -, -, -, -, ⟨t1, t2, t3⟩⟩ := id C2
  obtain ⟨k6, k7, hnx, hkp, -⟩ := id K
  have l7 := (C1 (y + 7) (by omega)).1
  have hroom : hz h < gB G + 600000 ∧ us G h + 8 ≤ 7302250 := ⟨by have := rm.2.1; omega, by have := rm.2.2; omega⟩
  first | refine x_aload_n eX8_set_0 rfl rfl ?_ | refine x_aload_nN eX8_set_0 rfl rfl ?_
  refine x_iload_n eX8_set_1 rfl rfl ?_
  refine x_iconst (v := nI 1) eX8_set_2 (by decide) ?_
  refine x_callV2 eX8_set_3 lk_X8_120 (by assumption) (Nat.le_of_ble_eq_true rfl) (Nat.le_of_ble_eq_true rfl) ?_
  refine c_X8_sailInState C W (fun q _ => ?_) (fun j a ej hj h1 ha P _ => ?_)
  · first | refine x_astore_n eX8_set_6 rfl (by decide) rfl rfl ?_ | refine x_astore_nN eX8_set_6 rfl (by decide) rfl rfl ?_
    first | refine x_aload_n eX8_set_7 rfl rfl ?_ | refine x_aload_nN eX8_set_7 rfl rfl ?_
    refine x_ifnullN (tgt := 19) eX8_set_8 (by decide) ?_
    refine x_iconst (v := nI 0) eX8_set_19 (by decide) ?_
    refine x_zret eX8_set_20 rfl (by first | exact Or.inl rfl | exact Or.inr rfl | exact bI_or _ | assumption) ?_
    exact hq0 (by unfold setOK isC; rw [show (isS g v && decide (sl g (nt v) 0 = 1)) = false from q]; rfl)
  · subst ej
    obtain ⟨E, Cc, Ll⟩ := id P
    obtain ⟨oa, ka, -, -, e2⟩ := id E
    obtain ⟨e8, e9, e11, -⟩ := id Ll
    have hS : nt (nI j) = j := nt_nI (by omega)
    have hB := isC_of W hj h1
    obtain ⟨sw, sx⟩ := I.2.2.1 j hj
    have la := (C1 a (by omega)).1
    have hv01 : sl g j 11 = 0 ∨ sl g j 11 = 1 := by
      obtain ⟨v1, v2, v3⟩ := sw.2.2.2.2.2.2.2.2.2.1
      rcases Nat.eq_zero_or_pos (nt (sl g j 11)) with z | z
      · rw [v1, z]; exact Or.inl rfl
      · rw [v1, show nt (sl g j 11) = 1 by omega]; exact Or.inr rfl
    have ez : (if z = 0 then (0 : Int32) else 1) = z := by
      rcases hz01 with q | q
      · rw [q]; rfl
      · rw [q]; rfl
    have kaN : hk (nw h 0 8) a = 4 := by rw [hk_nw (by omega)]; exact ka
    have e9N : hi (nw h 0 8) a 9 = sl g j 11 := by rw [(nw_ne (by omega)).2.1]; exact e9
    have kyN : hk (nw h 0 8) y = 7 := by rw [hk_nw (by omega)]; exact s1
    have knN : hk (nw h 0 8) (hz h) = 0 := hk_nw'
    first | refine x_astore_n eX8_set_6 rfl (by decide) rfl rfl ?_ | refine x_astore_nN eX8_set_6 rfl (by decide) rfl rfl ?_
    first | refine x_aload_n eX8_set_7 rfl rfl ?_ | refine x_aload_nN eX8_set_7 rfl rfl ?_
    refine x_ifnullR eX8_set_8 ?_
    first | refine x_aload_n eX8_set_11 rfl rfl ?_ | refine x_aload_nN eX8_set_11 rfl rfl ?_
    first | refine x_getIe eX8_set_12 fk_X8_195 (by decide) (by assumption) (by assumption) ?_ | refine x_getI eX8_set_12 fk_X8_195 (by decide) (by assumption) ?_
    refine x_iload_n eX8_set_15 rfl rfl ?_
    first | refine x_icmp_neN (tgt := 21) eX8_set_16 (by decide) (by with_reducible rfl) (by with_reducible rfl) (by omega) (by omega) (fun cq1 => ?_) (fun cq1 => ?_) | refine x_icmp_ne (tgt := 21) eX8_set_16 (by decide) (fun cq1 => ?_) (fun cq1 => ?_)
    · have hok : setOK g (nI j) z = true := by
        unfold setOK
        rw [hB, hS, ez, decide_eq_false cq1]
        rfl
      have fin : ∀ b : Int32, b = sl g j 11 → Q (some (.int 1)) (wi (raH h y nx kp (nI 12) (nI j) (nI 0) b) a 9 z) := by
        intro b hb
        refine hq1 hok _ ?_
        rw [hS]
        obtain ⟨F, x, L2, to, r, er, ry, r6, r7, ia, ra, oA, oN, kN, iN, r2, kA⟩ := act_then (nx := nx) (kp := kp) (k := nI 12) (o := nI j) (i := nI 0) (b := b) (f := 9) (v := z) (X := fun t => t = 400 + j) C1 C2 oa (by omega) rfl
        have sc : ∀ c, c ≠ 11 → c < 390 → sl (gSet g j z) j c = sl g j c := fun c hc h3 => upd0_ne (by omega)
        have s11 : sl (gSet g j z) j 11 = z := (upd0_same g (5050 + 390 * j + 11) _).trans ez
        have le : LE g (gSet g j z) j := ⟨by unfold np; rw [sc 8 (by omega) (by omega), sc 9 (by omega) (by omega)], fun i hi => by
          have h40 : np g j ≤ 40 := sw.2.2.2.2.1
          exact ⟨⟨fun c h1 h2 => sc c (by omega) (by omega), fun c h1 h2 => sc c (by omega) (by omega), sc _ (by omega) (by omega), sc _ (by omega) (by omega), sc _ (by omega) (by omega)⟩, sc _ (by omega) (by omega), sc _ (by omega) (by omega)⟩⟩
        have ee : EE g (gSet g j z) j := ⟨fun c h1 h2 => sc c (by omega) (by omega), fun c h1 h2 => sc c (by omega) (by omega)⟩
        have ge : ∀ q, (q < 5050 + 390 * j ∨ 5050 + 390 * j + 390 ≤ q) → gSet g j z q = g q := fun q hq => upd0_ne (by omega)
        have h40 : np g j ≤ 40 := sw.2.2.2.2.1
        refine Ps.sail C K I hj (F.mono (oT_mono (fun t ht => Or.inl ht))) x L2 to r (ry 1 (by decide) (by decide)) (ry 3 (by decide) (by decide)) r6 r7 er ge (fun i k _ _ => LE.one W hj ge le) ⟨a, by rw [r2]; exact ha, ?_, ?_, ?_⟩ ⟨oN, kN, ?_⟩ ?_ ?_
        · exact E.fr2 F (fun q => by unfold oT aT at q; omega) (fun q => by unfold oT aT at q; omega) (fun q => by unfold oT aT at q; omega) (fun q => by unfold oT aT at q; omega) oA (kA.trans ka) (by rw [ra]) (by rw [ra]) (by rw [ia]; exact upd0_ne (by decide)) sw ee
        · exact Cc.mod F (fun q => by unfold oT aT at q; omega) (fun q => by unfold oT aT at q; omega) (fun i hi q => by unfold oT aT at q; omega) sw le ee (fun i hi => sc _ (by omega) (by omega)) (by rw [ra]) (by rw [ra]) (by rw [ia, upd0_ne (by decide), Cc.1, sc 0 (by omega) (by omega)]) (by rw [ia, upd0_ne (by decide), Cc.2.1, sc 8 (by omega) (by omega)]) (by rw [ia, upd0_ne (by decide), Cc.2.2.1, le.1]) (by rw [sc 0 (by omega) (by omega)])
        · exact Ll.mod F (fun q => by unfold oT aT at q; omega) sw (by rw [ra]) (by rw [ia, upd0_ne (by decide), e8, sc 10 (by omega) (by omega)]) (by rw [ia, upd0_same, s11]) (by rw [ia, upd0_ne (by decide)]) (fun c h1 h2 => sc c (by omega) (by omega))
        · rw [iN]
          obtain ⟨m0, m1, m2, m3, m4⟩ := mkA_v h (nI 12) (nI j) (nI 0) b
          exact Or.inl (lk_set ⟨m0, j, z, m1, m3.trans hb, hj, rfl⟩)
        · show hz h + 1 ≤ _
          omega
        · show us G (mkA h (nI 12) (nI j) (nI 0) b) ≤ _
          rw [mkA_us rm.1]
          omega
      have k6N : hi (mkA h (nI 12) (nI j) (nI 0) (nI 0)) y 6 = nI nx := by rw [(mkA_ne (by omega)).2.1]; exact k6
      have k7N : hi (mkA h (nI 12) (nI j) (nI 0) (nI 0)) y 7 = nI kp := by rw [(mkA_ne (by omega)).2.1]; exact k7
      have k6M : hi (mkA h (nI 12) (nI j) (nI 0) (nI 1)) y 6 = nI nx := by rw [(mkA_ne (by omega)).2.1]; exact k6
      have k7M : hi (mkA h (nI 12) (nI j) (nI 0) (nI 1)) y 7 = nI kp := by rw [(mkA_ne (by omega)).2.1]; exact k7
      have t1N : hk (nw h 0 8) (y + 7) = 30 := by rw [hk_nw (by omega)]; exact t1
      have t2N : hn (nw h 0 8) (y + 7) = 16 := by rw [hn_nw l7]; exact t2
      have s5N : ∀ b : Int32, hr (mkA h (nI 12) (nI j) (nI 0) b) y 5 = some (y + 7) := fun b => by rw [(mkA_ne (by omega)).2.2.1]; exact s5
      first | refine x_aload_n eX8_set_21 rfl rfl ?_ | refine x_aload_nN eX8_set_21 rfl rfl ?_
      refine x_new (ci := 0) eX8_set_22 rfl ck_X8_35 (by first | assumption | omega) ?_
      refine x_dup eX8_set_25 rfl ?_
      refine x_bipush (v := nI 12) eX8_set_26 (by decide) ?_
      refine x_iload_n eX8_set_28 rfl rfl ?_
      refine x_iconst (v := nI 0) eX8_set_29 (by decide) ?_
      first | refine x_aload_n eX8_set_30 rfl rfl ?_ | refine x_aload_nN eX8_set_30 rfl rfl ?_
      first | refine x_getIe eX8_set_31 fk_X8_195 (by decide) (by assumption) (by assumption) ?_ | refine x_getI eX8_set_31 fk_X8_195 (by decide) (by assumption) ?_
      first | refine x_if_eqB (tgt := 41) eX8_set_34 (by decide) (by with_reducible rfl) (fun cq2 => ?_) (fun cq2 => ?_) | refine x_if_eq (tgt := 41) eX8_set_34 (by decide) (fun cq2 => ?_) (fun cq2 => ?_)
      · refine x_iconst (v := nI 0) eX8_set_41 (by decide) ?_
        refine x_callI4 eX8_set_42 lk_X8_69 (Nat.le_of_ble_eq_true rfl) (Nat.le_of_ble_eq_true rfl) ?_
        refine Rn.deep (c_X0_init (d := d) knN (fun _ => ?_)) (by omega)
        refine x_callV1 eX8_set_45 lk_X8_72 (by assumption) (Nat.le_of_ble_eq_true rfl) (Nat.le_of_ble_eq_true rfl) ?_
        refine Rn.deep (c_X8_remember (h := mkA h (nI 12) (nI j) (nI 0) (nI 0)) (d := d) kyN (s5N _) t1N t2N k6N k7N hnx hkp knN (fun _ => ?_)) (by omega)
        first | refine x_aload_n eX8_set_48 rfl rfl ?_ | refine x_aload_nN eX8_set_48 rfl rfl ?_
        refine x_iload_n eX8_set_49 rfl rfl ?_
        refine x_putZ eX8_set_50 fk_X8_195 (by decide) rfl ⟨_, rfl, Or.inl rfl⟩ (by assumption) (by first | exact Or.inl rfl | exact Or.inr rfl | assumption) ?_
        refine x_iconst (v := nI 1) eX8_set_53 (by decide) ?_
        refine x_zret eX8_set_54 rfl (by first | exact Or.inl rfl | exact Or.inr rfl | exact bI_or _ | assumption) ?_
        exact fin _ (by have c2 : sl g j 11 = 0 := cq2; rw [c2]; rfl)
      · refine x_iconst (v := nI 1) eX8_set_37 (by decide) ?_
        refine x_goto (tgt := 42) eX8_set_38 (by decide) ?_
        refine x_callI4 eX8_set_42 lk_X8_69 (Nat.le_of_ble_eq_true rfl) (Nat.le_of_ble_eq_true rfl) ?_
        refine Rn.deep (c_X0_init (d := d) knN (fun _ => ?_)) (by omega)
        refine x_callV1 eX8_set_45 lk_X8_72 (by assumption) (Nat.le_of_ble_eq_true rfl) (Nat.le_of_ble_eq_true rfl) ?_
        refine Rn.deep (c_X8_remember (h := mkA h (nI 12) (nI j) (nI 0) (nI 1)) (d := d) kyN (s5N _) t1N t2N k6M k7M hnx hkp knN (fun _ => ?_)) (by omega)
        first | refine x_aload_n eX8_set_48 rfl rfl ?_ | refine x_aload_nN eX8_set_48 rfl rfl ?_
        refine x_iload_n eX8_set_49 rfl rfl ?_
        refine x_putZ eX8_set_50 fk_X8_195 (by decide) rfl ⟨_, rfl, Or.inl rfl⟩ (by assumption) (by first | exact Or.inl rfl | exact Or.inr rfl | assumption) ?_
        refine x_iconst (v := nI 1) eX8_set_53 (by decide) ?_
        refine x_zret eX8_set_54 rfl (by first | exact Or.inl rfl | exact Or.inr rfl | exact bI_or _ | assumption) ?_
        exact fin _ (by rcases hv01 with q | q; exact absurd q cq2; rw [q]; rfl)
    · refine x_iconst (v := nI 0) eX8_set_19 (by decide) ?_
      refine x_zret eX8_set_20 rfl (by first | exact Or.inl rfl | exact Or.inr rfl | exact bI_or _ | assumption) ?_
      exact hq0 (by unfold setOK; rw [hS, ez, decide_eq_true cq1]; simp)
end ACT1

