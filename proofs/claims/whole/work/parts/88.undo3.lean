/-! ===== undo: edge, stand, take ===== -/
section UNDO3
variable {G : GG} {d : Nat} {h h2 : AH} {Q : Option Value → AH → Prop} {ow o2 : Nat → Nat} {y : Nat} {g gp ld wd : Nat → Int32} {nx s a : Nat} {T : Nat → Prop}
set_option maxRecDepth 100000 in
set_option maxHeartbeats 4000000 in
theorem rv_edge {b n l : Nat} {ro : Option Nat} (C : Core ow h y (gEdge gp s b n) ld wd) (Ig : GI (gEdge gp s b n)) (Ip : GI gp) (hs : s < nt (gp 1)) (h0 : sl gp s 0 = 0) (hb : b < 2) (hn61 : n ≤ 61) (hnx : nx < 16) (ha : hr h (y + 2) s = some a) (S : SailP ow h (gEdge gp s b n) s a) (SB : SideB ow h (gEdge gp s b n) s a b l) (R : RowR ow h 22 (2200 + nx) ro (nt (sl gp s (16 + b))) (fun k => sl gp s (18 + 61 * b + k))) : Rv G ow h y gp ld wd nx (wq h l 2 ro) := by
  obtain ⟨C1, C2, C3, -⟩ := id C
  obtain ⟨E, Cc, Ll⟩ := id S
  obtain ⟨oa, ka, -⟩ := id E
  obtain ⟨hl, ol, kl, e0, e1, hrow⟩ := id SB
  have Wg := Ig.gw
  obtain ⟨wp, xp⟩ := Ip.2.2.1 s hs
  have np0 := xp.np0 h0
  have gs := fun c (hc : c < 390) => gEdge_sl (g := gp) (j := s) hc hb hn61
  have e : ∀ c, c < 390 → c ≠ 16 + b → ¬ (18 + 61 * b ≤ c ∧ c < 18 + 61 * b + n) → sl gp s c = sl (gEdge gp s b n) s c := fun c h1 h2 h3 => by rw [gs c h1, if_neg h2, if_neg h3]
  have ge : ∀ j, (j < 5050 + 390 * s ∨ 5050 + 390 * s + 390 ≤ j) → gp j = gEdge gp s b n j := fun j hj => by
    unfold gEdge filG
    rw [if_neg (by omega), upd0_ne (by omega)]
  have hsg : s < nt (gEdge gp s b n 1) := by rw [← ge 1 (by omega)]; exact hs
  have h10 := Wg.2.1.2.2
  have w := Wg.2.2.2 s hsg
  have c3 := C2.2.2.1.2.2
  have n2l : y + 2 ≠ l := fun z => by rw [z, ol] at c3; omega
  have nla : a ≠ l := fun z => by rw [z, ol] at oa; omega
  have enp : np gp s = np (gEdge gp s b n) s := by unfold np; rw [e 8 (by omega) (by omega) (by omega), e 9 (by omega) (by omega) (by omega)]
  have le : LE (gEdge gp s b n) gp s := ⟨enp, fun i hi => by omega⟩
  have rq : ∀ q, q ≠ l → hr (wq h l 2 ro) q = hr h q := fun q hq => up2_a (f := hr h) hq
  have rl : hr (wq h l 2 ro) l = upd0 (hr h l) 2 ro := up2_at (hr h) l 2 ro
  have main : ∀ oF : Nat → Nat, Fr (fun t => t = 410 + 10 * b + s ∨ aT nx t) ow h oF (wq h l 2 ro) → Lv oF (wq h l 2 ro) → To ow oF → (∀ q, some q ≠ ro → oF q = ow q) → RowR oF (wq h l 2 ro) 22 (430 + 10 * b + s) ro (nt (sl gp s (16 + b))) (fun k => sl gp s (18 + 61 * b + k)) → Rv G ow h y gp ld wd nx (wq h l 2 ro) := by
    intro oF F L to oq R'
    have nr : ∀ q, hk h q ≠ 22 → some q ≠ ro := fun q hq z => by
      rcases R with ⟨r1, -⟩ | ⟨r, r1, r2, r3, -⟩
      · rw [r1] at z; cases z
      · rw [r1] at z
        cases z
        exact hq r3
    have qa := F.at_ oa (by omega) (fun z => by unfold aT at z; omega)
    have oFa : oF a = 400 + s := by rw [oq a (nr a (by rw [ka]; decide))]; exact oa
    refine Rv.sail C Wg hsg hnx (F.mono (fun t ht => ?_)) ⟨Nat.le_refl _, fun _ _ => rfl⟩ L to ⟨rfl, rfl⟩ ge (fun i k _ _ => LE.one Wg hsg ge le) ⟨a, by rw [rq (y + 2) n2l]; exact ha, ?_, ?_, ?_⟩
    · rcases ht with z | z
      · exact Or.inl (by unfold sT; omega)
      · exact Or.inr z
    · refine E.new F (fun b' h1 h2 => ⟨fun q => by unfold aT at q; omega, fun q => by unfold aT at q; omega⟩) oFa ka (rq a nla) rfl w hb (e 5 (by omega) (by omega) (by omega)) (fun b' h1 h2 => ⟨e _ (by omega) (by omega) (by omega), e _ (by omega) (by omega) (by omega), e _ (by omega) (by omega) (by omega), fun k hk => ?_⟩) (b := b) (l := l) ⟨by rw [rq a nla]; exact hl, by rw [oq l (nr l (by rw [kl]; decide))]; exact ol, kl, ?_, ?_, ?_⟩
      · have := (row61 w h1).2.2
        exact e _ (by omega) (by omega) (by omega)
      · show hi h l 0 = _
        rw [e0, e _ (by omega) (by omega) (by omega)]
      · show hi h l 1 = _
        rw [e1, e _ (by omega) (by omega) (by omega)]
      · rw [rl, upd0_same]
        exact R'
    · refine ⟨by show hi h a 3 = _; rw [Cc.1, e 0 (by omega) (by omega) (by omega)], by show hi h a 5 = _; rw [Cc.2.1, e 8 (by omega) (by omega) (by omega)], by show hi h a 6 = _; rw [Cc.2.2.1, enp], Or.inl ?_⟩
      rw [rq a nla]
      rcases Cc.2.2.2 with ⟨z1, z2, z3⟩ | ⟨z, -⟩
      · exact ⟨h0, z2, z3⟩
      · rw [← e 0 (by omega) (by omega) (by omega)] at z
        exact absurd h0 z
    · exact Ll.mod F (fun q => by unfold aT at q; omega) w (by rw [rq a nla]) (by show hi h a 8 = _; rw [Ll.1, e 10 (by omega) (by omega) (by omega)]) (by show hi h a 9 = _; rw [Ll.2.1, e 11 (by omega) (by omega) (by omega)]) rfl (fun c h1 h2 => e c (by omega) (by omega) (by omega))
  rcases R with ⟨r1, r2⟩ | ⟨r, r1, r2, r3, r4, r5, r6⟩
  · exact main ow (Fr.wq (Or.inl ol)) C1 To.rf (fun _ _ => rfl) (Or.inl ⟨r1, r2⟩)
  · exact main (upd0 ow r (430 + 10 * b + s)) (Fr.tr (Fr.wq (Or.inl ol)) (Fr.tag (Or.inr (Or.inr (Or.inr (Or.inl r2)))))) (Lv.tag (h := wq h l 2 ro) C1 (by omega) (by show hk h r ≠ 4; rw [r3]; decide)) (To.tag (by omega)) (fun q hq => upd0_ne (fun z => hq (by rw [z]; exact r1.symm))) (Or.inr ⟨r, r1, upd0_same _ _ _, r3, r4, r5, r6⟩)
set_option maxRecDepth 100000 in
set_option maxHeartbeats 4000000 in
theorem rv_stand {b k l r : Nat} {v : Int32} (C : Core ow h y (gStand gp s b k v) ld wd) (Ig : GI (gStand gp s b k v)) (Ip : GI gp) (hs : s < nt (gp 1)) (h0 : sl gp s 0 = 0) (hb : b < 2) (hkb : k < nt (sl gp s (16 + b))) (hnx : nx < 16) (ha : hr h (y + 2) s = some a) (S : SailP ow h (gStand gp s b k v) s a) (SB : SideB ow h (gStand gp s b k v) s a b l) (er : hr h l 2 = some r) : Rv G ow h y gp ld wd nx (wi h r k (sl gp s (18 + 61 * b + k))) := by
  obtain ⟨C1, C2, C3, -⟩ := id C
  obtain ⟨E, Cc, Ll⟩ := id S
  obtain ⟨oa, ka, -⟩ := id E
  obtain ⟨hl, ol, kl, e0, e1, hrow⟩ := id SB
  have Wg := Ig.gw
  obtain ⟨wp, xp⟩ := Ip.2.2.1 s hs
  have np0 := xp.np0 h0
  have u61 := (row61 wp hb).2.2
  have e : ∀ c, c < 390 → c ≠ 18 + 61 * b + k → sl gp s c = sl (gStand gp s b k v) s c := fun c h1 h2 => (show sl (gStand gp s b k v) s c = sl gp s c from upd0_ne (by omega)).symm
  have ge : ∀ j, (j < 5050 + 390 * s ∨ 5050 + 390 * s + 390 ≤ j) → gp j = gStand gp s b k v j := fun j hj => (show gStand gp s b k v j = gp j from upd0_ne (by omega)).symm
  have hsg : s < nt (gStand gp s b k v 1) := by rw [← ge 1 (by omega)]; exact hs
  have h10 := Wg.2.1.2.2
  have w := Wg.2.2.2 s hsg
  rw [er, ← e (16 + b) (by omega) (by omega)] at hrow
  obtain ⟨or_, kr, nr, n0, ev⟩ : ow r = 430 + 10 * b + s ∧ hk h r = 22 ∧ hn h r = nt (sl gp s (16 + b)) ∧ 0 < nt (sl gp s (16 + b)) ∧ ∀ q, q < nt (sl gp s (16 + b)) → hi h r q = sl (gStand gp s b k v) s (18 + 61 * b + q) := by
    rcases hrow with ⟨z, -⟩ | ⟨r', z, z2⟩
    · cases z
    · cases z
      exact z2
  have nar : a ≠ r := fun z => by rw [z, or_] at oa; omega
  have nlr : l ≠ r := fun z => by rw [z, or_] at ol; omega
  have enp : np gp s = np (gStand gp s b k v) s := by unfold np; rw [e 8 (by omega) (by omega), e 9 (by omega) (by omega)]
  have le : LE (gStand gp s b k v) gp s := ⟨enp, fun i hi => by omega⟩
  have F : Fr (fun t => t = 430 + 10 * b + s) ow h ow (wi h r k (sl gp s (18 + 61 * b + k))) := Fr.wi or_
  have iq : ∀ q, q ≠ r → hi (wi h r k (sl gp s (18 + 61 * b + k))) q = hi h q := fun q hq => up2_a (f := hi h) hq
  have ir : hi (wi h r k (sl gp s (18 + 61 * b + k))) r = upd0 (hi h r) k (sl gp s (18 + 61 * b + k)) := up2_at (hi h) r k _
  refine Rv.sail C Wg hsg hnx (F.mono (fun t ht => Or.inl (by unfold sT; omega))) ⟨Nat.le_refl _, fun _ _ => rfl⟩ C1 To.rf ⟨rfl, rfl⟩ ge (fun i k _ _ => LE.one Wg hsg ge le) ⟨a, ha, ?_, ?_, ?_⟩
  · refine E.new F (fun b' h1 h2 => ⟨fun q => by omega, fun q => by omega⟩) oa ka rfl (by rw [iq a nar]) w hb (e 5 (by omega) (by omega)) (fun b' h1 h2 => ⟨e _ (by omega) (by omega), e _ (by omega) (by omega), e _ (by omega) (by omega), fun k' hk => ?_⟩) (b := b) (l := l) ⟨hl, ol, kl, by rw [iq l nlr, e0, e _ (by omega) (by omega)], by rw [iq l nlr, e1, e _ (by omega) (by omega)], Or.inr ⟨r, er, or_, kr, nr, n0, fun q hq => ?_⟩⟩
    · have := (row61 w h1).2.2
      exact e _ (by omega) (by omega)
    · show _ = sl gp s (18 + 61 * b + q)
      rw [ir]
      by_cases ee : q = k
      · rw [ee, upd0_same]
      · rw [upd0_ne ee, ev q hq, e _ (by omega) (by omega)]
  · refine ⟨by rw [iq a nar, Cc.1, e 0 (by omega) (by omega)], by rw [iq a nar, Cc.2.1, e 8 (by omega) (by omega)], by rw [iq a nar, Cc.2.2.1, enp], Or.inl ?_⟩
    rcases Cc.2.2.2 with ⟨z1, z2, z3⟩ | ⟨z, -⟩
    · exact ⟨h0, z2, z3⟩
    · rw [← e 0 (by omega) (by omega)] at z
      exact absurd h0 z
  · exact Ll.mod F (by omega) w rfl (by rw [iq a nar, Ll.1, e 10 (by omega) (by omega)]) (by rw [iq a nar, Ll.2.1, e 11 (by omega) (by omega)]) (by rw [iq a nar]) (fun c h1 h2 => e c (by omega) (by omega))
set_option maxRecDepth 100000 in
set_option maxHeartbeats 4000000 in
theorem rv_take (C : Core ow h y (gTake gp s) ld wd) (Ig : GI (gTake gp s)) (Ip : GI gp) (hs : s < nt (gp 1)) (h1 : sl gp s 0 = 1) (hmb : nt (gp 0) + np gp s ≤ 24) (hnx : nx < 16) (ha : hr h (y + 2) s = some a) (S : SailP ow h (gTake gp s) s a) : Rv G ow h y gp ld wd nx (wi (wi (wi h y 1 (nI (nt (gp 0)))) a 3 1) a 9 (sl gp s 11)) := by
  obtain ⟨C1, C2, C3, -⟩ := id C
  obtain ⟨wp, xp⟩ := Ip.2.2.1 s hs
  have Wp := Ip.gw
  have h24 := Wp.1.2.2
  have h10 := Wp.2.1.2.2
  have o1 := C2.1.2.2.2.2.2
  have nya : y ≠ a := fun z => by have := S.1.1; rw [← z, o1] at this; omega
  have tk0 : gTk gp s (nt (gp 0)) (np gp s) 0 = nI (nt (gp 0) + np gp s) := g0_gTk gp s Ip.1.1.1
  have t0 : gTake gp s 0 = nI (nt (gp 0) + np gp s) := by
    unfold gTake
    rw [upd0_ne (by omega), upd0_ne (by omega)]
    exact tk0
  have t1 : gTake gp s 1 = gp 1 := by
    unfold gTake
    rw [upd0_ne (by omega), upd0_ne (by omega)]
    exact gTk_1
  have tb : ∀ b c, b < nt (gp 0) → c < 206 → bl (gTake gp s) b c = bl gp b c := fun b c hb hc => by
    show gTake gp s (10 + 210 * b + c) = _
    unfold gTake
    rw [upd0_ne (by omega), upd0_ne (by omega)]
    exact bl_gTk gp s hb (by omega)
  have ts : ∀ t c, t < nt (gp 1) → c < 390 → ¬ (t = s ∧ (c = 0 ∨ c = 11)) → sl (gTake gp s) t c = sl gp t c := fun t c ht hc hne => by
    show gTake gp s (5050 + 390 * t + c) = _
    unfold gTake
    rw [upd0_ne (by omega), upd0_ne (by omega)]
    exact sl_gTk gp s hmb t c
  have t00 : sl (gTake gp s) s 0 = 2 := by
    show gTake gp s (5050 + 390 * s + 0) = _
    unfold gTake
    rw [upd0_ne (by omega), upd0_same]
  have t11 : sl (gTake gp s) s 11 = 0 := upd0_same _ _ _
  -- the state between
  obtain ⟨g1, hg1⟩ : ∃ g1, g1 = upd0 (upd0 gp (5050 + 390 * s + 0) 2) (5050 + 390 * s + 11) 0 := ⟨_, rfl⟩
  have q0 : g1 0 = gp 0 := by rw [hg1, upd0_ne (by omega), upd0_ne (by omega)]
  have q1 : g1 1 = gp 1 := by rw [hg1, upd0_ne (by omega), upd0_ne (by omega)]
  have qge : ∀ j, (j < 5050 + 390 * s ∨ 5050 + 390 * s + 390 ≤ j) → gp j = g1 j := fun j hj => by rw [hg1, upd0_ne (by omega), upd0_ne (by omega)]
  have qs : ∀ c, c < 390 → c ≠ 0 → c ≠ 11 → sl gp s c = sl g1 s c := fun c h1 h2 h3 => by
    show gp (5050 + 390 * s + c) = g1 (5050 + 390 * s + c)
    rw [hg1, upd0_ne (by omega), upd0_ne (by omega)]
  have qs0 : sl g1 s 0 = 2 := by
    show g1 (5050 + 390 * s + 0) = _
    rw [hg1, upd0_ne (by omega), upd0_same]
  have qs11 : sl g1 s 11 = 0 := by
    show g1 (5050 + 390 * s + 11) = _
    rw [hg1, upd0_same]
  have W1 : GW g1 := by
    refine ⟨by rw [q0]; exact Wp.1, by rw [q1]; exact Wp.2.1, fun b hb => ?_, fun t ht => ?_⟩
    · rw [q0] at hb
      have := Wp.2.2.1 b hb
      have eb : ∀ c, c < 210 → bl g1 b c = bl gp b c := fun c hc => (qge _ (by omega)).symm
      unfold BW at this ⊢
      rw [eb 0 (by omega), eb 1 (by omega), eb 3 (by omega)]
      exact this
    · rw [q1] at ht
      by_cases z : t = s
      · subst z
        unfold SW at wp ⊢
        rw [q0, qs0, ← qs 5 (by omega) (by omega) (by omega), ← qs 8 (by omega) (by omega) (by omega), ← qs 9 (by omega) (by omega) (by omega), ← qs 6 (by omega) (by omega) (by omega), ← qs 7 (by omega) (by omega) (by omega), ← qs 10 (by omega) (by omega) (by omega), qs11, ← qs 12 (by omega) (by omega) (by omega), ← qs 16 (by omega) (by omega) (by omega), ← qs 17 (by omega) (by omega) (by omega)]
        obtain ⟨a1, a2, a3, a4, a5, a6, a7, a8, a9, a10, a11, a12, a13, a14⟩ := wp
        exact ⟨isN_nI (n := 2) (by omega) (by omega) (by omega), a2, a3, a4, a5, a6, a7, a8, a9, isN_nI (n := 0) (by omega) (by omega) (by omega), a11, a12, a13, fun i hi => by rw [← qs (300 + i) (by omega) (by omega) (by omega)]; exact a14 i hi⟩
      · exact SW_b (fun c hc => (qge _ (by omega)).symm) (by rw [q0]; exact Nat.le_refl _) (Wp.2.2.2 t ht)
  obtain ⟨CF, FF⟩ := C.fewer (gp := g1) (m := nt (gp 0)) (by rw [q0]; exact Ip.1.1.1) (by rw [q0]) (by rw [t0, nt_nI (by omega)]; omega) (by rw [q1, t1]) (fun b c hb hc => by
    rw [tb b c hb hc]
    exact (qge _ (by omega)).symm) (fun t c ht hc => by
    rw [t1] at ht
    by_cases z : t = s
    · subst z
      by_cases z0 : c = 0
      · rw [z0, qs0, t00]
      · by_cases z11 : c = 11
        · rw [z11, qs11, t11]
        · rw [← qs c hc z0 z11, ts t c ht hc (by omega)]
    · rw [ts t c ht hc (by omega)]
      exact (qge _ (by omega)).symm) Ig.gw
  have hsg : s < nt (g1 1) := by rw [q1]; exact hs
  obtain ⟨a', ha', S1⟩ := CF.2.2.2.2.2.1 s hsg
  cases ha.symm.trans ha'
  obtain ⟨E, Cc, Ll⟩ := id S1
  have w := W1.2.2.2 s hsg
  have h40 : np g1 s ≤ 40 := w.2.2.2.2.1
  obtain ⟨hA, hAd⟩ : ∃ hA, hA = wi h y 1 (nI (nt (gp 0))) := ⟨_, rfl⟩
  have iy : hi hA y = upd0 (hi h y) 1 (nI (nt (gp 0))) := by rw [hAd]; exact up2_at (hi h) y 1 _
  have rA : hr hA = hr h := by rw [hAd]; rfl
  have zA : hz hA = hz h ∧ us G hA = us G h := by rw [hAd]; exact ⟨rfl, rfl⟩
  rw [← hAd] at CF FF E Cc Ll S1 ⊢
  have F : Fr (fun t => t = 400 + s) ow hA ow (wi (wi hA a 3 1) a 9 (sl gp s 11)) := Fr.tr (Fr.wi E.1) (Fr.wi E.1)
  have ia : hi (wi (wi hA a 3 1) a 9 (sl gp s 11)) a = upd0 (upd0 (hi hA a) 3 1) 9 (sl gp s 11) := by
    show up2 (up2 (hi hA) a 3 1) a 9 _ a = _
    rw [up2_at, up2_at]
  have le : LE g1 gp s := ⟨by unfold np; rw [qs 8 (by omega) (by omega) (by omega), qs 9 (by omega) (by omega) (by omega)], fun i hi => ⟨⟨fun c h1 h2 => qs c (by omega) (by omega) (by omega), fun c h1 h2 => qs c (by omega) (by omega) (by omega), qs _ (by omega) (by omega) (by omega), qs _ (by omega) (by omega) (by omega), qs _ (by omega) (by omega) (by omega)⟩, qs _ (by omega) (by omega) (by omega), qs _ (by omega) (by omega) (by omega)⟩⟩
  have ee : EE g1 gp s := ⟨fun c h1 h2 => qs c (by omega) (by omega) (by omega), fun c h1 h2 => qs c (by omega) (by omega) (by omega)⟩
  have rv := Rv.sail (G := G) (nx := nx) CF W1 hsg hnx (F.mono (fun t ht => Or.inl (Or.inl ht))) ⟨Nat.le_refl _, fun _ _ => rfl⟩ CF.1 To.rf ⟨rfl, rfl⟩ qge (fun i k _ _ => LE.one W1 hsg qge le) ⟨a, by show hr hA (y + 2) s = _; rw [rA]; exact ha, E.fr2 F (by omega) (by omega) (by omega) (by omega) E.1 E.2.1 rfl rfl (by rw [ia, upd0_ne (by decide), upd0_ne (by decide)]) w ee, Cc.mod F (by omega) (by omega) (fun i hi => by omega) w le ee (fun i hi => qs _ (by omega) (by omega) (by omega)) rfl rfl (by rw [ia, upd0_ne (by decide), upd0_same, h1]) (by rw [ia, upd0_ne (by decide), upd0_ne (by decide), Cc.2.1, qs 8 (by omega) (by omega) (by omega)]) (by rw [ia, upd0_ne (by decide), upd0_ne (by decide), Cc.2.2.1, le.1]) ⟨fun z => absurd z (by rw [h1]; decide), fun z => absurd z (by rw [qs0]; decide)⟩, Ll.mod F (by omega) w rfl (by rw [ia, upd0_ne (by decide), upd0_ne (by decide), Ll.1, qs 10 (by omega) (by omega) (by omega)]) (by rw [ia, upd0_same]) (by rw [ia, upd0_ne (by decide), upd0_ne (by decide)]) (fun c h1 h2 => qs c (by omega) (by omega) (by omega))⟩
  obtain ⟨o2, r1, r2, ⟨r3, r4⟩, r5, r6, r7⟩ := rv
  exact ⟨o2, r1, (FF.mono (fun t ht => Or.inl (by omega))).tr r2, ⟨by rw [r3, iy, upd0_ne (by decide)], by rw [r4, iy, upd0_ne (by decide)]⟩, by rw [r5, rA], by rw [r6]; exact zA.1, by rw [r7]; exact zA.2⟩
end UNDO3

