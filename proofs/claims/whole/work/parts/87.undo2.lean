/-! ===== undo: what happened to a sail ===== -/
section UNDO2
variable {G : GG} {d : Nat} {h h2 : AH} {Q : Option Value → AH → Prop} {ow o2 : Nat → Nat} {y : Nat} {g gp ld wd : Nat → Int32} {nx s a : Nat} {T : Nat → Prop}
set_option maxRecDepth 100000 in
set_option maxHeartbeats 4000000 in
/-- a sail's own cell alone has changed, in how it stands -/
theorem rv_st {f : Nat} {v : Int32} (C : Core ow h y g ld wd) (Ig : GI g) (hs : s < nt (g 1)) (hnx : nx < 16) (ha : hr h (y + 2) s = some a) (S : SailP ow h g s a) (ge : ∀ j, (j < 5050 + 390 * s ∨ 5050 + 390 * s + 390 ≤ j) → gp j = g j) (e : ∀ c, c < 390 → ¬ (10 ≤ c ∧ c < 16) → sl gp s c = sl g s c) (hf : f = 8 ∨ f = 9 ∨ f = 11) (e8 : sl gp s 10 = if f = 8 then v else sl g s 10) (e9 : sl gp s 11 = if f = 9 then v else sl g s 11) (e11 : sl gp s 12 = if f = 11 then v else sl g s 12) (el : ∀ n, n < nt (sl gp s 12) → n < nt (sl g s 12) ∧ sl gp s (13 + n) = sl g s (13 + n)) : Rv G ow h y gp ld wd nx (wi h a f v) := by
  obtain ⟨C1, C2, C3, -⟩ := id C
  obtain ⟨E, Cc, Ll⟩ := id S
  have Wg := Ig.gw
  have h10 := Wg.2.1.2.2
  have w := Wg.2.2.2 s hs
  have h40 : np g s ≤ 40 := w.2.2.2.2.1
  have c3 := C2.2.2.1.2.2
  have n2a : y + 2 ≠ a := fun z => by have := E.1; rw [← z, c3] at this; omega
  have F : Fr (fun t => t = 400 + s) ow h ow (wi h a f v) := Fr.wi E.1
  have ia : hi (wi h a f v) a = upd0 (hi h a) f v := up2_at (hi h) a f v
  have le : LE g gp s := ⟨by unfold np; rw [e 8 (by omega) (by omega), e 9 (by omega) (by omega)], fun i hi => ⟨⟨fun c h1 h2 => e c (by omega) (by omega), fun c h1 h2 => e c (by omega) (by omega), e _ (by omega) (by omega), e _ (by omega) (by omega), e _ (by omega) (by omega)⟩, e _ (by omega) (by omega), e _ (by omega) (by omega)⟩⟩
  have ee : EE g gp s := ⟨fun c h1 h2 => e c (by omega) (by omega), fun c h1 h2 => e c (by omega) (by omega)⟩
  have up : ∀ k, hi (wi h a f v) a k = if k = f then v else hi h a k := fun k => by rw [ia]; rfl
  obtain ⟨l1, l2, l3, q, l4, l5, l6, l7, l8⟩ := id Ll
  have nqa : q ≠ a := fun z => by have := E.1; rw [← z, l5] at this; omega
  refine Rv.sail C Wg hs hnx (F.mono (fun t ht => Or.inl (Or.inl ht))) (Ext.wi _ _ _ _) C1 To.rf ⟨rfl, rfl⟩ ge (fun i k _ _ => LE.one Wg hs ge le) ⟨a, ha, ?_, ?_, ?_⟩
  · exact E.fr2 F (by omega) (by omega) (by omega) (by omega) E.1 E.2.1 rfl rfl (by rw [up, if_neg (by omega)]) w ee
  · exact Cc.mod F (by omega) (by omega) (fun i hi => by omega) w le ee (fun i hi => e _ (by omega) (by omega)) rfl rfl (by rw [up, if_neg (by omega), Cc.1, e 0 (by omega) (by omega)]) (by rw [up, if_neg (by omega), Cc.2.1, e 8 (by omega) (by omega)]) (by rw [up, if_neg (by omega), Cc.2.2.1, le.1]) (by rw [e 0 (by omega) (by omega)])
  · refine ⟨?_, ?_, ?_, q, l4, l5, l6, l7, fun n hn => ?_⟩
    · rw [up, e8, l1]
      by_cases z : f = 8
      · rw [if_pos z.symm, if_pos z]
      · rw [if_neg (fun q => z q.symm), if_neg z]
    · rw [up, e9, l2]
      by_cases z : f = 9
      · rw [if_pos z.symm, if_pos z]
      · rw [if_neg (fun q => z q.symm), if_neg z]
    · rw [up, e11, l3]
      by_cases z : f = 11
      · rw [if_pos z.symm, if_pos z]
      · rw [if_neg (fun q => z q.symm), if_neg z]
    · obtain ⟨z1, z2⟩ := el n hn
      rw [show hi (wi h a f v) q = hi h q from up2_a (f := hi h) nqa, l8 n z1, z2]
set_option maxRecDepth 100000 in
set_option maxHeartbeats 4000000 in
theorem rv_set {z : Int32} (C : Core ow h y (gSet gp s z) ld wd) (Ig : GI (gSet gp s z)) (hs : s < nt (gp 1)) (hnx : nx < 16) (ha : hr h (y + 2) s = some a) (S : SailP ow h (gSet gp s z) s a) : Rv G ow h y gp ld wd nx (wi h a 9 (sl gp s 11)) := by
  have ge : ∀ j, (j < 5050 + 390 * s ∨ 5050 + 390 * s + 390 ≤ j) → gp j = gSet gp s z j := fun j hj => (upd0_ne (by omega)).symm
  have e : ∀ c, c < 390 → c ≠ 11 → sl gp s c = sl (gSet gp s z) s c := fun c h1 h2 => (show sl (gSet gp s z) s c = sl gp s c from upd0_ne (by omega)).symm
  exact rv_st C Ig (by rw [← ge 1 (by omega)]; exact hs) hnx ha S ge (fun c h1 h2 => e c h1 (by omega)) (Or.inr (Or.inl rfl)) (by rw [if_neg (by omega)]; exact e 10 (by omega) (by omega)) (by rw [if_pos rfl]) (by rw [if_neg (by omega)]; exact e 12 (by omega) (by omega)) (fun n hn => by
    have := (Ig.gw.2.2.2 s (by rw [← ge 1 (by omega)]; exact hs)).2.2.2.2.2.2.2.2.2.2.1.2.2
    rw [e 12 (by omega) (by omega)] at hn
    exact ⟨hn, e _ (by omega) (by omega)⟩)
set_option maxRecDepth 100000 in
set_option maxHeartbeats 4000000 in
theorem rv_reef {z : Int32} (C : Core ow h y (gReef gp s z) ld wd) (Ig : GI (gReef gp s z)) (hs : s < nt (gp 1)) (hnx : nx < 16) (ha : hr h (y + 2) s = some a) (S : SailP ow h (gReef gp s z) s a) : Rv G ow h y gp ld wd nx (wi h a 8 (sl gp s 10)) := by
  have ge : ∀ j, (j < 5050 + 390 * s ∨ 5050 + 390 * s + 390 ≤ j) → gp j = gReef gp s z j := fun j hj => (upd0_ne (by omega)).symm
  have e : ∀ c, c < 390 → c ≠ 10 → sl gp s c = sl (gReef gp s z) s c := fun c h1 h2 => (show sl (gReef gp s z) s c = sl gp s c from upd0_ne (by omega)).symm
  exact rv_st C Ig (by rw [← ge 1 (by omega)]; exact hs) hnx ha S ge (fun c h1 h2 => e c h1 (by omega)) (Or.inl rfl) (by rw [if_pos rfl]) (by rw [if_neg (by omega)]; exact e 11 (by omega) (by omega)) (by rw [if_neg (by omega)]; exact e 12 (by omega) (by omega)) (fun n hn => by
    have := (Ig.gw.2.2.2 s (by rw [← ge 1 (by omega)]; exact hs)).2.2.2.2.2.2.2.2.2.2.1.2.2
    rw [e 12 (by omega) (by omega)] at hn
    exact ⟨hn, e _ (by omega) (by omega)⟩)
set_option maxRecDepth 100000 in
set_option maxHeartbeats 4000000 in
theorem rv_line {z : Int32} (C : Core ow h y (gLine gp s z) ld wd) (Ig : GI (gLine gp s z)) (Ip : GI gp) (hs : s < nt (gp 1)) (hnx : nx < 16) (h3 : nt (sl gp s 12) < 3) (ha : hr h (y + 2) s = some a) (S : SailP ow h (gLine gp s z) s a) : Rv G ow h y gp ld wd nx (wi h a 11 (sl gp s 12)) := by
  have ge : ∀ j, (j < 5050 + 390 * s ∨ 5050 + 390 * s + 390 ≤ j) → gp j = gLine gp s z j := fun j hj => by
    unfold gLine
    rw [upd0_ne (by omega), upd0_ne (by omega)]
  have e : ∀ c, c < 390 → c ≠ 12 → c ≠ 13 + nt (sl gp s 12) → sl gp s c = sl (gLine gp s z) s c := fun c h1 h2 h4 => by
    show gp (5050 + 390 * s + c) = gLine gp s z (5050 + 390 * s + c)
    unfold gLine
    rw [upd0_ne (by omega), upd0_ne (by omega)]
  have e12 : sl (gLine gp s z) s 12 = nI (nt (sl gp s 12) + 1) := upd0_same _ _ _
  exact rv_st C Ig (by rw [← ge 1 (by omega)]; exact hs) hnx ha S ge (fun c h1 h2 => e c h1 (by omega) (by omega)) (Or.inr (Or.inr rfl)) (by rw [if_neg (by omega)]; exact e 10 (by omega) (by omega) (by omega)) (by rw [if_neg (by omega)]; exact e 11 (by omega) (by omega) (by omega)) (by rw [if_pos rfl]) (fun n hn => by
    rw [e12, nt_nI (by omega)]
    exact ⟨by omega, e _ (by omega) (by omega) (by omega)⟩)
set_option maxRecDepth 100000 in
set_option maxHeartbeats 4000000 in
theorem rv_narrow {i p : Nat} {v : Int32} (C : Core ow h y (gNar gp s i v) ld wd) (Ig : GI (gNar gp s i v)) (Ip : GI gp) (hs : s < nt (gp 1)) (hnx : nx < 16) (hi4 : i + 1 < nt (sl gp s 8)) (ha : hr h (y + 2) s = some a) (S : SailP ow h (gNar gp s i v) s a) (hpa : ∃ pa, hr h a 4 = some pa ∧ hr h pa i = some p) (P : PieceP ow h (gNar gp s i v) s i p) : Rv G ow h y gp ld wd nx (wi h p 6 (sl gp s (140 + i))) := by
  obtain ⟨C1, C2, C3, -⟩ := id C
  obtain ⟨E, Cc, Ll⟩ := id S
  have Wg := Ig.gw
  have u8 : nt (sl gp s 8) ≤ 40 := (Ip.2.2.1 s hs).1.2.2.1.2.2
  have ge : ∀ j, (j < 5050 + 390 * s ∨ 5050 + 390 * s + 390 ≤ j) → gp j = gNar gp s i v j := fun j hj => (upd0_ne (by omega)).symm
  have hsg : s < nt (gNar gp s i v 1) := by rw [← ge 1 (by omega)]; exact hs
  have h10 := Wg.2.1.2.2
  have w := Wg.2.2.2 s hsg
  have h40 : np (gNar gp s i v) s ≤ 40 := w.2.2.2.2.1
  have e : ∀ c, c < 390 → c ≠ 140 + i → sl gp s c = sl (gNar gp s i v) s c := fun c h1 h2 => (show sl (gNar gp s i v) s c = sl gp s c from upd0_ne (by omega)).symm
  obtain ⟨op, kpp, p0, p1, p2, p3, p4, p5, p6, p7, p8⟩ := id P
  have F : Fr (fun t => t = 1000 + 40 * s + i) ow h ow (wi h p 6 (sl gp s (140 + i))) := Fr.wi op
  have ip : hi (wi h p 6 (sl gp s (140 + i))) p = upd0 (hi h p) 6 (sl gp s (140 + i)) := up2_at (hi h) p 6 _
  have qa := F.at_ E.1 (by omega) (fun z => by omega)
  have le : LE (gNar gp s i v) gp s := ⟨by unfold np; rw [e 8 (by omega) (by omega), e 9 (by omega) (by omega)], fun j hj => ⟨⟨fun c h1 h2 => e c (by omega) (by omega), fun c h1 h2 => e c (by omega) (by omega), e _ (by omega) (by omega), e _ (by omega) (by omega), e _ (by omega) (by omega)⟩, e _ (by omega) (by omega), e _ (by omega) (by omega)⟩⟩
  have ee : EE (gNar gp s i v) gp s := ⟨fun c h1 h2 => e c (by omega) (by omega), fun c h1 h2 => e c (by omega) (by omega)⟩
  refine Rv.sail C Wg hsg hnx (F.mono (fun t ht => Or.inl (by unfold sT; omega))) (Ext.wi _ _ _ _) C1 To.rf ⟨rfl, rfl⟩ ge (fun i k _ _ => LE.one Wg hsg ge le) ⟨a, ha, ?_, ?_, ?_⟩
  · exact E.fr2 F (by omega) (by omega) (by omega) (by omega) E.1 E.2.1 rfl rfl (by rw [qa.2.2.2.1]) w ee
  · refine Cc.mod2 F (by omega) (by omega) w le.1 ee (fun j p' hj hpa' P' => ?_) rfl rfl (by rw [qa.2.2.2.1, Cc.1, e 0 (by omega) (by omega)]) (by rw [qa.2.2.2.1, Cc.2.1, e 8 (by omega) (by omega)]) (by rw [qa.2.2.2.1, Cc.2.2.1, le.1]) (by rw [e 0 (by omega) (by omega)])
    by_cases ej : j = i
    · subst ej
      obtain ⟨pa, a1, a2⟩ := hpa
      obtain ⟨pb, b1, b2⟩ := hpa'
      cases a1.symm.trans b1
      cases a2.symm.trans b2
      have k := (le.2 j hj).1
      have hP : isP (gNar gp s j v) s j = true := by
        unfold isP
        rw [← e 8 (by omega) (by omega)]
        exact decide_eq_true (by omega)
      refine ⟨op, kpp, ?_⟩
      rw [ip, k.ip, k.lw, k.hg, k.ln w, k.br, k.ar w, if_pos hP, (le.2 j hj).2.1, (le.2 j hj).2.2]
      exact ⟨(upd0_ne (by decide)).trans p0, (upd0_ne (by decide)).trans p1, (upd0_ne (by decide)).trans p2, (upd0_ne (by decide)).trans p3, (upd0_ne (by decide)).trans p4, (upd0_ne (by decide)).trans p5, upd0_same _ _ _, (upd0_ne (by decide)).trans p7, (upd0_ne (by decide)).trans p8⟩
    · exact P'.fr F (by omega) w (le.2 j hj).1 (e _ (by omega) (by omega)) (le.2 j hj).2.1 (le.2 j hj).2.2
  · exact Ll.mod F (by omega) w rfl (by rw [qa.2.2.2.1, Ll.1, e 10 (by omega) (by omega)]) (by rw [qa.2.2.2.1, Ll.2.1, e 11 (by omega) (by omega)]) (by rw [qa.2.2.2.1]) (fun c h1 h2 => e c (by omega) (by omega))
set_option maxRecDepth 100000 in
set_option maxHeartbeats 4000000 in
theorem gPat_np {u b l : Int32} (w : SW gp s) (hn40 : np gp s < 40) : np (gPat gp s u b l) s = np gp s + 1 := by
  have n89 : nt (sl gp s 8) + nt (sl gp s 9) = np gp s := rfl
  have s9 : sl (gPat gp s u b l) s 9 = sl gp s 9 + 1 := upd0_same _ _ _
  have s8 : sl (gPat gp s u b l) s 8 = sl gp s 8 := by
    unfold sl gPat
    rw [upd0_ne (by omega), upd0_ne (by omega), upd0_ne (by omega), upd0_ne (by omega)]
  show nt (sl (gPat gp s u b l) s 8) + nt (sl (gPat gp s u b l) s 9) = _
  rw [s8, s9, w.2.2.2.1.1, nI_1, nt_nI (by omega)]
  omega
set_option maxRecDepth 100000 in
set_option maxHeartbeats 4000000 in
theorem rv_patch {u b l : Int32} (C : Core ow h y (gPat gp s u b l) ld wd) (Ig : GI (gPat gp s u b l)) (Ip : GI gp) (hs : s < nt (gp 1)) (hnx : nx < 16) (hn40 : np gp s < 40) (ha : hr h (y + 2) s = some a) (S : SailP ow h (gPat gp s u b l) s a) (h1 : sl gp s 0 = 1) : Rv G ow h y gp ld wd nx (wi h a 6 (nI (np gp s))) := by
  obtain ⟨C1, C2, C3, -⟩ := id C
  obtain ⟨E, Cc, Ll⟩ := id S
  have Wg := Ig.gw
  have Wp := Ip.gw
  obtain ⟨wp, xp⟩ := Ip.2.2.1 s hs
  have enp := gPat_np (u := u) (b := b) (l := l) wp hn40
  obtain ⟨n, hnn⟩ : ∃ n, n = np gp s := ⟨_, rfl⟩
  rw [← hnn] at enp hn40
  have ge : ∀ j, (j < 5050 + 390 * s ∨ 5050 + 390 * s + 390 ≤ j) → gp j = gPat gp s u b l j := fun j hj => by
    unfold gPat
    rw [← hnn, upd0_ne (by omega), upd0_ne (by omega), upd0_ne (by omega), upd0_ne (by omega)]
  have hsg : s < nt (gPat gp s u b l 1) := by rw [← ge 1 (by omega)]; exact hs
  have h24 := Wg.1.2.2
  have h10 := Wg.2.1.2.2
  have w := Wg.2.2.2 s hsg
  have e : ∀ c, c ≠ 9 → c ≠ 180 + n → c ≠ 220 + n → c ≠ 260 + n → c < 390 → sl gp s c = sl (gPat gp s u b l) s c := fun c c1 c2 c3 c4 c5 => by
    show gp (5050 + 390 * s + c) = gPat gp s u b l (5050 + 390 * s + c)
    unfold gPat
    rw [← hnn, upd0_ne (by omega), upd0_ne (by omega), upd0_ne (by omega), upd0_ne (by omega)]
  have ke : ∀ i, i < n → KE (gPat gp s u b l) gp s i := fun i hi => ⟨fun c h1 h2 => e c (by omega) (by omega) (by omega) (by omega) (by omega), fun c h1 h2 => e c (by omega) (by omega) (by omega) (by omega) (by omega), e _ (by omega) (by omega) (by omega) (by omega) (by omega), e _ (by omega) (by omega) (by omega) (by omega) (by omega), e _ (by omega) (by omega) (by omega) (by omega) (by omega)⟩
  have ee : EE (gPat gp s u b l) gp s := ⟨fun c h1 h2 => e c (by omega) (by omega) (by omega) (by omega) (by omega), fun c h1 h2 => e c (by omega) (by omega) (by omega) (by omega) (by omega)⟩
  have F : Fr (fun t => t = 400 + s) ow h ow (wi h a 6 (nI (np gp s))) := Fr.wi E.1
  have ia : hi (wi h a 6 (nI (np gp s))) a = upd0 (hi h a) 6 (nI n) := by rw [← hnn]; exact up2_at (hi h) a 6 _
  obtain ⟨on1, on2⟩ := xp.2.2.2.1 n (by omega) (by omega)
  have el : ∀ i k, i < nt (gPat gp s u b l 0) → k < nt (bl (gPat gp s u b l) i 1) → liesV gp (nI i) (nI k) = liesV (gPat gp s u b l) (nI i) (nI k) := fun i k hi _ => by
    refine liesV_eq0 (ge 1 (by omega)) (fun t ht => ?_)
    by_cases z : t = s
    · subst z
      rw [enp, fstN_f (onB_m1 (by omega) (by rw [← e _ (by omega) (by omega) (by omega) (by omega) (by omega)]; exact on1)), ← hnn]
      exact fstN_eq (fun i hi => onB_eq (e _ (by omega) (by omega) (by omega) (by omega) (by omega)) (e _ (by omega) (by omega) (by omega) (by omega) (by omega)) ((ke i (by omega)).ln w))
    · have w2 := Wg.2.2.2 t ht
      have le := LE.all (g := gPat gp s u b l) (g2 := gp) (fun c hc => ge (5050 + 390 * t + c) (by omega)) w2.2.2.2.2.1
      rw [le.1]
      exact fstN_eq (fun i hi => onB_eq (le.2 i hi).2.1 (le.2 i hi).2.2 ((le.2 i hi).1.ln w2))
  refine Rv.sail C Wg hsg hnx (F.mono (fun t ht => Or.inl (Or.inl ht))) (Ext.wi _ _ _ _) C1 To.rf ⟨rfl, rfl⟩ ge el ⟨a, ha, ?_, ?_, ?_⟩
  · exact E.fr2 F (by omega) (by omega) (by omega) (by omega) E.1 E.2.1 rfl rfl (by rw [ia, upd0_ne (by decide)]) w ee
  · refine ⟨by rw [ia, upd0_ne (by decide), Cc.1, e 0 (by omega) (by omega) (by omega) (by omega) (by omega)], by rw [ia, upd0_ne (by decide), Cc.2.1, e 8 (by omega) (by omega) (by omega) (by omega) (by omega)], by rw [ia, upd0_same, hnn], Or.inr ⟨by rw [h1]; decide, ?_⟩⟩
    rcases Cc.2.2.2 with ⟨z, -⟩ | ⟨-, ⟨pa, p1, p2, p3, p4, p5⟩, st, z1, z2, z3, z4, z5⟩
    · rw [← e 0 (by omega) (by omega) (by omega) (by omega) (by omega), h1] at z
      exact absurd z (by decide)
    · have npa : pa ≠ a := fun q => by have := E.1; rw [← q, p2] at this; omega
      have nst : st ≠ a := fun q => by have := E.1; rw [← q, z2] at this; omega
      refine ⟨⟨pa, p1, p2, p3, p4, fun i hi => ?_⟩, st, z1, z2, z3, by show hn h st = _; rw [z4, ee.1 5 (by omega) (by omega)], fun k hk => ?_⟩
      · rw [← hnn] at hi
        obtain ⟨p, hp, P⟩ := p5 i (by omega)
        exact ⟨p, hp, P.fr F (by omega) w (ke i hi) (e _ (by omega) (by omega) (by omega) (by omega) (by omega)) (e _ (by omega) (by omega) (by omega) (by omega) (by omega)) (e _ (by omega) (by omega) (by omega) (by omega) (by omega))⟩
      · have u5 := w.2.1.2.2
        rw [ee.1 5 (by omega) (by omega)] at hk
        rw [show hi (wi h a 6 (nI (np gp s))) st = hi h st from up2_a (f := hi h) nst, z5 k hk, ee.tp (by omega)]
  · exact Ll.mod F (by omega) w rfl (by rw [ia, upd0_ne (by decide), Ll.1, e 10 (by omega) (by omega) (by omega) (by omega) (by omega)]) (by rw [ia, upd0_ne (by decide), Ll.2.1, e 11 (by omega) (by omega) (by omega) (by omega) (by omega)]) (by rw [ia, upd0_ne (by decide)]) (fun c h1 h2 => e c (by omega) (by omega) (by omega) (by omega) (by omega))
set_option maxRecDepth 100000 in
set_option maxHeartbeats 4000000 in
theorem rv_cut {wn bn : Nat} (C : Core ow h y (gCut gp s wn bn) ld wd) (Ig : GI (gCut gp s wn bn)) (Ip : GI gp) (hs : s < nt (gp 1)) (hnx : nx < 16) (h0 : sl gp s 0 = 0) (ha : hr h (y + 2) s = some a) (S : SailP ow h (gCut gp s wn bn) s a) : Rv G ow h y gp ld wd nx (opH h a) := by
  obtain ⟨C1, C2, C3, -⟩ := id C
  obtain ⟨E, Cc, Ll⟩ := id S
  have Wg := Ig.gw
  obtain ⟨wp, xp⟩ := Ip.2.2.1 s hs
  have np0 := xp.np0 h0
  have n89 := xp.1 h0
  have ge : ∀ j, (j < 5050 + 390 * s ∨ 5050 + 390 * s + 390 ≤ j) → gp j = gCut gp s wn bn j := fun j hj => by
    unfold gCut
    rw [upd0_ne (by omega), upd0_ne (by omega), upd0_ne (by omega), upd0_ne (by omega)]
  have hsg : s < nt (gCut gp s wn bn 1) := by rw [← ge 1 (by omega)]; exact hs
  have h24 := Wg.1.2.2
  have h10 := Wg.2.1.2.2
  have w := Wg.2.2.2 s hsg
  have h40 : np (gCut gp s wn bn) s ≤ 40 := w.2.2.2.2.1
  have gs := fun c (hc : c < 390) => gCut_sl (g := gp) (j := s) (w := wn) (b := bn) hc
  have e : ∀ c, c < 390 → c ≠ 0 → c ≠ 6 → c ≠ 7 → c ≠ 8 → sl gp s c = sl (gCut gp s wn bn) s c := fun c h1 h2 h3 h4 h5 => by rw [gs c h1, if_neg h2, if_neg h3, if_neg h4, if_neg h5]
  have ee : EE (gCut gp s wn bn) gp s := ⟨fun c h1 h2 => e c (by omega) (by omega) (by omega) (by omega) (by omega), fun c h1 h2 => e c (by omega) (by omega) (by omega) (by omega) (by omega)⟩
  have ia : hi (opH h a) a = upd0 (upd0 (upd0 (hi h a) 5 0) 6 0) 3 0 := by
    show up2 (up2 (up2 (hi h) a 5 0) a 6 0) a 3 0 a = _
    rw [up2_at, up2_at, up2_at]
  have ra : hr (opH h a) a = upd0 (upd0 (hr h a) 4 none) 7 none := by
    show up2 (up2 (hr h) a 4 none) a 7 none a = _
    rw [up2_at, up2_at]
  have rq : ∀ q, q ≠ a → hr (opH h a) q = hr h q := fun q hq => by
    show up2 (up2 (hr h) a 4 none) a 7 none q = _
    rw [up2_a hq, up2_a hq]
  have t4 : (fun t => t = 400 + s) (ow a) := E.1
  have F : Fr (fun t => t = 400 + s) ow h ow (opH h a) := Fr.tr (Fr.wq t4) (Fr.tr (Fr.wi t4) (Fr.tr (Fr.wi t4) (Fr.tr (Fr.wq t4) (Fr.wi t4))))
  have c3 := C2.2.2.1.2.2
  have n2a : y + 2 ≠ a := fun z => by have := E.1; rw [← z, c3] at this; omega
  have el : ∀ i k, i < nt (gCut gp s wn bn 0) → k < nt (bl (gCut gp s wn bn) i 1) → liesV gp (nI i) (nI k) = liesV (gCut gp s wn bn) (nI i) (nI k) := fun i k hi _ => by
    refine liesV_eq0 (ge 1 (by omega)) (fun t ht => ?_)
    by_cases z : t = s
    · subst z
      rw [np0, fstN_none (n := np (gCut gp t wn bn) t) (fun q hq => onB_m1 (by omega) (by rw [← e _ (by omega) (by omega) (by omega) (by omega) (by omega)]; exact (xp.2.2.2.1 q (by omega) (by omega)).1))]
      rfl
    · have w2 := Wg.2.2.2 t ht
      have le := LE.all (g := gCut gp s wn bn) (g2 := gp) (fun c hc => ge (5050 + 390 * t + c) (by omega)) w2.2.2.2.2.1
      rw [le.1]
      exact fstN_eq (fun i hi => onB_eq (le.2 i hi).2.1 (le.2 i hi).2.2 ((le.2 i hi).1.ln w2))
  refine Rv.sail C Wg hsg hnx (F.mono (fun t ht => Or.inl (Or.inl ht))) ⟨Nat.le_refl _, fun _ _ => rfl⟩ C1 To.rf ⟨rfl, rfl⟩ ge el ⟨a, by rw [rq _ n2a]; exact ha, ?_, ?_, ?_⟩
  · exact E.fr2 F (by omega) (by omega) (by omega) (by omega) E.1 E.2.1 (by rw [ra, upd0_ne (by decide), upd0_ne (by decide)]) (by rw [ra, upd0_ne (by decide), upd0_ne (by decide)]) (by rw [ia, upd0_ne (by decide), upd0_ne (by decide), upd0_ne (by decide)]) w ee
  · refine ⟨by rw [ia, upd0_same, h0], ?_, ?_, Or.inl ⟨h0, by rw [ra, upd0_ne (by decide), upd0_same], by rw [ra, upd0_same]⟩⟩
    · rw [ia, upd0_ne (by decide), upd0_ne (by decide), upd0_same, wp.2.2.1.1, n89.1]
      rfl
    · rw [ia, upd0_ne (by decide), upd0_same, np0]
      rfl
  · exact Ll.mod F (by omega) w (by rw [ra, upd0_ne (by decide), upd0_ne (by decide)]) (by rw [ia, upd0_ne (by decide), upd0_ne (by decide), upd0_ne (by decide), Ll.1, e 10 (by omega) (by omega) (by omega) (by omega) (by omega)]) (by rw [ia, upd0_ne (by decide), upd0_ne (by decide), upd0_ne (by decide), Ll.2.1, e 11 (by omega) (by omega) (by omega) (by omega) (by omega)]) (by rw [ia, upd0_ne (by decide), upd0_ne (by decide), upd0_ne (by decide)]) (fun c h1 h2 => e c (by omega) (by omega) (by omega) (by omega) (by omega))
end UNDO2

