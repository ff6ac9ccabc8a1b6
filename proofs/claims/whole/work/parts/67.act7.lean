/-! ===== acts on an open sail: edge ===== -/
section ACT7
variable {G : GG} {d : Nat} {h h2 : AH} {Q : Option Value → AH → Prop} {ow o2 : Nat → Nat} {y : Nat} {g g2 ld wd : Nat → Int32} {kp nx s a : Nat} {ps : Nat → Nat → Int32} {T : Nat → Prop}
set_option maxRecDepth 100000 in
set_option maxHeartbeats 4000000 in
theorem gEdge_sl {j b n c : Nat} (hc : c < 390) (hb : b < 2) (hn2 : n ≤ 61) : sl (gEdge g j b n) j c = if c = 16 + b then nI n else if 18 + 61 * b ≤ c ∧ c < 18 + 61 * b + n then 0 else sl g j c := by
  unfold sl gEdge filG
  by_cases z : c = 16 + b
  · rw [if_pos z, if_neg (by omega), z, upd0_same]
  · rw [if_neg z]
    by_cases z2 : 18 + 61 * b ≤ c ∧ c < 18 + 61 * b + n
    · rw [if_pos z2, if_pos (by omega)]
    · rw [if_neg z2, if_neg (by omega), upd0_ne (by omega)]
/-- the side b of a sail -/
def SideB (ow : Nat → Nat) (h : AH) (g : Nat → Int32) (s a b l : Nat) : Prop := hr h a b = some l ∧ SideP ow h l (410 + 10 * b + s) (430 + 10 * b + s) (sl g s (1 + b)) (sl g s (3 + b)) (nt (sl g s (16 + b))) (fun k => sl g s (18 + 61 * b + k))
set_option maxRecDepth 100000 in
set_option maxHeartbeats 4000000 in
theorem SailE.side {b : Nat} (E : SailE ow h g s a) (hb : b < 2) : ∃ l, SideB ow h g s a b l := by
  obtain ⟨-, -, ⟨l, h0, S0⟩, ⟨r, h1, S1⟩, -⟩ := E
  rcases Nat.lt_or_ge b 1 with z | z
  · obtain rfl : b = 0 := by omega
    exact ⟨l, h0, S0⟩
  · obtain rfl : b = 1 := by omega
    exact ⟨r, h1, S1⟩
set_option maxRecDepth 100000 in
set_option maxHeartbeats 4000000 in
/-- one side anew, the other as it was -/
theorem SailE.new {b l : Nat} (F : Fr T ow h o2 h2) (hT : ∀ b', b' < 2 → b' ≠ b → ¬ T (410 + 10 * b' + s) ∧ ¬ T (430 + 10 * b' + s)) (oa : o2 a = 400 + s) (ka : hk h2 a = 4) (ra : hr h2 a = hr h a) (i2 : hi h2 a 2 = hi h a 2) (w : SW g s) (hb : b < 2) (e5 : sl g2 s 5 = sl g s 5) (e : ∀ b', b' < 2 → b' ≠ b → sl g2 s (1 + b') = sl g s (1 + b') ∧ sl g2 s (3 + b') = sl g s (3 + b') ∧ sl g2 s (16 + b') = sl g s (16 + b') ∧ ∀ k, k < nt (sl g s (16 + b')) → sl g2 s (18 + 61 * b' + k) = sl g s (18 + 61 * b' + k)) (N : SideB o2 h2 g2 s a b l) (E : SailE ow h g s a) : SailE o2 h2 g2 s a := by
  obtain ⟨-, -, ⟨l0, h0, S0⟩, ⟨r, h1, S1⟩, x2⟩ := E
  obtain ⟨n1, n2⟩ := N
  rcases Nat.lt_or_ge b 1 with z | z
  · obtain rfl : b = 0 := by omega
    obtain ⟨q1, q2⟩ := hT 1 (by omega) (by omega)
    obtain ⟨p1, p2, p3, p4⟩ := e 1 (by omega) (by omega)
    exact ⟨oa, ka, ⟨l, n1, n2⟩, ⟨r, by rw [ra]; exact h1, SideP.fr F (by omega) q1 (by omega) q2 p1 p2 (by rw [p3]) p4 S1⟩, by rw [i2, x2, e5]⟩
  · obtain rfl : b = 1 := by omega
    obtain ⟨q1, q2⟩ := hT 0 (by omega) (by omega)
    obtain ⟨p1, p2, p3, p4⟩ := e 0 (by omega) (by omega)
    refine ⟨oa, ka, ⟨l0, by rw [ra]; exact h0, SideP.fr (t := 410 + s) (tr := 430 + s) F (by omega) q1 (by omega) q2 p1 p2 (by rw [p3]) (fun k hk => ?_) S0⟩, ⟨l, n1, n2⟩, by rw [i2, x2, e5]⟩
    exact p4 k hk
set_option maxRecDepth 100000 in
set_option maxHeartbeats 4000000 in
theorem edge_fin {j b n l : Nat} {rn : Option Nat} {hB : AH} {oB : Nat → Nat} (C : Core ow h y g ld wd) (K : Acts ow h y g kp nx ps) (I : GI g) (rm : Rm G h 100 6000) (hj : j < nt (g 1)) (h0 : sl g j 0 = 0) (hb : b < 2) (hn2 : n ≤ 61) (ha : hr h (y + 2) j = some a) (P : SailP ow h g j a) (SB : SideB ow h g j a b l)
    (FB : Fr (oT nx (fun t => t = 410 + 10 * b + j ∨ t = 430 + 10 * b + j)) (upd0 ow (hz h) (2000 + nx)) (wq (mkA h (nI 4) (nI j) (nI b) (nI 0)) (hz h) 6 (hr h l 2)) oB hB) (xB : Ext (wq (mkA h (nI 4) (nI j) (nI b) (nI 0)) (hz h) 6 (hr h l 2)) hB) (LB : Lv oB hB) (toB : To (upd0 ow (hz h) (2000 + nx)) oB)
    (same : ∀ q, q < hz h + 1 → hi hB q = hi (wq (mkA h (nI 4) (nI j) (nI b) (nI 0)) (hz h) 6 (hr h l 2)) q ∧ hr hB q = hr (wq (mkA h (nI 4) (nI j) (nI b) (nI 0)) (hz h) 6 (hr h l 2)) q ∧ oB q = upd0 ow (hz h) (2000 + nx) q)
    (row2 : (rn = none ∧ n = 0) ∨ ∃ rr, rn = some rr ∧ rr = hz h + 1 ∧ oB rr = 430 + 10 * b + j ∧ hk hB rr = 22 ∧ hn hB rr = n ∧ 0 < n ∧ ∀ k, k < n → hi hB rr k = 0) (hzB : hz hB ≤ hz h + 2) (usB : us G hB ≤ us G h + 300) : Ps G y ow h (gEdge g j b n) ld wd (kpS kp) ((nx + 1) % 16) (cns g ps) (rmH (wq hB l 2 rn) y nx kp (hz h)) := by
  obtain ⟨C1, C2, -⟩ := id C
  have W := I.gw
  have h10 := W.2.1.2.2
  obtain ⟨⟨s1, s2, s3, s4, s5, s6⟩, -, ⟨-, -, b3⟩, -, -, -, -, ⟨t1, t2, t3⟩⟩ := id C2
  obtain ⟨k6, k7, hnx, hkp, -⟩ := id K
  have l7 := (C1 (y + 7) (by omega)).1
  obtain ⟨E, Cc, Ll⟩ := id P
  obtain ⟨oa, ka, -, -, -⟩ := id E
  obtain ⟨hl, ol, kl, e0, e1, hrow⟩ := id SB
  obtain ⟨sw, sx⟩ := I.2.2.1 j hj
  have np0 := sx.np0 h0
  have la := (C1 a (by omega)).1
  have ll := (C1 l (by omega)).1
  have nyl : y ≠ l := fun z => by rw [z, ol] at s6; omega
  have n7l : y + 7 ≠ l := fun z => by rw [z, ol] at t3; omega
  have n2l : y + 2 ≠ l := fun z => by rw [z, ol] at b3; omega
  have xA : Ext h (wq (mkA h (nI 4) (nI j) (nI b) (nI 0)) (hz h) 6 (hr h l 2)) := mkA_x h (nI 4) (nI j) (nI b) (nI 0)
  have hzA : hz (wq (mkA h (nI 4) (nI j) (nI b) (nI 0)) (hz h) 6 (hr h l 2)) = hz h + 1 := rfl
  have iAq : ∀ q, q ≠ hz h → hi (wq (mkA h (nI 4) (nI j) (nI b) (nI 0)) (hz h) 6 (hr h l 2)) q = hi h q := fun q hq => (mkA_ne (k := nI 4) (o := nI j) (i := nI b) (b := nI 0) hq).2.1
  have rAq : ∀ q, q ≠ hz h → hr (wq (mkA h (nI 4) (nI j) (nI b) (nI 0)) (hz h) 6 (hr h l 2)) q = hr h q := fun q hq => by
    show up2 (hr (mkA h (nI 4) (nI j) (nI b) (nI 0))) (hz h) 6 _ q = _
    rw [up2_a hq, (mkA_ne hq).2.2.1]
  have rA5 : hr (wq (mkA h (nI 4) (nI j) (nI b) (nI 0)) (hz h) 6 (hr h l 2)) (hz h) 6 = hr h l 2 := by
    show up2 (hr (mkA h (nI 4) (nI j) (nI b) (nI 0))) (hz h) 6 _ (hz h) 6 = _
    rw [up2_same]
  have FA : Fr (oT nx (fun t => t = 410 + 10 * b + j ∨ t = 430 + 10 * b + j)) ow h (upd0 ow (hz h) (2000 + nx)) (wq (mkA h (nI 4) (nI j) (nI b) (nI 0)) (hz h) 6 (hr h l 2)) := Fr.tr (mkA_fr C1) (Fr.wq (by rw [upd0_same]; exact Or.inr (Or.inr (Or.inl (Or.inl rfl)))))
  have oBq : ∀ q, q ≠ hz h → q < hz h → oB q = ow q := fun q h1 h2 => by rw [(same q (by omega)).2.2, upd0_ne h1]
  have oBl : oB l = 410 + 10 * b + j := by rw [oBq l (by omega) ll]; exact ol
  have oBy : oB y = 1 := by rw [oBq y (by omega) (by omega)]; exact s6
  have oB7 : oB (y + 7) = 4 := by rw [oBq (y + 7) (by omega) l7]; exact t3
  have m0 := mkA_v h (nI 4) (nI j) (nI b) (nI 0)
  have F3 : Fr (oT nx (fun t => t = 410 + 10 * b + j ∨ t = 430 + 10 * b + j)) ow h oB (rmH (wq hB l 2 rn) y nx kp (hz h)) := Fr.tr FA (Fr.tr FB (Fr.tr (Fr.wq (by rw [oBl]; exact Or.inr (Or.inr (Or.inr (Or.inl rfl))))) (rmH_fr oBy oB7)))
  have x3 : Ext h (rmH (wq hB l 2 rn) y nx kp (hz h)) := xA.tr (xB.tr ⟨Nat.le_refl _, fun _ _ => rfl⟩)
  have i3 : ∀ q, q < hz h → q ≠ y → hi (rmH (wq hB l 2 rn) y nx kp (hz h)) q = hi h q := fun q h1 h2 => by
    rw [rmH_i h2]
    show hi hB q = _
    rw [(same q (by omega)).1, iAq q (by omega)]
  have r3 : ∀ q, q < hz h → q ≠ y + 7 → q ≠ l → hr (rmH (wq hB l 2 rn) y nx kp (hz h)) q = hr h q := fun q h1 h2 h3 => by
    rw [rmH_r h2]
    show up2 (hr hB) l 2 rn q = _
    rw [up2_a h3, (same q (by omega)).2.1, rAq q (by omega)]
  have rl : hr (rmH (wq hB l 2 rn) y nx kp (hz h)) l = upd0 (hr h l) 2 rn := by
    rw [rmH_r (fun z => n7l z.symm)]
    show up2 (hr hB) l 2 rn l = _
    rw [up2_at, (same l (by omega)).2.1, rAq l (by omega)]
  have r7 : hr (rmH (wq hB l 2 rn) y nx kp (hz h)) (y + 7) = upd0 (hr h (y + 7)) nx (some (hz h)) := by
    rw [rmH_a]
    show upd0 (up2 (hr hB) l 2 rn (y + 7)) nx _ = _
    rw [up2_a n7l, (same (y + 7) (by omega)).2.1, rAq (y + 7) (by omega)]
  have y3 : ∀ q, q ≠ 6 → q ≠ 7 → hi (rmH (wq hB l 2 rn) y nx kp (hz h)) y q = hi h y q := fun q h1 h2 => by
    rw [rmH_y h1 h2]
    show hi hB y q = _
    rw [(same y (by omega)).1, iAq y (by omega)]
  have iN : hi (rmH (wq hB l 2 rn) y nx kp (hz h)) (hz h) = hi (mkA h (nI 4) (nI j) (nI b) (nI 0)) (hz h) := by
    rw [rmH_i (by omega)]
    exact (same (hz h) (by omega)).1
  have rN5 : hr (rmH (wq hB l 2 rn) y nx kp (hz h)) (hz h) 6 = hr h l 2 := by
    rw [rmH_r (by omega)]
    show up2 (hr hB) l 2 rn (hz h) 6 = _
    rw [up2_a (by omega), (same (hz h) (by omega)).2.1]
    exact rA5
  have kN : hk (rmH (wq hB l 2 rn) y nx kp (hz h)) (hz h) = 0 := by
    show hk hB (hz h) = 0
    rw [xB.k (by omega)]
    exact hk_nw'
  have oN : oB (hz h) = 2000 + nx := by rw [(same (hz h) (by omega)).2.2, upd0_same]
  have gs := fun c (hc : c < 390) => gEdge_sl (g := g) (j := j) hc hb hn2
  have gsc : ∀ c, c < 390 → c ≠ 16 + b → ¬ (18 + 61 * b ≤ c ∧ c < 18 + 61 * b + n) → sl (gEdge g j b n) j c = sl g j c := fun c h1 h2 h3 => by rw [gs c h1, if_neg h2, if_neg h3]
  have ge : ∀ q, (q < 5050 + 390 * j ∨ 5050 + 390 * j + 390 ≤ q) → gEdge g j b n q = g q := fun q hq => by
    unfold gEdge filG
    rw [if_neg (by omega), upd0_ne (by omega)]
  have enp : np (gEdge g j b n) j = np g j := by unfold np; rw [gsc 8 (by omega) (by omega) (by omega), gsc 9 (by omega) (by omega) (by omega)]
  have le : LE g (gEdge g j b n) j := ⟨enp, fun i hi => by omega⟩
  obtain ⟨f1, f2, f3, f4, f5, -⟩ := F3.at_ oa (by omega) (fun q => by unfold oT aT at q; omega)
  have wr : isN (sl g j (16 + b)) 0 61 := by
    rcases Nat.lt_or_ge b 1 with z | z
    · obtain rfl : b = 0 := by omega
      exact sw.2.2.2.2.2.2.2.2.2.2.2.1
    · obtain rfl : b = 1 := by omega
      exact sw.2.2.2.2.2.2.2.2.2.2.2.2.1
  have go : ∀ oF : Nat → Nat, Fr (oT nx (fun t => t = 410 + 10 * b + j ∨ t = 430 + 10 * b + j)) ow h oF (rmH (wq hB l 2 rn) y nx kp (hz h)) → Lv oF (rmH (wq hB l 2 rn) y nx kp (hz h)) → To ow oF → (∀ q, some q ≠ hr h l 2 → oF q = oB q) → RowR oF (rmH (wq hB l 2 rn) y nx kp (hz h)) 22 (2200 + nx) (hr h l 2) (nt (sl g j (16 + b))) (fun k => sl g j (18 + 61 * b + k)) → Ps G y ow h (gEdge g j b n) ld wd (kpS kp) ((nx + 1) % 16) (cns g ps) (rmH (wq hB l 2 rn) y nx kp (hz h)) := by
    intro oF F L to oq old
    have nr : ∀ q, (hk h q ≠ 22 ∨ hz h ≤ q) → some q ≠ hr h l 2 := fun q hq z => by
      rcases hrow with ⟨r1, -⟩ | ⟨r, r1, r2, r4, -⟩
      · rw [r1] at z
        cases z
      · rw [r1] at z
        cases z
        rcases hq with hq | hq
        · exact hq r4
        · have := (C1 q (by omega)).1
          omega
    have oFa : oF a = 400 + j := by rw [oq a (nr a (Or.inl (by rw [ka]; decide)))]; exact f1
    refine Ps.sail C K I hj (F.mono (oT_mono (fun t ht => by unfold sT; omega))) x3 L to (fun k => by rw [r3 y (by omega) (by omega) nyl]) (y3 1 (by decide) (by decide)) (y3 3 (by decide) (by decide)) rmH_6 rmH_7 r7 ge (fun i k _ _ => LE.one W hj ge le) ⟨a, by rw [r3 (y + 2) (by omega) (by omega) n2l]; exact ha, ?_, ?_, ?_⟩ ⟨by rw [oq _ (nr _ (Or.inr (Nat.le_refl _)))]; exact oN, kN, ?_⟩ ?_ ?_
    · refine E.new F (fun b' h1 h2 => ⟨fun q => by unfold oT aT at q; omega, fun q => by unfold oT aT at q; omega⟩) oFa (f2.trans ka) f5 (by rw [f4]) sw hb (gsc 5 (by omega) (by omega) (by omega)) (fun b' h1 h2 => ⟨gsc _ (by omega) (by omega) (by omega), gsc _ (by omega) (by omega) (by omega), gsc _ (by omega) (by omega) (by omega), fun k hk => ?_⟩) (b := b) (l := l) ⟨by rw [f5]; exact hl, by rw [oq l (nr l (Or.inl (by rw [kl]; decide)))]; exact oBl, (x3.k ll).trans kl, by rw [i3 l ll (fun z => nyl z.symm), e0, gsc _ (by omega) (by omega) (by omega)], by rw [i3 l ll (fun z => nyl z.symm), e1, gsc _ (by omega) (by omega) (by omega)], ?_⟩
      · have w' : nt (sl g j (16 + b')) ≤ 61 := by
          rcases Nat.lt_or_ge b' 1 with z | z
          · obtain rfl : b' = 0 := by omega
            exact sw.2.2.2.2.2.2.2.2.2.2.2.1.2.2
          · obtain rfl : b' = 1 := by omega
            exact sw.2.2.2.2.2.2.2.2.2.2.2.2.1.2.2
        exact gsc _ (by omega) (by omega) (by omega)
      · rw [rl, upd0_same, gs (16 + b) (by omega), if_pos rfl, nt_nI (by omega)]
        rcases row2 with ⟨z1, z2⟩ | ⟨rr, z1, z0, z2, z3, z4, z5, z6⟩
        · exact Or.inl ⟨z1, z2⟩
        · refine Or.inr ⟨rr, z1, by rw [oq rr (nr rr (Or.inr (by omega)))]; exact z2, z3, z4, z5, fun k hk => ?_⟩
          show _ = sl (gEdge g j b n) j (18 + 61 * b + k)
          rw [rmH_i (by omega), gs (18 + 61 * b + k) (by omega), if_neg (by omega), if_pos (by omega)]
          exact z6 k hk
    · refine ⟨by rw [f4, Cc.1, gsc 0 (by omega) (by omega) (by omega)], by rw [f4, Cc.2.1, gsc 8 (by omega) (by omega) (by omega)], by rw [f4, Cc.2.2.1, enp], Or.inl ?_⟩
      rw [f5, gsc 0 (by omega) (by omega) (by omega)]
      rcases Cc.2.2.2 with z | ⟨z, -⟩
      · exact z
      · exact absurd h0 z
    · exact Ll.mod F (fun q => by unfold oT aT at q; omega) sw (by rw [f5]) (by rw [f4, Ll.1, gsc 10 (by omega) (by omega) (by omega)]) (by rw [f4, Ll.2.1, gsc 11 (by omega) (by omega) (by omega)]) (by rw [f4]) (fun c h1 h2 => gsc c (by omega) (by omega) (by omega))
    · rw [iN]
      exact Or.inr (Or.inr (Or.inl ⟨m0.1, j, b, n, m0.2.1, m0.2.2.1, hj, hb, hn2, h0, rfl, by rw [rN5]; exact old⟩))
    · exact Nat.le_trans hzB (by omega)
    · exact Nat.le_trans usB (by omega)
  rcases hrow with ⟨r1, r2⟩ | ⟨r, r1, r2, r4, r5, r6, r8⟩
  · exact go oB F3 LB ((To.nw C1).tr toB) (fun _ _ => rfl) (Or.inl ⟨r1, r2⟩)
  · have lr := (C1 r (by omega)).1
    have oBr : oB r = 430 + 10 * b + j := by rw [oBq r (by omega) lr]; exact r2
    have nyr : r ≠ y := fun z => by rw [z, s6] at r2; omega
    refine go (upd0 oB r (2200 + nx)) (Fr.tr F3 (Fr.tag (by rw [oBr]; exact Or.inr (Or.inr (Or.inr (Or.inr rfl)))))) (Lv.tag (h := rmH (wq hB l 2 rn) y nx kp (hz h)) LB (by rw [oBr]; omega) (by rw [x3.k lr, r4]; decide)) (((To.nw C1).tr toB).tr (To.tag (by rw [oBr]; omega))) (fun q hq => upd0_ne (fun z => hq (by rw [z]; exact r1.symm))) (Or.inr ⟨r, r1, upd0_same _ _ _, (x3.k lr).trans r4, (x3.n lr).trans r5, r6, fun k hk => ?_⟩)
    rw [i3 r lr nyr]
    exact r8 k hk
set_option maxRecDepth 100000 in
set_option maxHeartbeats 4000000 in
theorem c_X8_edge {v u w : Int32} (C : Core ow h y g ld wd) (K : Acts ow h y g kp nx ps) (I : GI g) (rm : Rm G h 100 6000) (hq0 : edgeOK g v u w = false → Q (some (.int 0)) h) (hq1 : edgeOK g v u w = true → ∀ h2, Ps G y ow h (gEdge g (nt v) (nt u) (nt w)) ld wd (kpS kp) ((nx + 1) % 16) (cns g ps) h2 → Q (some (.int 1)) h2) : Rn G (d + 3) mX8_edge 0 [(0, .ref y), (1, .int v), (2, .int u), (3, .int w)] [] h Q := by
  obtain ⟨C1, C2, -⟩ := id C
  have W := I.gw
  have h10 := W.2.1.2.2
  obtain ⟨⟨s1, s2, s3, s4, s5, s6⟩, -, ⟨-, -, b3⟩, -, -, -, -, ⟨t1, t2, t3⟩⟩ := id C2
  obtain ⟨k6, k7, hnx, hkp, -⟩ := id K
  have l7 := (C1 (y + 7) (by omega)).1
  first | refine x_aload_n eX8_edge_0 rfl rfl ?_ | refine x_aload_nN eX8_edge_0 rfl rfl ?_
  refine x_iload_n eX8_edge_1 rfl rfl ?_
  refine x_iconst (v := nI 0) eX8_edge_2 (by decide) ?_
  refine x_callV2 eX8_edge_3 lk_X8_120 (by assumption) (Nat.le_of_ble_eq_true rfl) (Nat.le_of_ble_eq_true rfl) ?_
  refine c_X8_sailInState C W (fun q _ => ?_) (fun j a ej hj h0 ha P _ => ?_)
  · first | refine x_astore eX8_edge_6 (by decide) rfl rfl ?_ | refine x_astoreN eX8_edge_6 (by decide) rfl rfl ?_
    first | refine x_aload eX8_edge_8 rfl ?_ | refine x_aloadN eX8_edge_8 rfl ?_
    refine x_ifnullN (tgt := 28) eX8_edge_10 (by decide) ?_
    refine x_iconst (v := nI 0) eX8_edge_28 (by decide) ?_
    refine x_zret eX8_edge_29 rfl (by first | exact Or.inl rfl | exact Or.inr rfl | exact bI_or _ | assumption) ?_
    exact hq0 (by unfold edgeOK isO; rw [show (isS g v && decide (sl g (nt v) 0 = 0)) = false from q]; rfl)
  · subst ej
    have h0 : sl g j 0 = 0 := h0
    obtain ⟨E, Cc, Ll⟩ := id P
    obtain ⟨oa, ka, -, -, e2⟩ := id E
    have hS : nt (nI j) = j := nt_nI (by omega)
    have hB := isO_of W hj h0
    obtain ⟨sw, sx⟩ := I.2.2.1 j hj
    obtain ⟨w5, w51, w52⟩ := sw.2.1
    have e2' : hi h a 2 = nI (nt (sl g j 5)) := e2.trans w5
    have e51 : sl g j 5 + 1 = nI (nt (sl g j 5) + 1) := by rw [← nI_1, ← w5]
    clear e2
    first | refine x_astore eX8_edge_6 (by decide) rfl rfl ?_ | refine x_astoreN eX8_edge_6 (by decide) rfl rfl ?_
    first | refine x_aload eX8_edge_8 rfl ?_ | refine x_aloadN eX8_edge_8 rfl ?_
    refine x_ifnullR eX8_edge_10 ?_
    refine x_iload_n eX8_edge_13 rfl rfl ?_
    refine x_iconst (v := nI 0) eX8_edge_14 (by decide) ?_
    first | refine x_aload eX8_edge_15 rfl ?_ | refine x_aloadN eX8_edge_15 rfl ?_
    first | refine x_getIe eX8_edge_17 fk_X8_124 (by decide) (by assumption) (by assumption) ?_ | refine x_getI eX8_edge_17 fk_X8_124 (by decide) (by assumption) ?_
    refine x_iconst (v := nI 1) eX8_edge_20 (by decide) ?_
    first | refine x_iaddN eX8_edge_21 (by with_reducible rfl) (by with_reducible rfl) ?_ | refine x_iadd eX8_edge_21 ?_
    refine x_callS3 eX8_edge_22 lk_X8_51 (Nat.le_of_ble_eq_true rfl) (Nat.le_of_ble_eq_true rfl) ?_
    refine Rn.deep (c_X8_isWithin (d := d) (fun _ => ?_)) (by omega)
    first | refine x_if_neB (tgt := 30) eX8_edge_25 (by decide) (by with_reducible rfl) (fun cq1 => ?_) (fun cq1 => ?_) | refine x_if_ne (tgt := 30) eX8_edge_25 (by decide) (fun cq1 => ?_) (fun cq1 => ?_)
    · obtain ⟨n, -, hn1, rfl⟩ := inR_N (lo := 0) (hi := nt (sl g j 5) + 1) cq1 rfl (by omega) (by omega)
      have hN : nt (nI n) = n := nt_nI (by omega)
      have hr1 : hz h < gB G + 600000 ∧ us G h + 8 ≤ 7302250 := ⟨by have := rm.2.1; omega, by have := rm.2.2; omega⟩
      -- one side or the other
      have main : ∀ b l, b < 2 → u = nI b → SideB ow h g j a b l → Rn G (d + 3) mX8_edge 45 [(0, .ref y), (1, .int (nI j)), (2, .int u), (3, .int (nI n)), (5, .ref l)] [] h Q := by
        intro b l hb eb SB
        subst eb
        obtain ⟨hl, ol, kl, -, -, hrow⟩ := id SB
        have ll := (C1 l (by omega)).1
        have hBb : nt (nI b) = b := nt_nI (by omega)
        have nyl : y ≠ l := fun z => by rw [z, ol] at s6; omega
        have hok : edgeOK g (nI j) (nI b) (nI n) = true := by
          unfold edgeOK
          rw [hB, hS, show inR (nI b) 0 1 = true from inR_nI (lo := 0) (hi := 1) (Nat.zero_le _) (by omega) (by omega), e51, show inR (nI n) 0 (nI (nt (sl g j 5) + 1)) = true from cq1]
          rfl
        have knN : hk (nw h 0 8) (hz h) = 0 := hk_nw'
        have klN : hk (nw h 0 8) l = 5 := by rw [hk_nw (by omega)]; exact kl
        have kyN : hk (nw h 0 8) y = 7 := by rw [hk_nw (by omega)]; exact s1
        have rlN : hr (mkA h (nI 4) (nI j) (nI b) (nI 0)) l 2 = hr h l 2 := by rw [(mkA_ne (by omega)).2.2.1]
        have usA : us G (mkA h (nI 4) (nI j) (nI b) (nI 0)) = us G h + 8 := mkA_us rm.1
        have L1 := mkA_lv (t := 2000 + nx) (k := nI 4) (o := nI j) (i := nI b) (b := nI 0) C1
        have hq1' := hq1 hok
        rw [hS, hN, hBb] at hq1'
        have fin1 : ∀ ro : Option Nat, ro = hr h l 2 → n = 0 → Q (some (.int 1)) (rmH (wq (wq (mkA h (nI 4) (nI j) (nI b) (nI 0)) (hz h) 6 ro) l 2 none) y nx kp (hz h)) := fun ro ero en => by
          subst ero
          exact hq1' _ (edge_fin C K I rm hj h0 hb (by omega) ha P SB Fr.rf (Ext.rf _) L1 To.rf (fun q hq => ⟨rfl, rfl, rfl⟩) (Or.inl ⟨rfl, en⟩) (by show hz h + 1 ≤ _; omega) (by show us G (mkA h (nI 4) (nI j) (nI b) (nI 0)) ≤ _; omega))
        have fin2 : ∀ ro : Option Nat, ro = hr h l 2 → 0 < n → Q (some (.int 1)) (rmH (wq (nw (wq (mkA h (nI 4) (nI j) (nI b) (nI 0)) (hz h) 6 ro) 22 n) l 2 (some (hz h + 1))) y nx kp (hz h)) := fun ro ero en => by
          subst ero
          refine hq1' _ (edge_fin C K I rm hj h0 hb (by omega) ha P SB (Fr.nw (t := 430 + 10 * b + j) L1) (Ext.nw _ 22 n) (Lv.nw L1 (fun z => by cases z)) (To.nw L1) (fun q hq => ?_) (Or.inr ⟨hz h + 1, rfl, rfl, upd0_same _ _ _, hk_nw', hn_nw', en, fun k hk => ?_⟩) (by show hz h + 1 + 1 ≤ _; omega) ?_)
          · have e := nw_ne (h := wq (mkA h (nI 4) (nI j) (nI b) (nI 0)) (hz h) 6 (hr h l 2)) (kd := 22) (n := n) (b := q) (by show q ≠ hz h + 1; omega)
            exact ⟨e.2.1, e.2.2.1, upd0_ne (by show q ≠ hz h + 1; omega)⟩
          · exact if_pos rfl
          · rw [us_nw (by show gB G ≤ hz h + 1; have := rm.1; omega)]
            show us G (mkA h (nI 4) (nI j) (nI b) (nI 0)) + n ≤ _
            omega
        have c_rm : ∀ (hB : AH) (rn : Option Nat), hk hB y = 7 → hr hB y 5 = some (y + 7) → hk hB (y + 7) = 30 → hn hB (y + 7) = 16 → hi hB y 6 = nI nx → hi hB y 7 = nI kp → hk hB (hz h) = 0 → Q (some (.int 1)) (rmH (wq hB l 2 rn) y nx kp (hz h)) → Rn G (d + 3) mX8_edge 84 [(0, .ref y), (6, .ref (hz h))] [] (wq hB l 2 rn) Q := fun hB rn q1 q2 q3 q4 q5 q6 q7 q8 => by
          have q1' : hk (wq hB l 2 rn) y = 7 := q1
          first | refine x_aload_n eX8_edge_84 rfl rfl ?_ | refine x_aload_nN eX8_edge_84 rfl rfl ?_
          first | refine x_aload eX8_edge_85 rfl ?_ | refine x_aloadN eX8_edge_85 rfl ?_
          refine x_callV1 eX8_edge_87 lk_X8_72 (by assumption) (Nat.le_of_ble_eq_true rfl) (Nat.le_of_ble_eq_true rfl) ?_
          refine Rn.deep (c_X8_remember (d := d) (h := wq hB l 2 rn) q1 (by show up2 (hr hB) l 2 rn y 5 = _; rw [up2_a nyl]; exact q2) q3 q4 q5 q6 hnx hkp q7 (fun _ => ?_)) (by omega)
          refine x_iconst (v := nI 1) eX8_edge_90 (by decide) ?_
          refine x_zret eX8_edge_91 rfl (by first | exact Or.inl rfl | exact Or.inr rfl | exact bI_or _ | assumption) ?_
          exact q8
        have t1N : hk (nw h 0 8) (y + 7) = 30 := by rw [hk_nw (by omega)]; exact t1
        have t2N : hn (nw h 0 8) (y + 7) = 16 := by rw [hn_nw l7]; exact t2
        have c_no : ∀ ro : Option Nat, ro = hr h l 2 → n = 0 → Rn G (d + 3) mX8_edge 84 [(0, .ref y), (6, .ref (hz h))] [] (wq (wq (mkA h (nI 4) (nI j) (nI b) (nI 0)) (hz h) 6 ro) l 2 none) Q := fun ro ero en => c_rm (wq (mkA h (nI 4) (nI j) (nI b) (nI 0)) (hz h) 6 ro) none kyN (by show up2 (hr (mkA h (nI 4) (nI j) (nI b) (nI 0))) (hz h) 6 ro y 5 = _; rw [up2_a (by omega), (mkA_ne (by omega)).2.2.1]; exact s5) t1N t2N (by show hi (mkA h (nI 4) (nI j) (nI b) (nI 0)) y 6 = _; rw [(mkA_ne (by omega)).2.1]; exact k6) (by show hi (mkA h (nI 4) (nI j) (nI b) (nI 0)) y 7 = _; rw [(mkA_ne (by omega)).2.1]; exact k7) knN (fin1 ro ero en)
        have c_new : ∀ ro : Option Nat, ro = hr h l 2 → 0 < n → Rn G (d + 3) mX8_edge 84 [(0, .ref y), (6, .ref (hz h))] [] (wq (nw (wq (mkA h (nI 4) (nI j) (nI b) (nI 0)) (hz h) 6 ro) 22 n) l 2 (some (hz h + 1))) Q := fun ro ero en => by
          have nq : ∀ q, q < hz h + 1 → q ≠ hz (wq (mkA h (nI 4) (nI j) (nI b) (nI 0)) (hz h) 6 ro) := fun q hq => by show q ≠ hz h + 1; omega
          refine c_rm (nw (wq (mkA h (nI 4) (nI j) (nI b) (nI 0)) (hz h) 6 ro) 22 n) (some (hz h + 1)) ?_ ?_ ?_ ?_ ?_ ?_ ?_ (fin2 ro ero en)
          · rw [hk_nw (nq y (by omega))]; exact kyN
          · rw [(nw_ne (nq y (by omega))).2.2.1]
            show up2 (hr (mkA h (nI 4) (nI j) (nI b) (nI 0))) (hz h) 6 ro y 5 = _
            rw [up2_a (by omega), (mkA_ne (by omega)).2.2.1]
            exact s5
          · rw [hk_nw (nq (y + 7) (by omega))]; exact t1N
          · rw [hn_nw (by show y + 7 < hz h + 1; omega)]; exact t2N
          · rw [(nw_ne (nq y (by omega))).2.1]
            show hi (mkA h (nI 4) (nI j) (nI b) (nI 0)) y 6 = _
            rw [(mkA_ne (by omega)).2.1]
            exact k6
          · rw [(nw_ne (nq y (by omega))).2.1]
            show hi (mkA h (nI 4) (nI j) (nI b) (nI 0)) y 7 = _
            rw [(mkA_ne (by omega)).2.1]
            exact k7
          · rw [hk_nw (nq (hz h) (by omega))]; exact knN
        have klM : ∀ ro : Option Nat, hk (nw (wq (mkA h (nI 4) (nI j) (nI b) (nI 0)) (hz h) 6 ro) 22 n) l = 5 := fun ro => by
          rw [hk_nw (by show l ≠ hz h + 1; omega)]
          exact klN
        have hr2 : ∀ ro : Option Nat, hz (wq (mkA h (nI 4) (nI j) (nI b) (nI 0)) (hz h) 6 ro) < gB G + 600000 ∧ us G (wq (mkA h (nI 4) (nI j) (nI b) (nI 0)) (hz h) 6 ro) + n ≤ 7302250 := fun ro => ⟨by show hz h + 1 < _; have := rm.2.1; omega, by show us G (mkA h (nI 4) (nI j) (nI b) (nI 0)) + n ≤ _; have := rm.2.2; omega⟩
        rcases hrow with ⟨er, -⟩ | ⟨ro, er, -⟩
        · rw [er] at rlN
          have w68 := c_no none er.symm
          have w69 := c_new none er.symm
          have klM := klM none
          have hr2 := hr2 none
          refine x_new (ci := 0) eX8_edge_45 rfl ck_X8_35 (by first | assumption | omega) ?_
          refine x_dup eX8_edge_48 rfl ?_
          refine x_iconst (v := nI 4) eX8_edge_49 (by decide) ?_
          refine x_iload_n eX8_edge_50 rfl rfl ?_
          refine x_iload_n eX8_edge_51 rfl rfl ?_
          refine x_iconst (v := nI 0) eX8_edge_52 (by decide) ?_
          refine x_callI4 eX8_edge_53 lk_X8_69 (Nat.le_of_ble_eq_true rfl) (Nat.le_of_ble_eq_true rfl) ?_
          refine Rn.deep (c_X0_init (d := d) knN (fun _ => ?_)) (by omega)
          first | refine x_astore eX8_edge_56 (by decide) rfl rfl ?_ | refine x_astoreN eX8_edge_56 (by decide) rfl rfl ?_
          first | refine x_aload eX8_edge_58 rfl ?_ | refine x_aloadN eX8_edge_58 rfl ?_
          first | refine x_aload eX8_edge_60 rfl ?_ | refine x_aloadN eX8_edge_60 rfl ?_
          first | refine x_getR eX8_edge_62 fk_X8_131 rfl (by assumption) (by assumption) ?_ | refine x_getN eX8_edge_62 fk_X8_131 rfl (by assumption) (by assumption) ?_
          first | refine x_putR eX8_edge_65 fk_X8_134 (by decide) rfl ⟨_, rfl, Or.inl rfl⟩ (by assumption) ?_ | refine x_putN eX8_edge_65 fk_X8_134 (by decide) rfl ⟨_, rfl, Or.inl rfl⟩ (by assumption) ?_
          first | refine x_aload eX8_edge_68 rfl ?_ | refine x_aloadN eX8_edge_68 rfl ?_
          refine x_iload_n eX8_edge_70 rfl rfl ?_
          refine x_if_le (tgt := 80) eX8_edge_71 (by decide) (fun cq1 => ?_) (fun cq1 => ?_)
          · refine x_null eX8_edge_80 ?_
            first | refine x_putR eX8_edge_81 fk_X8_131 (by decide) rfl ⟨_, rfl, Or.inl rfl⟩ (by assumption) ?_ | refine x_putN eX8_edge_81 fk_X8_131 (by decide) rfl ⟨_, rfl, Or.inl rfl⟩ (by assumption) ?_
            refine Rn.weak (w68 (by rcases Nat.eq_zero_or_pos n with z | z; exact z; exact absurd cq1 (nI_nle z (by omega)))) (by repeat' first | exact fun _ h => absurd h List.not_mem_nil | refine List.forall_mem_cons.mpr ⟨rfl, ?_⟩)
          · refine x_iload_n eX8_edge_74 rfl rfl ?_
            refine x_newaN (kd := 22) eX8_edge_75 (by decide) rfl ak_22 (by with_reducible rfl) (by omega) (by first | assumption | omega) ?_
            refine x_goto (tgt := 81) eX8_edge_77 (by decide) ?_
            first | refine x_putR eX8_edge_81 fk_X8_131 (by decide) rfl ⟨_, rfl, Or.inl rfl⟩ (by assumption) ?_ | refine x_putN eX8_edge_81 fk_X8_131 (by decide) rfl ⟨_, rfl, Or.inl rfl⟩ (by assumption) ?_
            refine Rn.weak (w69 (by rcases Nat.eq_zero_or_pos n with z | z; exact absurd (show nI n ≤ 0 by rw [z]; decide) cq1; exact z)) (by repeat' first | exact fun _ h => absurd h List.not_mem_nil | refine List.forall_mem_cons.mpr ⟨rfl, ?_⟩)
        · rw [er] at rlN
          have w68 := c_no (some ro) er.symm
          have w69 := c_new (some ro) er.symm
          have klM := klM (some ro)
          have hr2 := hr2 (some ro)
          refine x_new (ci := 0) eX8_edge_45 rfl ck_X8_35 (by first | assumption | omega) ?_
          refine x_dup eX8_edge_48 rfl ?_
          refine x_iconst (v := nI 4) eX8_edge_49 (by decide) ?_
          refine x_iload_n eX8_edge_50 rfl rfl ?_
          refine x_iload_n eX8_edge_51 rfl rfl ?_
          refine x_iconst (v := nI 0) eX8_edge_52 (by decide) ?_
          refine x_callI4 eX8_edge_53 lk_X8_69 (Nat.le_of_ble_eq_true rfl) (Nat.le_of_ble_eq_true rfl) ?_
          refine Rn.deep (c_X0_init (d := d) knN (fun _ => ?_)) (by omega)
          first | refine x_astore eX8_edge_56 (by decide) rfl rfl ?_ | refine x_astoreN eX8_edge_56 (by decide) rfl rfl ?_
          first | refine x_aload eX8_edge_58 rfl ?_ | refine x_aloadN eX8_edge_58 rfl ?_
          first | refine x_aload eX8_edge_60 rfl ?_ | refine x_aloadN eX8_edge_60 rfl ?_
          first | refine x_getR eX8_edge_62 fk_X8_131 rfl (by assumption) (by assumption) ?_ | refine x_getN eX8_edge_62 fk_X8_131 rfl (by assumption) (by assumption) ?_
          first | refine x_putR eX8_edge_65 fk_X8_134 (by decide) rfl ⟨_, rfl, Or.inl rfl⟩ (by assumption) ?_ | refine x_putN eX8_edge_65 fk_X8_134 (by decide) rfl ⟨_, rfl, Or.inl rfl⟩ (by assumption) ?_
          first | refine x_aload eX8_edge_68 rfl ?_ | refine x_aloadN eX8_edge_68 rfl ?_
          refine x_iload_n eX8_edge_70 rfl rfl ?_
          refine x_if_le (tgt := 80) eX8_edge_71 (by decide) (fun cq1 => ?_) (fun cq1 => ?_)
          · refine x_null eX8_edge_80 ?_
            first | refine x_putR eX8_edge_81 fk_X8_131 (by decide) rfl ⟨_, rfl, Or.inl rfl⟩ (by assumption) ?_ | refine x_putN eX8_edge_81 fk_X8_131 (by decide) rfl ⟨_, rfl, Or.inl rfl⟩ (by assumption) ?_
            refine Rn.weak (w68 (by rcases Nat.eq_zero_or_pos n with z | z; exact z; exact absurd cq1 (nI_nle z (by omega)))) (by repeat' first | exact fun _ h => absurd h List.not_mem_nil | refine List.forall_mem_cons.mpr ⟨rfl, ?_⟩)
          · refine x_iload_n eX8_edge_74 rfl rfl ?_
            refine x_newaN (kd := 22) eX8_edge_75 (by decide) rfl ak_22 (by with_reducible rfl) (by omega) (by first | assumption | omega) ?_
            refine x_goto (tgt := 81) eX8_edge_77 (by decide) ?_
            first | refine x_putR eX8_edge_81 fk_X8_131 (by decide) rfl ⟨_, rfl, Or.inl rfl⟩ (by assumption) ?_ | refine x_putN eX8_edge_81 fk_X8_131 (by decide) rfl ⟨_, rfl, Or.inl rfl⟩ (by assumption) ?_
            refine Rn.weak (w69 (by rcases Nat.eq_zero_or_pos n with z | z; exact absurd (show nI n ≤ 0 by rw [z]; decide) cq1; exact z)) (by repeat' first | exact fun _ h => absurd h List.not_mem_nil | refine List.forall_mem_cons.mpr ⟨rfl, ?_⟩)
      skip
      first | refine x_aload eX8_edge_30 rfl ?_ | refine x_aloadN eX8_edge_30 rfl ?_
      refine x_iload_n eX8_edge_32 rfl rfl ?_
      refine x_callV1 eX8_edge_33 lk_X8_127 (by assumption) (Nat.le_of_ble_eq_true rfl) (Nat.le_of_ble_eq_true rfl) ?_
      refine Rn.deep (c_X5_sideNumbered (d := d) E (fun q _ => ?_) (fun q l hl S _ => ?_) (fun q r hr' S _ => ?_)) (by omega)
      · first | refine x_astore eX8_edge_36 (by decide) rfl rfl ?_ | refine x_astoreN eX8_edge_36 (by decide) rfl rfl ?_
        first | refine x_aload eX8_edge_38 rfl ?_ | refine x_aloadN eX8_edge_38 rfl ?_
        refine x_ifnonnullN eX8_edge_40 ?_
        refine x_iconst (v := nI 0) eX8_edge_43 (by decide) ?_
        refine x_zret eX8_edge_44 rfl (by first | exact Or.inl rfl | exact Or.inr rfl | exact bI_or _ | assumption) ?_
        exact hq0 (by unfold edgeOK; rw [q]; simp)
      · have w := main 0 l (by omega) q ⟨hl, S⟩
        first | refine x_astore eX8_edge_36 (by decide) rfl rfl ?_ | refine x_astoreN eX8_edge_36 (by decide) rfl rfl ?_
        first | refine x_aload eX8_edge_38 rfl ?_ | refine x_aloadN eX8_edge_38 rfl ?_
        refine x_ifnonnullR (tgt := 45) eX8_edge_40 (by decide) ?_
        refine Rn.weak (w) (by repeat' first | exact fun _ h => absurd h List.not_mem_nil | refine List.forall_mem_cons.mpr ⟨rfl, ?_⟩)
      · have w := main 1 r (by omega) q ⟨hr', S⟩
        first | refine x_astore eX8_edge_36 (by decide) rfl rfl ?_ | refine x_astoreN eX8_edge_36 (by decide) rfl rfl ?_
        first | refine x_aload eX8_edge_38 rfl ?_ | refine x_aloadN eX8_edge_38 rfl ?_
        refine x_ifnonnullR (tgt := 45) eX8_edge_40 (by decide) ?_
        refine Rn.weak (w) (by repeat' first | exact fun _ h => absurd h List.not_mem_nil | refine List.forall_mem_cons.mpr ⟨rfl, ?_⟩)
    · refine x_iconst (v := nI 0) eX8_edge_28 (by decide) ?_
      refine x_zret eX8_edge_29 rfl (by first | exact Or.inl rfl | exact Or.inr rfl | exact bI_or _ | assumption) ?_
      exact hq0 (by unfold edgeOK; rw [hS, e51, show inR w 0 (nI (nt (sl g j 5) + 1)) = false from cq1]; simp)
end ACT7

