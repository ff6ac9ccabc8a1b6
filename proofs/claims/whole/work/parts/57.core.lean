/-! ===== the class's object as a whole: y the root, g the state that it stands for ===== -/
/-- low tags stay -/
def To (ow o2 : Nat → Nat) : Prop := ∀ a, ow a ≠ 0 → ow a < 100 → o2 a = ow a
set_option maxRecDepth 100000 in
set_option maxHeartbeats 4000000 in
theorem To.rf {ow : Nat → Nat} : To ow ow := fun _ _ _ => rfl
set_option maxRecDepth 100000 in
set_option maxHeartbeats 4000000 in
theorem To.tr {ow o1 o2 : Nat → Nat} (x : To ow o1) (y : To o1 o2) : To ow o2 := fun a h0 h1 => by
  have e := x a h0 h1
  rw [← e] at h0 h1
  rw [y a h0 h1, e]
set_option maxRecDepth 100000 in
set_option maxHeartbeats 4000000 in
theorem To.nw {ow : Nat → Nat} {h : AH} {t : Nat} (L : Lv ow h) : To ow (upd0 ow (hz h) t) := fun a h0 _ => upd0_ne (Nat.ne_of_lt (L a h0).1)
set_option maxRecDepth 100000 in
set_option maxHeartbeats 4000000 in
theorem To.tag {ow : Nat → Nat} {a t : Nat} (ha : 100 ≤ ow a) : To ow (upd0 ow a t) := fun b _ h1 => upd0_ne (fun z => by rw [z] at h1; omega)
def Sk (ow : Nat → Nat) (h : AH) (y : Nat) : Prop := (hk h y = 7 ∧ hr h y 0 = some (y + 1) ∧ hr h y 2 = some (y + 2) ∧ hr h y 4 = some (y + 3) ∧ hr h y 5 = some (y + 7) ∧ ow y = 1) ∧ (hk h (y + 1) = 31 ∧ hn h (y + 1) = 24 ∧ ow (y + 1) = 2) ∧ (hk h (y + 2) = 34 ∧ hn h (y + 2) = 10 ∧ ow (y + 2) = 3) ∧
  (hk h (y + 3) = 6 ∧ hr h (y + 3) 0 = some (y + 4) ∧ hr h (y + 3) 1 = some (y + 5) ∧ hr h (y + 3) 2 = some (y + 6) ∧ ow (y + 3) = 5) ∧ (hk h (y + 4) = 20 ∧ hn h (y + 4) = 61 ∧ ow (y + 4) = 6) ∧ (hk h (y + 5) = 20 ∧ hn h (y + 5) = 60 ∧ ow (y + 5) = 7) ∧ (hk h (y + 6) = 23 ∧ hn h (y + 6) = 60 ∧ ow (y + 6) = 8) ∧ (hk h (y + 7) = 30 ∧ hn h (y + 7) = 16 ∧ ow (y + 7) = 4)
set_option maxRecDepth 100000 in
set_option maxHeartbeats 4000000 in
theorem Ext.k {h h2 : AH} {a : Nat} (x : Ext h h2) (ha : a < hz h) : hk h2 a = hk h a := congrArg Prod.fst (x.2 a ha)
set_option maxRecDepth 100000 in
set_option maxHeartbeats 4000000 in
theorem Ext.n {h h2 : AH} {a : Nat} (x : Ext h h2) (ha : a < hz h) : hn h2 a = hn h a := congrArg Prod.snd (x.2 a ha)
set_option maxRecDepth 100000 in
set_option maxHeartbeats 4000000 in
theorem Sk.up {ow o2 : Nat → Nat} {h h2 : AH} {y : Nat} (S : Sk ow h y) (L : Lv ow h) (x : Ext h h2) (to : To ow o2) (r : ∀ k, k ≠ 8 → hr h2 y k = hr h y k) (r3 : hr h2 (y + 3) = hr h (y + 3)) : Sk o2 h2 y := by
  obtain ⟨⟨a1, a2, a3, a4, a5, a6⟩, ⟨b1, b2, b3⟩, ⟨c1, c2, c3⟩, ⟨d1, d2, d3, d4, d5⟩, ⟨e1, e2, e3⟩, ⟨f1, f2, f3⟩, ⟨g1, g2, g3⟩, ⟨h1, h2', h3⟩⟩ := S
  have q : y + 7 < hz h := (L (y + 7) (by rw [h3]; decide)).1
  have t : ∀ a n, ow a = n → n ≠ 0 → n < 100 → o2 a = n := fun a n e z1 z2 => by rw [to a (by rw [e]; exact z1) (by rw [e]; exact z2), e]
  exact ⟨⟨(x.k (by omega)).trans a1, by rw [r 0 (by decide)]; exact a2, by rw [r 2 (by decide)]; exact a3, by rw [r 4 (by decide)]; exact a4, by rw [r 5 (by decide)]; exact a5, t _ _ a6 (by decide) (by decide)⟩, ⟨(x.k (by omega)).trans b1, (x.n (by omega)).trans b2, t _ _ b3 (by decide) (by decide)⟩, ⟨(x.k (by omega)).trans c1, (x.n (by omega)).trans c2, t _ _ c3 (by decide) (by decide)⟩,
    ⟨(x.k (by omega)).trans d1, by rw [r3]; exact d2, by rw [r3]; exact d3, by rw [r3]; exact d4, t _ _ d5 (by decide) (by decide)⟩, ⟨(x.k (by omega)).trans e1, (x.n (by omega)).trans e2, t _ _ e3 (by decide) (by decide)⟩, ⟨(x.k (by omega)).trans f1, (x.n (by omega)).trans f2, t _ _ f3 (by decide) (by decide)⟩, ⟨(x.k (by omega)).trans g1, (x.n (by omega)).trans g2, t _ _ g3 (by decide) (by decide)⟩, ⟨(x.k (by omega)).trans h1, (x.n (by omega)).trans h2', t _ _ h3 (by decide) (by decide)⟩⟩
/-- place i of the bolts: none, or an object with its codes -/
def BSh (ow : Nat → Nat) (h : AH) (y i : Nat) : Prop := hr h (y + 1) i = none ∨ ∃ a c, hr h (y + 1) i = some a ∧ ow a = 100 + i ∧ hk h a = 1 ∧ hr h a 6 = some c ∧ ow c = 200 + i ∧ hk h c = 22 ∧ hn h c = 200
def BoltR (ow : Nat → Nat) (h : AH) (y : Nat) (g : Nat → Int32) (i : Nat) : Prop := ∃ a, hr h (y + 1) i = some a ∧ BoltP ow h a i (bl g i) (fun k => liesV g (nI i) (nI k))
def SailR (ow : Nat → Nat) (h : AH) (y : Nat) (g : Nat → Int32) (s : Nat) : Prop := ∃ a, hr h (y + 2) s = some a ∧ SailP ow h g s a
def PackR (ow : Nat → Nat) (h : AH) (y : Nat) : Prop := hr h y 8 = none ∨ ∃ p, hr h y 8 = some p ∧ ow p = 9 ∧ hk h p = 2 ∧ (∃ a, hr h p 0 = some a ∧ ow a = 10 ∧ hk h a = 20 ∧ hn h a = 256) ∧ (∃ a, hr h p 1 = some a ∧ ow a = 11 ∧ hk h a = 20 ∧ hn h a = 256) ∧ (∃ a, hr h p 2 = some a ∧ ow a = 12 ∧ hk h a = 20 ∧ hn h a = 256)
def Core (ow : Nat → Nat) (h : AH) (y : Nat) (g ld wd : Nat → Int32) : Prop := Lv ow h ∧ Sk ow h y ∧ (hi h y 1 = g 0 ∧ hi h y 3 = g 1) ∧ (∀ i, i < 24 → BSh ow h y i) ∧ (∀ i, i < nt (g 0) → BoltR ow h y g i) ∧ (∀ s, s < nt (g 1) → SailR ow h y g s) ∧ ((∀ k, k < 61 → hi h (y + 4) k = ld k) ∧ ∀ k, k < 60 → hi h (y + 5) k = wd k) ∧ PackR ow h y
section CORE
variable {T : Nat → Prop} {ow o2 : Nat → Nat} {h h2 : AH} {y i s : Nat} {g g2 ld wd : Nat → Int32}
set_option maxRecDepth 100000 in
set_option maxHeartbeats 4000000 in
theorem BSh.fr (F : Fr T ow h o2 h2) (h1 : ¬ T (100 + i)) (h2' : ¬ T (200 + i)) (e : hr h2 (y + 1) i = hr h (y + 1) i) (B : BSh ow h y i) : BSh o2 h2 y i := by
  rcases B with z | ⟨a, c, q1, q2, q3, q4, q5, q6, q7⟩
  · exact Or.inl (e.trans z)
  · obtain ⟨b1, b2, -, -, b5, -⟩ := F.at_ q2 (by omega) h1
    obtain ⟨c1, c2, c3, -⟩ := F.at_ q5 (by omega) h2'
    exact Or.inr ⟨a, c, e.trans q1, b1, b2.trans q3, by rw [b5]; exact q4, c1, c2.trans q6, c3.trans q7⟩
set_option maxRecDepth 100000 in
set_option maxHeartbeats 4000000 in
theorem BoltR.fr (F : Fr T ow h o2 h2) (h1 : ¬ T (100 + i)) (h2' : ¬ T (200 + i)) (h3 : ¬ T (300 + i)) (w : BW g i) (e : hr h2 (y + 1) i = hr h (y + 1) i) (eb : ∀ c, c < 206 → bl g2 i c = bl g i c) (el : ∀ k, k < nt (bl g i 1) → liesV g2 (nI i) (nI k) = liesV g (nI i) (nI k)) (B : BoltR ow h y g i) : BoltR o2 h2 y g2 i := by
  obtain ⟨a, q1, P⟩ := B
  have u := w.2.2.2.2
  have u2 := w.2.1.2.2
  exact ⟨a, e.trans q1, P.fr F h1 h2' h3 (w.2.2.mono (Nat.le_refl _) (by omega)) w.2.1 eb el⟩
set_option maxRecDepth 100000 in
set_option maxHeartbeats 4000000 in
theorem SailR.fr (F : Fr T ow h o2 h2) (hT : ∀ t, sT s t → ¬ T t) (w : SW g s) (e : hr h2 (y + 2) s = hr h (y + 2) s) (es : ∀ c, c < 390 → sl g2 s c = sl g s c) (S : SailR ow h y g s) : SailR o2 h2 y g2 s := by
  obtain ⟨a, q1, P⟩ := S
  exact ⟨a, e.trans q1, P.fr F hT w es⟩
set_option maxRecDepth 100000 in
set_option maxHeartbeats 4000000 in
theorem PackR.fr (F : Fr T ow h o2 h2) (hT : ∀ t, 9 ≤ t → t ≤ 12 → ¬ T t) (e : hr h2 y 8 = hr h y 8) (P : PackR ow h y) : PackR o2 h2 y := by
  rcases P with z | ⟨p, p1, p2, p3, ⟨a, a1, a2, a3, a4⟩, ⟨b, b1, b2, b3, b4⟩, ⟨c, c1, c2, c3, c4⟩⟩
  · exact Or.inl (e.trans z)
  · obtain ⟨x1, x2, -, -, x5, -⟩ := F.at_ p2 (by omega) (hT _ (by omega) (by omega))
    obtain ⟨y1, y2, y3, -⟩ := F.at_ a2 (by omega) (hT _ (by omega) (by omega))
    obtain ⟨z1, z2, z3, -⟩ := F.at_ b2 (by omega) (hT _ (by omega) (by omega))
    obtain ⟨w1, w2, w3, -⟩ := F.at_ c2 (by omega) (hT _ (by omega) (by omega))
    exact Or.inr ⟨p, e.trans p1, x1, x2.trans p3, ⟨a, by rw [x5]; exact a1, y1, y2.trans a3, y3.trans a4⟩, ⟨b, by rw [x5]; exact b1, z1, z2.trans b3, z3.trans b4⟩, ⟨c, by rw [x5]; exact c1, w1, w2.trans c3, w3.trans c4⟩⟩
set_option maxRecDepth 100000 in
set_option maxHeartbeats 4000000 in
theorem Core.up (C : Core ow h y g ld wd) (F : Fr T ow h o2 h2) (x : Ext h h2) (L2 : Lv o2 h2) (to : To ow o2) (r : ∀ k, hr h2 y k = hr h y k) (n5 : ∀ t, 5 ≤ t → t ≤ 12 → t ≠ 8 → ¬ T t) (e1 : hi h2 y 1 = g2 0) (e3 : hi h2 y 3 = g2 1) (BS : ∀ i, i < 24 → BSh o2 h2 y i) (B : ∀ i, i < nt (g2 0) → BoltR o2 h2 y g2 i) (S : ∀ s, s < nt (g2 1) → SailR o2 h2 y g2 s) : Core o2 h2 y g2 ld wd := by
  obtain ⟨C1, C2, C3, C4, C5, C6, ⟨C7, C8⟩, C9⟩ := C
  obtain ⟨-, -, -, s5, s6, s7, -⟩ := id C2
  have q5 := F.at_ s5.2.2.2.2 (by decide) (n5 5 (by decide) (by decide) (by decide))
  have q6 := F.at_ s6.2.2 (by decide) (n5 6 (by decide) (by decide) (by decide))
  have q7 := F.at_ s7.2.2 (by decide) (n5 7 (by decide) (by decide) (by decide))
  exact ⟨L2, C2.up C1 x to (fun k _ => r k) q5.2.2.2.2.1, ⟨e1, e3⟩, BS, B, S, ⟨fun k hk => by rw [q6.2.2.2.1]; exact C7 k hk, fun k hk => by rw [q7.2.2.2.1]; exact C8 k hk⟩, C9.fr F (fun t h1 h2 => n5 t (by omega) (by omega) (by omega)) (r 8)⟩
/-- tags of bolt b -/
def bT (b t : Nat) : Prop := t = 100 + b ∨ t = 200 + b ∨ t = 300 + b
def aT (n t : Nat) : Prop := t = 2000 + n ∨ t = 2100 + n ∨ t = 2200 + n ∨ t = 2300 + n
/-- what an act may touch: the root, the acts, what it is about -/
def oT (n : Nat) (X : Nat → Prop) (t : Nat) : Prop := t = 1 ∨ t = 4 ∨ aT n t ∨ X t
set_option maxRecDepth 100000 in
set_option maxHeartbeats 4000000 in
/-- one sail has changed -/
theorem Core.sail {n : Nat} (C : Core ow h y g ld wd) (W : GW g) (hs : s < nt (g 1)) (F : Fr (oT n (sT s)) ow h o2 h2) (x : Ext h h2) (L2 : Lv o2 h2) (to : To ow o2) (r : ∀ k, hr h2 y k = hr h y k) (e1 : hi h2 y 1 = g 0) (e3 : hi h2 y 3 = g 1) (ge : ∀ j, (j < 5050 + 390 * s ∨ 5050 + 390 * s + 390 ≤ j) → g2 j = g j) (el : ∀ i k, i < nt (g 0) → k < nt (bl g i 1) → liesV g2 (nI i) (nI k) = liesV g (nI i) (nI k)) (S : SailR o2 h2 y g2 s) : Core o2 h2 y g2 ld wd := by
  have h24 := W.1.2.2
  have h10 := W.2.1.2.2
  have g0 : g2 0 = g 0 := ge 0 (by omega)
  have g1 : g2 1 = g 1 := ge 1 (by omega)
  obtain ⟨C1, C2, C3, C4, C5, C6, -⟩ := id C
  have q2 := F.at_ C2.2.1.2.2 (by decide) (fun z => by unfold oT aT sT at z; omega)
  have q3 := F.at_ C2.2.2.1.2.2 (by decide) (fun z => by unfold oT aT sT at z; omega)
  refine C.up F x L2 to r (fun t h1 h2 h3 z => by unfold oT aT sT at z; omega) (by rw [g0]; exact e1) (by rw [g1]; exact e3) (fun i hi => ?_) (fun i hi => ?_) (fun t ht => ?_)
  · exact (C4 i hi).fr F (fun z => by unfold oT aT sT at z; omega) (fun z => by unfold oT aT sT at z; omega) (by rw [q2.2.2.2.2.1])
  · rw [g0] at hi
    exact (C5 i hi).fr F (fun z => by unfold oT aT sT at z; omega) (fun z => by unfold oT aT sT at z; omega) (fun z => by unfold oT aT sT at z; omega) (W.2.2.1 i hi) (by rw [q2.2.2.2.2.1]) (fun c hc => ge _ (by omega)) (fun k hk => el i k hi hk)
  · rw [g1] at ht
    by_cases e : t = s
    · rw [e]
      exact S
    · exact (C6 t ht).fr F (fun u hu z => by unfold oT aT sT at z; unfold sT at hu; omega) (W.2.2.2 t ht) (by rw [q3.2.2.2.2.1]) (fun c hc => ge _ (by omega))
set_option maxRecDepth 100000 in
set_option maxHeartbeats 4000000 in
/-- one bolt has changed, no laying -/
theorem Core.bolt {n b : Nat} (C : Core ow h y g ld wd) (W : GW g) (hb : b < nt (g 0)) (F : Fr (oT n (fun t => t = 100 + b ∨ t = 300 + b)) ow h o2 h2) (x : Ext h h2) (L2 : Lv o2 h2) (to : To ow o2) (r : ∀ k, hr h2 y k = hr h y k) (e1 : hi h2 y 1 = g 0) (e3 : hi h2 y 3 = g 1) (ge : ∀ j, (j < 10 + 210 * b ∨ 10 + 210 * b + 210 ≤ j) → g2 j = g j) (el : ∀ i k, liesV g2 i k = liesV g i k) (hc : ∀ a c, hr h (y + 1) b = some a → hr h a 6 = some c → o2 a = 100 + b ∧ hr h2 a 6 = some c) (B : BoltR o2 h2 y g2 b) : Core o2 h2 y g2 ld wd := by
  have h24 := W.1.2.2
  have h10 := W.2.1.2.2
  have g0 : g2 0 = g 0 := ge 0 (by omega)
  have g1 : g2 1 = g 1 := ge 1 (by omega)
  obtain ⟨C1, C2, C3, C4, C5, C6, -⟩ := id C
  have q2 := F.at_ C2.2.1.2.2 (by decide) (fun z => by unfold oT aT at z; omega)
  have q3 := F.at_ C2.2.2.1.2.2 (by decide) (fun z => by unfold oT aT at z; omega)
  refine C.up F x L2 to r (fun t h1 h2 h3 z => by unfold oT aT at z; omega) (by rw [g0]; exact e1) (by rw [g1]; exact e3) (fun i hi => ?_) (fun i hi => ?_) (fun t ht => ?_)
  · by_cases e : i = b
    · subst e
      rcases C4 i hi with z | ⟨a, c, p1, p2, p3, p4, p5, p6, p7⟩
      · exact Or.inl (by rw [q2.2.2.2.2.1]; exact z)
      · obtain ⟨z1, z2⟩ := hc a c p1 p4
        obtain ⟨c1, c2, c3, -⟩ := F.at_ p5 (by omega) (fun z => by unfold oT aT at z; omega)
        exact Or.inr ⟨a, c, by rw [q2.2.2.2.2.1]; exact p1, z1, (x.k (C1 a (by omega)).1).trans p3, z2, c1, c2.trans p6, c3.trans p7⟩
    · exact (C4 i hi).fr F (fun z => by unfold oT aT at z; omega) (fun z => by unfold oT aT at z; omega) (by rw [q2.2.2.2.2.1])
  · rw [g0] at hi
    by_cases e : i = b
    · rw [e]
      exact B
    · exact (C5 i hi).fr F (fun z => by unfold oT aT at z; omega) (fun z => by unfold oT aT at z; omega) (fun z => by unfold oT aT at z; omega) (W.2.2.1 i hi) (by rw [q2.2.2.2.2.1]) (fun c hc => ge _ (by omega)) (fun k hk => el _ _)
  · rw [g1] at ht
    exact (C6 t ht).fr F (fun u hu z => by unfold oT aT at z; unfold sT at hu; omega) (W.2.2.2 t ht) (by rw [q3.2.2.2.2.1]) (fun c hc => ge _ (by omega))
end CORE
/-- what pieces picked up one after the other leave -/
def upN (sq iq : Nat → Nat) (g : Nat → Int32) : Nat → Nat → Int32
  | 0 => g
  | n + 1 => gPut (upN sq iq g n) (sq n) (iq n) (-1) (-1)
/-- the act A (its ints) has made g out of gp: those that need no row -/
def LkN (A : Nat → Int32) (gp g : Nat → Int32) : Prop :=
  (A 0 = nI 0 ∧ ∃ w l gr, nt (gp 0) < 24 ∧ g = gBolt gp (nt (gp 0)) w l gr (-1)) ∨
  (A 0 = nI 2 ∧ ∃ b k v, A 1 = nI b ∧ A 2 = nI k ∧ A 3 = bl gp b (6 + k) ∧ b < nt (gp 0) ∧ k < nt (bl gp b 3) ∧ g = gWear gp b k v) ∨
  (A 0 = nI 3 ∧ ∃ e1 e2 e3 e4 e5, nt (gp 1) < 10 ∧ g = gSail gp (nt (gp 1)) e1 e2 e3 e4 e5) ∨
  (A 0 = nI 5 ∧ ∃ s b k v, A 1 = nI s ∧ A 2 = nI b ∧ A 3 = sl gp s (18 + 61 * b + k) ∧ A 4 = nI k ∧ s < nt (gp 1) ∧ b < 2 ∧ k < nt (sl gp s (16 + b)) ∧ sl gp s 0 = 0 ∧ g = gStand gp s b k v) ∨
  (A 0 = nI 6 ∧ ∃ s w b, A 1 = nI s ∧ s < nt (gp 1) ∧ sl gp s 0 = 0 ∧ g = gCut gp s w b) ∨
  (A 0 = nI 7 ∧ ∃ s i v, A 1 = nI s ∧ A 2 = nI i ∧ A 3 = sl gp s (140 + i) ∧ s < nt (gp 1) ∧ sl gp s 0 = 1 ∧ i + 1 < nt (sl gp s 8) ∧ g = gNar gp s i v) ∨
  (A 0 = nI 8 ∧ ∃ s y b l, A 1 = nI s ∧ s < nt (gp 1) ∧ sl gp s 0 = 1 ∧ np gp s < 40 ∧ g = gPat gp s y b l) ∨
  (A 0 = nI 9 ∧ ∃ s i b p, A 1 = nI s ∧ A 2 = nI i ∧ s < nt (gp 1) ∧ i < np gp s ∧ sl gp s (300 + i) = -1 ∧ g = gPut gp s i b p) ∨
  (A 0 = nI 10 ∧ ∃ s i, A 1 = nI s ∧ A 2 = nI i ∧ A 3 = sl gp s (300 + i) ∧ A 4 = sl gp s (340 + i) ∧ s < nt (gp 1) ∧ i < np gp s ∧ ¬ sl gp s (300 + i) = -1 ∧ g = gPut gp s i (-1) (-1)) ∨
  (A 0 = nI 12 ∧ ∃ s z, A 1 = nI s ∧ A 3 = sl gp s 11 ∧ s < nt (gp 1) ∧ g = gSet gp s z) ∨
  (A 0 = nI 13 ∧ ∃ s z, A 1 = nI s ∧ A 3 = sl gp s 10 ∧ s < nt (gp 1) ∧ g = gReef gp s z) ∨
  (A 0 = nI 14 ∧ ∃ s z, A 1 = nI s ∧ s < nt (gp 1) ∧ nt (sl gp s 12) < 3 ∧ g = gLine gp s z) ∨
  (A 0 = nI 15 ∧ ∃ s, A 1 = nI s ∧ A 2 = nI (np gp s) ∧ A 3 = sl gp s 11 ∧ s < nt (gp 1) ∧ takOK gp (nI s) = true ∧ g = gTake gp s)
/-- those that keep a row: t the act's place in the ring -/
def Lk (A : Nat → Int32) (R : Nat → Option Nat) (ow : Nat → Nat) (h : AH) (t : Nat) (gp g : Nat → Int32) : Prop :=
  LkN A gp g ∨
  (A 0 = nI 1 ∧ ∃ b n, A 1 = nI b ∧ b < nt (gp 0) ∧ n ≤ 200 ∧ g = gRow gp b n ∧ RowR ow h 21 (2100 + t) (R 5) (nt (bl gp b 3)) (fun k => bl gp b (6 + k))) ∨
  (A 0 = nI 4 ∧ ∃ s b n, A 1 = nI s ∧ A 2 = nI b ∧ s < nt (gp 1) ∧ b < 2 ∧ n ≤ 61 ∧ sl gp s 0 = 0 ∧ g = gEdge gp s b n ∧ RowR ow h 22 (2200 + t) (R 6) (nt (sl gp s (16 + b))) (fun k => sl gp s (18 + 61 * b + k))) ∨
  (A 0 = nI 11 ∧ ∃ n m la sq iq, A 2 = nI n ∧ R 7 = some la ∧ ow la = 2300 + t ∧ hk h la = 20 ∧ hn h la = m ∧ n ≤ m ∧ m ≤ 400 ∧ (∀ j, j < n → hi h la j = nI (100 * sq j + iq j) ∧ sq j < nt (g 1) ∧ iq j < np g (sq j)) ∧ gp = upN sq iq g n)
def Link (ow : Nat → Nat) (h : AH) (a t : Nat) (gp g : Nat → Int32) : Prop := ow a = 2000 + t ∧ hk h a = 0 ∧ Lk (hi h a) (hr h a) ow h t gp g
set_option maxRecDepth 100000 in
set_option maxHeartbeats 4000000 in
theorem Link.fr {T : Nat → Prop} {ow o2 : Nat → Nat} {h h2 : AH} {a t : Nat} {gp g : Nat → Int32} (F : Fr T ow h o2 h2) (hT : ∀ u, aT t u → ¬ T u) (K : Link ow h a t gp g) : Link o2 h2 a t gp g := by
  obtain ⟨k1, k2, k3⟩ := K
  obtain ⟨b1, b2, -, b4, b5, -⟩ := F.at_ k1 (by omega) (hT _ (Or.inl rfl))
  refine ⟨b1, b2.trans k2, ?_⟩
  rw [b4, b5]
  rcases k3 with z | ⟨z, b, n, z1, z2, z3, z4, z5⟩ | ⟨z, s, b, n, z1, z2, z3, z4, z5, z6, z7, z8⟩ | ⟨z, n, m, la, sq, iq, z1, z2, z3, z4, z5, z6, z7, z8, z9⟩
  · exact Or.inl z
  · exact Or.inr (Or.inl ⟨z, b, n, z1, z2, z3, z4, z5.fr F (by omega) (hT _ (by unfold aT; omega)) rfl (fun _ _ => rfl)⟩)
  · exact Or.inr (Or.inr (Or.inl ⟨z, s, b, n, z1, z2, z3, z4, z5, z6, z7, z8.fr F (by omega) (hT _ (by unfold aT; omega)) rfl (fun _ _ => rfl)⟩))
  · obtain ⟨c1, c2, c3, c4, -⟩ := F.at_ z3 (by omega) (hT _ (by unfold aT; omega))
    exact Or.inr (Or.inr (Or.inr ⟨z, n, m, la, sq, iq, z1, z2, c1, c2.trans z4, c3.trans z5, z6, z7, fun j hj => by rw [c4]; exact z8 j hj, z9⟩))
/-- the acts that can be undone: ps j the state before the j-th latest -/
def Acts (ow : Nat → Nat) (h : AH) (y : Nat) (g : Nat → Int32) (kp nx : Nat) (ps : Nat → Nat → Int32) : Prop := hi h y 6 = nI nx ∧ hi h y 7 = nI kp ∧ nx < 16 ∧ kp ≤ 16 ∧ ∀ j, j < kp → ∃ a, hr h (y + 7) ((nx + 15 - j) % 16) = some a ∧ Link ow h a ((nx + 15 - j) % 16) (ps j) (if j = 0 then g else ps (j - 1))
/-- a state more -/
def cns (g : Nat → Int32) (ps : Nat → Nat → Int32) : Nat → Nat → Int32 := fun j => if j = 0 then g else ps (j - 1)
set_option maxRecDepth 100000 in
set_option maxHeartbeats 4000000 in
theorem Acts.push {ow o2 : Nat → Nat} {h h2 : AH} {y a kp nx : Nat} {g g2 : Nat → Int32} {ps : Nat → Nat → Int32} {X : Nat → Prop} (K : Acts ow h y g kp nx ps) (F : Fr (oT nx X) ow h o2 h2) (hX : ∀ t, X t → t < 2000) (er : hr h2 (y + 7) = upd0 (hr h (y + 7)) nx (some a)) (e6 : hi h2 y 6 = nI ((nx + 1) % 16)) (e7 : hi h2 y 7 = nI (if kp + 1 < 16 then kp + 1 else 16)) (N : Link o2 h2 a nx g g2) : Acts o2 h2 y g2 (if kp + 1 < 16 then kp + 1 else 16) ((nx + 1) % 16) (cns g ps) := by
  obtain ⟨k1, k2, k3, k4, k5⟩ := K
  refine ⟨e6, e7, by omega, by split <;> omega, fun j hj => ?_⟩
  have hj16 : j < kp + 1 ∧ j < 16 := by split at hj <;> omega
  rw [er]
  by_cases z : j = 0
  · subst z
    rw [show ((nx + 1) % 16 + 15 - 0) % 16 = nx by omega]
    exact ⟨a, upd0_same _ _ _, N⟩
  · rw [show ((nx + 1) % 16 + 15 - j) % 16 = (nx + 15 - (j - 1)) % 16 by omega]
    obtain ⟨b, b1, b2⟩ := k5 (j - 1) (by omega)
    refine ⟨b, by rw [upd0_ne (by omega)]; exact b1, ?_⟩
    rw [if_neg z]
    have e1 : cns g ps j = ps (j - 1) := if_neg z
    have e2 : cns g ps (j - 1) = if j - 1 = 0 then g else ps (j - 1 - 1) := rfl
    rw [e1, e2]
    exact b2.fr F (fun u hu w => by
      unfold aT at hu
      rcases w with w | w | w | w
      · omega
      · omega
      · unfold aT at w; omega
      · have := hX _ w; omega)
set_option maxRecDepth 100000 in
set_option maxHeartbeats 4000000 in
theorem Acts.fr {T : Nat → Prop} {ow o2 : Nat → Nat} {h h2 : AH} {y kp nx : Nat} {g : Nat → Int32} {ps : Nat → Nat → Int32} (K : Acts ow h y g kp nx ps) (F : Fr T ow h o2 h2) (hT : ∀ t, 2000 ≤ t → ¬ T t) (er : hr h2 (y + 7) = hr h (y + 7)) (e6 : hi h2 y 6 = hi h y 6) (e7 : hi h2 y 7 = hi h y 7) : Acts o2 h2 y g kp nx ps := by
  obtain ⟨k1, k2, k3, k4, k5⟩ := K
  refine ⟨e6.trans k1, e7.trans k2, k3, k4, fun j hj => ?_⟩
  obtain ⟨b, b1, b2⟩ := k5 j hj
  exact ⟨b, by rw [er]; exact b1, b2.fr F (fun u hu => hT u (by unfold aT at hu; omega))⟩

