/-! ===== tags: cells of T alone may differ ===== -/
def Fr (T : Nat → Prop) (ow : Nat → Nat) (h : AH) (o2 : Nat → Nat) (h2 : AH) : Prop :=
  ∀ a, ow a ≠ 0 → ¬ T (ow a) → o2 a = ow a ∧ hm h2 a = hm h a ∧ hi h2 a = hi h a ∧ hr h2 a = hr h a ∧ hl h2 a = hl h a ∧ hf h2 a = hf h a
/-- what is tagged is there; sails have sails' tags -/
def Lv (ow : Nat → Nat) (h : AH) : Prop := ∀ a, ow a ≠ 0 → a < hz h ∧ (hk h a = 4 → 400 ≤ ow a ∧ ow a < 410)
section FR
variable {T T2 : Nat → Prop} {ow o1 o2 : Nat → Nat} {h h1 h2 : AH} {a c k t kd n lo : Nat}
set_option maxRecDepth 100000 in
set_option maxHeartbeats 4000000 in
theorem Fr.rf : Fr T ow h ow h := fun _ _ _ => ⟨rfl, rfl, rfl, rfl, rfl, rfl⟩
set_option maxRecDepth 100000 in
set_option maxHeartbeats 4000000 in
theorem Fr.tr (x : Fr T ow h o1 h1) (y : Fr T o1 h1 o2 h2) : Fr T ow h o2 h2 := fun a ha hT => by
  obtain ⟨a1, a2, a3, a4, a5, a6⟩ := x a ha hT
  obtain ⟨b1, b2, b3, b4, b5, b6⟩ := y a (by rw [a1]; exact ha) (by rw [a1]; exact hT)
  exact ⟨b1.trans a1, b2.trans a2, b3.trans a3, b4.trans a4, b5.trans a5, b6.trans a6⟩
set_option maxRecDepth 100000 in
set_option maxHeartbeats 4000000 in
theorem Fr.mono (x : Fr T ow h o2 h2) (hT : ∀ t, T t → T2 t) : Fr T2 ow h o2 h2 := fun a ha hn => x a ha (fun z => hn (hT _ z))
set_option maxRecDepth 100000 in
set_option maxHeartbeats 4000000 in
theorem Fr.wi {v : Int32} (ht : T (ow a)) : Fr T ow h ow (wi h a k v) := fun b _ hT => ⟨rfl, rfl, up2_a (f := hi h) (fun z => hT (by rw [z]; exact ht)), rfl, rfl, rfl⟩
set_option maxRecDepth 100000 in
set_option maxHeartbeats 4000000 in
theorem Fr.wq {v : Option Nat} (ht : T (ow a)) : Fr T ow h ow (wq h a k v) := fun b _ hT => ⟨rfl, rfl, rfl, up2_a (f := hr h) (fun z => hT (by rw [z]; exact ht)), rfl, rfl⟩
set_option maxRecDepth 100000 in
set_option maxHeartbeats 4000000 in
theorem Fr.wl {v : Int64} (ht : T (ow a)) : Fr T ow h ow (wl h a k v) := fun b _ hT => ⟨rfl, rfl, rfl, rfl, up2_a (f := hl h) (fun z => hT (by rw [z]; exact ht)), rfl⟩
set_option maxRecDepth 100000 in
set_option maxHeartbeats 4000000 in
theorem Fr.wf {v : UInt32} (ht : T (ow a)) : Fr T ow h ow (wf h a k v) := fun b _ hT => ⟨rfl, rfl, rfl, rfl, rfl, up2_a (f := hf h) (fun z => hT (by rw [z]; exact ht))⟩
set_option maxRecDepth 100000 in
set_option maxHeartbeats 4000000 in
theorem filF_a {F : Nat → Nat → Int32} {v : Int32} {b : Nat} (hb : b ≠ c) : filF F c lo n v b = F b := funext fun j => by unfold filF; rw [if_neg (fun z => hb z.1)]
set_option maxRecDepth 100000 in
set_option maxHeartbeats 4000000 in
theorem filF_c {F : Nat → Nat → Int32} {v : Int32} : filF F c lo n v c = filG (F c) lo n v := funext fun j => by unfold filF filG; by_cases z : lo ≤ j ∧ j < lo + n <;> simp [z]
set_option maxRecDepth 100000 in
set_option maxHeartbeats 4000000 in
theorem Fr.fil {v : Int32} (ht : T (ow c)) : Fr T ow h ow (setI h (filF (hi h) c lo n v)) := fun b _ hT => ⟨rfl, rfl, filF_a (F := hi h) (fun z => hT (by rw [z]; exact ht)), rfl, rfl, rfl⟩
set_option maxRecDepth 100000 in
set_option maxHeartbeats 4000000 in
theorem nw_ne {b : Nat} (hb : b ≠ hz h) : hm (nw h kd n) b = hm h b ∧ hi (nw h kd n) b = hi h b ∧ hr (nw h kd n) b = hr h b ∧ hl (nw h kd n) b = hl h b ∧ hf (nw h kd n) b = hf h b := by
  have e : ∀ {α : Type} (f : Nat → Nat → α) (v : α), up1 f h.1 v b = f b := fun f v => funext fun j => by unfold up1; rw [if_neg (show b ≠ h.1 from hb)]
  exact ⟨if_neg (show b ≠ h.1 from hb), e _ _, e _ _, e _ _, e _ _⟩
set_option maxRecDepth 100000 in
set_option maxHeartbeats 4000000 in
theorem Fr.nw (L : Lv ow h) : Fr T ow h (upd0 ow (hz h) t) (nw h kd n) := fun b hb _ => by
  have hne : b ≠ hz h := Nat.ne_of_lt (L b hb).1
  exact ⟨upd0_ne hne, nw_ne hne⟩
set_option maxRecDepth 100000 in
set_option maxHeartbeats 4000000 in
theorem Fr.tag (ht : T (ow a)) : Fr T ow h (upd0 ow a t) h := fun b _ hT => ⟨upd0_ne (fun z => hT (by rw [z]; exact ht)), rfl, rfl, rfl, rfl, rfl⟩
set_option maxRecDepth 100000 in
set_option maxHeartbeats 4000000 in
theorem Lv.nw (L : Lv ow h) (hkd : kd = 4 → 400 ≤ t ∧ t < 410) : Lv (upd0 ow (hz h) t) (nw h kd n) := fun b hb => by
  show b < hz h + 1 ∧ _
  by_cases e : b = hz h
  · subst e
    rw [hk_nw', upd0_same]
    exact ⟨by omega, hkd⟩
  · rw [upd0_ne e] at hb ⊢
    rw [hk_nw e]
    exact ⟨Nat.lt_succ_of_lt (L b hb).1, (L b hb).2⟩
set_option maxRecDepth 100000 in
set_option maxHeartbeats 4000000 in
theorem Lv.tag (L : Lv ow h) (ha : ow a ≠ 0) (hka : hk h a ≠ 4) : Lv (upd0 ow a t) h := fun b hb => by
  by_cases e : b = a
  · rw [e]
    exact ⟨(L a ha).1, fun z => absurd z hka⟩
  · rw [upd0_ne e] at hb ⊢
    exact L b hb
set_option maxRecDepth 100000 in
set_option maxHeartbeats 4000000 in
theorem Fr.at_ (F : Fr T ow h o2 h2) (e : ow a = t) (h0 : t ≠ 0) (hT : ¬ T t) : o2 a = t ∧ hk h2 a = hk h a ∧ hn h2 a = hn h a ∧ hi h2 a = hi h a ∧ hr h2 a = hr h a ∧ hl h2 a = hl h a ∧ hf h2 a = hf h a := by
  obtain ⟨b1, b2, b3, b4, b5, b6⟩ := F a (by rw [e]; exact h0) (by rw [e]; exact hT)
  exact ⟨b1.trans e, congrArg Prod.fst b2, congrArg Prod.snd b2, b3, b4, b5, b6⟩
set_option maxRecDepth 100000 in
set_option maxHeartbeats 4000000 in
theorem RowR.fr {r : Option Nat} {f f2 : Nat → Int32} {n2 : Nat} (F : Fr T ow h o2 h2) (h0 : t ≠ 0) (hT : ¬ T t) (en : n2 = n) (ef : ∀ k, k < n → f2 k = f k) (R : RowR ow h kd t r n f) : RowR o2 h2 kd t r n2 f2 := by
  subst en
  rcases R with ⟨r1, r2⟩ | ⟨a, r1, r2, r3, r4, r5, r6⟩
  · exact Or.inl ⟨r1, r2⟩
  · obtain ⟨b1, b2, b3, b4, -⟩ := F.at_ r2 h0 hT
    exact Or.inr ⟨a, r1, b1, b2.trans r3, b3.trans r4, r5, fun k hk => by rw [b4, r6 k hk, ef k hk]⟩
set_option maxRecDepth 100000 in
set_option maxHeartbeats 4000000 in
theorem BoltP.fr {i : Nat} {f f2 L L2 : Nat → Int32} (F : Fr T ow h o2 h2) (h1 : ¬ T (100 + i)) (h2' : ¬ T (200 + i)) (h3 : ¬ T (300 + i)) (w3 : isN (f 3) 0 200) (w1 : isN (f 1) 1 200) (ef : ∀ c, c < 206 → f2 c = f c) (eL : ∀ k, k < nt (f 1) → L2 k = L k) (B : BoltP ow h a i f L) : BoltP o2 h2 a i f2 L2 := by
  obtain ⟨q0, q1, q2, q3, q4, q5, q6, c, q7, q8, q9, q10, q11, q12⟩ := B
  obtain ⟨b1, b2, b3, b4, b5, -, b7⟩ := F.at_ q0 (by omega) h1
  obtain ⟨c1, c2, c3, c4, -⟩ := F.at_ q8 (by omega) h2'
  have u3 := w3.2.2
  refine ⟨b1, b2.trans q1, by rw [b4, q2, ef 0 (by omega)], by rw [b4, q3, ef 1 (by omega)], by rw [b7, q4, ef 2 (by omega)], by rw [b4, q5, ef 4 (by omega)], ?_, c, by rw [b5]; exact q7, c1, c2.trans q9, c3.trans q10, by rw [b4, c4, q11, ef 1 (by omega)], fun k hk => ?_⟩
  · rw [b5]
    exact RowR.fr F (by omega) h3 (by rw [ef 3 (by omega)]) (fun k hk => ef (6 + k) (by omega)) q6
  · rw [ef 1 (by omega)] at hk
    rw [c4, q12 k hk, eL k hk]
set_option maxRecDepth 100000 in
set_option maxHeartbeats 4000000 in
theorem SideP.fr {tr n2 : Nat} {ft hd ft2 hd2 : Int32} {f f2 : Nat → Int32} (F : Fr T ow h o2 h2) (h0 : t ≠ 0) (hT : ¬ T t) (h0r : tr ≠ 0) (hTr : ¬ T tr) (e1 : ft2 = ft) (e2 : hd2 = hd) (en : n2 = n) (ef : ∀ k, k < n → f2 k = f k) (S : SideP ow h a t tr ft hd n f) : SideP o2 h2 a t tr ft2 hd2 n2 f2 := by
  subst e1 e2
  obtain ⟨q0, q1, q2, q3, q4⟩ := S
  obtain ⟨b1, b2, b3, b4, b5, -, b7⟩ := F.at_ q0 h0 hT
  exact ⟨b1, b2.trans q1, by rw [b4, q2], by rw [b4, q3], by rw [b5]; exact RowR.fr F h0r hTr en ef q4⟩
end FR
/-- what a piece's numbers rest on -/
def KE (g g2 : Nat → Int32) (s i : Nat) : Prop := (∀ c, 1 ≤ c → c ≤ 8 → sl g2 s c = sl g s c) ∧ (∀ c, 16 ≤ c → c < 140 → sl g2 s c = sl g s c) ∧ sl g2 s (180 + i) = sl g s (180 + i) ∧ sl g2 s (220 + i) = sl g s (220 + i) ∧ sl g2 s (260 + i) = sl g s (260 + i)
def EE (g g2 : Nat → Int32) (s : Nat) : Prop := (∀ c, 1 ≤ c → c ≤ 5 → sl g2 s c = sl g s c) ∧ ∀ c, 16 ≤ c → c < 140 → sl g2 s c = sl g s c
set_option maxRecDepth 100000 in
set_option maxHeartbeats 4000000 in
theorem EE.ed {g g2 : Nat → Int32} {s b y : Nat} (e : EE g g2 s) (hb : b < 2) (hy : y ≤ 60) : edg g2 s b y = edg g s b y := by
  unfold edg
  rw [e.1 (1 + b) (by omega) (by omega), e.1 (3 + b) (by omega) (by omega), e.1 5 (by omega) (by omega), e.2 (16 + b) (by omega) (by omega), e.2 (18 + 61 * b + y) (by omega) (by omega)]
set_option maxRecDepth 100000 in
set_option maxHeartbeats 4000000 in
theorem EE.tp {g g2 : Nat → Int32} {s y : Nat} (e : EE g g2 s) (hy : y < 60) : stp g2 s y = stp g s y := by
  unfold stp acr
  rw [e.ed (by omega) (by omega), e.ed (by omega) (by omega), e.ed (by omega) (by omega), e.ed (by omega) (by omega)]
set_option maxRecDepth 100000 in
set_option maxHeartbeats 4000000 in
theorem KE.ee {g g2 : Nat → Int32} {s i : Nat} (e : KE g g2 s i) : EE g g2 s := ⟨fun c h1 h2 => e.1 c h1 (by omega), e.2.1⟩
set_option maxRecDepth 100000 in
set_option maxHeartbeats 4000000 in
theorem KE.ip {g g2 : Nat → Int32} {s i : Nat} (e : KE g g2 s i) : isP g2 s i = isP g s i := by unfold isP; rw [e.1 8 (by omega) (by omega)]
set_option maxRecDepth 100000 in
set_option maxHeartbeats 4000000 in
theorem KE.l0 {g g2 : Nat → Int32} {s i : Nat} (e : KE g g2 s i) : loN g2 s i = loN g s i := by unfold loN; rw [e.1 6 (by omega) (by omega)]
set_option maxRecDepth 100000 in
set_option maxHeartbeats 4000000 in
theorem KE.h0 {g g2 : Nat → Int32} {s i : Nat} (e : KE g g2 s i) : hiN g2 s i = hiN g s i := by unfold hiN; rw [e.1 6 (by omega) (by omega), e.1 5 (by omega) (by omega)]
set_option maxRecDepth 100000 in
set_option maxHeartbeats 4000000 in
theorem KE.lw {g g2 : Nat → Int32} {s i : Nat} (e : KE g g2 s i) : lowV g2 s i = lowV g s i := by unfold lowV; rw [e.ip, e.l0, e.2.2.1]
set_option maxRecDepth 100000 in
set_option maxHeartbeats 4000000 in
theorem KE.hg {g g2 : Nat → Int32} {s i : Nat} (e : KE g g2 s i) : highV g2 s i = highV g s i := by unfold highV; rw [e.ip, e.h0, e.2.2.1]
set_option maxRecDepth 100000 in
set_option maxHeartbeats 4000000 in
theorem KE.br {g g2 : Nat → Int32} {s i : Nat} (e : KE g g2 s i) : broV g2 s i = broV g s i := by unfold broV; rw [e.ip, e.h0, e.l0, e.1 7 (by omega) (by omega), e.2.2.2.1]
set_option maxRecDepth 100000 in
set_option maxHeartbeats 4000000 in
theorem hi60 {g : Nat → Int32} {s i : Nat} (w : SW g s) : hiN g s i ≤ 60 := by
  have := w.2.1.2.2
  unfold hiN
  split <;> omega
set_option maxRecDepth 100000 in
set_option maxHeartbeats 4000000 in
theorem KE.ln {g g2 : Nat → Int32} {s i : Nat} (e : KE g g2 s i) (w : SW g s) : lenV g2 s i = lenV g s i := by
  have h6 := hi60 (i := i) w
  unfold lenV
  rw [e.ip, e.h0, e.l0, e.2.2.2.2]
  by_cases z : isP g s i = true
  · have z2 : i < nt (sl g s 8) := of_decide_eq_true z
    have := lohi w z2
    rw [if_pos z, if_pos z, mxF_eq (fun y _ hy => e.ee.ed (by omega) (by omega)), mnF_eq (fun y _ hy => e.ee.ed (by omega) (by omega))]
  · rw [if_neg z, if_neg z]
set_option maxRecDepth 100000 in
set_option maxHeartbeats 4000000 in
theorem KE.ar {g g2 : Nat → Int32} {s i : Nat} (e : KE g g2 s i) (w : SW g s) : areV g2 s i = areV g s i := by
  have h6 := hi60 (i := i) w
  unfold areV
  rw [e.ip, e.h0, e.l0, e.2.2.2.1, e.2.2.2.2]
  by_cases z : isP g s i = true
  · have z2 : i < nt (sl g s 8) := of_decide_eq_true z
    have := lohi w z2
    rw [if_pos z, if_pos z, sumN_eq (fun y _ hy => e.ee.tp (by omega))]
  · rw [if_neg z, if_neg z]
section FR2
variable {T T2 : Nat → Prop} {ow o1 o2 : Nat → Nat} {h h1 h2 : AH} {a c k s i : Nat} {g g2 : Nat → Int32}
set_option maxRecDepth 100000 in
set_option maxHeartbeats 4000000 in
theorem PieceP.fr (F : Fr T ow h o2 h2) (hT : ¬ T (1000 + 40 * s + i)) (w : SW g s) (e : KE g g2 s i) (e4 : sl g2 s (140 + i) = sl g s (140 + i)) (e7 : sl g2 s (300 + i) = sl g s (300 + i)) (e8 : sl g2 s (340 + i) = sl g s (340 + i)) (P : PieceP ow h g s i a) : PieceP o2 h2 g2 s i a := by
  obtain ⟨q0, q1, q2, q3, q4, q5, q6, q7, q8, q9, q10⟩ := P
  obtain ⟨b1, b2, b3, b4, -⟩ := F.at_ q0 (by omega) hT
  exact ⟨b1, b2.trans q1, by rw [b4, q2, e.ip], by rw [b4, q3, e.lw], by rw [b4, q4, e.hg], by rw [b4, q5, e.ln w], by rw [b4, q6, e.br], by rw [b4, q7, e.ar w], by rw [b4, q8, e.ip, e4], by rw [b4, q9, e7], by rw [b4, q10, e8]⟩
set_option maxRecDepth 100000 in
set_option maxHeartbeats 4000000 in
theorem SailE.fr2 (F : Fr T ow h o2 h2) (hT1 : ¬ T (410 + s)) (hT2 : ¬ T (420 + s)) (hT3 : ¬ T (430 + s)) (hT4 : ¬ T (440 + s)) (oa : o2 a = 400 + s) (ka : hk h2 a = 4) (r0 : hr h2 a 0 = hr h a 0) (r1 : hr h2 a 1 = hr h a 1) (i2 : hi h2 a 2 = hi h a 2) (w : SW g s) (e : EE g g2 s) (E : SailE ow h g s a) : SailE o2 h2 g2 s a := by
  obtain ⟨q0, q1, ⟨l, q2, S⟩, ⟨r, q3, S2⟩, q4⟩ := E
  obtain ⟨w0, w5, w8, w9, w89, w6, w7, wp, w10, w11, w12, w16, w17, wo⟩ := id w
  have u16 := w16.2.2
  have u17 := w17.2.2
  exact ⟨oa, ka, ⟨l, by rw [r0]; exact q2, SideP.fr F (by omega) hT1 (by omega) hT3 (e.1 1 (by omega) (by omega)) (e.1 3 (by omega) (by omega)) (by rw [e.2 16 (by omega) (by omega)]) (fun k hk => e.2 (18 + k) (by omega) (by omega)) S⟩,
    ⟨r, by rw [r1]; exact q3, SideP.fr F (by omega) hT2 (by omega) hT4 (e.1 2 (by omega) (by omega)) (e.1 4 (by omega) (by omega)) (by rw [e.2 17 (by omega) (by omega)]) (fun k hk => e.2 (79 + k) (by omega) (by omega)) S2⟩, by rw [i2, q4, e.1 5 (by omega) (by omega)]⟩
/-- tags of sail s -/
def sT (s t : Nat) : Prop := t = 400 + s ∨ t = 410 + s ∨ t = 420 + s ∨ t = 430 + s ∨ t = 440 + s ∨ t = 450 + s ∨ t = 460 + s ∨ t = 470 + s ∨ (1000 + 40 * s ≤ t ∧ t < 1040 + 40 * s)
set_option maxRecDepth 100000 in
set_option maxHeartbeats 4000000 in
theorem SailP.fr (F : Fr T ow h o2 h2) (hT : ∀ t, sT s t → ¬ T t) (w : SW g s) (e : ∀ c, c < 390 → sl g2 s c = sl g s c) (S : SailP ow h g s a) : SailP o2 h2 g2 s a := by
  obtain ⟨E, C, L⟩ := S
  have hq0 := E.1
  obtain ⟨b1, b2, b3, b4, b5, -⟩ := F.at_ hq0 (by omega) (hT _ (Or.inl rfl))
  obtain ⟨w0, w5, w8, w9, w89, w6, w7, wp, w10, w11, w12, w16, w17, wo⟩ := id w
  have enp : np g2 s = np g s := by unfold np; rw [e 8 (by omega), e 9 (by omega)]
  have hle : np g s ≤ 40 := w89
  have u5 := w5.2.2
  have u12 := w12.2.2
  refine ⟨E.fr2 F (hT _ (by unfold sT; omega)) (hT _ (by unfold sT; omega)) (hT _ (by unfold sT; omega)) (hT _ (by unfold sT; omega)) b1 (b2.trans E.2.1) (by rw [b5]) (by rw [b5]) (by rw [b4]) w ⟨fun c h1 h2 => e c (by omega), fun c h1 h2 => e c (by omega)⟩, ?_, ?_⟩
  · obtain ⟨c1, c2, c3, c4⟩ := C
    refine ⟨by rw [b4, c1, e 0 (by omega)], by rw [b4, c2, e 8 (by omega)], by rw [b4, c3, enp], ?_⟩
    rw [b5, e 0 (by omega)]
    rcases c4 with z | ⟨z, ⟨pa, p1, p2, p3, p4, p5⟩, st, s1, s2, s3, s4, s5⟩
    · exact Or.inl z
    · obtain ⟨x1, x2, x3, x4, x5, -⟩ := F.at_ p2 (by omega) (hT _ (by unfold sT; omega))
      obtain ⟨y1, y2, y3, y4, -⟩ := F.at_ s2 (by omega) (hT _ (by unfold sT; omega))
      refine Or.inr ⟨z, ⟨pa, p1, x1, x2.trans p3, x3.trans p4, fun i hi => ?_⟩, st, s1, y1, y2.trans s3, by rw [y3, s4, e 5 (by omega)], fun y hy => ?_⟩
      · rw [enp] at hi
        obtain ⟨p, hp, P⟩ := p5 i hi
        exact ⟨p, by rw [x5]; exact hp, P.fr F (hT _ (by unfold sT; omega)) w ⟨fun c h1 h2 => e c (by omega), fun c h1 h2 => e c (by omega), e _ (by omega), e _ (by omega), e _ (by omega)⟩ (e _ (by omega)) (e _ (by omega)) (e _ (by omega))⟩
      · rw [e 5 (by omega)] at hy
        have ee : EE g g2 s := ⟨fun c h1 h2 => e c (by omega), fun c h1 h2 => e c (by omega)⟩
        rw [y4, s5 y hy, ee.tp (by omega)]
  · obtain ⟨l1, l2, l3, q, l4, l5, l6, l7, l8⟩ := L
    obtain ⟨y1, y2, y3, y4, -⟩ := F.at_ l5 (by omega) (hT _ (by unfold sT; omega))
    exact ⟨by rw [b4, l1, e 10 (by omega)], by rw [b4, l2, e 11 (by omega)], by rw [b4, l3, e 12 (by omega)], q, by rw [b5]; exact l4, y1, y2.trans l6, y3.trans l7, fun n hn => by
      rw [e 12 (by omega)] at hn
      rw [y4, l8 n hn, e (13 + n) (by omega)]⟩
end FR2

