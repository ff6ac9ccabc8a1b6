/-! ===== what a change of the laying leaves as it is ===== -/
set_option maxRecDepth 100000 in
set_option maxHeartbeats 4000000 in
theorem mxF_eq {f f2 : Nat → Int32} {a : Nat} : ∀ {n : Nat}, (∀ y, a ≤ y → y ≤ a + n → f2 y = f y) → mxF f2 a n = mxF f a n
  | 0, h => h a (Nat.le_refl _) (by omega)
  | n + 1, h => by
    rw [mxF, mxF, mxF_eq (n := n) (fun y h1 h2 => h y h1 (by omega)), h (a + 1 + n) (by omega) (by omega)]
set_option maxRecDepth 100000 in
set_option maxHeartbeats 4000000 in
theorem mnF_eq {f f2 : Nat → Int32} {a : Nat} : ∀ {n : Nat}, (∀ y, a ≤ y → y ≤ a + n → f2 y = f y) → mnF f2 a n = mnF f a n
  | 0, h => h a (Nat.le_refl _) (by omega)
  | n + 1, h => by
    rw [mnF, mnF, mnF_eq (n := n) (fun y h1 h2 => h y h1 (by omega)), h (a + 1 + n) (by omega) (by omega)]
set_option maxRecDepth 100000 in
set_option maxHeartbeats 4000000 in
theorem sumN_eq {f f2 : Nat → Int32} {a : Nat} : ∀ {n : Nat}, (∀ y, a ≤ y → y < a + n → f2 y = f y) → sumN f2 a n = sumN f a n
  | 0, _ => rfl
  | n + 1, h => by
    rw [sumN, sumN, sumN_eq (n := n) (fun y h1 h2 => h y h1 (by omega)), h (a + n) (by omega) (by omega)]
/-- the cells of a sail that hold no laying are the same -/
def SE (g g2 : Nat → Int32) (s : Nat) : Prop := ∀ c, c < 300 → sl g2 s c = sl g s c
set_option maxRecDepth 100000 in
set_option maxHeartbeats 4000000 in
theorem edg_lo {g g2 : Nat → Int32} {s a y : Nat} (e : SE g g2 s) (ha : a ≤ 1) (hy : y ≤ 61) : edg g2 s a y = edg g s a y := by
  unfold edg
  rw [e (1 + a) (by omega), e (3 + a) (by omega), e 5 (by omega), e (16 + a) (by omega), e (18 + 61 * a + y) (by omega)]
set_option maxRecDepth 100000 in
set_option maxHeartbeats 4000000 in
theorem acr_lo {g g2 : Nat → Int32} {s y : Nat} (e : SE g g2 s) (hy : y ≤ 61) : acr g2 s y = acr g s y := by
  unfold acr
  rw [edg_lo e (by omega) hy, edg_lo e (by omega) hy]
set_option maxRecDepth 100000 in
set_option maxHeartbeats 4000000 in
theorem stp_lo {g g2 : Nat → Int32} {s y : Nat} (e : SE g g2 s) (hy : y ≤ 60) : stp g2 s y = stp g s y := by
  unfold stp
  rw [acr_lo e (by omega), acr_lo e (by omega)]
set_option maxRecDepth 100000 in
set_option maxHeartbeats 4000000 in
theorem np_lo {g g2 : Nat → Int32} {s : Nat} (e : SE g g2 s) : np g2 s = np g s := by
  unfold np
  rw [e 8 (by omega), e 9 (by omega)]
set_option maxRecDepth 100000 in
set_option maxHeartbeats 4000000 in
theorem isP_lo {g g2 : Nat → Int32} {s : Nat} (e : SE g g2 s) (i : Nat) : isP g2 s i = isP g s i := by
  unfold isP
  rw [e 8 (by omega)]
set_option maxRecDepth 100000 in
set_option maxHeartbeats 4000000 in
theorem loN_lo {g g2 : Nat → Int32} {s : Nat} (e : SE g g2 s) (i : Nat) : loN g2 s i = loN g s i := by
  unfold loN
  rw [e 6 (by omega)]
set_option maxRecDepth 100000 in
set_option maxHeartbeats 4000000 in
theorem hiN_lo {g g2 : Nat → Int32} {s : Nat} (e : SE g g2 s) (i : Nat) : hiN g2 s i = hiN g s i := by
  unfold hiN
  rw [e 6 (by omega), e 5 (by omega)]
set_option maxRecDepth 100000 in
set_option maxHeartbeats 4000000 in
theorem lowV_lo {g g2 : Nat → Int32} {s i : Nat} (e : SE g g2 s) (hi4 : i < 40) : lowV g2 s i = lowV g s i := by
  unfold lowV
  rw [isP_lo e, loN_lo e, e (180 + i) (by omega)]
set_option maxRecDepth 100000 in
set_option maxHeartbeats 4000000 in
theorem highV_lo {g g2 : Nat → Int32} {s i : Nat} (e : SE g g2 s) (hi4 : i < 40) : highV g2 s i = highV g s i := by
  unfold highV
  rw [isP_lo e, hiN_lo e, e (180 + i) (by omega)]
set_option maxRecDepth 100000 in
set_option maxHeartbeats 4000000 in
theorem broV_lo {g g2 : Nat → Int32} {s i : Nat} (e : SE g g2 s) (hi4 : i < 40) : broV g2 s i = broV g s i := by
  unfold broV
  rw [isP_lo e, hiN_lo e, loN_lo e, e 7 (by omega), e (220 + i) (by omega)]
set_option maxRecDepth 100000 in
set_option maxHeartbeats 4000000 in
theorem lenV_lo {g g2 : Nat → Int32} {s i : Nat} (e : SE g g2 s) (w : SW g s) (hi4 : i < 40) : lenV g2 s i = lenV g s i := by
  unfold lenV
  rw [isP_lo e, hiN_lo e, loN_lo e, e (260 + i) (by omega)]
  by_cases z : isP g s i = true
  · rw [if_pos z, if_pos z]
    have lh := lohi w (of_decide_eq_true z)
    rw [mxF_eq (f := edg g s 1) (fun y h1 h2 => edg_lo e (by omega) (by omega)), mnF_eq (f := edg g s 0) (fun y h1 h2 => edg_lo e (by omega) (by omega))]
  · rw [if_neg z, if_neg z]
set_option maxRecDepth 100000 in
set_option maxHeartbeats 4000000 in
theorem areV_lo {g g2 : Nat → Int32} {s i : Nat} (e : SE g g2 s) (w : SW g s) (hi4 : i < 40) : areV g2 s i = areV g s i := by
  unfold areV
  rw [isP_lo e, hiN_lo e, loN_lo e, e (220 + i) (by omega), e (260 + i) (by omega)]
  by_cases z : isP g s i = true
  · rw [if_pos z, if_pos z]
    have lh := lohi w (of_decide_eq_true z)
    rw [sumN_eq (f := stp g s) (fun y h1 h2 => stp_lo e (by omega))]
  · rw [if_neg z, if_neg z]
set_option maxRecDepth 100000 in
set_option maxHeartbeats 4000000 in
theorem gPut_lo (g : Nat → Int32) (s i : Nat) (b p : Int32) {j : Nat} (hj : j < 5050) : gPut g s i b p j = g j := by
  unfold gPut
  rw [upd0_ne (by omega), upd0_ne (by omega)]
set_option maxRecDepth 100000 in
set_option maxHeartbeats 4000000 in
theorem gPut_sl (g : Nat → Int32) {s i t c : Nat} (b p : Int32) (hc : c < 390) (hi4 : i < 40) (hne : ¬ (t = s ∧ (c = 300 + i ∨ c = 340 + i))) : sl (gPut g s i b p) t c = sl g t c := by
  unfold sl gPut
  rw [upd0_ne (by omega), upd0_ne (by omega)]
set_option maxRecDepth 100000 in
set_option maxHeartbeats 4000000 in
theorem gPut_on (g : Nat → Int32) {s i : Nat} (b p : Int32) (hi4 : i < 40) : sl (gPut g s i b p) s (300 + i) = b := by
  unfold sl gPut
  rw [upd0_ne (by omega), upd0_same]
set_option maxRecDepth 100000 in
set_option maxHeartbeats 4000000 in
theorem gPut_at (g : Nat → Int32) {s i : Nat} (b p : Int32) : sl (gPut g s i b p) s (340 + i) = p := by
  unfold sl gPut
  rw [upd0_same]
set_option maxRecDepth 100000 in
set_option maxHeartbeats 4000000 in
theorem gPut_SE (g : Nat → Int32) {s i : Nat} (b p : Int32) (hi4 : i < 40) (t : Nat) : SE g (gPut g s i b p) t := fun c hc => gPut_sl g b p (by omega) hi4 (by omega)
set_option maxRecDepth 100000 in
set_option maxHeartbeats 4000000 in
theorem gPut_bl (g : Nat → Int32) {s i a c : Nat} (b p : Int32) (ha : a < 24) (hc : c < 210) : bl (gPut g s i b p) a c = bl g a c := gPut_lo g s i b p (by omega)
/-- what the reference's search of places needs -/
def IV (g : Nat → Int32) : Prop := GW g ∧ PB g ∧ ∀ s i, s < nt (g 1) → i < np g s → isN (lenV g s i) 0 200000
set_option maxRecDepth 100000 in
set_option maxHeartbeats 4000000 in
theorem fpV_some {g : Nat → Int32} {b s i : Nat} {w : Int32} (hL : isN (bl g b 1) 1 200) (hl : isN (lenV g s i) 0 200000) (h : ¬ fpV g b s i w = -1) : ∃ p, fpV g b s i w = nI p ∧ p + nt (lenV g s i) ≤ nt (bl g b 1) ∧ isN (lenV g s i) 0 200 := by
  obtain ⟨eL, lL, uL⟩ := hL
  obtain ⟨el, ll, ul⟩ := hl
  unfold fpV at h ⊢
  by_cases z : broV g s i ≤ bl g b 0 ∧ lenV g s i ≤ bl g b 1
  · rw [if_pos z] at h ⊢
    have z2 := z.2
    rw [el, eL, nI_leI (by omega) (by omega)] at z2
    rcases fstN_spec (P := fun k => decide (runN (freV g b w) (k + 1) = nt (lenV g s i))) (n := nt (bl g b 1)) with ⟨e, -⟩ | ⟨k, e, h1, h2, -⟩
    · rw [show fpN g b s i w = none from e] at h
      exact absurd rfl h
    · rw [show fpN g b s i w = some k from e]
      have h3 := of_decide_eq_true h2
      have h4 := runN_le (freV g b w) (k + 1)
      exact ⟨k + 1 - nt (lenV g s i), rfl, by omega, el, by omega, by omega⟩
  · rw [if_neg z] at h
    exact absurd rfl h
set_option maxRecDepth 100000 in
set_option maxHeartbeats 4000000 in
theorem GW_put {g : Nat → Int32} (W : GW g) {s i : Nat} {b p : Int32} (hi4 : i < 40) (hb : b = -1 ∨ ∃ n, n < nt (g 0) ∧ b = nI n) : GW (gPut g s i b p) := by
  have e0 : gPut g s i b p 0 = g 0 := gPut_lo g s i b p (by omega)
  have e1 : gPut g s i b p 1 = g 1 := gPut_lo g s i b p (by omega)
  obtain ⟨W0, W1, WB, WS⟩ := W
  have h24 := W0.2.2
  refine ⟨by rw [e0]; exact W0, by rw [e1]; exact W1, fun a ha => ?_, fun t ht => ?_⟩
  · rw [e0] at ha
    have := WB a ha
    unfold BW at this ⊢
    rw [gPut_bl g b p (by omega) (by omega), gPut_bl g b p (by omega) (by omega), gPut_bl g b p (by omega) (by omega)]
    exact this
  · rw [e1] at ht
    have := WS t ht
    have se := gPut_SE g (s := s) (i := i) b p hi4 t
    unfold SW at this ⊢
    rw [e0, se 0 (by omega), se 5 (by omega), se 8 (by omega), se 9 (by omega), se 6 (by omega), se 7 (by omega), se 10 (by omega), se 11 (by omega), se 12 (by omega), se 16 (by omega), se 17 (by omega)]
    obtain ⟨a1, a2, a3, a4, a5, a6, a7, a8, a9, a10, a11, a12, a13, a14⟩ := this
    refine ⟨a1, a2, a3, a4, a5, a6, a7, a8, a9, a10, a11, a12, a13, fun k hk => ?_⟩
    by_cases z : t = s ∧ k = i
    · obtain ⟨rfl, rfl⟩ := z
      rw [gPut_on g b p hi4]
      rcases hb with rfl | ⟨n, hn, rfl⟩
      · exact Or.inl rfl
      · exact Or.inr ⟨⟨by rw [nt_nI (by omega)], Nat.zero_le _, by rw [nt_nI (by omega)]; omega⟩, by omega⟩
    · rw [gPut_sl g b p (by omega) hi4 (by omega)]
      exact a14 k hk
set_option maxRecDepth 100000 in
set_option maxHeartbeats 4000000 in
theorem IV_put {g : Nat → Int32} (V : IV g) {b s i : Nat} {w : Int32} (hs : s < nt (g 1)) (hi4 : i < np g s) (hb : b < nt (g 0)) (hp : ¬ fpV g b s i w = -1) : IV (gPut g s i (nI b) (fpV g b s i w)) := by
  obtain ⟨W, B, L⟩ := V
  have h40 : np g s ≤ 40 := (W.2.2.2 s hs).2.2.2.2.1
  have h24 := W.1.2.2
  obtain ⟨p, e, h1, h2⟩ := fpV_some (W.2.2.1 b hb).2.1 (L s i hs hi4) hp
  have uL := (W.2.2.1 b hb).2.1.2.2
  rw [e]
  have e0 : gPut g s i (nI b) (nI p) 0 = g 0 := gPut_lo g s i _ _ (by omega)
  have e1 : gPut g s i (nI b) (nI p) 1 = g 1 := gPut_lo g s i _ _ (by omega)
  have se := fun t => gPut_SE g (s := s) (i := i) (nI b) (nI p) (by omega) t
  refine ⟨GW_put W (by omega) (Or.inr ⟨b, hb, rfl⟩), ?_, ?_⟩
  · intro t k ht hk hn
    rw [e1] at ht
    rw [np_lo (se t)] at hk
    have k40 : np g t ≤ 40 := (W.2.2.2 t ht).2.2.2.2.1
    rw [lenV_lo (se t) (W.2.2.2 t ht) (by omega)]
    by_cases z : t = s ∧ k = i
    · obtain ⟨rfl, rfl⟩ := z
      rw [gPut_at, gPut_on g _ _ (by omega), nt_nI (n := b) (by omega), nt_nI (n := p) (by omega), gPut_bl g _ _ (by omega) (by omega)]
      exact ⟨⟨by rw [nt_nI (by omega)], Nat.zero_le _, by rw [nt_nI (by omega)]; omega⟩, h2, h1⟩
    · rw [gPut_sl g _ _ (by omega) (by omega) (by omega)] at hn
      obtain ⟨b1, b2, b3⟩ := B t k ht hk hn
      have hon : nt (sl g t (300 + k)) < 24 := by
        rcases (W.2.2.2 t ht).2.2.2.2.2.2.2.2.2.2.2.2.2 k (by unfold np at hk; omega) with y | ⟨⟨y1, y2, y3⟩, y4⟩
        · exact absurd y hn
        · omega
      rw [gPut_sl g _ _ (by omega) (by omega) (by omega), gPut_sl g _ _ (by omega) (by omega) (by omega), gPut_bl g _ _ hon (by omega)]
      exact ⟨b1, b2, b3⟩
  · intro t k ht hk
    rw [e1] at ht
    rw [np_lo (se t)] at hk
    have k40 : np g t ≤ 40 := (W.2.2.2 t ht).2.2.2.2.1
    rw [lenV_lo (se t) (W.2.2.2 t ht) (by omega)]
    exact L t k ht hk
/-- the first bolt that has a place -/
def fbN (g : Nat → Int32) (s i : Nat) (w : Int32) : Option Nat := fstN (fun b => !decide (fpV g b s i w = -1)) (nt (g 0))
/-- plan, over the pieces of a sail -/
def plI (w : Int32) (s : Nat) : Nat → Nat → (Nat → Int32) → Bool → (Nat → Int32) × Bool × Option Nat
  | 0, _, g, a => (g, a, none)
  | m + 1, i, g, a => if sl g s (300 + i) = -1 then (match fbN g s i w with
    | none => (g, a, some (100 * s + i))
    | some b => plI w s m (i + 1) (gPut g s i (nI b) (fpV g b s i w)) true) else plI w s m (i + 1) g a
/-- plan, over the sails -/
def plS (w : Int32) : Nat → Nat → (Nat → Int32) → Bool → (Nat → Int32) × Bool × Option Nat
  | 0, _, g, a => (g, a, none)
  | m + 1, s, g, a => if isC g (nI s) then (match plI w s (np g s) 0 g a with
    | (g2, a2, some c) => (g2, a2, some c)
    | (g2, a2, none) => plS w m (s + 1) g2 a2) else plS w m (s + 1) g a
def plV (g : Nat → Int32) (w : Int32) : (Nat → Int32) × Bool × Option Nat := plS w (nt (g 1)) 0 g false

