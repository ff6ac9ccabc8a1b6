/-! ===== breadths, open sails: sail, take ===== -/
section BOS3
variable {g g2 : Nat → Int32} {s b : Nat}
set_option maxRecDepth 100000 in
set_option maxHeartbeats 4000000 in
theorem BO_sail {n : Nat} {e1 e2 e3 e4 e5 : Int32} (I : GI g) (en : n = nt (g 1)) (hn10 : n < 10) (B : BO g) : BO (gSail g n e1 e2 e3 e4 e5) := by
  have g1 : nt (gSail g n e1 e2 e3 e4 e5 1) = n + 1 := by rw [gSail_1, nt_nI (by omega)]
  have ec : ∀ t, t < n → ∀ c, c < 390 → sl (gSail g n e1 e2 e3 e4 e5) t c = sl g t c := fun t ht2 c hc => gSail_ne (by omega) (by omega)
  refine ⟨fun t i ht hi4 => ?_, fun t ht h0 => ?_⟩
  · rw [g1] at ht
    by_cases z : t = n
    · rw [z, gSail_np] at hi4
      omega
    · have ht' : t < n := by omega
      have enp : np (gSail g n e1 e2 e3 e4 e5) t = np g t := by unfold np; rw [ec t ht' 8 (by omega), ec t ht' 9 (by omega)]
      rw [enp] at hi4
      have h40 := I.h40 t (by omega)
      have q := B.1 t i (by omega) hi4
      unfold broV isP hiN loN at q ⊢
      rw [ec t ht' 8 (by omega), ec t ht' 5 (by omega), ec t ht' 6 (by omega), ec t ht' 7 (by omega), ec t ht' (220 + i) (by omega)]
      exact q
  · rw [g1] at ht
    by_cases z : t = n
    · rw [z, gSail_sl (by omega), if_neg (by omega), if_neg (by omega), if_neg (by omega), if_neg (by omega), if_neg (by omega), if_neg (by omega)]
    · rw [ec t (by omega) 0 (by omega)] at h0
      rw [ec t (by omega) 11 (by omega)]
      exact B.2 t (by omega) h0
set_option maxRecDepth 100000 in
set_option maxHeartbeats 4000000 in
theorem take_cells (hmb : nt (g 0) + np g s ≤ 24) : (gTake g s 1 = g 1) ∧ (∀ t c, c < 390 → ¬ (t = s ∧ (c = 0 ∨ c = 11)) → sl (gTake g s) t c = sl g t c) ∧ sl (gTake g s) s 0 = 2 ∧ sl (gTake g s) s 11 = 0 := by
  refine ⟨?_, fun t c hc hne => ?_, ?_, upd0_same _ _ _⟩
  · unfold gTake
    rw [upd0_ne (by omega), upd0_ne (by omega)]
    exact gTk_1
  · show gTake g s (5050 + 390 * t + c) = _
    unfold gTake
    rw [upd0_ne (by omega), upd0_ne (by omega)]
    exact sl_gTk g s hmb t c
  · show gTake g s (5050 + 390 * s + 0) = _
    unfold gTake
    rw [upd0_ne (by omega), upd0_same]
set_option maxRecDepth 100000 in
set_option maxHeartbeats 4000000 in
theorem BO_take (I : GI g) (hmb : nt (g 0) + np g s ≤ 24) (B : BO g) : BO (gTake g s) := by
  obtain ⟨t1, ts, t0, t11⟩ := take_cells hmb
  refine ⟨BR_of t1 (fun t c ht hc => ts t c (by omega) (by omega)) I.h40 B.1, fun t ht h0 => ?_⟩
  rw [t1] at ht
  by_cases z : t = s
  · rw [z, t11]
  · rw [ts t 0 (by omega) (by omega)] at h0
    rw [ts t 11 (by omega) (by omega)]
    exact B.2 t ht h0
set_option maxRecDepth 100000 in
set_option maxHeartbeats 4000000 in
theorem GI_take (I : GI g) (B : BO g) (hs : s < nt (g 1)) (h1 : sl g s 0 = 1) (hmb : nt (g 0) + np g s ≤ 24) (hall : ∀ j, j < np g s → ¬ sl g s (300 + j) = -1) : GI (gTake g s) := by
  have K : GI (gTk g s (nt (g 0)) (np g s)) := GI_tk I B.1 hs rfl hmb rfl hall (Nat.le_refl _)
  have k1 : gTk g s (nt (g 0)) (np g s) 1 = g 1 := gTk_1
  have ks := sl_gTk g s hmb
  have hs2 : s < nt (gTk g s (nt (g 0)) (np g s) 1) := by rw [k1]; exact hs
  obtain ⟨w, x⟩ := K.2.2.1 s hs2
  have h1' : sl (gTk g s (nt (g 0)) (np g s)) s 0 = 1 := by rw [ks]; exact h1
  obtain ⟨G1, hG1⟩ : ∃ G1, G1 = gTk g s (nt (g 0)) (np g s) := ⟨_, rfl⟩
  have eT : gTake g s = upd0 (upd0 G1 (5050 + 390 * s + 0) 2) (5050 + 390 * s + 11) 0 := by rw [hG1]; rfl
  rw [← hG1] at K w x h1' hs2
  rw [eT]
  have e : ∀ c, c < 390 → c ≠ 0 → c ≠ 11 → sl (upd0 (upd0 G1 (5050 + 390 * s + 0) 2) (5050 + 390 * s + 11) 0) s c = sl G1 s c := fun c hc n0 n11 => by
    show upd0 (upd0 G1 (5050 + 390 * s + 0) 2) (5050 + 390 * s + 11) 0 (5050 + 390 * s + c) = _
    rw [upd0_ne (by omega), upd0_ne (by omega)]
    rfl
  have e0 : sl (upd0 (upd0 G1 (5050 + 390 * s + 0) 2) (5050 + 390 * s + 11) 0) s 0 = 2 := by
    show upd0 (upd0 G1 (5050 + 390 * s + 0) 2) (5050 + 390 * s + 11) 0 (5050 + 390 * s + 0) = _
    rw [upd0_ne (by omega), upd0_same]
  have e11 : sl (upd0 (upd0 G1 (5050 + 390 * s + 0) 2) (5050 + 390 * s + 11) 0) s 11 = 0 := upd0_same _ _ _
  have enp : np (upd0 (upd0 G1 (5050 + 390 * s + 0) 2) (5050 + 390 * s + 11) 0) s = np G1 s := by unfold np; rw [e 8 (by omega) (by omega) (by omega), e 9 (by omega) (by omega) (by omega)]
  have h40 : np G1 s ≤ 40 := w.2.2.2.2.1
  have ge : ∀ j, (j < 5050 + 390 * s ∨ 5050 + 390 * s + 390 ≤ j) → upd0 (upd0 G1 (5050 + 390 * s + 0) 2) (5050 + 390 * s + 11) 0 j = G1 j := fun j hj => by rw [upd0_ne (by omega), upd0_ne (by omega)]
  obtain ⟨G2, hG2⟩ : ∃ G2, G2 = upd0 (upd0 G1 (5050 + 390 * s + 0) 2) (5050 + 390 * s + 11) 0 := ⟨_, rfl⟩
  rw [← hG2] at e e0 e11 enp ge ⊢
  have g0 : G2 0 = G1 0 := ge 0 (by omega)
  have u16 := w.2.2.2.2.2.2.2.2.2.2.2.1.2.2
  have u17 := w.2.2.2.2.2.2.2.2.2.2.2.2.1.2.2
  have ke : ∀ i, i < np G1 s → KE G1 G2 s i := fun i hi => ⟨fun c h1 h2 => e c (by omega) (by omega) (by omega), fun c h1 h2 => e c (by omega) (by omega) (by omega), e _ (by omega) (by omega) (by omega), e _ (by omega) (by omega) (by omega), e _ (by omega) (by omega) (by omega)⟩
  have i2 : isN (2 : Int32) 0 2 := isN_nI (n := 2) (by omega) (by omega) (by omega)
  have i0 : isN (0 : Int32) 0 1 := isN_nI (n := 0) (by omega) (by omega) (by omega)
  refine GI_one K hs2 ge ?_ ?_ (fun i hi4 hne => ?_)
  · unfold SW at w ⊢
    rw [g0, e0, e11, e 5 (by omega) (by omega) (by omega), e 8 (by omega) (by omega) (by omega), e 9 (by omega) (by omega) (by omega), e 6 (by omega) (by omega) (by omega), e 7 (by omega) (by omega) (by omega), e 10 (by omega) (by omega) (by omega), e 12 (by omega) (by omega) (by omega), e 16 (by omega) (by omega) (by omega), e 17 (by omega) (by omega) (by omega)]
    obtain ⟨a1, a2, a3, a4, a5, a6, a7, a8, a9, a10, a11, a12, a13, a14⟩ := w
    exact ⟨i2, a2, a3, a4, a5, a6, a7, a8, a9, i0, a11, a12, a13, fun i hi => by rw [e (300 + i) (by omega) (by omega) (by omega)]; exact a14 i hi⟩
  · obtain ⟨x1, x2, x3, x4, x5, x6, x7, x8, x9, x10⟩ := x
    unfold SX
    rw [enp, e0, e 8 (by omega) (by omega) (by omega), e 9 (by omega) (by omega) (by omega), e 5 (by omega) (by omega) (by omega), e 10 (by omega) (by omega) (by omega), e 12 (by omega) (by omega) (by omega)]
    refine ⟨fun z => absurd z (by decide), fun _ => x2 (by rw [h1']; decide), fun i h1 h2 => by rw [e _ (by omega) (by omega) (by omega)]; exact x3 i h1 h2, fun i h1 h2 => by rw [e _ (by omega) (by omega) (by omega), e _ (by omega) (by omega) (by omega)]; exact x4 i h1 h2, fun i h1 h2 => ?_, fun n hn => ?_, x7, fun c h1 h2 => by rw [e _ (by omega) (by omega) (by omega)]; exact x8 c h1 h2, fun b k h1 h2 => ?_, fun i hi => by rw [(ke i hi).ln w]; exact x10 i hi⟩
    · rw [e _ (by omega) (by omega) (by omega)] at h2
      rw [e _ (by omega) (by omega) (by omega)]
      exact x5 i h1 h2
    · have := w.2.2.2.2.2.2.2.2.2.2.1.2.2
      rw [e _ (by omega) (by omega) (by omega)]
      exact x6 n hn
    · rw [e _ (by omega) (by omega) (by omega)] at h2
      have hk : k < 61 := by
        rcases Nat.lt_or_ge b 1 with z | z
        · obtain rfl : b = 0 := by omega
          exact Nat.lt_of_lt_of_le h2 u16
        · obtain rfl : b = 1 := by omega
          exact Nat.lt_of_lt_of_le h2 u17
      rw [e _ (by omega) (by omega) (by omega)]
      exact x9 b k h1 h2
  · rw [enp] at hi4
    exact ⟨hi4, e _ (by omega) (by omega) (by omega), e _ (by omega) (by omega) (by omega), (ke i hi4).ln w⟩
end BOS3

