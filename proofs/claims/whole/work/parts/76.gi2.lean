/-! ===== every act keeps what holds of the states: narrow, patch, edge, stand, put ===== -/
section GI2
variable {g g2 : Nat → Int32} {s b : Nat}
set_option maxRecDepth 100000 in
set_option maxHeartbeats 4000000 in
/-- cells that SW doesn't speak of -/
theorem SW_c (e : ∀ c, (c ≤ 17 ∧ (c < 13 ∨ 16 ≤ c) ∨ 300 ≤ c ∧ c < 340) → sl g2 s c = sl g s c) (h0 : g2 0 = g 0) (w : SW g s) : SW g2 s := by
  unfold SW at w ⊢
  rw [h0, e 0 (by omega), e 5 (by omega), e 8 (by omega), e 9 (by omega), e 6 (by omega), e 7 (by omega), e 10 (by omega), e 11 (by omega), e 12 (by omega), e 16 (by omega), e 17 (by omega)]
  obtain ⟨a1, a2, a3, a4, a5, a6, a7, a8, a9, a10, a11, a12, a13, a14⟩ := w
  exact ⟨a1, a2, a3, a4, a5, a6, a7, a8, a9, a10, a11, a12, a13, fun i hi => by rw [e (300 + i) (by omega)]; exact a14 i hi⟩
set_option maxRecDepth 100000 in
set_option maxHeartbeats 4000000 in
theorem row61 (w : SW g s) (hb : b < 2) : isN (sl g s (16 + b)) 0 61 := by
  rcases Nat.lt_or_ge b 1 with z | z
  · obtain rfl : b = 0 := by omega
    exact w.2.2.2.2.2.2.2.2.2.2.2.1
  · obtain rfl : b = 1 := by omega
    exact w.2.2.2.2.2.2.2.2.2.2.2.2.1
set_option maxRecDepth 100000 in
set_option maxHeartbeats 4000000 in
theorem GI_narrow {i : Nat} {v : Int32} (I : GI g) (hs : s < nt (g 1)) (hi4 : i + 1 < nt (sl g s 8)) : GI (gNar g s i v) := by
  obtain ⟨w, x⟩ := I.2.2.1 s hs
  have u8 := w.2.2.1.2.2
  have h40 : np g s ≤ 40 := w.2.2.2.2.1
  have u12 := w.2.2.2.2.2.2.2.2.2.2.1.2.2
  have e : ∀ c, c ≠ 140 + i → c < 390 → sl (gNar g s i v) s c = sl g s c := fun c h1 h2 => upd0_ne (by omega)
  have le : LE g (gNar g s i v) s := ⟨by unfold np; rw [e 8 (by omega) (by omega), e 9 (by omega) (by omega)], fun i' hi => ⟨⟨fun c h1 h2 => e c (by omega) (by omega), fun c h1 h2 => e c (by omega) (by omega), e _ (by omega) (by omega), e _ (by omega) (by omega), e _ (by omega) (by omega)⟩, e _ (by omega) (by omega), e _ (by omega) (by omega)⟩⟩
  refine GI_one I hs (fun q hq => upd0_ne (by omega)) (SW_c (fun c hc => e c (by omega) (by omega)) (upd0_ne (by omega)) w) ?_ (fun i' hi _ => ?_)
  · obtain ⟨x1, x2, x3, x4, x5, x6, x7, x8, x9, x10⟩ := x
    unfold SX
    rw [le.1, e 0 (by omega) (by omega), e 8 (by omega) (by omega), e 9 (by omega) (by omega), e 12 (by omega) (by omega), e 10 (by omega) (by omega), e 5 (by omega) (by omega)]
    refine ⟨x1, x2, fun i' h1 h2 => by rw [e _ (by omega) (by omega)]; exact x3 i' h1 h2, fun i' h1 h2 => by rw [e _ (by omega) (by omega), e _ (by omega) (by omega)]; exact x4 i' h1 h2, fun i' h1 h2 => ?_, fun n hn => by rw [e _ (by omega) (by omega)]; exact x6 n hn, x7, fun c h1 h2 => by rw [e _ (by omega) (by omega)]; exact x8 c h1 h2, fun b k h1 h2 => ?_, fun i' hi => by rw [(le.2 i' hi).1.ln w]; exact x10 i' hi⟩
    · rw [e _ (by omega) (by omega)] at h2
      rw [e _ (by omega) (by omega)]
      exact x5 i' h1 h2
    · have := (row61 w h1).2.2
      rw [e _ (by omega) (by omega)] at h2
      rw [e _ (by omega) (by omega)]
      exact x9 b k h1 h2
  · rw [le.1] at hi
    exact ⟨hi, (le.2 i' hi).2.1, (le.2 i' hi).2.2, (le.2 i' hi).1.ln w⟩
set_option maxRecDepth 100000 in
set_option maxHeartbeats 4000000 in
theorem GI_patch {u bq l : Int32} (I : GI g) (hs : s < nt (g 1)) (hc : sl g s 0 = 1) (hn40 : np g s < 40) (hl1 : inR l 1 100 = true) : GI (gPat g s u bq l) := by
  obtain ⟨w, x⟩ := I.2.2.1 s hs
  have u8 := w.2.2.1.2.2
  have u12 := w.2.2.2.2.2.2.2.2.2.2.1.2.2
  obtain ⟨n, hnn⟩ : ∃ n, n = np g s := ⟨_, rfl⟩
  obtain ⟨ln, l1, l2, rfl⟩ := inR_N (lo := 1) (hi := 100) hl1 rfl (by omega) (by omega)
  have n89 : nt (sl g s 8) + nt (sl g s 9) = n := hnn.symm
  rw [← hnn] at hn40
  have e : ∀ c, c ≠ 9 → c ≠ 180 + n → c ≠ 220 + n → c ≠ 260 + n → c < 390 → sl (gPat g s u bq (nI ln)) s c = sl g s c := fun c c1 c2 c3 c4 c5 => by
    unfold sl gPat
    rw [← hnn, upd0_ne (by omega), upd0_ne (by omega), upd0_ne (by omega), upd0_ne (by omega)]
  have s9 : sl (gPat g s u bq (nI ln)) s 9 = nI (nt (sl g s 9) + 1) := by
    rw [← nI_1, ← w.2.2.2.1.1]
    exact upd0_same _ _ _
  have s26 : sl (gPat g s u bq (nI ln)) s (260 + n) = nI ln := by
    unfold sl gPat
    rw [← hnn, upd0_ne (by omega), upd0_same]
  have enp : np (gPat g s u bq (nI ln)) s = n + 1 := by
    unfold np
    rw [e 8 (by omega) (by omega) (by omega) (by omega) (by omega), s9, nt_nI (by omega)]
    omega
  have ke : ∀ i, i < n → KE g (gPat g s u bq (nI ln)) s i := fun i hi => ⟨fun c h1 h2 => e c (by omega) (by omega) (by omega) (by omega) (by omega), fun c h1 h2 => e c (by omega) (by omega) (by omega) (by omega) (by omega), e _ (by omega) (by omega) (by omega) (by omega) (by omega), e _ (by omega) (by omega) (by omega) (by omega) (by omega), e _ (by omega) (by omega) (by omega) (by omega) (by omega)⟩
  have g0 : gPat g s u bq (nI ln) 0 = g 0 := by
    unfold gPat
    rw [← hnn, upd0_ne (by omega), upd0_ne (by omega), upd0_ne (by omega), upd0_ne (by omega)]
  have lenN : lenV (gPat g s u bq (nI ln)) s n = nI ln := by
    unfold lenV isP
    rw [e 8 (by omega) (by omega) (by omega) (by omega) (by omega), if_neg (by rw [decide_eq_false (by omega)]; decide), s26]
  obtain ⟨x1, x2, x3, x4, x5, x6, x7, x8, x9, x10⟩ := id x
  have onN := x4 n (by omega) (by omega)
  refine GI_one I hs (fun q hq => ?_) ?_ ?_ (fun i hi hne => ?_)
  · unfold gPat
    rw [← hnn, upd0_ne (by omega), upd0_ne (by omega), upd0_ne (by omega), upd0_ne (by omega)]
  · unfold SW at w ⊢
    rw [g0, e 0 (by omega) (by omega) (by omega) (by omega) (by omega), e 5 (by omega) (by omega) (by omega) (by omega) (by omega), e 8 (by omega) (by omega) (by omega) (by omega) (by omega), s9, e 6 (by omega) (by omega) (by omega) (by omega) (by omega), e 7 (by omega) (by omega) (by omega) (by omega) (by omega), e 10 (by omega) (by omega) (by omega) (by omega) (by omega), e 11 (by omega) (by omega) (by omega) (by omega) (by omega), e 12 (by omega) (by omega) (by omega) (by omega) (by omega), e 16 (by omega) (by omega) (by omega) (by omega) (by omega), e 17 (by omega) (by omega) (by omega) (by omega) (by omega), nt_nI (by omega)]
    obtain ⟨a1, a2, a3, a4, a5, a6, a7, a8, a9, a10, a11, a12, a13, a14⟩ := w
    refine ⟨a1, a2, a3, isN_nI (by omega) (by omega) (by omega), by omega, a6, a7, a8, a9, a10, a11, a12, a13, fun i hi => ?_⟩
    rw [e (300 + i) (by omega) (by omega) (by omega) (by omega) (by omega)]
    by_cases ei : i = n
    · rw [ei]
      exact Or.inl onN.1
    · exact a14 i (by omega)
  · unfold SX
    rw [enp, e 0 (by omega) (by omega) (by omega) (by omega) (by omega), e 8 (by omega) (by omega) (by omega) (by omega) (by omega), e 12 (by omega) (by omega) (by omega) (by omega) (by omega), e 10 (by omega) (by omega) (by omega) (by omega) (by omega), e 5 (by omega) (by omega) (by omega) (by omega) (by omega)]
    refine ⟨fun z => absurd z (by rw [hc]; decide), x2, fun i h1 h2 => by rw [e _ (by omega) (by omega) (by omega) (by omega) (by omega)]; exact x3 i h1 h2, fun i h1 h2 => by rw [e _ (by omega) (by omega) (by omega) (by omega) (by omega), e _ (by omega) (by omega) (by omega) (by omega) (by omega)]; exact x4 i (by omega) h2, fun i h1 h2 => ?_, fun m hm => by rw [e _ (by omega) (by omega) (by omega) (by omega) (by omega)]; exact x6 m hm, x7, fun c h1 h2 => by rw [e _ (by omega) (by omega) (by omega) (by omega) (by omega)]; exact x8 c h1 h2, fun b k h1 h2 => ?_, fun i hi => ?_⟩
    · rw [e _ (by omega) (by omega) (by omega) (by omega) (by omega)] at h2
      rw [e _ (by omega) (by omega) (by omega) (by omega) (by omega)]
      by_cases ei : i = n
      · rw [ei]
        exact onN.2
      · exact x5 i (by omega) h2
    · have := (row61 w h1).2.2
      rw [e _ (by omega) (by omega) (by omega) (by omega) (by omega)] at h2
      rw [e _ (by omega) (by omega) (by omega) (by omega) (by omega)]
      exact x9 b k h1 h2
    · by_cases ei : i = n
      · rw [ei, lenN]
        exact isN_nI (by omega) l1 (by omega)
      · rw [(ke i (by omega)).ln w]
        exact x10 i (by omega)
  · rw [enp] at hi
    rw [e _ (by omega) (by omega) (by omega) (by omega) (by omega)] at hne
    by_cases ei : i = n
    · rw [ei] at hne
      exact absurd onN.1 hne
    · exact ⟨by omega, e _ (by omega) (by omega) (by omega) (by omega) (by omega), e _ (by omega) (by omega) (by omega) (by omega) (by omega), (ke i (by omega)).ln w⟩
set_option maxRecDepth 100000 in
set_option maxHeartbeats 4000000 in
/-- the rows of an open sail have changed -/
theorem GI_rows (I : GI g) (hs : s < nt (g 1)) (ho : sl g s 0 = 0) (ge : ∀ j, (j < 5050 + 390 * s ∨ 5050 + 390 * s + 390 ≤ j) → g2 j = g j) (e : ∀ c, c < 390 → ¬ (16 ≤ c ∧ c < 140) → sl g2 s c = sl g s c) (w16 : isN (sl g2 s 16) 0 61) (w17 : isN (sl g2 s 17) 0 61) (x9' : ∀ b k, b < 2 → k < nt (sl g2 s (16 + b)) → inR (sl g2 s (18 + 61 * b + k)) (-200) 200 = true) : GI g2 := by
  obtain ⟨w, x⟩ := I.2.2.1 s hs
  have np0 := x.np0 ho
  have enp : np g2 s = 0 := by rw [← np0]; unfold np; rw [e 8 (by omega) (by omega), e 9 (by omega) (by omega)]
  have u12 := w.2.2.2.2.2.2.2.2.2.2.1.2.2
  refine GI_one I hs ge ?_ ?_ (fun i hi => by omega)
  · unfold SW at w ⊢
    rw [ge 0 (by omega), e 0 (by omega) (by omega), e 5 (by omega) (by omega), e 8 (by omega) (by omega), e 9 (by omega) (by omega), e 6 (by omega) (by omega), e 7 (by omega) (by omega), e 10 (by omega) (by omega), e 11 (by omega) (by omega), e 12 (by omega) (by omega)]
    obtain ⟨a1, a2, a3, a4, a5, a6, a7, a8, a9, a10, a11, a12, a13, a14⟩ := w
    exact ⟨a1, a2, a3, a4, a5, a6, a7, a8, a9, a10, a11, w16, w17, fun i hi => by rw [e (300 + i) (by omega) (by omega)]; exact a14 i hi⟩
  · obtain ⟨x1, x2, x3, x4, x5, x6, x7, x8, x9, x10⟩ := x
    unfold SX
    rw [enp, e 0 (by omega) (by omega), e 8 (by omega) (by omega), e 9 (by omega) (by omega), e 12 (by omega) (by omega), e 10 (by omega) (by omega), e 5 (by omega) (by omega)]
    exact ⟨x1, x2, fun i h1 h2 => by rw [e _ (by omega) (by omega)]; exact x3 i h1 h2, fun i h1 h2 => by rw [e _ (by omega) (by omega), e _ (by omega) (by omega)]; exact x4 i (by omega) h2, fun i h1 h2 => by omega, fun n hn => by rw [e _ (by omega) (by omega)]; exact x6 n hn, x7, fun c h1 h2 => by rw [e _ (by omega) (by omega)]; exact x8 c h1 h2, x9', fun i hi => by omega⟩
set_option maxRecDepth 100000 in
set_option maxHeartbeats 4000000 in
theorem GI_edge {n : Nat} (I : GI g) (hs : s < nt (g 1)) (ho : sl g s 0 = 0) (hb : b < 2) (hn61 : n ≤ 61) : GI (gEdge g s b n) := by
  obtain ⟨w, x⟩ := I.2.2.1 s hs
  have gs := fun c (hc : c < 390) => gEdge_sl (g := g) (j := s) hc hb hn61
  have row : ∀ b', b' < 2 → isN (sl (gEdge g s b n) s (16 + b')) 0 61 := fun b' hb' => by
    rw [gs _ (by omega)]
    by_cases e : b' = b
    · rw [if_pos (by omega)]
      exact isN_nI (by omega) (by omega) hn61
    · rw [if_neg (by omega), if_neg (by omega)]
      exact row61 w hb'
  refine GI_rows I hs ho (fun q hq => ?_) (fun c h1 h2 => ?_) (row 0 (by omega)) (row 1 (by omega)) (fun b' k h1 h2 => ?_)
  · unfold gEdge filG
    rw [if_neg (by omega), upd0_ne (by omega)]
  · rw [gs c h1, if_neg (by omega), if_neg (by omega)]
  · have h61 := (row b' h1).2.2
    rw [gs (18 + 61 * b' + k) (by omega), if_neg (by omega)]
    rw [gs (16 + b') (by omega)] at h2
    by_cases e : b' = b
    · rw [if_pos (by omega), nt_nI (by omega)] at h2
      rw [if_pos (by omega)]
      decide
    · have h63 := (row61 w h1).2.2
      rw [if_neg (by omega), if_neg (by omega)] at h2
      rw [if_neg (by omega)]
      exact x.2.2.2.2.2.2.2.2.1 b' k h1 h2
set_option maxRecDepth 100000 in
set_option maxHeartbeats 4000000 in
theorem GI_stand {k : Nat} {v : Int32} (I : GI g) (hs : s < nt (g 1)) (ho : sl g s 0 = 0) (hb : b < 2) (hk : k < nt (sl g s (16 + b))) (hv : inR v (-200) 200 = true) : GI (gStand g s b k v) := by
  obtain ⟨w, x⟩ := I.2.2.1 s hs
  have h61 := (row61 w hb).2.2
  have e : ∀ c, c < 390 → c ≠ 18 + 61 * b + k → sl (gStand g s b k v) s c = sl g s c := fun c h1 h2 => upd0_ne (by omega)
  refine GI_rows I hs ho (fun q hq => upd0_ne (by omega)) (fun c h1 h2 => e c h1 (by omega)) (by rw [e 16 (by omega) (by omega)]; exact row61 (b := 0) w (by omega)) (by rw [e 17 (by omega) (by omega)]; exact row61 (b := 1) w (by omega)) (fun b' k' h1 h2 => ?_)
  rw [e (16 + b') (by omega) (by omega)] at h2
  have h62 := (row61 w h1).2.2
  by_cases ee : 18 + 61 * b' + k' = 18 + 61 * b + k
  · rw [ee, show sl (gStand g s b k v) s (18 + 61 * b + k) = v from upd0_same _ _ _]
    exact hv
  · rw [e _ (by omega) ee]
    exact x.2.2.2.2.2.2.2.2.1 b' k' h1 h2
set_option maxRecDepth 100000 in
set_option maxHeartbeats 4000000 in
theorem GI_sail {n : Nat} {e1 e2 e3 e4 e5 : Int32} (I : GI g) (en : n = nt (g 1)) (hn10 : n < 10) (h1 : inR e1 (-500) 500 = true) (h2 : inR e2 (-500) 500 = true) (h3 : inR e3 (-500) 500 = true) (h4 : inR e4 (-500) 500 = true) (h5 : inR e5 1 60 = true) : GI (gSail g n e1 e2 e3 e4 e5) := by
  obtain ⟨⟨I0, I1⟩, IB, IS, IP, IN, IZ⟩ := id I
  have h24 := I0.2.2
  obtain ⟨ht, t1, t2, rfl⟩ := inR_N (lo := 1) (hi := 60) h5 rfl (by omega) (by omega)
  have gs := fun c (hc : c < 390) => gSail_sl (g := g) (n := n) (e1 := e1) (e2 := e2) (e3 := e3) (e4 := e4) (e5 := nI ht) hc
  have g0s : ∀ c, c < 300 → 6 ≤ c → sl (gSail g n e1 e2 e3 e4 (nI ht)) n c = 0 := fun c h1 h2 => by rw [gs c (by omega), if_neg (by omega), if_neg (by omega), if_neg (by omega), if_neg (by omega), if_neg (by omega), if_neg (by omega)]
  have g00 : sl (gSail g n e1 e2 e3 e4 (nI ht)) n 0 = 0 := by rw [gs 0 (by omega), if_neg (by omega), if_neg (by omega), if_neg (by omega), if_neg (by omega), if_neg (by omega), if_neg (by omega)]
  have g05 : sl (gSail g n e1 e2 e3 e4 (nI ht)) n 5 = nI ht := by rw [gs 5 (by omega), if_neg (by omega), if_pos rfl]
  have nt0 : nt (0 : Int32) = 0 := nt_nI (n := 0) (by omega)
  have is0 : ∀ m, isN (0 : Int32) 0 m := fun m => isN_nI (n := 0) (by omega) (by omega) (by omega)
  have gb : ∀ b c, b < 24 → c < 210 → bl (gSail g n e1 e2 e3 e4 (nI ht)) b c = bl g b c := fun b c hb hc => gSail_ne (by omega) (by omega)
  have ec : ∀ t, t < n → ∀ c, c < 390 → sl (gSail g n e1 e2 e3 e4 (nI ht)) t c = sl g t c := fun t ht2 c hc => gSail_ne (by omega) (by omega)
  have g0 : gSail g n e1 e2 e3 e4 (nI ht) 0 = g 0 := gSail_ne (by omega) (by omega)
  have ls : ∀ t i, t < n + 1 → i < np (gSail g n e1 e2 e3 e4 (nI ht)) t → t < n ∧ i < np g t ∧ sl (gSail g n e1 e2 e3 e4 (nI ht)) t (300 + i) = sl g t (300 + i) ∧ sl (gSail g n e1 e2 e3 e4 (nI ht)) t (340 + i) = sl g t (340 + i) ∧ lenV (gSail g n e1 e2 e3 e4 (nI ht)) t i = lenV g t i := fun t i h1 h2 => by
    by_cases e : t = n
    · rw [e, gSail_np] at h2
      omega
    · have w := (IS t (by omega)).1
      have le := LE.all (ec t (by omega)) w.2.2.2.2.1
      rw [le.1] at h2
      exact ⟨by omega, h2, (le.2 i h2).2.1, (le.2 i h2).2.2, (le.2 i h2).1.ln w⟩
  refine ⟨⟨by rw [g0]; exact I0, by rw [gSail_1]; exact isN_nI (by omega) (by omega) (by omega)⟩, fun b hb => ?_, fun t ht2 => ?_, fun t i ht2 hi hne => ?_, fun t i u j ht2 hi hu hj q1 q2 => ?_, fun k hk => ?_⟩
  · rw [g0] at hb
    obtain ⟨⟨a1, a2, a3⟩, a4, a5⟩ := IB b hb
    have u1 := a2.2.2
    have u3 := a3.2.2
    unfold GB BW
    rw [gb b 0 (by omega) (by omega), gb b 1 (by omega) (by omega), gb b 2 (by omega) (by omega), gb b 3 (by omega) (by omega)]
    exact ⟨⟨a1, a2, a3⟩, a4, fun k hk => by rw [gb b (6 + k) (by omega) (by omega)]; exact a5 k hk⟩
  · rw [gSail_1, nt_nI (by omega)] at ht2
    by_cases e : t = n
    · subst e
      refine ⟨?_, ?_⟩
      · unfold SW
        rw [g00, g05, g0s 8 (by omega) (by omega), g0s 9 (by omega) (by omega), g0s 6 (by omega) (by omega), g0s 7 (by omega) (by omega), g0s 10 (by omega) (by omega), g0s 11 (by omega) (by omega), g0s 12 (by omega) (by omega), g0s 16 (by omega) (by omega), g0s 17 (by omega) (by omega), nt0]
        exact ⟨is0 _, isN_nI (by omega) t1 t2, is0 _, is0 _, by omega, is0 _, is0 _, fun i hi => by omega, is0 _, is0 _, is0 _, is0 _, is0 _, fun i hi => by omega⟩
      · unfold SX
        rw [gSail_np, g00, g05, g0s 8 (by omega) (by omega), g0s 9 (by omega) (by omega), g0s 10 (by omega) (by omega), g0s 12 (by omega) (by omega), nt0, nt_nI (by omega)]
        refine ⟨fun _ => ⟨rfl, rfl⟩, fun z => absurd rfl z, fun i h1 h2 => g0s _ (by omega) (by omega), fun i h1 h2 => ⟨by rw [gs _ (by omega), if_pos (by omega)], by rw [gs _ (by omega), if_pos (by omega)]⟩, fun i h1 => by omega, fun m hm => by omega, by omega, fun c c1 c2 => ?_, fun b k b1 b2 => ?_, fun i hi => by omega⟩
        · rw [gs c (by omega), if_neg (by omega), if_neg (by omega)]
          rcases (by omega : c = 1 ∨ c = 2 ∨ c = 3 ∨ c = 4) with z | z | z | z
          · rw [if_neg (by omega), if_neg (by omega), if_neg (by omega), if_pos z]; exact h1
          · rw [if_neg (by omega), if_neg (by omega), if_pos z]; exact h2
          · rw [if_neg (by omega), if_pos z]; exact h3
          · rw [if_pos z]; exact h4
        · rw [g0s (16 + b) (by omega) (by omega), nt0] at b2
          omega
    · obtain ⟨a1, a2⟩ := IS t (by omega)
      exact ⟨SW_b (ec t (by omega)) (by rw [g0]; exact Nat.le_refl _) a1, SX_b (ec t (by omega)) a1 a2⟩
  · rw [gSail_1, nt_nI (by omega)] at ht2
    obtain ⟨l0, l1, l2, l3, l4⟩ := ls t i ht2 hi
    rw [l2] at hne
    have on := (IS t (by omega)).1.2.2.2.2.2.2.2.2.2.2.2.2.2 i l1
    have hlt : nt (sl g t (300 + i)) < 24 := by
      rcases on with z | ⟨⟨-, -, z⟩, z2⟩
      · exact absurd z hne
      · omega
    rw [l2, l3, l4, gb _ 1 hlt (by omega)]
    exact IP t i (by omega) l1 hne
  · rw [gSail_1, nt_nI (by omega)] at ht2 hu
    obtain ⟨l0, l1, l2, l3, l4⟩ := ls t i ht2 hi
    obtain ⟨m0, m1, m2, m3, m4⟩ := ls u j hu hj
    rw [l2] at q1
    rw [l2, m2] at q2
    rw [l3, l4, m3, m4]
    exact IN t i u j (by omega) l1 (by omega) m1 q1 q2
  · rw [gSail_1, nt_nI (by omega)] at hk
    rw [gSail_ne (by omega) (by omega)]
    exact IZ k (by omega)
end GI2

