/-! ===== every act keeps what holds of the states ===== -/
section GIS
variable {g g2 : Nat → Int32} {s b : Nat}
set_option maxRecDepth 100000 in
set_option maxHeartbeats 4000000 in
theorem SW_b (e : ∀ c, c < 390 → sl g2 s c = sl g s c) (h0 : nt (g 0) ≤ nt (g2 0)) (w : SW g s) : SW g2 s := by
  unfold SW at w ⊢
  rw [e 0 (by omega), e 5 (by omega), e 8 (by omega), e 9 (by omega), e 6 (by omega), e 7 (by omega), e 10 (by omega), e 11 (by omega), e 12 (by omega), e 16 (by omega), e 17 (by omega)]
  obtain ⟨a1, a2, a3, a4, a5, a6, a7, a8, a9, a10, a11, a12, a13, a14⟩ := w
  refine ⟨a1, a2, a3, a4, a5, a6, a7, a8, a9, a10, a11, a12, a13, fun i hi => ?_⟩
  rw [e (300 + i) (by omega)]
  rcases a14 i hi with z | ⟨⟨z1, z2, z3⟩, z4⟩
  · exact Or.inl z
  · exact Or.inr ⟨⟨z1, z2, by omega⟩, by omega⟩
set_option maxRecDepth 100000 in
set_option maxHeartbeats 4000000 in
theorem SX_b (e : ∀ c, c < 390 → sl g2 s c = sl g s c) (w : SW g s) (x : SX g s) : SX g2 s := by
  have h40 : np g s ≤ 40 := w.2.2.2.2.1
  have le := LE.all e h40
  have u12 := w.2.2.2.2.2.2.2.2.2.2.1.2.2
  have u16 := w.2.2.2.2.2.2.2.2.2.2.2.1.2.2
  have u17 := w.2.2.2.2.2.2.2.2.2.2.2.2.1.2.2
  obtain ⟨x1, x2, x3, x4, x5, x6, x7, x8, x9, x10⟩ := x
  unfold SX
  rw [le.1, e 0 (by omega), e 8 (by omega), e 9 (by omega), e 12 (by omega), e 10 (by omega), e 5 (by omega)]
  refine ⟨x1, x2, fun i h1 h2 => by rw [e _ (by omega)]; exact x3 i h1 h2, fun i h1 h2 => by rw [e _ (by omega), e _ (by omega)]; exact x4 i h1 h2, fun i h1 h2 => ?_, fun n hn => by rw [e _ (by omega)]; exact x6 n hn, x7, fun c h1 h2 => by rw [e _ (by omega)]; exact x8 c h1 h2, fun b k h1 h2 => ?_, fun i hi => by rw [(le.2 i hi).1.ln w]; exact x10 i hi⟩
  · rw [e _ (by omega)] at h2
    rw [e _ (by omega)]
    exact x5 i h1 h2
  · rw [e _ (by omega)] at h2
    have hk : k < 61 := by
      rcases Nat.lt_or_ge b 1 with z | z
      · obtain rfl : b = 0 := by omega
        exact Nat.lt_of_lt_of_le h2 u16
      · obtain rfl : b = 1 := by omega
        exact Nat.lt_of_lt_of_le h2 u17
    rw [e _ (by omega)]
    exact x9 b k h1 h2
/-- what is laid of a sail is laid as it was -/
def LyS (g g2 : Nat → Int32) (s : Nat) : Prop := ∀ i, i < np g2 s → ¬ sl g2 s (300 + i) = -1 → i < np g s ∧ sl g2 s (300 + i) = sl g s (300 + i) ∧ sl g2 s (340 + i) = sl g s (340 + i) ∧ lenV g2 s i = lenV g s i
set_option maxRecDepth 100000 in
set_option maxHeartbeats 4000000 in
theorem LyS.all (e : ∀ c, c < 390 → sl g2 s c = sl g s c) (w : SW g s) : LyS g g2 s := fun i hi _ => by
  have le := LE.all e w.2.2.2.2.1
  rw [le.1] at hi
  exact ⟨hi, (le.2 i hi).2.1, (le.2 i hi).2.2, (le.2 i hi).1.ln w⟩
set_option maxRecDepth 100000 in
set_option maxHeartbeats 4000000 in
/-- bolts as they were, or more of them; sails as they were but for what isn't laying -/
theorem GI_of (I : GI g) (h0 : isN (g2 0) 0 24) (h0' : nt (g 0) ≤ nt (g2 0)) (h1 : g2 1 = g 1) (hB : ∀ b, b < nt (g2 0) → GB g2 b) (hL : ∀ b, b < nt (g 0) → nt (bl g2 b 1) = nt (bl g b 1)) (hS : ∀ s, s < nt (g 1) → SW g2 s ∧ SX g2 s ∧ LyS g g2 s) (hZ : ∀ k, 5050 + 390 * nt (g 1) ≤ k → g2 k = g k) : GI g2 := by
  obtain ⟨⟨I0, I1⟩, IB, IS, IP, IN, IZ⟩ := id I
  refine ⟨⟨h0, by rw [h1]; exact I1⟩, hB, fun s hs => ?_, fun s i hs hi hne => ?_, fun s i t j hs hi ht hj q1 q2 => ?_, fun k hk => ?_⟩
  · rw [h1] at hs
    exact ⟨(hS s hs).1, (hS s hs).2.1⟩
  · rw [h1] at hs
    obtain ⟨e1, e2, e3, e4⟩ := (hS s hs).2.2 i hi hne
    rw [e2] at hne
    have on := (IS s hs).1.2.2.2.2.2.2.2.2.2.2.2.2.2 i e1
    have hlt : nt (sl g s (300 + i)) < nt (g 0) := by
      rcases on with z | ⟨⟨-, -, z⟩, z2⟩
      · exact absurd z hne
      · omega
    rw [e3, e4, e2, hL _ hlt]
    exact IP s i hs e1 hne
  · rw [h1] at hs ht
    obtain ⟨e1, e2, e3, e4⟩ := (hS s hs).2.2 i hi q1
    obtain ⟨f1, f2, f3, f4⟩ := (hS t ht).2.2 j hj (by rw [← q2]; exact q1)
    rw [e2] at q1
    rw [e2, f2] at q2
    rw [e3, e4, f3, f4]
    exact IN s i t j hs e1 ht f1 q1 q2
  · rw [h1] at hk
    rw [hZ k hk]
    exact IZ k hk
set_option maxRecDepth 100000 in
set_option maxHeartbeats 4000000 in
/-- one sail has changed, but for its laying -/
theorem GI_one (I : GI g) (hs : s < nt (g 1)) (ge : ∀ j, (j < 5050 + 390 * s ∨ 5050 + 390 * s + 390 ≤ j) → g2 j = g j) (w : SW g2 s) (x : SX g2 s) (ls : LyS g g2 s) : GI g2 := by
  have h24 := I.1.1.2.2
  have g0 : g2 0 = g 0 := ge 0 (by omega)
  refine GI_of I (by rw [g0]; exact I.1.1) (by rw [g0]; exact Nat.le_refl _) (ge 1 (by omega)) (fun b hb => ?_) (fun b hb => ?_) (fun t ht => ?_) (fun k hk => ge k (by omega))
  · rw [g0] at hb
    have gb : ∀ c, c < 210 → bl g2 b c = bl g b c := fun c hc => ge _ (by omega)
    obtain ⟨⟨a1, a2, a3⟩, a4, a5⟩ := I.2.1 b hb
    have u1 := a2.2.2
    have u3 := a3.2.2
    unfold GB BW
    rw [gb 0 (by omega), gb 1 (by omega), gb 2 (by omega), gb 3 (by omega)]
    exact ⟨⟨a1, a2, a3⟩, a4, fun k hk => by rw [gb (6 + k) (by omega)]; exact a5 k hk⟩
  · show nt (g2 (10 + 210 * b + 1)) = nt (g (10 + 210 * b + 1))
    rw [ge (10 + 210 * b + 1) (by omega)]
  · by_cases e : t = s
    · rw [e]
      exact ⟨w, x, ls⟩
    · have ec : ∀ c, c < 390 → sl g2 t c = sl g t c := fun c hc => ge _ (by omega)
      obtain ⟨a1, a2⟩ := I.2.2.1 t ht
      exact ⟨SW_b ec (by rw [g0]; exact Nat.le_refl _) a1, SX_b ec a1 a2, LyS.all ec a1⟩
set_option maxRecDepth 100000 in
set_option maxHeartbeats 4000000 in
/-- one bolt has changed, but for its length -/
theorem GI_b1 (I : GI g) (hb : b < nt (g 0)) (ge : ∀ j, (j < 10 + 210 * b ∨ 10 + 210 * b + 210 ≤ j) → g2 j = g j) (gb : GB g2 b) (gl : bl g2 b 1 = bl g b 1) : GI g2 := by
  have h24 := I.1.1.2.2
  have g0 : g2 0 = g 0 := ge 0 (by omega)
  refine GI_of I (by rw [g0]; exact I.1.1) (by rw [g0]; exact Nat.le_refl _) (ge 1 (by omega)) (fun c hc => ?_) (fun c hc => ?_) (fun t ht => ?_) (fun k hk => ge k (by omega))
  · rw [g0] at hc
    by_cases e : c = b
    · rw [e]
      exact gb
    · have gq : ∀ q, q < 210 → bl g2 c q = bl g c q := fun q hq => ge _ (by omega)
      obtain ⟨⟨a1, a2, a3⟩, a4, a5⟩ := I.2.1 c hc
      have u1 := a2.2.2
      have u3 := a3.2.2
      unfold GB BW
      rw [gq 0 (by omega), gq 1 (by omega), gq 2 (by omega), gq 3 (by omega)]
      exact ⟨⟨a1, a2, a3⟩, a4, fun k hk => by rw [gq (6 + k) (by omega)]; exact a5 k hk⟩
  · by_cases e : c = b
    · rw [e, gl]
    · show nt (g2 (10 + 210 * c + 1)) = nt (g (10 + 210 * c + 1))
      rw [ge (10 + 210 * c + 1) (by omega)]
  · have ec : ∀ c, c < 390 → sl g2 t c = sl g t c := fun c hc => ge _ (by omega)
    obtain ⟨a1, a2⟩ := I.2.2.1 t ht
    exact ⟨SW_b ec (by rw [g0]; exact Nat.le_refl _) a1, SX_b ec a1 a2, LyS.all ec a1⟩
set_option maxRecDepth 100000 in
set_option maxHeartbeats 4000000 in
theorem GI_row {n : Nat} (I : GI g) (hb : b < nt (g 0)) (hn : n ≤ nt (bl g b 1)) : GI (gRow g b n) := by
  obtain ⟨⟨a1, a2, a3⟩, a4, a5⟩ := I.2.1 b hb
  have u1 := a2.2.2
  have gb := fun c (hc : c < 206) => gRow_bl (g := g) (j := b) (n := n) hc (by omega)
  refine GI_b1 I hb (fun q hq => ?_) ?_ ?_
  · unfold gRow filG
    rw [if_neg (by omega), upd0_ne (by omega)]
  · unfold GB BW
    rw [show bl (gRow g b n) b 0 = bl g b 0 by rw [gb 0 (by omega), if_neg (by omega), if_neg (by omega)], show bl (gRow g b n) b 1 = bl g b 1 by rw [gb 1 (by omega), if_neg (by omega), if_neg (by omega)], show bl (gRow g b n) b 2 = bl g b 2 by rw [gb 2 (by omega), if_neg (by omega), if_neg (by omega)], show bl (gRow g b n) b 3 = nI n by rw [gb 3 (by omega), if_pos rfl], nt_nI (by omega)]
    refine ⟨⟨a1, a2, isN_nI (by omega) (by omega) hn⟩, a4, fun k hk => ?_⟩
    rw [gb (6 + k) (by omega), if_neg (by omega), if_pos (by omega)]
    exact isN_nI (n := 0) (by omega) (by omega) (by omega)
  · rw [gb 1 (by omega), if_neg (by omega), if_neg (by omega)]
set_option maxRecDepth 100000 in
set_option maxHeartbeats 4000000 in
theorem GI_wear {k v : Nat} (I : GI g) (hb : b < nt (g 0)) (hk : k < nt (bl g b 3)) (hv : v ≤ 100) : GI (gWear g b k (nI v)) := by
  obtain ⟨⟨a1, a2, a3⟩, a4, a5⟩ := I.2.1 b hb
  have u1 := a2.2.2
  have u3 := a3.2.2
  have gb : ∀ c, c ≠ 6 + k → c < 210 → bl (gWear g b k (nI v)) b c = bl g b c := fun c h1 h2 => upd0_ne (by omega)
  refine GI_b1 I hb (fun q hq => upd0_ne (by omega)) ?_ (gb 1 (by omega) (by omega))
  unfold GB BW
  rw [gb 0 (by omega) (by omega), gb 1 (by omega) (by omega), gb 2 (by omega) (by omega), gb 3 (by omega) (by omega)]
  refine ⟨⟨a1, a2, a3⟩, a4, fun j hj => ?_⟩
  by_cases e : j = k
  · rw [e, show bl (gWear g b k (nI v)) b (6 + k) = nI v from upd0_same _ _ _]
    exact isN_nI (by omega) (by omega) hv
  · rw [gb (6 + j) (by omega) (by omega)]
    exact a5 j hj
set_option maxRecDepth 100000 in
set_option maxHeartbeats 4000000 in
/-- only how a sail stands has changed -/
theorem GI_st (I : GI g) (hs : s < nt (g 1)) (ge : ∀ j, (j < 5050 + 390 * s ∨ 5050 + 390 * s + 390 ≤ j) → g2 j = g j) (e : ∀ c, c < 390 → ¬ (10 ≤ c ∧ c < 16) → sl g2 s c = sl g s c) (w10 : isN (sl g2 s 10) 0 (nt (sl g s 5))) (w11 : isN (sl g2 s 11) 0 1) (w12 : isN (sl g2 s 12) 0 3) (x12 : ∀ n, n < nt (sl g2 s 12) → isN (sl g2 s (13 + n)) 1 (nt (sl g s 5))) : GI g2 := by
  obtain ⟨w, x⟩ := I.2.2.1 s hs
  have g0 : g2 0 = g 0 := ge 0 (by omega)
  have u16 := w.2.2.2.2.2.2.2.2.2.2.2.1.2.2
  have u17 := w.2.2.2.2.2.2.2.2.2.2.2.2.1.2.2
  have h40 : np g s ≤ 40 := w.2.2.2.2.1
  have u5 := w.2.1.2.2
  have le : LE g g2 s := ⟨by unfold np; rw [e 8 (by omega) (by omega), e 9 (by omega) (by omega)], fun i hi => ⟨⟨fun c h1 h2 => e c (by omega) (by omega), fun c h1 h2 => e c (by omega) (by omega), e _ (by omega) (by omega), e _ (by omega) (by omega), e _ (by omega) (by omega)⟩, e _ (by omega) (by omega), e _ (by omega) (by omega)⟩⟩
  refine GI_one I hs ge ?_ ?_ (fun i hi _ => ?_)
  · unfold SW at w ⊢
    rw [g0, e 0 (by omega) (by omega), e 5 (by omega) (by omega), e 8 (by omega) (by omega), e 9 (by omega) (by omega), e 6 (by omega) (by omega), e 7 (by omega) (by omega), e 16 (by omega) (by omega), e 17 (by omega) (by omega)]
    obtain ⟨a1, a2, a3, a4, a5, a6, a7, a8, a9, a10, a11, a12, a13, a14⟩ := w
    exact ⟨a1, a2, a3, a4, a5, a6, a7, a8, w10.mono (Nat.le_refl _) u5, w11, w12, a12, a13, fun i hi => by rw [e (300 + i) (by omega) (by omega)]; exact a14 i hi⟩
  · obtain ⟨x1, x2, x3, x4, x5, x6, x7, x8, x9, x10⟩ := x
    unfold SX
    rw [le.1, e 0 (by omega) (by omega), e 8 (by omega) (by omega), e 9 (by omega) (by omega), e 5 (by omega) (by omega)]
    refine ⟨x1, x2, fun i h1 h2 => by rw [e _ (by omega) (by omega)]; exact x3 i h1 h2, fun i h1 h2 => by rw [e _ (by omega) (by omega), e _ (by omega) (by omega)]; exact x4 i h1 h2, fun i h1 h2 => ?_, x12, w10.2.2, fun c h1 h2 => by rw [e _ (by omega) (by omega)]; exact x8 c h1 h2, fun b k h1 h2 => ?_, fun i hi => by rw [(le.2 i hi).1.ln w]; exact x10 i hi⟩
    · rw [e _ (by omega) (by omega)] at h2
      rw [e _ (by omega) (by omega)]
      exact x5 i h1 h2
    · rw [e _ (by omega) (by omega)] at h2
      have hk : k < 61 := by
        rcases Nat.lt_or_ge b 1 with z | z
        · obtain rfl : b = 0 := by omega
          exact Nat.lt_of_lt_of_le h2 u16
        · obtain rfl : b = 1 := by omega
          exact Nat.lt_of_lt_of_le h2 u17
      rw [e _ (by omega) (by omega)]
      exact x9 b k h1 h2
  · rw [le.1] at hi
    exact ⟨hi, (le.2 i hi).2.1, (le.2 i hi).2.2, (le.2 i hi).1.ln w⟩
set_option maxRecDepth 100000 in
set_option maxHeartbeats 4000000 in
theorem GI_set {z : Int32} (I : GI g) (hs : s < nt (g 1)) : GI (gSet g s z) := by
  obtain ⟨w, x⟩ := I.2.2.1 s hs
  have e : ∀ c, c < 390 → c ≠ 11 → sl (gSet g s z) s c = sl g s c := fun c h1 h2 => upd0_ne (by omega)
  have e11 : sl (gSet g s z) s 11 = if z = 0 then 0 else 1 := upd0_same _ _ _
  refine GI_st I hs (fun q hq => upd0_ne (by omega)) (fun c h1 h2 => e c h1 (by omega)) ?_ ?_ ?_ (fun n hn => ?_)
  · rw [e 10 (by omega) (by omega)]
    exact ⟨w.2.2.2.2.2.2.2.2.1.1, Nat.zero_le _, x.2.2.2.2.2.2.1⟩
  · rw [e11]
    split
    · exact isN_nI (n := 0) (by omega) (by omega) (by omega)
    · exact isN_nI (n := 1) (by omega) (by omega) (by omega)
  · rw [e 12 (by omega) (by omega)]
    exact w.2.2.2.2.2.2.2.2.2.2.1
  · rw [e 12 (by omega) (by omega)] at hn
    have u12 := w.2.2.2.2.2.2.2.2.2.2.1.2.2
    rw [e (13 + n) (by omega) (by omega)]
    exact x.2.2.2.2.2.1 n hn
set_option maxRecDepth 100000 in
set_option maxHeartbeats 4000000 in
theorem GI_reef {z : Int32} (I : GI g) (hs : s < nt (g 1)) (hz0 : inR z 0 (sl g s 5) = true) : GI (gReef g s z) := by
  obtain ⟨w, x⟩ := I.2.2.1 s hs
  obtain ⟨m, -, m2, rfl⟩ := inR_N (lo := 0) hz0 w.2.1.1 (by have := w.2.1.2.2; omega) (by omega)
  have u5 := w.2.1.2.2
  have e : ∀ c, c < 390 → c ≠ 10 → sl (gReef g s (nI m)) s c = sl g s c := fun c h1 h2 => upd0_ne (by omega)
  have e10 : sl (gReef g s (nI m)) s 10 = nI m := upd0_same _ _ _
  refine GI_st I hs (fun q hq => upd0_ne (by omega)) (fun c h1 h2 => e c h1 (by omega)) ?_ ?_ ?_ (fun n hn => ?_)
  · rw [e10]
    exact isN_nI (by omega) (by omega) m2
  · rw [e 11 (by omega) (by omega)]
    exact w.2.2.2.2.2.2.2.2.2.1
  · rw [e 12 (by omega) (by omega)]
    exact w.2.2.2.2.2.2.2.2.2.2.1
  · rw [e 12 (by omega) (by omega)] at hn
    have u12 := w.2.2.2.2.2.2.2.2.2.2.1.2.2
    rw [e (13 + n) (by omega) (by omega)]
    exact x.2.2.2.2.2.1 n hn
set_option maxRecDepth 100000 in
set_option maxHeartbeats 4000000 in
theorem GI_line {z : Int32} (I : GI g) (hs : s < nt (g 1)) (hz0 : inR z 1 (sl g s 5) = true) (h3 : nt (sl g s 12) < 3) : GI (gLine g s z) := by
  obtain ⟨w, x⟩ := I.2.2.1 s hs
  obtain ⟨m, m1, m2, rfl⟩ := inR_N (lo := 1) hz0 w.2.1.1 (by have := w.2.1.2.2; omega) (by omega)
  have u5 := w.2.1.2.2
  have e : ∀ c, c < 390 → c ≠ 12 → c ≠ 13 + nt (sl g s 12) → sl (gLine g s (nI m)) s c = sl g s c := fun c h1 h2 h3 => by
    unfold sl gLine
    rw [upd0_ne (by omega), upd0_ne]
    show ¬ 5050 + 390 * s + c = 5050 + 390 * s + (13 + nt (sl g s 12))
    omega
  have e12 : sl (gLine g s (nI m)) s 12 = nI (nt (sl g s 12) + 1) := upd0_same _ _ _
  have e13 : sl (gLine g s (nI m)) s (13 + nt (sl g s 12)) = nI m := by
    unfold sl gLine
    rw [upd0_ne]
    · exact upd0_same _ _ _
    · show ¬ 5050 + 390 * s + (13 + nt (sl g s 12)) = 5050 + 390 * s + 12
      omega
  refine GI_st I hs (fun q hq => ?_) (fun c h1 h2 => e c h1 (by omega) (by omega)) ?_ ?_ ?_ (fun n hn => ?_)
  · unfold gLine
    rw [upd0_ne (by omega), upd0_ne (by omega)]
  · rw [e 10 (by omega) (by omega) (by omega)]
    exact ⟨w.2.2.2.2.2.2.2.2.1.1, Nat.zero_le _, x.2.2.2.2.2.2.1⟩
  · rw [e 11 (by omega) (by omega) (by omega)]
    exact w.2.2.2.2.2.2.2.2.2.1
  · rw [e12]
    exact isN_nI (by omega) (by omega) (by omega)
  · rw [e12, nt_nI (by omega)] at hn
    by_cases en : n = nt (sl g s 12)
    · rw [en, e13]
      exact isN_nI (by omega) m1 m2
    · rw [e (13 + n) (by omega) (by omega) (by omega)]
      exact x.2.2.2.2.2.1 n (by omega)
end GIS

