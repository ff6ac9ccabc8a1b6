/-! ===== breadths, and open sails are not set: kept by every act ===== -/
def BO (g : Nat → Int32) : Prop := BR g ∧ OS g
section BOS
variable {g g2 : Nat → Int32} {s b : Nat}
set_option maxRecDepth 100000 in
set_option maxHeartbeats 4000000 in
theorem BR_of (h1 : g2 1 = g 1) (e : ∀ s c, s < nt (g 1) → ((5 ≤ c ∧ c ≤ 9) ∨ (220 ≤ c ∧ c < 260)) → sl g2 s c = sl g s c) (h40 : ∀ s, s < nt (g 1) → np g s ≤ 40) (B : BR g) : BR g2 := fun s i hs hi4 => by
  rw [h1] at hs
  have enp : np g2 s = np g s := by unfold np; rw [e s 8 hs (by omega), e s 9 hs (by omega)]
  rw [enp] at hi4
  have z := B s i hs hi4
  have := h40 s hs
  unfold broV isP hiN loN at z ⊢
  rw [e s 8 hs (by omega), e s 5 hs (by omega), e s 6 hs (by omega), e s 7 hs (by omega), e s (220 + i) hs (by omega)]
  exact z
set_option maxRecDepth 100000 in
set_option maxHeartbeats 4000000 in
theorem BO_of (h1 : g2 1 = g 1) (e : ∀ s c, s < nt (g 1) → (c = 0 ∨ (5 ≤ c ∧ c ≤ 9) ∨ c = 11 ∨ (220 ≤ c ∧ c < 260)) → sl g2 s c = sl g s c) (h40 : ∀ s, s < nt (g 1) → np g s ≤ 40) (B : BO g) : BO g2 := by
  refine ⟨BR_of h1 (fun s c hs hc => e s c hs (by omega)) h40 B.1, fun s hs h0 => ?_⟩
  rw [h1] at hs
  rw [e s 0 hs (by omega)] at h0
  rw [e s 11 hs (by omega)]
  exact B.2 s hs h0
set_option maxRecDepth 100000 in
set_option maxHeartbeats 4000000 in
theorem GI.h40 (I : GI g) : ∀ s, s < nt (g 1) → np g s ≤ 40 := fun s hs => (I.2.2.1 s hs).1.2.2.2.2.1
set_option maxRecDepth 100000 in
set_option maxHeartbeats 4000000 in
theorem BO_bolt {w l gr f : Int32} (I : GI g) (hn24 : nt (g 0) < 24) (B : BO g) : BO (gBolt g (nt (g 0)) w l gr f) := BO_of gBolt_1 (fun s c _ _ => sl_gBolt g hn24 w l gr f s c) I.h40 B
set_option maxRecDepth 100000 in
set_option maxHeartbeats 4000000 in
theorem BO_row {n : Nat} (I : GI g) (hb : b < nt (g 0)) (hn : n ≤ 200) (B : BO g) : BO (gRow g b n) := by
  have h24 := I.1.1.2.2
  refine BO_of ?_ (fun s c hs hc => ?_) I.h40 B
  · unfold gRow filG
    rw [if_neg (by omega), upd0_ne (by omega)]
  · show gRow g b n (5050 + 390 * s + c) = g (5050 + 390 * s + c)
    unfold gRow filG
    rw [if_neg (by omega), upd0_ne (by omega)]
set_option maxRecDepth 100000 in
set_option maxHeartbeats 4000000 in
theorem BO_wear {k : Nat} {v : Int32} (I : GI g) (hb : b < nt (g 0)) (hk2 : k < 200) (B : BO g) : BO (gWear g b k v) := by
  have h24 := I.1.1.2.2
  exact BO_of (upd0_ne (by omega)) (fun s c hs hc => upd0_ne (by omega)) I.h40 B
set_option maxRecDepth 100000 in
set_option maxHeartbeats 4000000 in
theorem BO_reef {z : Int32} (I : GI g) (B : BO g) : BO (gReef g s z) := BO_of (upd0_ne (by omega)) (fun s c hs hc => upd0_ne (by omega)) I.h40 B
set_option maxRecDepth 100000 in
set_option maxHeartbeats 4000000 in
theorem BO_line {z : Int32} (I : GI g) (hl : nt (sl g s 12) < 3) (B : BO g) : BO (gLine g s z) := by
  refine BO_of ?_ (fun t c hs hc => ?_) I.h40 B
  · unfold gLine
    rw [upd0_ne (by omega), upd0_ne (by omega)]
  · show gLine g s z (5050 + 390 * t + c) = g (5050 + 390 * t + c)
    unfold gLine
    rw [upd0_ne (by omega), upd0_ne (by omega)]
set_option maxRecDepth 100000 in
set_option maxHeartbeats 4000000 in
theorem BO_nar {i : Nat} {v : Int32} (I : GI g) (hi4 : i < 40) (B : BO g) : BO (gNar g s i v) := BO_of (upd0_ne (by omega)) (fun t c hs hc => upd0_ne (by omega)) I.h40 B
set_option maxRecDepth 100000 in
set_option maxHeartbeats 4000000 in
theorem BO_put {i : Nat} {q p : Int32} (I : GI g) (hi4 : i < 40) (B : BO g) : BO (gPut g s i q p) := BO_of (gPut_lo g s i q p (by omega)) (fun t c hs hc => gPut_sl g q p (by omega) hi4 (by omega)) I.h40 B
set_option maxRecDepth 100000 in
set_option maxHeartbeats 4000000 in
theorem BO_stand {k : Nat} {v : Int32} (I : GI g) (hb : b < 2) (hk6 : k < 61) (B : BO g) : BO (gStand g s b k v) := by
  rcases (show b = 0 ∨ b = 1 by omega) with z | z
  · subst z
    exact BO_of (upd0_ne (by omega)) (fun t c hs hc => upd0_ne (by omega)) I.h40 B
  · subst z
    exact BO_of (upd0_ne (by omega)) (fun t c hs hc => upd0_ne (by omega)) I.h40 B
set_option maxRecDepth 100000 in
set_option maxHeartbeats 4000000 in
theorem BO_edge {n : Nat} (I : GI g) (hb : b < 2) (hn61 : n ≤ 61) (B : BO g) : BO (gEdge g s b n) := by
  refine BO_of ?_ (fun t c hs hc => ?_) I.h40 B
  · unfold gEdge filG
    rw [if_neg (by omega), upd0_ne (by omega)]
  · show gEdge g s b n (5050 + 390 * t + c) = g (5050 + 390 * t + c)
    unfold gEdge filG
    rcases (show b = 0 ∨ b = 1 by omega) with z | z
    · subst z
      rw [if_neg (by omega), upd0_ne (by omega)]
    · subst z
      rw [if_neg (by omega), upd0_ne (by omega)]
set_option maxRecDepth 100000 in
set_option maxHeartbeats 4000000 in
theorem BO_set {z : Int32} (I : GI g) (h1 : sl g s 0 = 1) (B : BO g) : BO (gSet g s z) := by
  have ne : ∀ t c, ¬ (t = s ∧ c = 11) → c < 390 → sl (gSet g s z) t c = sl g t c := fun t c h hc => upd0_ne (by omega)
  have e1 : gSet g s z 1 = g 1 := upd0_ne (by omega)
  refine ⟨BR_of e1 (fun t c ht hc => ne t c (by omega) (by omega)) I.h40 B.1, fun t ht h0 => ?_⟩
  rw [e1] at ht
  by_cases y : t = s
  · rw [y, ne s 0 (by omega) (by omega), h1] at h0
    exact absurd h0 (by decide)
  · rw [ne t 0 (by omega) (by omega)] at h0
    rw [ne t 11 (by omega) (by omega)]
    exact B.2 t ht h0
set_option maxRecDepth 100000 in
set_option maxHeartbeats 4000000 in
theorem BO_pat {u bq l : Int32} (I : GI g) (hs : s < nt (g 1)) (h1 : sl g s 0 = 1) (hn40 : np g s < 40) (hb : inR bq 1 20 = true) (B : BO g) : BO (gPat g s u bq l) := by
  have sw := (I.2.2.1 s hs).1
  have ne : ∀ t c, ¬ (t = s ∧ (c = 9 ∨ c = 180 + np g s ∨ c = 220 + np g s ∨ c = 260 + np g s)) → c < 390 → sl (gPat g s u bq l) t c = sl g t c := fun t c hne hc => by
    show gPat g s u bq l (5050 + 390 * t + c) = _
    unfold gPat
    rw [upd0_ne (by omega), upd0_ne (by omega), upd0_ne (by omega), upd0_ne (by omega)]
    rfl
  have e1 : gPat g s u bq l 1 = g 1 := by
    unfold gPat
    rw [upd0_ne (by omega), upd0_ne (by omega), upd0_ne (by omega), upd0_ne (by omega)]
  have enp := gPat_np (u := u) (b := bq) (l := l) sw hn40
  have e220 : sl (gPat g s u bq l) s (220 + np g s) = bq := by
    show gPat g s u bq l (5050 + 390 * s + (220 + np g s)) = _
    unfold gPat
    rw [upd0_ne (by omega), upd0_ne (by omega), upd0_same]
  refine ⟨fun t i ht hi4 => ?_, fun t ht h0 => ?_⟩
  · rw [e1] at ht
    have h40 := I.h40 t ht
    by_cases y : t = s
    · subst y
      rw [enp] at hi4
      by_cases z : i = np g t
      · subst z
        unfold broV isP
        rw [ne t 8 (by omega) (by omega), decide_eq_false (show ¬ np g t < nt (sl g t 8) by unfold np; omega), if_neg (by decide), e220]
        obtain ⟨m, m1, m2, rfl⟩ := inR_N (lo := 1) (hi := 20) hb rfl (by omega) (by omega)
        exact isN_nI (by omega) (by omega) m2
      · have q := B.1 t i ht (by omega)
        unfold broV isP hiN loN at q ⊢
        rw [ne t 8 (by omega) (by omega), ne t 5 (by omega) (by omega), ne t 6 (by omega) (by omega), ne t 7 (by omega) (by omega), ne t (220 + i) (by omega) (by omega)]
        exact q
    · have en : np (gPat g s u bq l) t = np g t := by unfold np; rw [ne t 8 (by omega) (by omega), ne t 9 (by omega) (by omega)]
      rw [en] at hi4
      have q := B.1 t i ht hi4
      unfold broV isP hiN loN at q ⊢
      rw [ne t 8 (by omega) (by omega), ne t 5 (by omega) (by omega), ne t 6 (by omega) (by omega), ne t 7 (by omega) (by omega), ne t (220 + i) (by omega) (by omega)]
      exact q
  · rw [e1] at ht
    rw [ne t 0 (by omega) (by omega)] at h0
    rw [ne t 11 (by omega) (by omega)]
    exact B.2 t ht h0
end BOS

