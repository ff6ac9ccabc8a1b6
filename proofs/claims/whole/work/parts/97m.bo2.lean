/-! ===== breadths, open sails: cut, take, plan ===== -/
section BOS2
variable {g g2 : Nat → Int32} {s b : Nat}
set_option maxRecDepth 100000 in
set_option maxHeartbeats 4000000 in
theorem BO_cut {wn bn : Nat} (I : GI g) (hs : s < nt (g 1)) (ho : sl g s 0 = 0) (h1 : bn < wn) (h3 : wn ≤ 20) (hpn : pnN (nt (sl g s 5)) (wn - bn) ≤ 40) (B : BO g) : BO (gCut g s wn bn) := by
  have ne : ∀ t c, ¬ (t = s ∧ (c = 0 ∨ (6 ≤ c ∧ c ≤ 8))) → c < 390 → sl (gCut g s wn bn) t c = sl g t c := fun t c hne hc => by
    show gCut g s wn bn (5050 + 390 * t + c) = _
    unfold gCut
    rw [upd0_ne (by omega), upd0_ne (by omega), upd0_ne (by omega), upd0_ne (by omega)]
    rfl
  have e1 : gCut g s wn bn 1 = g 1 := by
    unfold gCut
    rw [upd0_ne (by omega), upd0_ne (by omega), upd0_ne (by omega), upd0_ne (by omega)]
  have e0 : sl (gCut g s wn bn) s 0 = 1 := by rw [gCut_sl (by omega)]; rfl
  have e6 : sl (gCut g s wn bn) s 6 = nI (wn - bn) := by rw [gCut_sl (by omega)]; rfl
  have e7 : sl (gCut g s wn bn) s 7 = nI bn := by rw [gCut_sl (by omega)]; rfl
  have e8 : sl (gCut g s wn bn) s 8 = nI (pnN (nt (sl g s 5)) (wn - bn)) := by rw [gCut_sl (by omega)]; rfl
  have z9 := ((I.2.2.1 s hs).2.1 ho).2
  refine ⟨fun t i ht hi4 => ?_, fun t ht h0 => ?_⟩
  · rw [e1] at ht
    by_cases y : t = s
    · subst y
      have enp : np (gCut g t wn bn) t = pnN (nt (sl g t 5)) (wn - bn) := by
        unfold np
        rw [e8, ne t 9 (by omega) (by omega), z9, nt_nI (by omega)]
        rfl
      rw [enp] at hi4
      unfold broV isP hiN loN
      rw [e8, e6, e7, nt_nI (show pnN (nt (sl g t 5)) (wn - bn) < 2 ^ 31 by omega), decide_eq_true hi4, if_pos rfl, nt_nI (show wn - bn < 2 ^ 31 by omega), nI_add]
      have em : (i + 1) * (wn - bn) = i * (wn - bn) + (wn - bn) := Nat.succ_mul _ _
      refine isN_nI ?_ (by omega) ?_
      · split <;> omega
      · split <;> omega
    · have en : np (gCut g s wn bn) t = np g t := by unfold np; rw [ne t 8 (by omega) (by omega), ne t 9 (by omega) (by omega)]
      rw [en] at hi4
      have h40 := I.h40 t ht
      have q := B.1 t i ht hi4
      unfold broV isP hiN loN at q ⊢
      rw [ne t 8 (by omega) (by omega), ne t 5 (by omega) (by omega), ne t 6 (by omega) (by omega), ne t 7 (by omega) (by omega), ne t (220 + i) (by omega) (by omega)]
      exact q
  · rw [e1] at ht
    by_cases y : t = s
    · rw [y, e0] at h0
      exact absurd h0 (by decide)
    · rw [ne t 0 (by omega) (by omega)] at h0
      rw [ne t 11 (by omega) (by omega)]
      exact B.2 t ht h0
set_option maxRecDepth 100000 in
set_option maxHeartbeats 4000000 in
theorem pl_SE1 {w : Int32} : ∀ m i (g g2 : Nat → Int32) (a a2 : Bool) (c : Option Nat), i + m ≤ 40 → plI w s m i g a = (g2, a2, c) → g2 1 = g 1 ∧ ∀ t, SE g g2 t := by
  intro m
  induction m with
  | zero =>
    intro i g g2 a a2 c _ e
    cases e
    exact ⟨rfl, fun _ _ _ => rfl⟩
  | succ m ih =>
    intro i g g2 a a2 c hi e
    rw [plI] at e
    split at e
    · split at e
      · cases e
        exact ⟨rfl, fun _ _ _ => rfl⟩
      · rename_i b _
        obtain ⟨z1, z2⟩ := ih (i + 1) _ g2 true a2 c (by omega) e
        exact ⟨z1.trans (gPut_lo _ _ _ _ _ (by omega)), fun t q hq => (z2 t q hq).trans (gPut_SE g _ _ (by omega) t q hq)⟩
    · exact ih (i + 1) g g2 a a2 c (by omega) e
set_option maxRecDepth 100000 in
set_option maxHeartbeats 4000000 in
theorem pl_SE {w : Int32} : ∀ m s (g g2 : Nat → Int32) (a a2 : Bool) (c : Option Nat), (∀ t, t < s + m → np g t ≤ 40) → plS w m s g a = (g2, a2, c) → g2 1 = g 1 ∧ ∀ t, SE g g2 t := by
  intro m
  induction m with
  | zero =>
    intro s g g2 a a2 c _ e
    cases e
    exact ⟨rfl, fun _ _ _ => rfl⟩
  | succ m ih =>
    intro s g g2 a a2 c h40 e
    rw [plS] at e
    split at e
    · split at e
      · rename_i g3 a3 c3 e3
        cases e
        exact pl_SE1 (np g s) 0 g g2 a a2 _ (by have := h40 s (by omega); omega) e3
      · rename_i g3 a3 e3
        obtain ⟨z1, z2⟩ := pl_SE1 (np g s) 0 g g3 a a3 _ (by have := h40 s (by omega); omega) e3
        obtain ⟨y1, y2⟩ := ih (s + 1) g3 g2 a3 a2 c (fun t ht => by rw [np_lo (z2 t)]; exact h40 t (by omega)) e
        exact ⟨y1.trans z1, fun t q hq => (y2 t q hq).trans (z2 t q hq)⟩
    · exact ih (s + 1) g g2 a a2 c (fun t ht => h40 t (by omega)) e
set_option maxRecDepth 100000 in
set_option maxHeartbeats 4000000 in
theorem BO_plan {w : Int32} {a2 : Bool} {c : Option Nat} (I : GI g) (e : plV g w = (g2, a2, c)) (B : BO g) : BO g2 := by
  obtain ⟨z1, z2⟩ := pl_SE (nt (g 1)) 0 g g2 false a2 c (fun t ht => I.h40 t (by omega)) e
  exact BO_of z1 (fun s c _ hc => z2 s c (by omega)) I.h40 B
end BOS2

