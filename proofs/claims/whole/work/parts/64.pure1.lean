/-! ===== what lies where, by pieces ===== -/
set_option maxRecDepth 100000 in
set_option maxHeartbeats 4000000 in
theorem nI_m1 {n : Nat} (h : n < 2 ^ 31) : ¬ nI n = -1 := fun z => by
  have := nI_pos' h
  rw [z] at this
  exact absurd this (by decide)
set_option maxRecDepth 100000 in
set_option maxHeartbeats 4000000 in
theorem onB_iff {g : Nat → Int32} (I : GI g) {s i j k : Nat} (hs : s < nt (g 1)) (hi4 : i < np g s) (hj : j < 2 ^ 31) (hk : k < 2 ^ 31) : onB g (nI j) (nI k) s i = true ↔ sl g s (300 + i) = nI j ∧ nt (sl g s (340 + i)) ≤ k ∧ k < nt (sl g s (340 + i)) + nt (lenV g s i) := by
  unfold onB
  rw [Bool.and_eq_true, Bool.and_eq_true, decide_eq_true_eq, decide_eq_true_eq, decide_eq_true_eq]
  refine and_congr_right (fun e => ?_)
  obtain ⟨⟨p1, -, p3⟩, ⟨l1, -, l3⟩, -⟩ := I.2.2.2.1 s i hs hi4 (by rw [e]; exact nI_m1 hj)
  obtain ⟨p, hp⟩ : ∃ p, p = nt (sl g s (340 + i)) := ⟨_, rfl⟩
  obtain ⟨l, hl⟩ : ∃ l, l = nt (lenV g s i) := ⟨_, rfl⟩
  rw [← hp] at p1 p3 ⊢
  rw [← hl] at l1 l3 ⊢
  rw [p1, l1, nI_add, nI_leI (by omega) hk, nI_ltI hk (by omega)]
set_option maxRecDepth 100000 in
set_option maxHeartbeats 4000000 in
theorem lies_none {g : Nat → Int32} {b k : Int32} (h : ∀ s i, s < nt (g 1) → i < np g s → onB g b k s i = false) : liesV g b k = -1 := by
  unfold liesV
  rw [fstN_none (P := fun s => (fstN (onB g b k s) (np g s)).isSome) (fun s hs => by rw [fstN_none (fun i hi => h s i hs hi)]; rfl)]
set_option maxRecDepth 100000 in
set_option maxHeartbeats 4000000 in
theorem lies_some {g : Nat → Int32} (I : GI g) {s i j k : Nat} (hs : s < nt (g 1)) (hi4 : i < np g s) (hj : j < 2 ^ 31) (hk : k < 2 ^ 31) (h : onB g (nI j) (nI k) s i = true) : liesV g (nI j) (nI k) = nI (100 * s + i) := by
  have hu : ∀ t u, t < nt (g 1) → u < np g t → onB g (nI j) (nI k) t u = true → t = s ∧ u = i := fun t u ht hu4 h2 => by
    obtain ⟨a1, a2, a3⟩ := (onB_iff I hs hi4 hj hk).mp h
    obtain ⟨b1, b2, b3⟩ := (onB_iff I ht hu4 hj hk).mp h2
    rcases I.2.2.2.2.1 t u s i ht hu4 hs hi4 (by rw [b1]; exact nI_m1 hj) (b1.trans a1.symm) with z | z | z
    · exact z
    · omega
    · omega
  have e1 : fstN (onB g (nI j) (nI k) s) (np g s) = some i := fstN_some h (fun u hu2 => by
    cases z : onB g (nI j) (nI k) s u with
    | false => rfl
    | true => exact absurd (hu s u hs (by omega) z).2 (by omega)) hi4
  have e2 : fstN (fun s => (fstN (onB g (nI j) (nI k) s) (np g s)).isSome) (nt (g 1)) = some s := fstN_some (P := fun s => (fstN (onB g (nI j) (nI k) s) (np g s)).isSome) (by rw [e1]; rfl) (fun t ht => by
    rcases fstN_spec (P := onB g (nI j) (nI k) t) (n := np g t) with ⟨z, -⟩ | ⟨u, z, z1, z2, -⟩
    · rw [z]; rfl
    · exact absurd (hu t u (by omega) z1 z2).1 (by omega)) hs
  unfold liesV
  rw [e2]
  show nI (100 * s + (fstN (onB g (nI j) (nI k) s) (np g s)).getD 0) = _
  rw [e1]
  rfl
set_option maxRecDepth 100000 in
set_option maxHeartbeats 4000000 in
theorem lies_cases {g : Nat → Int32} (I : GI g) {j k : Nat} (hj : j < 2 ^ 31) (hk : k < 2 ^ 31) : (liesV g (nI j) (nI k) = -1 ∧ ∀ s i, s < nt (g 1) → i < np g s → onB g (nI j) (nI k) s i = false) ∨ ∃ s i, s < nt (g 1) ∧ i < np g s ∧ onB g (nI j) (nI k) s i = true ∧ liesV g (nI j) (nI k) = nI (100 * s + i) := by
  by_cases z : ∃ s i, s < nt (g 1) ∧ i < np g s ∧ onB g (nI j) (nI k) s i = true
  · obtain ⟨s, i, hs, hi4, h⟩ := z
    exact Or.inr ⟨s, i, hs, hi4, h, lies_some I hs hi4 hj hk h⟩
  · have h : ∀ s i, s < nt (g 1) → i < np g s → onB g (nI j) (nI k) s i = false := fun s i hs hi4 => by
      cases y : onB g (nI j) (nI k) s i with
      | false => rfl
      | true => exact absurd ⟨s, i, hs, hi4, y⟩ z
    exact Or.inl ⟨lies_none h, h⟩
set_option maxRecDepth 100000 in
set_option maxHeartbeats 4000000 in
theorem bare_iff {g : Nat → Int32} (I : GI g) {j : Nat} (hj : j < nt (g 0)) : bareV g (nI j) = true ↔ ∀ k, k < nt (bl g j 1) → liesV g (nI j) (nI k) = -1 := by
  have W := I.gw
  have h24 := W.1.2.2
  have h10 := W.2.1.2.2
  have u1 := (W.2.2.1 j hj).2.1.2.2
  have hb : bareV g (nI j) = true ↔ ∀ s i, s < nt (g 1) → i < np g s → ¬ sl g s (300 + i) = nI j := by
    unfold bareV
    rw [allN_iff]
    refine ⟨fun h s i hs hi4 z => ?_, fun h s hs => allN_iff.mpr (fun i hi4 => ?_)⟩
    · have := allN_iff.mp (h s hs) i hi4
      rw [decide_eq_true z] at this
      cases this
    · rw [decide_eq_false (h s i hs hi4)]
      rfl
  rw [hb]
  refine ⟨fun h k hk => lies_none (fun s i hs hi4 => ?_), fun h s i hs hi4 z => ?_⟩
  · unfold onB
    rw [decide_eq_false (h s i hs hi4), Bool.false_and]
  · obtain ⟨p1, l1, q1⟩ := I.2.2.2.1 s i hs hi4 (by rw [z]; exact nI_m1 (by omega))
    have l2 := ((I.2.2.1 s hs).2.2.2.2.2.2.2.2.2.2 i hi4).2.1
    have e := h (nt (sl g s (340 + i))) (by rw [z, nt_nI (by omega)] at q1; omega)
    have h40 : np g s ≤ 40 := (W.2.2.2 s hs).2.2.2.2.1
    rw [lies_some I hs hi4 (by omega) (by have := p1.2.2; omega) ((onB_iff I hs hi4 (by omega) (by have := p1.2.2; omega)).mpr ⟨z, Nat.le_refl _, by omega⟩)] at e
    exact nI_m1 (by omega) e
set_option maxRecDepth 100000 in
set_option maxHeartbeats 4000000 in
theorem cnt_0 {P : Nat → Bool} : ∀ {n : Nat}, cntN P n = 0 ↔ ∀ k, k < n → P k = false
  | 0 => ⟨fun _ k hk => by omega, fun _ => rfl⟩
  | n + 1 => by
    rw [cntN]
    have ih := cnt_0 (P := P) (n := n)
    refine ⟨fun h k hk => ?_, fun h => ?_⟩
    · by_cases e : k = n
      · subst e
        cases z : P k with
        | false => rfl
        | true => rw [z, if_pos rfl] at h; omega
      · exact ih.mp (by omega) k (by omega)
    · rw [ih.mpr (fun k hk => h k (by omega)), h n (by omega)]
      rfl
set_option maxRecDepth 100000 in
set_option maxHeartbeats 4000000 in
theorem cv_0 {F L : Nat → Int32} {n : Nat} (h : ∀ k, k < n → F k = L k) : cvN F n = 0 ↔ ∀ k, k < n → L k = -1 := by
  unfold cvN
  rw [cnt_0]
  refine ⟨fun q k hk => ?_, fun q k hk => ?_⟩
  · have := q k hk
    rw [h k hk] at this
    by_cases z : L k = -1
    · exact z
    · rw [decide_eq_false z] at this
      cases this
  · rw [h k hk, decide_eq_true (q k hk)]
    rfl
set_option maxRecDepth 100000 in
set_option maxHeartbeats 4000000 in
/-- covered at all, or bare -/
theorem cov_bare {ow : Nat → Nat} {h : AH} {a j : Nat} {g : Nat → Int32} (I : GI g) (hj : j < nt (g 0)) (B : BoltP ow h a j (bl g j) (fun k => liesV g (nI j) (nI k))) : ∃ cv, hi h a 5 = nI cv ∧ cv ≤ 200 ∧ (cv = 0 ↔ bareV g (nI j) = true) := by
  obtain ⟨-, -, -, -, -, -, -, c, -, -, -, -, e5, eL⟩ := B
  have u1 := (I.gw.2.2.1 j hj).2.1.2.2
  refine ⟨_, e5, ?_, ?_⟩
  · have := cntN_le (fun k => !decide (hi h c k = -1)) (nt (bl g j 1))
    unfold cvN
    omega
  · rw [cv_0 eL, bare_iff I hj]

