/-! ===== the law: calls that leave the state; mast, wind, undo ===== -/
section LAW3
variable {G : GG} {h h2 : AH} {y x kp nx la : Nat} {o o2 : Nat → Nat} {g2 ld2 wd2 : Nat → Int32} {ps : Nat → Nat → Int32}
set_option maxRecDepth 100000 in
set_option maxHeartbeats 4000000 in
theorem Rel.self_ (R : Rel h y x o kp nx la ps) : Ps G y o h (hi h (x + 1)) (hi h (x + 3)) (hi h (x + 4)) kp nx ps h :=
  ⟨o, R.2.1, R.2.2.1, fun _ e => ⟨e, rfl, rfl, rfl⟩, Nat.le_add_right _ _, Nat.le_add_right _ _⟩
set_option maxRecDepth 100000 in
set_option maxHeartbeats 4000000 in
theorem zone_of {F : Nat → Nat → Int32} (T2 : ∀ i, i < 10 → o2 (x + i) = 13) (hF : ∀ a, (a < x ∨ x + 10 ≤ a) → F a = hi h2 a) : ∀ a, o2 a ≠ 13 → F a = hi h2 a := fun a ha => hF a (by
  by_cases z : a < x ∨ x + 10 ≤ a
  · exact z
  · have e := T2 (a - x) (by omega)
    rw [show x + (a - x) = a by omega] at e
    exact absurd e ha)
set_option maxRecDepth 100000 in
set_option maxHeartbeats 4000000 in
/-- both have only written where nothing is read -/
theorem Rel.still {F : Nat → Nat → Int32} (R : Rel h y x o kp nx la ps) (P : Ps G y o h (hi h (x + 1)) (hi h (x + 3)) (hi h (x + 4)) kp nx ps h2) (hF : ∀ a, (a < x + 5 ∨ x + 10 ≤ a) → F a = hi h2 a) : ∃ o2, Rel (setI h2 F) y x o2 kp nx la ps := by
  obtain ⟨o2, C2, K2, Z, -, -⟩ := P
  obtain ⟨M2, MK2, T2, E2, -⟩ := R.mid Z
  obtain ⟨⟨M, ⟨q1, q2, q3, q4⟩, T⟩, C, K, ⟨I, B⟩, H⟩ := R
  obtain ⟨C3, K3⟩ := zone_set C2 K2 I.gw (zone_of T2 (fun a ha => hF a (by omega)))
  have e : ∀ i, i < 5 → hi (setI h2 F) (x + i) = hi h (x + i) := fun i h5 => by
    rw [← E2 i (by omega)]
    exact hF (x + i) (by omega)
  have e0 : hi (setI h2 F) x = hi h x := e 0 (by omega)
  refine ⟨o2, ⟨M2, ⟨by rw [e0]; exact q1, by rw [e0]; exact q2, q3, q4⟩, T2⟩, ?_, ?_, ?_, fun j hj => ?_⟩
  · rw [e 1 (by omega), e 3 (by omega), e 4 (by omega)]
    exact C3
  · rw [e 1 (by omega)]
    exact K3
  · rw [e 1 (by omega)]
    exact ⟨I, B⟩
  · rw [e 2 (by omega)]
    exact H j hj
set_option maxRecDepth 100000 in
set_option maxHeartbeats 4000000 in
theorem Rel.mast {k : Nat} {v : Int32} (R : Rel h y x o kp nx la ps) (P : Ps G y o h (hi h (x + 1)) (upd0 (hi h (x + 3)) k v) (hi h (x + 4)) kp nx ps h2) : ∃ o2, Rel (wi h2 (x + 3) k v) y x o2 kp nx la ps := by
  obtain ⟨o2, C2, K2, Z, -, -⟩ := P
  obtain ⟨M2, MK2, T2, E2, -⟩ := R.mid Z
  obtain ⟨⟨M, ⟨q1, q2, q3, q4⟩, T⟩, C, K, ⟨I, B⟩, H⟩ := R
  obtain ⟨C3, K3⟩ := zone_set (F := up2 (hi h2) (x + 3) k v) C2 K2 I.gw (zone_of T2 (fun a ha => up2_a (by omega)))
  have e : ∀ i, i < 5 → i ≠ 3 → hi (wi h2 (x + 3) k v) (x + i) = hi h (x + i) := fun i h5 h3 => by
    rw [← E2 i (by omega)]
    exact up2_a (f := hi h2) (by omega)
  have e3 : hi (wi h2 (x + 3) k v) (x + 3) = upd0 (hi h (x + 3)) k v := by
    rw [← E2 3 (by omega)]
    exact up2_at (hi h2) (x + 3) k v
  have e0 : hi (wi h2 (x + 3) k v) x = hi h x := e 0 (by omega) (by omega)
  refine ⟨o2, ⟨M2, ⟨by rw [e0]; exact q1, by rw [e0]; exact q2, q3, q4⟩, T2⟩, ?_, ?_, ?_, fun j hj => ?_⟩
  · rw [e 1 (by omega) (by omega), e3, e 4 (by omega) (by omega)]
    exact C3
  · rw [e 1 (by omega) (by omega)]
    exact K3
  · rw [e 1 (by omega) (by omega)]
    exact ⟨I, B⟩
  · rw [e 2 (by omega) (by omega)]
    exact H j hj
set_option maxRecDepth 100000 in
set_option maxHeartbeats 4000000 in
theorem Rel.wind {k : Nat} {v : Int32} (R : Rel h y x o kp nx la ps) (P : Ps G y o h (hi h (x + 1)) (hi h (x + 3)) (upd0 (hi h (x + 4)) k v) kp nx ps h2) : ∃ o2, Rel (wi h2 (x + 4) k v) y x o2 kp nx la ps := by
  obtain ⟨o2, C2, K2, Z, -, -⟩ := P
  obtain ⟨M2, MK2, T2, E2, -⟩ := R.mid Z
  obtain ⟨⟨M, ⟨q1, q2, q3, q4⟩, T⟩, C, K, ⟨I, B⟩, H⟩ := R
  obtain ⟨C3, K3⟩ := zone_set (F := up2 (hi h2) (x + 4) k v) C2 K2 I.gw (zone_of T2 (fun a ha => up2_a (by omega)))
  have e : ∀ i, i < 4 → hi (wi h2 (x + 4) k v) (x + i) = hi h (x + i) := fun i h5 => by
    rw [← E2 i (by omega)]
    exact up2_a (f := hi h2) (by omega)
  have e4 : hi (wi h2 (x + 4) k v) (x + 4) = upd0 (hi h (x + 4)) k v := by
    rw [← E2 4 (by omega)]
    exact up2_at (hi h2) (x + 4) k v
  have e0 : hi (wi h2 (x + 4) k v) x = hi h x := e 0 (by omega)
  refine ⟨o2, ⟨M2, ⟨by rw [e0]; exact q1, by rw [e0]; exact q2, q3, q4⟩, T2⟩, ?_, ?_, ?_, fun j hj => ?_⟩
  · rw [e 1 (by omega), e 3 (by omega), e4]
    exact C3
  · rw [e 1 (by omega)]
    exact K3
  · rw [e 1 (by omega)]
    exact ⟨I, B⟩
  · rw [e 2 (by omega)]
    exact H j hj
set_option maxRecDepth 100000 in
set_option maxHeartbeats 4000000 in
theorem GI.far {g : Nat → Int32} (I : GI g) {k : Nat} (hk9 : 9000 ≤ k) : g k = 0 := I.2.2.2.2.2 k (by have := I.1.2.2.2; omega)
set_option maxRecDepth 100000 in
set_option maxHeartbeats 4000000 in
theorem Rel.undo (R : Rel h y x o kp nx la ps) (hkp : 0 < kp) (P : Ps G y o h (ps 0) (hi h (x + 3)) (hi h (x + 4)) (kp - 1) ((nx + 15) % 16) (fun j => ps (j + 1)) h2) : ∃ o2, Rel (setI h2 (undoF (hi h2) x la kp)) y x o2 (kp - 1) ((nx + 15) % 16) ((la + 15) % 16) (fun j => ps (j + 1)) := by
  obtain ⟨o2, C2, K2, Z, -, -⟩ := P
  obtain ⟨M2, MK2, T2, E2, -⟩ := R.mid Z
  obtain ⟨⟨M, ⟨q1, q2, q3, q4⟩, T⟩, C, K, ⟨I, B⟩, H⟩ := R
  obtain ⟨I0, B0, H0⟩ := H 0 hkp
  have far : ∀ a, a ≠ x → a ≠ x + 1 → undoF (hi h2) x la kp a = hi h2 a := fun a n0 n1 => by
    unfold undoF
    rw [up2_a n0, up2_a n0]
    funext j
    unfold cpyF
    rw [if_neg (fun z => n1 z.1)]
  obtain ⟨C3, K3⟩ := zone_set (F := undoF (hi h2) x la kp) C2 K2 I0.gw (zone_of T2 (fun a ha => far a (by omega) (by omega)))
  have e : ∀ i, 2 ≤ i → i < 10 → hi (setI h2 (undoF (hi h2) x la kp)) (x + i) = hi h (x + i) := fun i h5 h6 => by
    rw [← E2 i (by omega)]
    exact far (x + i) (by omega) (by omega)
  have e1 : hi (setI h2 (undoF (hi h2) x la kp)) (x + 1) = ps 0 := by
    show undoF (hi h2) x la kp (x + 1) = ps 0
    funext j
    unfold undoF
    rw [up2_a (by omega), up2_a (by omega)]
    unfold cpyF
    by_cases z : j < 9000
    · rw [if_pos ⟨rfl, by omega, by omega⟩, H0 j z, E2 2 (by omega), show (la + 16 - 0) % 16 = la by omega, show j - 0 = j by omega]
    · rw [if_neg (by omega), E2 1 (by omega), I.far (by omega), I0.far (by omega)]
  have x2 : hi (setI h2 (undoF (hi h2) x la kp)) x 2 = nI (kp - 1) := by
    show undoF (hi h2) x la kp x 2 = _
    unfold undoF
    conv => lhs; unfold up2
    rw [if_pos ⟨rfl, rfl⟩]
  have x3 : hi (setI h2 (undoF (hi h2) x la kp)) x 3 = nI ((la + 15) % 16) := by
    show undoF (hi h2) x la kp x 3 = _
    unfold undoF
    rw [up2_ne (by omega)]
    conv => lhs; unfold up2
    rw [if_pos ⟨rfl, rfl⟩]
  refine ⟨o2, ⟨M2, ⟨x2, x3, by omega, by omega⟩, T2⟩, ?_, ?_, ?_, fun j hj => ?_⟩
  · rw [e1, e 3 (by omega) (by omega), e 4 (by omega) (by omega)]
    exact C3
  · rw [e1]
    exact K3
  · rw [e1]
    exact ⟨I0, B0⟩
  · rw [e 2 (by omega) (by omega)]
    obtain ⟨i1, i2, i3⟩ := H (j + 1) (by omega)
    refine ⟨i1, i2, fun k hk9 => ?_⟩
    show ps (j + 1) k = _
    rw [i3 k hk9, show ((la + 15) % 16 + 16 - j) % 16 = (la + 16 - (j + 1)) % 16 by omega]
end LAW3

