/-! ===== fewest: what the packing holds ===== -/
set_option maxRecDepth 100000 in
set_option maxHeartbeats 4000000 in
theorem mnS_eq {f1 f2 : Nat → Bool} {B : Nat → Nat} {T : Nat} : ∀ {n : Nat}, (∀ S, S < n → S ≠ 0 → f1 S = f2 S) → mnS f1 B T n = mnS f2 B T n
  | 0, _ => rfl
  | n + 1, h => by
    have ih := mnS_eq (B := B) (T := T) (n := n) (fun S hS => h S (by omega))
    unfold mnS
    rw [ih]
    by_cases z : n = 0
    · rw [if_neg (fun q => q.1 z), if_neg (fun q => q.1 z)]
    · rw [h n (by omega) z]
section FEW8
variable {g : Nat → Int32} {s : Nat} {lo : Nat → Nat}
set_option maxRecDepth 100000 in
set_option maxHeartbeats 4000000 in
theorem ls_hi {j S : Nat} : ∀ {i : Nat}, i ≤ j → lsV g s lo (S + 2 ^ j) i = lsV g s lo S i ∧ bdV g s lo (S + 2 ^ j) i = bdV g s lo S i
  | 0, _ => ⟨rfl, rfl⟩
  | i + 1, h => by
    obtain ⟨h1, h2⟩ := ls_hi (j := j) (S := S) (i := i) (by omega)
    have e : (S + 2 ^ j).testBit i = S.testBit i := by rw [Nat.add_comm]; exact Nat.testBit_two_pow_add_gt (by omega) S
    unfold lsV bdV
    rw [e, h1, h2]
    exact ⟨rfl, rfl⟩
set_option maxRecDepth 100000 in
set_option maxHeartbeats 4000000 in
theorem ls_up {j S : Nat} (hS : S < 2 ^ j) : (lsV g s lo S (j + 1) = lsV g s lo S j ∧ bdV g s lo S (j + 1) = bdV g s lo S j) ∧ lsV g s lo (S + 2 ^ j) (j + 1) = lsV g s lo S j + lenV g s (lo j) ∧ bdV g s lo (S + 2 ^ j) (j + 1) = (if bdV g s lo S j < broV g s (lo j) then broV g s (lo j) else bdV g s lo S j) := by
  have e0 : S.testBit j = false := Nat.testBit_lt_two_pow hS
  have e1 : (S + 2 ^ j).testBit j = true := by rw [Nat.add_comm, Nat.testBit_two_pow_add_eq, e0]; rfl
  obtain ⟨h1, h2⟩ := ls_hi (g := g) (s := s) (lo := lo) (j := j) (S := S) (i := j) (Nat.le_refl _)
  refine ⟨⟨?_, ?_⟩, ?_, ?_⟩
  · show (if S.testBit j then _ else _) = _
    rw [e0]
    rfl
  · show (if S.testBit j then _ else _) = _
    rw [e0]
    rfl
  · show (if (S + 2 ^ j).testBit j then _ else _) = _
    rw [e1, if_pos rfl, h1]
  · show (if (S + 2 ^ j).testBit j then _ else _) = _
    rw [e1, if_pos rfl, h2]
/-- the packing with j loose pieces in it -/
def pkV (g : Nat → Int32) (s : Nat) (h : AH) (p a0 a1 a2 : Nat) (F : Nat → Nat → Int32) (j : Nat) : Prop := (∀ r, r ≠ a0 → r ≠ a1 → r ≠ a2 → r ≠ p → F r = hi h r) ∧ F p 3 = nI (2 ^ j) ∧ ∀ S, S < 2 ^ j → F a0 S = lsV g s (loV g s) S j ∧ F a1 S = bdV g s (loV g s) S j ∧ F a2 S = nI (if S = 0 then 0 else 25)
set_option maxRecDepth 100000 in
set_option maxHeartbeats 4000000 in
theorem pkV.beg {h : AH} {p a0 a1 a2 : Nat} (P : PkO h p a0 a1 a2) : pkV g s h p a0 a1 a2 (up2 (up2 (up2 (up2 (hi h) p 3 (nI 1)) a0 0 (nI 0)) a1 0 (nI 0)) a2 0 (nI 0)) 0 := by
  obtain ⟨kp, -, -, -, -, ⟨d1, d2, d3⟩, f1, f2, f3⟩ := P
  refine ⟨fun r h0 h1 h2 h3 => by rw [up2_a h2, up2_a h1, up2_a h0, up2_a h3], by rw [up2_a f3, up2_a f2, up2_a f1, up2_same], fun S hS => ?_⟩
  have : S = 0 := by simpa using hS
  subst this
  rw [up2_same, up2_a d2, up2_a d1, up2_same, up2_a d3, up2_same]
  exact ⟨rfl, rfl, rfl⟩
set_option maxRecDepth 100000 in
set_option maxHeartbeats 4000000 in
theorem pkV.add {h : AH} {p a0 a1 a2 j i : Nat} {F F2 : Nat → Nat → Int32} (P : PkO h p a0 a1 a2) (V : pkV g s h p a0 a1 a2 F j) (hlo : loV g s j = i) (A : adP (setI h F) F2 a0 a1 a2 (2 ^ j) (lenV g s i) (broV g s i) (2 ^ j)) : pkV g s h p a0 a1 a2 (up2 F2 p 3 (nI (2 * 2 ^ j))) (j + 1) := by
  obtain ⟨kp, -, -, -, -, ⟨d1, d2, d3⟩, f1, f2, f3⟩ := P
  obtain ⟨V1, V2, V3⟩ := V
  obtain ⟨A1, A2, A3⟩ := A
  have e2 : 2 ^ (j + 1) = 2 * 2 ^ j := by rw [Nat.pow_succ, Nat.mul_comm]
  refine ⟨fun r h0 h1 h2 h3 => ?_, by rw [up2_same, e2], fun S hS => ?_⟩
  · rw [up2_a h3, A1 r h0 h1 h2]
    exact V1 r h0 h1 h2 h3
  · rw [up2_a (Ne.symm f1), up2_a (Ne.symm f2), up2_a (Ne.symm f3)]
    by_cases z : S < 2 ^ j
    · obtain ⟨b1, b2, b3⟩ := A2 S z
      obtain ⟨c1, c2, c3⟩ := V3 S z
      obtain ⟨⟨l1, l2⟩, -⟩ := ls_up (g := g) (s := s) (lo := loV g s) z
      rw [b1, b2, b3, l1, l2]
      exact ⟨c1, c2, c3⟩
    · obtain ⟨R, hR⟩ : ∃ R, S = R + 2 ^ j := ⟨S - 2 ^ j, by omega⟩
      subst hR
      have hR : R < 2 ^ j := by omega
      obtain ⟨b1, b2, b3⟩ := A3 R hR
      obtain ⟨c1, c2, c3⟩ := V3 R hR
      obtain ⟨-, l1, l2⟩ := ls_up (g := g) (s := s) (lo := loV g s) hR
      have hp := Nat.two_pow_pos j
      rw [b1, b2, b3, l1, l2, hlo, if_neg (show ¬ R + 2 ^ j = 0 by omega)]
      refine ⟨?_, ?_, rfl⟩
      · show F a0 R + _ = _
        rw [c1]
      · show (if F a1 R < _ then _ else F a1 R) = _
        rw [c2]
end FEW8

