/-! ===== fewest: sets as numbers ===== -/
set_option maxRecDepth 100000 in
set_option maxHeartbeats 4000000 in
theorem sub_bits {T S : Nat} (h : T &&& S = S) : T / 2 &&& S / 2 = S / 2 ∧ S % 2 ≤ T % 2 := by
  refine ⟨by rw [← Nat.and_div_two, h], ?_⟩
  rcases Nat.mod_two_eq_zero_or_one S with z | z
  · omega
  · have e : (T &&& S) % 2 = 1 := by rw [h]; exact z
    have := (Nat.and_mod_two_eq_one.mp e).1
    omega
set_option maxRecDepth 100000 in
set_option maxHeartbeats 4000000 in
theorem sub_le {T S : Nat} (h : T &&& S = S) : S ≤ T := by rw [← h]; exact Nat.and_le_left
set_option maxRecDepth 100000 in
set_option maxHeartbeats 4000000 in
/-- the next smaller set within T -/
theorem next_sub : ∀ n T S p : Nat, T < n → T &&& S = S → T &&& p = p → S < p → S ≤ (p - 1) &&& T := by
  intro n
  induction n with
  | zero => intro T S p h; omega
  | succ n ih =>
    intro T S p hT hS hp hlt
    obtain ⟨s1, s2⟩ := sub_bits hS
    obtain ⟨p1, p2⟩ := sub_bits hp
    have lp := sub_le hp
    have eD : ((p - 1) &&& T) / 2 = ((p - 1) / 2) &&& (T / 2) := Nat.and_div_two
    rcases Nat.mod_two_eq_zero_or_one p with z | z
    · have e1 : (p - 1) / 2 = p / 2 - 1 := by omega
      have q := ih (T / 2) (S / 2) (p / 2) (by omega) s1 p1 (by omega)
      rw [e1] at eD
      rw [← eD] at q
      have m1 : T % 2 = 1 → ((p - 1) &&& T) % 2 = 1 := fun t => Nat.and_mod_two_eq_one.mpr ⟨by omega, t⟩
      rcases Nat.mod_two_eq_zero_or_one T with t | t
      · omega
      · have := m1 t
        omega
    · have e1 : (p - 1) / 2 = p / 2 := by omega
      rw [e1, Nat.and_comm (p / 2), p1] at eD
      omega
set_option maxRecDepth 100000 in
set_option maxHeartbeats 4000000 in
theorem sub_and : ∀ k T S : Nat, T < 2 ^ k → T &&& S = S → T - S = T &&& ((2 ^ k - 1) ^^^ S) := by
  intro k
  induction k with
  | zero =>
    intro T S hT hS
    have : T = 0 := by omega
    subst this
    rw [Nat.zero_and]
    omega
  | succ k ih =>
    intro T S hT hS
    obtain ⟨s1, s2⟩ := sub_bits hS
    have ls := sub_le hS
    have e2 : 2 ^ (k + 1) = 2 * 2 ^ k := by rw [Nat.pow_succ, Nat.mul_comm]
    have q := ih (T / 2) (S / 2) (by omega) s1
    have eD : (T &&& ((2 ^ (k + 1) - 1) ^^^ S)) / 2 = T / 2 &&& ((2 ^ k - 1) ^^^ (S / 2)) := by
      rw [Nat.and_div_two, Nat.xor_div_two, show (2 ^ (k + 1) - 1) / 2 = 2 ^ k - 1 by omega]
    have ls2 := sub_le s1
    have hp := Nat.two_pow_pos k
    have o1 : (2 ^ (k + 1) - 1) % 2 = 1 := by omega
    have eM : (T &&& ((2 ^ (k + 1) - 1) ^^^ S)) % 2 = T % 2 - S % 2 := by
      have x1 : ((2 ^ (k + 1) - 1) ^^^ S) % 2 = 1 - S % 2 := by
        have := @Nat.xor_mod_two_eq_one (2 ^ (k + 1) - 1) S
        omega
      rcases Nat.mod_two_eq_zero_or_one (T &&& ((2 ^ (k + 1) - 1) ^^^ S)) with z | z
      · have nz : ¬ (T % 2 = 1 ∧ ((2 ^ (k + 1) - 1) ^^^ S) % 2 = 1) := fun w => by
          have := Nat.and_mod_two_eq_one.mpr w
          omega
        omega
      · have := Nat.and_mod_two_eq_one.mp z
        omega
    rw [← q] at eD
    omega
/-- the breadth of a set of loose pieces -/
def bdV (g : Nat → Int32) (s : Nat) (lo : Nat → Nat) (S : Nat) : Nat → Int32
  | 0 => 0
  | j + 1 => if S.testBit j then (if bdV g s lo S j < broV g s (lo j) then broV g s (lo j) else bdV g s lo S j) else bdV g s lo S j
set_option maxRecDepth 100000 in
set_option maxHeartbeats 4000000 in
theorem bd_br {g : Nat → Int32} {b s S : Nat} {lo : Nat → Nat} (h0 : (0 : Int32) ≤ bl g b 0) : ∀ c, decide (bdV g s lo S c ≤ bl g b 0) = brN g b s lo S c
  | 0 => decide_eq_true h0
  | c + 1 => by
    have ih := bd_br (g := g) (b := b) (s := s) (S := S) (lo := lo) h0 c
    unfold bdV brN
    split
    · rw [← ih]
      split
      · rename_i z
        cases e : decide (broV g s (lo c) ≤ bl g b 0) with
        | false => rw [Bool.and_false]
        | true => rw [decide_eq_true (Int32.le_trans (Int32.le_of_lt z) (of_decide_eq_true e))]; rfl
      · rename_i z
        cases e : decide (bdV g s lo S c ≤ bl g b 0) with
        | false => rfl
        | true => rw [decide_eq_true (Int32.le_trans (Int32.not_lt.mp z) (of_decide_eq_true e))]; rfl
    · exact ih

