/-! ===== fewest: one bolt more ===== -/
def okS (fit : Nat → Bool) (T S : Nat) : Prop := S ≠ 0 ∧ fit S = true ∧ T &&& S = S
section FEW2
variable {fit : Nat → Bool} {B : Nat → Nat} {T : Nat}
set_option maxRecDepth 100000 in
set_option maxHeartbeats 4000000 in
theorem mnS_b : ∀ {n S : Nat}, S < n → okS fit T S → mnS fit B T n ≤ 1 + B (T &&& (255 ^^^ S))
  | 0, S, h, _ => absurd h (by omega)
  | n + 1, S, h, k => by
    unfold mnS
    by_cases z : S = n
    · subst z
      rw [if_pos (show S ≠ 0 ∧ fit S = true ∧ T &&& S = S from k)]
      exact Nat.min_le_right _ _
    · have q := mnS_b (n := n) (by omega) k
      split
      · exact Nat.le_trans (Nat.min_le_left _ _) q
      · exact q
set_option maxRecDepth 100000 in
set_option maxHeartbeats 4000000 in
theorem mnS_c : ∀ n : Nat, mnS fit B T n = B T ∨ ∃ S, S < n ∧ okS fit T S ∧ mnS fit B T n = 1 + B (T &&& (255 ^^^ S))
  | 0 => Or.inl rfl
  | n + 1 => by
    have ih := mnS_c n
    by_cases k : n ≠ 0 ∧ fit n = true ∧ T &&& n = n
    · have e : mnS fit B T (n + 1) = min (mnS fit B T n) (1 + B (T &&& (255 ^^^ n))) := by
        show (if _ then _ else _) = _
        rw [if_pos k]
      by_cases z : mnS fit B T n ≤ 1 + B (T &&& (255 ^^^ n))
      · rw [e, Nat.min_eq_left z]
        rcases ih with q | ⟨S, q1, q2, q3⟩
        · exact Or.inl q
        · exact Or.inr ⟨S, by omega, q2, q3⟩
      · rw [e, Nat.min_eq_right (by omega)]
        exact Or.inr ⟨n, by omega, k, rfl⟩
    · have e : mnS fit B T (n + 1) = mnS fit B T n := by
        show (if _ then _ else _) = _
        rw [if_neg k]
      rw [e]
      rcases ih with q | ⟨S, q1, q2, q3⟩
      · exact Or.inl q
      · exact Or.inr ⟨S, by omega, q2, q3⟩
/-- the empty set needs none, another one at least -/
def fpos (B : Nat → Nat) : Prop := B 0 = 0 ∧ ∀ T, T ≠ 0 → 1 ≤ B T
set_option maxRecDepth 100000 in
set_option maxHeartbeats 4000000 in
theorem fpos.mnS (h : fpos B) (n : Nat) : fpos (fun T => mnS fit B T n) := by
  refine ⟨?_, fun T hT => ?_⟩
  · rcases mnS_c (fit := fit) (B := B) (T := 0) n with q | ⟨S, -, ⟨q1, -, q2⟩, -⟩
    · exact q.trans h.1
    · rw [Nat.zero_and] at q2
      exact absurd q2.symm q1
  · rcases mnS_c (fit := fit) (B := B) (T := T) n with q | ⟨S, -, -, q⟩
    · have := h.2 T hT
      dsimp only
      omega
    · dsimp only
      omega
set_option maxRecDepth 100000 in
set_option maxHeartbeats 4000000 in
theorem mnS_fits {n : Nat} (h : fpos B) (hT : T ≠ 0) (hn : T < n) (h8 : T < 256) (hf : fit T = true) : mnS fit B T n = 1 := by
  have a := mnS_b (B := B) hn (show okS fit T T from ⟨hT, hf, Nat.and_self T⟩)
  have e := sub_and 8 T T h8 (Nat.and_self T)
  rw [show T &&& (255 ^^^ T) = 0 by rw [← show T - T = 0 by omega]; exact e.symm, h.1] at a
  have := (h.mnS (fit := fit) n).2 T hT
  dsimp only at this
  omega
set_option maxRecDepth 100000 in
set_option maxHeartbeats 4000000 in
theorem mnS_small {n : Nat} (h : fpos B) (h8 : T < 256) (hf : fit T = false) (h2 : B T ≤ 2) : mnS fit B T n = B T := by
  have a := mnS_le fit B T n
  rcases mnS_c (fit := fit) (B := B) (T := T) n with q | ⟨S, q1, ⟨q2, q3, q4⟩, q5⟩
  · exact q
  · have e := sub_and 8 T S h8 q4
    have ls := sub_le q4
    have ne : S ≠ T := fun z => by rw [z, hf] at q3; cases q3
    have := h.2 (T &&& (255 ^^^ S)) (by rw [show T &&& (255 ^^^ S) = T - S from e.symm]; omega)
    omega
/-- the best so far: the sets within T above p are tried -/
def bst (fit : Nat → Bool) (B : Nat → Nat) (T p v : Nat) : Prop := v ≤ min (B T) 25 ∧ (∀ S, p < S → okS fit T S → v ≤ 1 + min (B (T - S)) 25) ∧ (v = min (B T) 25 ∨ ∃ S, okS fit T S ∧ v = 1 + min (B (T - S)) 25)
set_option maxRecDepth 100000 in
set_option maxHeartbeats 4000000 in
theorem bst.end_ {n v : Nat} (h8 : T < 256) (hn : T < n) (b : bst fit B T 0 v) : v = min (mnS fit B T n) 25 := by
  obtain ⟨b1, b2, b3⟩ := b
  have a := mnS_le fit B T n
  have le : v ≤ mnS fit B T n := by
    rcases mnS_c (fit := fit) (B := B) (T := T) n with q | ⟨S, q1, q2, q5⟩
    · omega
    · have := b2 S (by have := q2.1; omega) q2
      rw [sub_and 8 T S h8 q2.2.2] at this
      rw [q5]
      have e : (2 ^ 8 - 1 : Nat) = 255 := rfl
      rw [e] at this
      omega
  rcases b3 with q | ⟨S, q2, q⟩
  · omega
  · have m := mnS_b (B := B) (n := n) (S := S) (by have := sub_le q2.2.2; omega) q2
    rw [sub_and 8 T S h8 q2.2.2] at q
    have e : (2 ^ 8 - 1 : Nat) = 255 := rfl
    rw [e] at q
    omega
set_option maxRecDepth 100000 in
set_option maxHeartbeats 4000000 in
theorem bst.beg {v : Nat} (h : v = min (B T) 25) : bst fit B T T v := ⟨by omega, fun S hS k => absurd (sub_le k.2.2) (by omega), Or.inl h⟩
set_option maxRecDepth 100000 in
set_option maxHeartbeats 4000000 in
theorem bst.step {p v : Nat} (hp : T &&& p = p) (h0 : p ≠ 0) (b : bst fit B T p v) : bst fit B T ((p - 1) &&& T) (if fit p then min v (1 + min (B (T - p)) 25) else v) := by
  obtain ⟨b1, b2, b3⟩ := b
  have nx : ∀ S, (p - 1) &&& T < S → okS fit T S → S ≠ p → p < S := fun S h1 k hne => by
    by_cases z : p < S
    · exact z
    · have := next_sub (T + 1) T S p (by omega) k.2.2 hp (by omega)
      omega
  cases e : fit p with
  | false =>
    rw [if_neg (by decide)]
    refine ⟨b1, fun S h1 k => b2 S (nx S h1 k (fun z => by have := k.2.1; rw [z, e] at this; cases this)) k, b3⟩
  | true =>
    rw [if_pos rfl]
    refine ⟨by omega, fun S h1 k => ?_, ?_⟩
    · by_cases z : S = p
      · subst z; omega
      · have := b2 S (nx S h1 k z) k
        omega
    · by_cases z : v ≤ 1 + min (B (T - p)) 25
      · rw [Nat.min_eq_left z]
        exact b3
      · rw [Nat.min_eq_right (by omega)]
        exact Or.inr ⟨p, ⟨h0, e, hp⟩, rfl⟩
end FEW2
set_option maxRecDepth 100000 in
set_option maxHeartbeats 4000000 in
theorem ftL_pos (g : Nat → Int32) (s : Nat) (w : Int32) (c : Nat) : ∀ b, fpos (ftL g s w c b)
  | 0 => ⟨rfl, fun T hT => by show 1 ≤ (if T = 0 then 0 else 99); rw [if_neg hT]; omega⟩
  | b + 1 => by
    unfold ftL
    split
    · exact (ftL_pos g s w c b).mnS _
    · exact ftL_pos g s w c b

