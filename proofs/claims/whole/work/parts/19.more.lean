section MORE
variable {G : GG} {d : Nat} {mi : MI} {pc : Nat} {l l' : List (Nat × Value)} {st st2 : List Value} {h h2 : AH} {Q : Option Value → AH → Prop}
theorem x_iremN {x y : Int32} {a b : Nat} (hd : decode mi.2.1 pc = .ok (.irem, 1)) (ex : x = nI a) (ey : y = nI b) (ha : a < 2 ^ 31) (hb : 0 < b) (hb2 : b < 2 ^ 31) (kk : Rn G d mi (pc + 1) l (.int (nI (a % b)) :: st) h Q) : Rn G d mi pc l (.int y :: .int x :: st) h Q := x_irem hd (by rw [ey]; exact nI_ne0 hb hb2) (by rw [ex, ey, pk_rem ha hb hb2]; exact kk)
theorem x_idivN {x y : Int32} {a b : Nat} (hd : decode mi.2.1 pc = .ok (.idiv, 1)) (ex : x = nI a) (ey : y = nI b) (ha : a < 2 ^ 31) (hb : 0 < b) (hb2 : b < 2 ^ 31) (kk : Rn G d mi (pc + 1) l (.int (nI (a / b)) :: st) h Q) : Rn G d mi pc l (.int y :: .int x :: st) h Q := x_idiv hd (by rw [ey]; exact nI_ne0 hb hb2) (by rw [ex, ey, pk_div ha hb hb2]; exact kk)
end MORE
/-! ===== heaps by their ints ===== -/
def setI (h : AH) (F : Nat → Nat → Int32) : AH := (h.1, h.2.1, F, h.2.2.2.1, h.2.2.2.2.1, h.2.2.2.2.2)
theorem setI_wi (h : AH) (F : Nat → Nat → Int32) (a k : Nat) (v : Int32) : wi (setI h F) a k v = setI h (up2 F a k v) := rfl
theorem wi_setI (h : AH) (a k : Nat) (v : Int32) : wi h a k v = setI h (up2 (hi h) a k v) := rfl
theorem setI_self (h : AH) : setI h (hi h) = h := rfl
theorem setI_setI (h : AH) (F F2 : Nat → Nat → Int32) : setI (setI h F) F2 = setI h F2 := rfl
theorem hi_setI (h : AH) (F : Nat → Nat → Int32) : hi (setI h F) = F := rfl
theorem hk_setI (h : AH) (F : Nat → Nat → Int32) : hk (setI h F) = hk h := rfl
theorem hn_setI (h : AH) (F : Nat → Nat → Int32) : hn (setI h F) = hn h := rfl
theorem hr_setI (h : AH) (F : Nat → Nat → Int32) : hr (setI h F) = hr h := rfl
theorem hi_wi (h : AH) (a k : Nat) (v : Int32) : hi (wi h a k v) = up2 (hi h) a k v := rfl
theorem up2_ne {α : Type} {f : Nat → Nat → α} {a k a' k' : Nat} {v : α} (hne : ¬ (a' = a ∧ k' = k)) : up2 f a k v a' k' = f a' k' := by unfold up2; rw [if_neg hne]
theorem up2_a {α : Type} {f : Nat → Nat → α} {a k a' : Nat} {v : α} (hne : a' ≠ a) : up2 f a k v a' = f a' := funext fun j => up2_ne (fun z => hne z.1)
theorem up2_k {α : Type} {f : Nat → Nat → α} {a k k' : Nat} {v : α} (hne : k' ≠ k) : up2 f a k v a k' = f a k' := up2_ne (fun z => hne z.2)
def upd0 {α : Type} (f : Nat → α) (k : Nat) (v : α) : Nat → α := fun j => if j = k then v else f j
theorem upd0_same {α : Type} (f : Nat → α) (k : Nat) (v : α) : upd0 f k v k = v := if_pos rfl
theorem upd0_ne {α : Type} {f : Nat → α} {k j : Nat} {v : α} (hne : j ≠ k) : upd0 f k v j = f j := if_neg hne
theorem up2_at {α : Type} (f : Nat → Nat → α) (a k : Nat) (v : α) : up2 f a k v a = upd0 (f a) k v := funext fun j => by unfold up2 upd0; by_cases z : j = k <;> simp [z]
/-- n places from lo on of cell b become the first n of cell a -/
def cpyF (F : Nat → Nat → Int32) (a as b lo n : Nat) : Nat → Nat → Int32 := fun q j => if q = b ∧ lo ≤ j ∧ j < lo + n then F a (as + (j - lo)) else F q j
theorem cpyF_0 (F : Nat → Nat → Int32) (a as b lo : Nat) : cpyF F a as b lo 0 = F := by
  funext q j
  unfold cpyF
  rw [if_neg (by omega)]
theorem cpyF_s (F : Nat → Nat → Int32) {a as b lo n : Nat} (hab : a ≠ b) : up2 (cpyF F a as b lo n) b (lo + n) (cpyF F a as b lo n a (as + n)) = cpyF F a as b lo (n + 1) := by
  have e : cpyF F a as b lo n a (as + n) = F a (as + n) := by unfold cpyF; rw [if_neg (fun z => hab z.1)]
  rw [e]
  funext q j
  unfold up2 cpyF
  by_cases z : q = b ∧ j = lo + n
  · rw [if_pos z, if_pos ⟨z.1, by omega, by omega⟩, z.2, show lo + n - lo = n by omega]
  · rw [if_neg z]
    by_cases y : q = b ∧ lo ≤ j ∧ j < lo + n
    · rw [if_pos y, if_pos ⟨y.1, y.2.1, by omega⟩]
    · rw [if_neg y, if_neg (fun w => y ⟨w.1, w.2.1, by have : ¬ j = lo + n := fun u => z ⟨w.1, u⟩; omega⟩)]
/-- n places from lo on of cell b become v -/
def filF (F : Nat → Nat → Int32) (b lo n : Nat) (v : Int32) : Nat → Nat → Int32 := fun q j => if q = b ∧ lo ≤ j ∧ j < lo + n then v else F q j
theorem filF_0 (F : Nat → Nat → Int32) (b lo : Nat) (v : Int32) : filF F b lo 0 v = F := by
  funext q j
  unfold filF
  rw [if_neg (by omega)]
theorem filF_s (F : Nat → Nat → Int32) {b lo n : Nat} {v : Int32} : up2 (filF F b lo n v) b (lo + n) v = filF F b lo (n + 1) v := by
  funext q j
  unfold up2 filF
  by_cases z : q = b ∧ j = lo + n
  · rw [if_pos z, if_pos ⟨z.1, by omega, by omega⟩]
  · rw [if_neg z]
    by_cases y : q = b ∧ lo ≤ j ∧ j < lo + n
    · rw [if_pos y, if_pos ⟨y.1, y.2.1, by omega⟩]
    · rw [if_neg y, if_neg (fun w => y ⟨w.1, w.2.1, by have : ¬ j = lo + n := fun u => z ⟨w.1, u⟩; omega⟩)]
