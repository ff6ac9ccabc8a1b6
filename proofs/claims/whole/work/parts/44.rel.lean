/-! ===== the class: what its cells hold; a read of a field that is known ===== -/
section RULE44
variable {G : GG} {d : Nat} {mi : MI} {pc : Nat} {l : List (Nat × Value)} {st : List Value} {h : AH} {Q : Option Value → AH → Prop}
set_option maxRecDepth 100000 in
set_option maxHeartbeats 4000000 in
theorem x_getIe {idx ci k a : Nat} {v : Int32} (hd : decode mi.2.1 pc = .ok (.getfield idx, 3)) (hf : fLink mi.1.cls idx ci k) (hty : tyo ci k = .int ∨ tyo ci k = .boolean) (ha : hk h a = ci) (hv : hi h a k = v) (kk : Rn G d mi (pc + 3) l (.int v :: st) h Q) : Rn G d mi pc l (.ref a :: st) h Q := x_getI hd hf hty ha (by rw [hv]; exact kk)
end RULE44
set_option maxRecDepth 100000 in
set_option maxHeartbeats 4000000 in
theorem isN.mono {x : Int32} {a b c e : Nat} (h : isN x a b) (h1 : c ≤ a) (h2 : b ≤ e) : isN x c e := ⟨h.1, Nat.le_trans h1 h.2.1, Nat.le_trans h.2.2 h2⟩
set_option maxRecDepth 100000 in
set_option maxHeartbeats 4000000 in
theorem isN_nI {n a b : Nat} (h : n < 2 ^ 31) (h1 : a ≤ n) (h2 : n ≤ b) : isN (nI n) a b := by
  have e := nt_nI h
  exact ⟨by rw [e], by rw [e]; exact h1, by rw [e]; exact h2⟩
/-- the grams of a bolt: minus 0 is 0 -/
def grF (b : Int32) : UInt32 := if b = -2147483648 then 0 else b.toUInt32
def hpV (n k : Int32) : Bool := decide (0 ≤ k) && decide (k < n)
/-- a row: none where it is missing -/
def RowR (ow : Nat → Nat) (h : AH) (kd t : Nat) (r : Option Nat) (n : Nat) (f : Nat → Int32) : Prop :=
  (r = none ∧ n = 0) ∨ ∃ a, r = some a ∧ ow a = t ∧ hk h a = kd ∧ hn h a = n ∧ 0 < n ∧ ∀ k, k < n → hi h a k = f k
/-- how many places of a bolt are covered, by its codes -/
def cvN (F : Nat → Int32) (n : Nat) : Nat := cntN (fun k => !decide (F k = -1)) n
/-- bolt i stands at a -/
def BoltP (ow : Nat → Nat) (h : AH) (a i : Nat) (f L : Nat → Int32) : Prop :=
  ow a = 100 + i ∧ hk h a = 1 ∧ hi h a 0 = f 0 ∧ hi h a 1 = f 1 ∧ hf h a 2 = grF (f 2) ∧ hi h a 3 = f 4 ∧ RowR ow h 21 (300 + i) (hr h a 4) (nt (f 3)) (fun k => f (6 + k)) ∧
  ∃ c, hr h a 6 = some c ∧ ow c = 200 + i ∧ hk h c = 22 ∧ hn h c = 200 ∧ hi h a 5 = nI (cvN (hi h c) (nt (f 1))) ∧ ∀ k, k < nt (f 1) → hi h c k = L k
/-- a side of a sail stands at a: t its tag, tr its row's -/
def SideP (ow : Nat → Nat) (h : AH) (a t tr : Nat) (ft hd : Int32) (n : Nat) (f : Nat → Int32) : Prop :=
  ow a = t ∧ hk h a = 5 ∧ hi h a 0 = ft ∧ hi h a 1 = hd ∧ RowR ow h 22 tr (hr h a 2) n f
/-- a piece stands at a -/
def PieceP (ow : Nat → Nat) (h : AH) (g : Nat → Int32) (s i a : Nat) : Prop :=
  ow a = 1000 + 40 * s + i ∧ hk h a = 3 ∧ hi h a 0 = bI (!isP g s i) ∧ hi h a 1 = lowV g s i ∧ hi h a 2 = highV g s i ∧ hi h a 3 = lenV g s i ∧ hi h a 4 = broV g s i ∧ hi h a 5 = areV g s i ∧
  hi h a 6 = (if isP g s i then sl g s (140 + i) else 0) ∧ hi h a 7 = sl g s (300 + i) ∧ hi h a 8 = sl g s (340 + i)
/-- the sides and lines of a sail that stands at a -/
def SailE (ow : Nat → Nat) (h : AH) (g : Nat → Int32) (s a : Nat) : Prop :=
  ow a = 400 + s ∧ hk h a = 4 ∧ (∃ l, hr h a 0 = some l ∧ SideP ow h l (410 + s) (430 + s) (sl g s 1) (sl g s 3) (nt (sl g s 16)) (fun y => sl g s (18 + y))) ∧ (∃ r, hr h a 1 = some r ∧ SideP ow h r (420 + s) (440 + s) (sl g s 2) (sl g s 4) (nt (sl g s 17)) (fun y => sl g s (79 + y))) ∧ hi h a 2 = sl g s 5
/-- what it was cut into -/
def SailC (ow : Nat → Nat) (h : AH) (g : Nat → Int32) (s a : Nat) : Prop :=
  hi h a 3 = sl g s 0 ∧ hi h a 5 = sl g s 8 ∧ hi h a 6 = nI (np g s) ∧
  ((sl g s 0 = 0 ∧ hr h a 4 = none ∧ hr h a 7 = none) ∨ (¬ sl g s 0 = 0 ∧ (∃ pa, hr h a 4 = some pa ∧ ow pa = 450 + s ∧ hk h pa = 33 ∧ hn h pa = 40 ∧ ∀ i, i < np g s → ∃ p, hr h pa i = some p ∧ PieceP ow h g s i p) ∧
    ∃ st, hr h a 7 = some st ∧ ow st = 460 + s ∧ hk h st = 20 ∧ hn h st = nt (sl g s 5) ∧ ∀ y, y < nt (sl g s 5) → hi h st y = stp g s y))
/-- how it stands -/
def SailL (ow : Nat → Nat) (h : AH) (g : Nat → Int32) (s a : Nat) : Prop :=
  hi h a 8 = sl g s 10 ∧ hi h a 9 = sl g s 11 ∧ hi h a 11 = sl g s 12 ∧ ∃ q, hr h a 10 = some q ∧ ow q = 470 + s ∧ hk h q = 20 ∧ hn h q = 3 ∧ ∀ n, n < nt (sl g s 12) → hi h q n = sl g s (13 + n)
def SailP (ow : Nat → Nat) (h : AH) (g : Nat → Int32) (s a : Nat) : Prop := SailE ow h g s a ∧ SailC ow h g s a ∧ SailL ow h g s a

