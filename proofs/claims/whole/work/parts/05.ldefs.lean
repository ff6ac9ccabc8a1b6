/-! ===== pool entries: what a link is ===== -/
theorem mem_tb {w : Cond} (h : (decide (w ∈ lw_tbl) && goodWord w) = true) : w ∈ tbG := by
  simp only [Bool.and_eq_true, decide_eq_true_eq] at h
  exact List.mem_filter.mpr h
theorem all_tb {ws : List Cond} (h : ws.all (fun w => decide (w ∈ lw_tbl) && goodWord w) = true) : ∀ w ∈ ws, w ∈ tbG := fun w hw => mem_tb (List.all_eq_true.mp h w hw)
/-- pool entry idx of class own is field k of class ci -/
def fLink (own : String) (idx ci k : Nat) : Prop := ∃ r, vwCl[ci]? = some r ∧ k < r.2.2 ∧ Cond.fieldLink own idx (r.2.1 k).1 (r.2.1 k).2.1 (r.2.1 k).2.2.1 ∈ tbG
def okName (y : MethodName) (n : Nat) : Bool := decide (y.cls ≠ "java/lang/invoke/MethodHandle") && decide (y.cls ≠ "java/lang/invoke/VarHandle") && decide ((parseMethodDescriptor y.desc).map (fun d => d.parameters.length) = some n) && plainName y.cls
/-- what a virtual call needs of the tables -/
def vLink (own : String) (idx ci : Nat) (m2 : MI) (n : Nat) : Prop := ∃ r, vwCl[ci]? = some r ∧ m2.1.cls = r.1 ∧ okName m2.1 n = true ∧ m2.2.2.1 ≤ 18 ∧ (∀ w ∈ ([.methodLink own idx m2.1, .instanceMethod m2.1, .selects r.1 m2.1 m2.1, .initialized r.1, .code m2.1 m2.2.1 m2.2.2.1 m2.2.2.2] : List Cond), w ∈ tbG)
def sLink (own : String) (idx : Nat) (m2 : MI) (n : Nat) : Prop := okName m2.1 n = true ∧ m2.2.2.1 ≤ 18 ∧ (∀ w ∈ ([.methodLink own idx m2.1, .static m2.1, .initialized m2.1.cls, .code m2.1 m2.2.1 m2.2.2.1 m2.2.2.2] : List Cond), w ∈ tbG)
def iLink (own : String) (idx : Nat) (m2 : MI) (n : Nat) : Prop := okName m2.1 n = true ∧ m2.2.2.1 ≤ 18 ∧ m2.1.name = "<init>" ∧ m2.2.2.2 = none ∧ (∀ w ∈ ([.methodLink own idx m2.1, .instanceMethod m2.1, .initialized m2.1.cls, .code m2.1 m2.2.1 m2.2.2.1 none] : List Cond), w ∈ tbG)
/-- the three nest mates' calls -/
def snLink (own : String) (idx : Nat) (m2 : MI) (n : Nat) (host : String) : Prop := okName m2.1 n = true ∧ m2.2.2.1 ≤ 18 ∧ Cond.methodLinkNest own idx m2.1 host ∈ nests ∧ (∀ w ∈ ([.static m2.1, .initialized m2.1.cls, .code m2.1 m2.2.1 m2.2.2.1 m2.2.2.2] : List Cond), w ∈ tbG)
def inLink (own : String) (idx : Nat) (m2 : MI) (n : Nat) (host : String) : Prop := okName m2.1 n = true ∧ m2.2.2.1 ≤ 18 ∧ m2.1.name = "<init>" ∧ m2.2.2.2 = none ∧ Cond.methodLinkNest own idx m2.1 host ∈ nests ∧ (∀ w ∈ ([.instanceMethod m2.1, .initialized m2.1.cls, .code m2.1 m2.2.1 m2.2.2.1 none] : List Cond), w ∈ tbG)
abbrev yi2f : MethodName := ⟨"java/lang/Float", "intBitsToFloat", "(I)F"⟩
