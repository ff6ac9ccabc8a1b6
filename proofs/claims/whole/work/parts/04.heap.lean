/-! ===== the tables' good words, and those that aren't ===== -/
def tbG : List Cond := lw_tbl.filter goodWord
theorem tbG_good : GoodIn tbG tbG := fun w h => ⟨h, good_of_word (List.mem_filter.mp h).2⟩
theorem tbG_sub : ∀ w ∈ tbG, w ∈ lw_tbl := fun w h => (List.mem_filter.mp h).1
def nests : List Cond := [.methodLinkNest RX2 11 yX8_isWithin RX8, .methodLinkNest RX8 369 yX1_init RX8, .methodLinkNest RX8 271 yX3_init RX8]
theorem tb_nests : ∀ w ∈ nests, w ∈ lw_tbl := by decide +kernel
/-! ===== the abstract heap: size; kind and length of each cell; its ints, references, longs and floats ===== -/
abbrev AH : Type := Nat × (Nat → Nat × Nat) × (Nat → Nat → Int32) × (Nat → Nat → Option Nat) × (Nat → Nat → Int64) × (Nat → Nat → UInt32)
def hz (h : AH) : Nat := h.1
def hm (h : AH) (a : Nat) : Nat × Nat := h.2.1 a
def hk (h : AH) (a : Nat) : Nat := (h.2.1 a).1
def hn (h : AH) (a : Nat) : Nat := (h.2.1 a).2
def hi (h : AH) (a k : Nat) : Int32 := h.2.2.1 a k
def hr (h : AH) (a k : Nat) : Option Nat := h.2.2.2.1 a k
def hl (h : AH) (a k : Nat) : Int64 := h.2.2.2.2.1 a k
def hf (h : AH) (a k : Nat) : UInt32 := h.2.2.2.2.2 a k
def up2 {α : Type} (f : Nat → Nat → α) (a k : Nat) (v : α) : Nat → Nat → α := fun a' k' => if a' = a ∧ k' = k then v else f a' k'
def up1 {α : Type} (f : Nat → Nat → α) (a : Nat) (v : α) : Nat → Nat → α := fun a' k' => if a' = a then v else f a' k'
def wi (h : AH) (a k : Nat) (v : Int32) : AH := (h.1, h.2.1, up2 h.2.2.1 a k v, h.2.2.2.1, h.2.2.2.2.1, h.2.2.2.2.2)
def wq (h : AH) (a k : Nat) (v : Option Nat) : AH := (h.1, h.2.1, h.2.2.1, up2 h.2.2.2.1 a k v, h.2.2.2.2.1, h.2.2.2.2.2)
def wl (h : AH) (a k : Nat) (v : Int64) : AH := (h.1, h.2.1, h.2.2.1, h.2.2.2.1, up2 h.2.2.2.2.1 a k v, h.2.2.2.2.2)
def wf (h : AH) (a k : Nat) (v : UInt32) : AH := (h.1, h.2.1, h.2.2.1, h.2.2.2.1, h.2.2.2.2.1, up2 h.2.2.2.2.2 a k v)
def nw (h : AH) (kd n : Nat) : AH := (h.1 + 1, (fun a => if a = h.1 then (kd, n) else h.2.1 a), up1 h.2.2.1 h.1 0, up1 h.2.2.2.1 h.1 none, up1 h.2.2.2.2.1 h.1 0, up1 h.2.2.2.2.2 h.1 0)
def Ext (h h' : AH) : Prop := hz h ≤ hz h' ∧ ∀ a, a < hz h → hm h' a = hm h a
theorem Ext.rf (h : AH) : Ext h h := ⟨Nat.le_refl _, fun _ _ => rfl⟩
theorem Ext.tr {a b c : AH} (x : Ext a b) (y : Ext b c) : Ext a c := ⟨Nat.le_trans x.1 y.1, fun q hq => (y.2 q (Nat.lt_of_lt_of_le hq x.1)).trans (x.2 q hq)⟩
theorem Ext.wi (h : AH) (a k : Nat) (v : Int32) : Ext h (wi h a k v) := ⟨Nat.le_refl _, fun _ _ => rfl⟩
theorem Ext.wq (h : AH) (a k : Nat) (v : Option Nat) : Ext h (wq h a k v) := ⟨Nat.le_refl _, fun _ _ => rfl⟩
theorem Ext.wl (h : AH) (a k : Nat) (v : Int64) : Ext h (wl h a k v) := ⟨Nat.le_refl _, fun _ _ => rfl⟩
theorem Ext.wf (h : AH) (a k : Nat) (v : UInt32) : Ext h (wf h a k v) := ⟨Nat.le_refl _, fun _ _ => rfl⟩
theorem Ext.nw (h : AH) (kd n : Nat) : Ext h (nw h kd n) := ⟨Nat.le_succ _, fun a ha => if_neg (Nat.ne_of_lt ha)⟩
def psum (f : Nat → Nat) (a : Nat) : Nat → Nat
  | 0 => 0
  | n + 1 => psum f a n + f (a + n)
theorem psum_congr {f g : Nat → Nat} {a : Nat} : ∀ {n : Nat}, (∀ i, i < n → f (a + i) = g (a + i)) → psum f a n = psum g a n
  | 0, _ => rfl
  | n + 1, h => by
    show psum f a n + f (a + n) = psum g a n + g (a + n)
    rw [psum_congr (fun i hi => h i (Nat.lt_succ_of_lt hi)), h n (Nat.lt_succ_self n)]
theorem psum_app (f : Nat → Nat) (a n : Nat) : ∀ k, psum f a (n + k) = psum f a n + psum f (a + n) k
  | 0 => rfl
  | k + 1 => by
    show psum f a (n + k) + f (a + (n + k)) = psum f a n + (psum f (a + n) k + f (a + n + k))
    rw [psum_app f a n k, Nat.add_assoc a n k, Nat.add_assoc]
/-! ===== what a run knows: B the first address of its own, b L xs the script, the classes' numbers ===== -/
abbrev GG : Type := Nat × Nat × Nat × (Nat → Int32) × va_G × (Nat → ClassId)
def gB (G : GG) : Nat := G.1
def gb (G : GG) : Nat := G.2.1
def gL (G : GG) : Nat := G.2.2.1
def gx (G : GG) : Nat → Int32 := G.2.2.2.1
def gD (G : GG) : va_G := G.2.2.2.2.1
def gA (G : GG) : Nat → ClassId := G.2.2.2.2.2
def aks : List Nat := [20, 21, 22, 23, 24, 30, 31, 33, 34]
def elt : Nat → FieldType := fun k => match k with
  | 20 => .int
  | 21 => .byte
  | 22 => .short
  | 23 => .long
  | 24 => .boolean
  | 30 => .object RX0
  | 31 => .object RX1
  | 33 => .object RX4
  | 34 => .object RX5
  | _ => .int
def tyo : Nat → Nat → FieldType := fun c => match c with
  | 0 => tyX0
  | 1 => tyX1
  | 2 => tyX3
  | 3 => tyX4
  | 4 => tyX5
  | 5 => tyX6
  | 6 => tyX7
  | 7 => tyX8
  | _ => tyX9
/-- the type of place k of a cell of kind kd -/
def tyk (kd k : Nat) : FieldType := if kd < 9 then tyo kd k else elt kd
def val (h : AH) (a : Nat) (ty : FieldType) (k : Nat) : Value := match ty with
  | .object _ | .array _ => va_rf (hr h a k)
  | .long => .long (hl h a k)
  | .float => .float (hf h a k)
  | _ => .int (hi h a k)
def ixk (G : GG) (kd k : Nat) : Nat := if kd < 9 then (gD G).2 kd k else k
def cOK (G : GG) (h : AH) (a : Nat) (cell : Cell) : Prop :=
  cell.vm = .none ∧ cell.slots.size = hn h a ∧ ((hk h a < 9 ∧ cell.cls = (gD G).1 (hk h a) ∧ ∃ r, vwCl[hk h a]? = some r ∧ r.2.2 = hn h a) ∨ (9 ≤ hk h a ∧ hk h a ∈ aks ∧ cell.cls = gA G (hk h a))) ∧
  ∀ k, k < hn h a → cell.slots[ixk G (hk h a) k]? = some (val h a (tyk (hk h a) k) k)
def us (G : GG) (h : AH) : Nat := psum (hn h) (gB G) (hz h - gB G)
def Rp (G : GG) (s : State) (h : AH) (H : Heap) : Prop :=
  H.size = hz h ∧ gB G ≤ hz h ∧ hz h ≤ gB G + 600000 ∧ us G h ≤ 7302250 ∧ (∀ a, gB G ≤ a → a < hz h → ∃ cell, H[a]? = some cell ∧ cOK G h a cell) ∧
  (∀ a, hk h a ≠ 99 → a = gb G ∨ (gB G ≤ a ∧ a < hz h)) ∧ gb G < gB G ∧ hk h (gb G) = 19 ∧ hn h (gb G) = gL G ∧ (∀ j, hi h (gb G) j = gx G j) ∧ va_X (gb G) (gL G) (gx G) s H
def tys (G : GG) : List (ClassId × FieldType) := aks.map fun k => (gA G k, elt k)
def Kx (G : GG) (s : State) : Prop := va_K (gD G) vwCl (tys G) s ∧ (∀ w ∈ nests, va_Nw w s) ∧ va_AO RX0 s ∧ va_AO RX1 s ∧ va_AO RX4 s ∧ va_AO RX5 s
theorem Kx.warm {G : GG} {s U : State} (hW : s.WarmedH U.vm) (h : Kx G s) : Kx G U := by
  obtain ⟨h1, h2, h3, h4, h5, h6⟩ := h
  refine ⟨va_K.moved hW.alike h1, fun w hw => ?_, va_AO.moved hW.alike h3, va_AO.moved hW.alike h4, va_AO.moved hW.alike h5, va_AO.moved hW.alike h6⟩
  have hz := h2 w hw
  simp only [nests, List.mem_cons, List.not_mem_nil, or_false] at hw
  rcases hw with rfl | rfl | rfl <;> exact va_Nw.warmM hW hz
theorem Rp.warm {G : GG} {s U : State} {h : AH} {H : Heap} (hW : s.WarmedH U.vm) (r : Rp G s h H) : Rp G U h H := by
  obtain ⟨h1, h2, h3, h4, h5, h6, h7, h8, h9, h10, h11⟩ := r
  exact ⟨h1, h2, h3, h4, h5, h6, h7, h8, h9, h10, va_X.moved hW.alike h11⟩
