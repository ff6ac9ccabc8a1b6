/-! ===== rules: an instruction each ===== -/
section RULES
variable {G : GG} {d : Nat} {mi : MI} {pc : Nat} {l l' : List (Nat × Value)} {st st2 : List Value} {h h2 : AH} {Q : Option Value → AH → Prop}
theorem x_getf {idx ci k a : Nat} {v : Value} (hd : decode mi.2.1 pc = .ok (.getfield idx, 3)) (hf : fLink mi.1.cls idx ci k) (ha : hk h a = ci) (hv : val h a (tyo ci k) k = v) (kk : Rn G d mi (pc + 3) l (v :: st) h Q) : Rn G d mi pc l (.ref a :: st) h Q := by
  intro p la e R s m args below meth c H locs QF d0 ls C K
  obtain ⟨r, hc, hkr, hlink⟩ := hf
  have hlt := cls_lt hc
  obtain ⟨c1, c2, c3, -⟩ := cls_ok ci r hc
  obtain ⟨l1, l2, cell, hcell, o1, o2, o3, o4⟩ := C.rp.live ha (by omega) (by omega)
  obtain ⟨hS, hfc, kC, hkC, hkind⟩ := C.kx.1.1 ci r hc
  obtain ⟨cf, kf, fi, f, hfi, hsl⟩ := hS k hkr
  have hkn : k < hn h a := by
    rcases o3 with ⟨g1, g2, r2, g3, g4⟩ | ⟨g1, -⟩
    · rw [ha, hc] at g3
      cases g3
      rw [← g4]; exact hkr
    · omega
  refine W.getf C.hx C.hb C.own (C.hts _ hlink) (cf := cf) (k := kf) (i := fi) (f := f) hfi (u_facts (args := args) hfc hkC (u_lays (C.hts) c1 hkr) hfi).1 hcell (by rw [o1]; intro z; cases z) (v := v) ?_ rfl rfl hd (kk p la e R s m args below meth c H locs QF d0 ls C K)
  have := o4 k hkn
  rw [ha] at this
  unfold ixk tyk at this
  rw [if_pos hlt, if_pos hlt] at this
  rw [hsl, this, hv]
/-- what a final field wants -/
def finOK (mi : MI) (ci k : Nat) : Prop := ∃ r, vwCl[ci]? = some r ∧ ((r.2.1 k).2.2.2 = false ∨ ((r.2.1 k).2.2.2 = true ∧ mi.1.name = "<init>" ∧ (r.2.1 k).1 = mi.1.cls))
theorem Ctx.moved {p : Program} {R : Room} {s : State} {m : MethodId} {args : Array Value} {meth : Method} {c : Code} {H H2 : Heap} {locs : List Loc} {d0 : Drawn} {ls : Array Slot} {q : Loc} (C : Ctx G d mi l h p R s m args meth c H locs d0 ls) (h1 : h2.1 = h.1) (hm2 : h2.2.1 = h.2.1) (r : Rp G s h2 H2) (hq : gB G ≤ q.base) : Ctx G d mi l h2 p R s m args meth c H2 (locs ++ [q]) d0 ls := by
  obtain ⟨c1, c2, c3, c4, c5, c6, c7, c8, c9⟩ := C
  have ehn : hn h2 = hn h := funext fun q => by unfold hn; rw [hm2]
  refine ⟨c1, c2, c3, c4, by unfold hz; rw [h1]; exact c5, c6, by rw [ehn]; exact c7, r, fun x hx => ?_⟩
  rcases List.mem_append.mp hx with z | z
  · exact c9 x z
  · rw [List.mem_singleton.mp z]; exact hq
theorem Wn.same {p : Program} {la : Launch} {e : Env} {R : Room} {s : State} {m : MethodId} {args : Array Value} {below : List Frame} {meth : Method} {c : Code} {H : Heap} {locs : List Loc} {QF : State → Prop} {d0 : Drawn} {ls : Array Slot} (h1 : h2.1 = h.1) (hm2 : h2.2.1 = h.2.1) (w : Wn h2 p la e R s m args below meth c H locs QF d0 ls pc st) : W p la e R (s.setDrawn d0) m args below meth c H locs (hz h - s.heap.size) (psum (hn h) s.heap.size (hz h - s.heap.size)) QF (F0 m pc ls st) := by
  have ehn : hn h2 = hn h := funext fun q => by unfold hn; rw [hm2]
  have ehz : hz h2 = hz h := h1
  unfold Wn at w
  rw [ehn, ehz] at w
  exact w
theorem x_put {idx ci k a : Nat} {v : Value} (hd : decode mi.2.1 pc = .ok (.putfield idx, 3)) (hf : fLink mi.1.cls idx ci k) (hfin : finOK mi ci k) (ha : hk h a = ci) (hn1 : narrow (tyo ci k) v = v) (hfit : fits (tyo ci k) v = true) (u : upd1 h h2 a k v) (kk : Rn G d mi (pc + 3) l st h2 Q) : Rn G d mi pc l (v :: .ref a :: st) h Q := by
  intro p la e R s m args below meth c H locs QF d0 ls C K
  obtain ⟨r, hc, hkr, hlink⟩ := hf
  have hlt := cls_lt hc
  obtain ⟨c1, c2, c3, -⟩ := cls_ok ci r hc
  obtain ⟨l1, l2, cell, hcell, ok⟩ := C.rp.live ha (by omega) (by omega)
  obtain ⟨o1, o2, o3, o4⟩ := id ok
  obtain ⟨hS, hfc, kC, hkC, hkind⟩ := C.kx.1.1 ci r hc
  obtain ⟨cf, kf, fi, f, hfi, hsl⟩ := hS k hkr
  have hcls : cell.cls = (gD G).1 ci := by
    rcases o3 with ⟨g1, g2, -⟩ | ⟨g1, -⟩
    · rw [ha] at g2; exact g2
    · omega
  have hkn : k < hn h a := by
    rcases o3 with ⟨g1, g2, r2, g3, g4⟩ | ⟨g1, -⟩
    · rw [ha, hc] at g3
      cases g3
      rw [← g4]; exact hkr
    · omega
  have hix : ixk G ci k = f.slot := by unfold ixk; rw [if_pos hlt, hsl]
  have hsz : f.slot < cell.slots.size := by
    have := o4 k hkn
    rw [ha, hix] at this
    exact k2_hasslot this
  have hst := (u_facts (args := args) (s := s.setDrawn d0) hfc hkC (u_lays C.hts c1 hkr) hfi).1
  have fin : ∀ H' : Heap, H'[a]? = some (cell.setSlot f.slot v) → H'.size = H.size → (∀ q, q ≠ a → H'[q]? = H[q]?) → W p la e R (s.setDrawn d0) m args below meth c H' (locs ++ [⟨a, f.slot⟩]) (hz h - s.heap.size) (psum (hn h) s.heap.size (hz h - s.heap.size)) QF (F0 m (pc + 3) ls st) := by
    intro H' e1 e2 e3
    have rp := C.rp.put (args := args) C.1.2.2.2.2.2.2.2.1 C.kx u ha (by omega) (by omega) hkn hcell (by rw [hix]; exact e1) e2 e3
    exact Wn.same u.1 u.2.1 (kk p la e R s m args below meth c H' _ QF d0 ls (C.moved u.1 u.2.1 rp l1) (K.ext ⟨Nat.le_of_eq u.1.symm, fun q _ => by unfold hm; rw [u.2.1]⟩))
  obtain ⟨r', hr', hfin⟩ := hfin
  cases hc.symm.trans hr'
  have hlay := C.hts _ (c1 _ (u_in_lay hkr))
  unfold u_lay at hlay
  rcases hfin with hff | ⟨hft, hin, hdecl⟩
  · rw [if_neg (by rw [hff]; decide)] at hlay
    have h6 := u_store (args := args) (s := s.setDrawn d0) hfc hkC hkind hlay hfi (c2 k hkr) hn1 hfit
    exact W.putK C.hx C.hb (f := f) ⟨C.own, C.hts _ hlink, ⟨_, _, _, hfi⟩, hst⟩ (by rw [hcls]; exact h6) hcell o1 hsz rfl rfl hd fin
  · rw [if_pos hft] at hlay
    have hcf : m.cls = cf := by
      obtain ⟨_, _, c', _, _, _, -, -, hf', -, -, -, hown2, -⟩ := Cond.laysFinal_spec hlay
      have e1 : c' = cf := by have := hfi.symm.trans hf'; simp at this; exact this.1.symm
      rw [hdecl] at hown2
      rw [← e1]; exact Option.some.inj (C.own.symm.trans hown2)
    have h6 := u_fits (args := args) (s := s.setDrawn d0) hfc hkC hkind (Or.inr hlay) hfi (c2 k hkr) hn1 hfit
    exact W.putFinK C.hx C.hb C.own (C.hts _ hlink) hfi hst hcf (C.1.2.2.2.2.2.2.1 hin) (by rw [hcls]; exact h6) hcell o1 hsz rfl rfl hd fin
/-! arrays -/
theorem arrcell {p : Program} {R : Room} {s : State} {m : MethodId} {args : Array Value} {meth : Method} {c : Code} {H : Heap} {locs : List Loc} {d0 : Drawn} {ls : Array Slot} {a kd : Nat} (C : Ctx G d mi l h p R s m args meth c H locs d0 ls) (ha : hk h a = kd) (hkd : kd ∈ aks) :
    gB G ≤ a ∧ a < hz h ∧ ∃ cell, H[a]? = some cell ∧ cOK G h a cell ∧ (s.setDrawn d0).isArrayOf cell (elt kd) ∧ cell.vm ≠ .unknown ∧ cell.slots.size = hn h a ∧ cell.cls = gA G kd ∧ ∀ k, k < hn h a → cell.slots[k]? = some (val h a (elt kd) k) := by
  have hge : 9 ≤ kd ∧ kd ≠ 99 ∧ kd ≠ 19 := by
    simp only [aks, List.mem_cons, List.not_mem_nil, or_false] at hkd
    omega
  obtain ⟨l1, l2, cell, hcell, ok⟩ := C.rp.live ha hge.2.1 hge.2.2
  obtain ⟨o1, o2, o3, o4⟩ := id ok
  have hcls : cell.cls = gA G kd := by
    rcases o3 with ⟨g1, -⟩ | ⟨g1, g2, g3⟩
    · omega
    · rw [ha] at g3; exact g3
  refine ⟨l1, l2, cell, hcell, ok, C.kx.arr hkd hcls o1, (by rw [o1]; intro z; cases z), o2, hcls, fun k hk => ?_⟩
  have := o4 k hk
  rw [ha] at this
  unfold ixk tyk at this
  rw [if_neg (by omega), if_neg (by omega)] at this
  exact this
theorem ix_in {i : Int32} {n : Nat} (hi : 0 ≤ i.toInt ∧ i.toInt < n) : ¬ (i < 0 ∨ n ≤ i.toNatClampNeg) := (vp_in_iff (x := i)).mpr hi
theorem ix_eq (i : Int32) : i.toNatClampNeg = i.toInt.toNat := rfl
theorem x_alen {a kd : Nat} (hd : decode mi.2.1 pc = .ok (.arraylength, 1)) (ha : hk h a = kd) (hkd : kd ∈ aks) (kk : Rn G d mi (pc + 1) l (.int (Int32.ofNat (hn h a)) :: st) h Q) : Rn G d mi pc l (.ref a :: st) h Q := by
  intro p la e R s m args below meth c H locs QF d0 ls C K
  obtain ⟨l1, l2, cell, hcell, ok, har, hkn, hsz, hcls, hval⟩ := arrcell C ha hkd
  exact W.alen C.hx C.hb hcell har (by rw [hsz]) rfl rfl hd (kk p la e R s m args below meth c H locs QF d0 ls C K)
theorem Rp.scr {s : State} {H : Heap} {a : Nat} (r : Rp G s h H) (ha : hk h a = 19) : a = gb G ∧ hn h (gb G) = gL G ∧ (∀ j, hi h (gb G) j = gx G j) ∧ va_X (gb G) (gL G) (gx G) s H := by
  obtain ⟨-, -, -, -, h5, h6, -, -, h9, h10, h11⟩ := r
  refine ⟨?_, h9, h10, h11⟩
  rcases h6 a (by rw [ha]; decide) with z | ⟨z1, z2⟩
  · exact z
  · obtain ⟨cell, q1, o1, o2, o3, -⟩ := h5 a z1 z2
    rw [ha] at o3
    rcases o3 with ⟨g1, -⟩ | ⟨-, g2, -⟩
    · exact absurd g1 (by decide)
    · exact absurd g2 (by decide)
theorem x_slen (hd : decode mi.2.1 pc = .ok (.arraylength, 1)) {a : Nat} (ha : hk h a = 19) (kk : Rn G d mi (pc + 1) l (.int (Int32.ofNat (hn h a)) :: st) h Q) : Rn G d mi pc l (.ref a :: st) h Q := by
  intro p la e R s m args below meth c H locs QF d0 ls C K
  obtain ⟨hab, h9, h10, scr, x1, x2, x3, x4, x5⟩ := C.rp.scr ha
  subst hab
  have x2 : (s.setDrawn d0).isArrayOf scr .int := x2
  exact W.alen (ty := .int) C.hx C.hb x1 x2 (by rw [x4, h9]) rfl rfl hd (kk p la e R s m args below meth c H locs QF d0 ls C K)
theorem x_sld (hd : decode mi.2.1 pc = .ok (.iaload, 1)) {a : Nat} {i : Int32} (ha : hk h a = 19) (hin : 0 ≤ i.toInt ∧ i.toInt < hn h a) (kk : Rn G d mi (pc + 1) l (.int (hi h a i.toInt.toNat) :: st) h Q) : Rn G d mi pc l (.int i :: .ref a :: st) h Q := by
  intro p la e R s m args below meth c H locs QF d0 ls C K
  obtain ⟨hab, h9, h10, scr, x1, x2, x3, x4, x5⟩ := C.rp.scr ha
  subst hab
  have x2 : (s.setDrawn d0).isArrayOf scr .int := x2
  rw [h9] at hin
  exact W.iald C.hx C.hb x1 x2 x3 (by rw [x4]; exact ix_in hin) (by rw [h10, ix_eq]; exact x5 _ (by omega)) rfl rfl hd (kk p la e R s m args below meth c H locs QF d0 ls C K)
theorem x_iald {a : Nat} {i : Int32} (hd : decode mi.2.1 pc = .ok (.iaload, 1)) (ha : hk h a = 20) (hin : 0 ≤ i.toInt ∧ i.toInt < hn h a) (kk : Rn G d mi (pc + 1) l (.int (hi h a i.toInt.toNat) :: st) h Q) : Rn G d mi pc l (.int i :: .ref a :: st) h Q := by
  intro p la e R s m args below meth c H locs QF d0 ls C K
  obtain ⟨l1, l2, cell, hcell, ok, har, hkn, hsz, hcls, hval⟩ := arrcell C ha (by decide)
  exact W.iald C.hx C.hb hcell har hkn (by rw [hsz]; exact ix_in hin) (hval _ (by rw [ix_eq]; omega)) rfl rfl hd (kk p la e R s m args below meth c H locs QF d0 ls C K)
theorem x_bald {a : Nat} {i : Int32} (hd : decode mi.2.1 pc = .ok (.baload, 1)) (ha : hk h a = 21) (hin : 0 ≤ i.toInt ∧ i.toInt < hn h a) (kk : Rn G d mi (pc + 1) l (.int (hi h a i.toInt.toNat) :: st) h Q) : Rn G d mi pc l (.int i :: .ref a :: st) h Q := by
  intro p la e R s m args below meth c H locs QF d0 ls C K
  obtain ⟨l1, l2, cell, hcell, ok, har, hkn, hsz, hcls, hval⟩ := arrcell C ha (by decide)
  exact W.bald C.hx C.hb hcell har hkn (by rw [hsz]; exact ix_in hin) (hval _ (by rw [ix_eq]; omega)) rfl rfl hd (kk p la e R s m args below meth c H locs QF d0 ls C K)
theorem x_zald {a : Nat} {i : Int32} (hd : decode mi.2.1 pc = .ok (.baload, 1)) (ha : hk h a = 24) (hin : 0 ≤ i.toInt ∧ i.toInt < hn h a) (kk : Rn G d mi (pc + 1) l (.int (hi h a i.toInt.toNat) :: st) h Q) : Rn G d mi pc l (.int i :: .ref a :: st) h Q := by
  intro p la e R s m args below meth c H locs QF d0 ls C K
  obtain ⟨l1, l2, cell, hcell, ok, har, hkn, hsz, hcls, hval⟩ := arrcell C ha (by decide)
  exact W.zald C.hx C.hb hcell har hkn (by rw [hsz]; exact ix_in hin) (hval _ (by rw [ix_eq]; omega)) rfl rfl hd (kk p la e R s m args below meth c H locs QF d0 ls C K)
theorem x_sald {a : Nat} {i : Int32} (hd : decode mi.2.1 pc = .ok (.saload, 1)) (ha : hk h a = 22) (hin : 0 ≤ i.toInt ∧ i.toInt < hn h a) (kk : Rn G d mi (pc + 1) l (.int (hi h a i.toInt.toNat) :: st) h Q) : Rn G d mi pc l (.int i :: .ref a :: st) h Q := by
  intro p la e R s m args below meth c H locs QF d0 ls C K
  obtain ⟨l1, l2, cell, hcell, ok, har, hkn, hsz, hcls, hval⟩ := arrcell C ha (by decide)
  exact W.sald C.hx C.hb hcell har hkn (by rw [hsz]; exact ix_in hin) (hval _ (by rw [ix_eq]; omega)) rfl rfl hd (kk p la e R s m args below meth c H locs QF d0 ls C K)
theorem x_lald {a : Nat} {i : Int32} (hd : decode mi.2.1 pc = .ok (.laload, 1)) (ha : hk h a = 23) (hin : 0 ≤ i.toInt ∧ i.toInt < hn h a) (kk : Rn G d mi (pc + 1) l (.long (hl h a i.toInt.toNat) :: st) h Q) : Rn G d mi pc l (.int i :: .ref a :: st) h Q := by
  intro p la e R s m args below meth c H locs QF d0 ls C K
  obtain ⟨l1, l2, cell, hcell, ok, har, hkn, hsz, hcls, hval⟩ := arrcell C ha (by decide)
  exact W.lald C.hx C.hb hcell har hkn (by rw [hsz]; exact ix_in hin) (hval _ (by rw [ix_eq]; omega)) rfl rfl hd (kk p la e R s m args below meth c H locs QF d0 ls C K)
theorem x_aald {a kd : Nat} {i : Int32} {v : Value} (hd : decode mi.2.1 pc = .ok (.aaload, 1)) (ha : hk h a = kd) (hkd : kd ∈ [30, 31, 33, 34]) (hin : 0 ≤ i.toInt ∧ i.toInt < hn h a) (hv : va_rf (hr h a i.toInt.toNat) = v) (kk : Rn G d mi (pc + 1) l (v :: st) h Q) : Rn G d mi pc l (.int i :: .ref a :: st) h Q := by
  intro p la e R s m args below meth c H locs QF d0 ls C K
  have hkd' : kd ∈ aks ∧ ∃ C, elt kd = .object C := by
    simp only [List.mem_cons, List.not_mem_nil, or_false] at hkd
    rcases hkd with rfl | rfl | rfl | rfl <;> exact ⟨by decide, _, rfl⟩
  obtain ⟨hkd, C0, hel⟩ := hkd'
  obtain ⟨l1, l2, cell, hcell, ok, har, hkn, hsz, hcls, hval⟩ := arrcell C ha hkd
  rw [hel] at har hval
  exact W.aald (ty := .object C0) C.hx C.hb hcell har rfl hkn (by rw [hsz]; exact ix_in hin) (v := v) (by rw [← hv]; exact hval _ (by rw [ix_eq]; omega)) rfl rfl hd (kk p la e R s m args below meth c H locs QF d0 ls C K)
/-- behind a store into an array -/
theorem arrput {p : Program} {la : Launch} {e : Env} {R : Room} {s : State} {m : MethodId} {args : Array Value} {below : List Frame} {meth : Method} {c : Code} {H : Heap} {locs : List Loc} {QF : State → Prop} {d0 : Drawn} {ls : Array Slot} {a kd : Nat} {i : Int32} {v : Value} {pc2 : Nat} (C : Ctx G d mi l h p R s m args meth c H locs d0 ls) (K : Hdl G mi h Q p la e R s m args below meth c QF) (ha : hk h a = kd) (hkd : kd ∈ aks) (hin : 0 ≤ i.toInt ∧ i.toInt < hn h a) (u : upd1 h h2 a i.toInt.toNat v) (kk : Rn G d mi pc2 l st h2 Q) {cell : Cell} (hcell : H[a]? = some cell) :
    ∀ H' : Heap, H'[a]? = some (cell.setSlot i.toNatClampNeg v) → H'.size = H.size → (∀ q, q ≠ a → H'[q]? = H[q]?) → W p la e R (s.setDrawn d0) m args below meth c H' (locs ++ [⟨a, i.toNatClampNeg⟩]) (hz h - s.heap.size) (psum (hn h) s.heap.size (hz h - s.heap.size)) QF (F0 m pc2 ls st) := by
  intro H' e1 e2 e3
  have hge : 9 ≤ kd ∧ kd ≠ 99 ∧ kd ≠ 19 := by
    simp only [aks, List.mem_cons, List.not_mem_nil, or_false] at hkd
    omega
  have l1 := (C.rp.live ha hge.2.1 hge.2.2).1
  have rp := C.rp.put (args := args) C.1.2.2.2.2.2.2.2.1 C.kx u ha hge.2.1 hge.2.2 (by omega) hcell (by unfold ixk; rw [if_neg (by omega)]; exact e1) e2 e3
  exact Wn.same u.1 u.2.1 (kk p la e R s m args below meth c H' _ QF d0 ls (C.moved u.1 u.2.1 rp l1) (K.ext ⟨Nat.le_of_eq u.1.symm, fun q _ => by unfold hm; rw [u.2.1]⟩))
theorem wi_ok {a k kd : Nat} {x : Int32} (ha : hk h a = kd) (hkd : kd ∈ [20, 21, 22, 24]) : upd1 h (wi h a k x) a k (.int x) := by
  refine upd_wi ?_
  rw [ha]
  simp only [List.mem_cons, List.not_mem_nil, or_false] at hkd
  rcases hkd with rfl | rfl | rfl | rfl <;> (show Value.int (up2 h.2.2.1 a k x a k) = _; simp [up2])
theorem x_iast {a : Nat} {i x : Int32} (hd : decode mi.2.1 pc = .ok (.iastore, 1)) (ha : hk h a = 20) (hin : 0 ≤ i.toInt ∧ i.toInt < hn h a) (kk : Rn G d mi (pc + 1) l st (wi h a i.toInt.toNat x) Q) : Rn G d mi pc l (.int x :: .int i :: .ref a :: st) h Q := by
  intro p la e R s m args below meth c H locs QF d0 ls C K
  obtain ⟨l1, l2, cell, hcell, ok, har, hkn, hsz, hcls, hval⟩ := arrcell C ha (by decide)
  exact W.iast C.hx C.hb hcell har hkn (by rw [hsz]; exact ix_in hin) rfl rfl hd (arrput C K ha (by decide) hin (wi_ok ha (by decide)) kk hcell)
theorem x_bast {a : Nat} {i x : Int32} (hd : decode mi.2.1 pc = .ok (.bastore, 1)) (ha : hk h a = 21) (hin : 0 ≤ i.toInt ∧ i.toInt < hn h a) (kk : Rn G d mi (pc + 1) l st (wi h a i.toInt.toNat x.toInt8.toInt32) Q) : Rn G d mi pc l (.int x :: .int i :: .ref a :: st) h Q := by
  intro p la e R s m args below meth c H locs QF d0 ls C K
  obtain ⟨l1, l2, cell, hcell, ok, har, hkn, hsz, hcls, hval⟩ := arrcell C ha (by decide)
  exact W.bast C.hx C.hb hcell har hkn (by rw [hsz]; exact ix_in hin) rfl rfl hd (arrput C K ha (by decide) hin (wi_ok ha (by decide)) kk hcell)
theorem x_zast {a : Nat} {i x : Int32} (hd : decode mi.2.1 pc = .ok (.bastore, 1)) (ha : hk h a = 24) (hin : 0 ≤ i.toInt ∧ i.toInt < hn h a) (kk : Rn G d mi (pc + 1) l st (wi h a i.toInt.toNat (x &&& 1)) Q) : Rn G d mi pc l (.int x :: .int i :: .ref a :: st) h Q := by
  intro p la e R s m args below meth c H locs QF d0 ls C K
  obtain ⟨l1, l2, cell, hcell, ok, har, hkn, hsz, hcls, hval⟩ := arrcell C ha (by decide)
  exact W.zast C.hx C.hb hcell har hkn (by rw [hsz]; exact ix_in hin) rfl rfl hd (arrput C K ha (by decide) hin (wi_ok ha (by decide)) kk hcell)
theorem x_sast {a : Nat} {i x : Int32} (hd : decode mi.2.1 pc = .ok (.sastore, 1)) (ha : hk h a = 22) (hin : 0 ≤ i.toInt ∧ i.toInt < hn h a) (kk : Rn G d mi (pc + 1) l st (wi h a i.toInt.toNat x.toInt16.toInt32) Q) : Rn G d mi pc l (.int x :: .int i :: .ref a :: st) h Q := by
  intro p la e R s m args below meth c H locs QF d0 ls C K
  obtain ⟨l1, l2, cell, hcell, ok, har, hkn, hsz, hcls, hval⟩ := arrcell C ha (by decide)
  exact W.sast C.hx C.hb hcell har hkn (by rw [hsz]; exact ix_in hin) rfl rfl hd (arrput C K ha (by decide) hin (wi_ok ha (by decide)) kk hcell)
theorem x_last {a : Nat} {i : Int32} {x : Int64} (hd : decode mi.2.1 pc = .ok (.lastore, 1)) (ha : hk h a = 23) (hin : 0 ≤ i.toInt ∧ i.toInt < hn h a) (kk : Rn G d mi (pc + 1) l st (wl h a i.toInt.toNat x) Q) : Rn G d mi pc l (.long x :: .int i :: .ref a :: st) h Q := by
  intro p la e R s m args below meth c H locs QF d0 ls C K
  obtain ⟨l1, l2, cell, hcell, ok, har, hkn, hsz, hcls, hval⟩ := arrcell C ha (by decide)
  exact W.last C.hx C.hb hcell har hkn (by rw [hsz]; exact ix_in hin) rfl rfl hd (arrput C K ha (by decide) hin (upd_wl (by rw [ha]; show Value.long (up2 h.2.2.2.2.1 a _ x a _) = _; simp [up2])) kk hcell)
theorem wq_ok {a k kd : Nat} {x : Option Nat} (ha : hk h a = kd) (hkd : kd ∈ [30, 31, 33, 34]) : upd1 h (wq h a k x) a k (va_rf x) := by
  refine upd_wq ?_
  rw [ha]
  simp only [List.mem_cons, List.not_mem_nil, or_false] at hkd
  rcases hkd with rfl | rfl | rfl | rfl <;> (show va_rf (up2 h.2.2.2.1 a k x a k) = _; simp [up2])
theorem x_aastN {a kd : Nat} {i : Int32} (hd : decode mi.2.1 pc = .ok (.aastore, 1)) (ha : hk h a = kd) (hkd : kd ∈ [30, 31, 33, 34]) (hin : 0 ≤ i.toInt ∧ i.toInt < hn h a) (kk : Rn G d mi (pc + 1) l st (wq h a i.toInt.toNat none) Q) : Rn G d mi pc l (.null :: .int i :: .ref a :: st) h Q := by
  intro p la e R s m args below meth c H locs QF d0 ls C K
  have hkd' : kd ∈ aks ∧ ∃ C, elt kd = .object C := by
    simp only [List.mem_cons, List.not_mem_nil, or_false] at hkd
    rcases hkd with rfl | rfl | rfl | rfl <;> exact ⟨by decide, _, rfl⟩
  obtain ⟨hkd2, C0, hel⟩ := hkd'
  obtain ⟨l1, l2, cell, hcell, ok, har, hkn, hsz, hcls, hval⟩ := arrcell C ha hkd2
  rw [hel] at har
  exact va_WaastN (C := C0) C.hx C.hb hcell har hkn (by rw [hsz]; exact ix_in hin) rfl rfl hd (arrput C K ha hkd2 hin (wq_ok ha hkd) kk hcell)
theorem Kx.ra {s : State} {kd : Nat} {C : String} (K : Kx G s) (hkd : kd ∈ aks) (hel : elt kd = .object C) : va_RA s (gA G kd) (.object C) := by
  have hm : (gA G kd, elt kd) ∈ tys G := List.mem_map.mpr ⟨kd, hkd, rfl⟩
  rw [hel] at hm
  obtain ⟨j, hj⟩ := List.getElem?_of_mem hm
  exact (K.1.2 j _ hj).2
theorem x_aast {a v ci kd : Nat} {i : Int32} {r : vw_C} (hd : decode mi.2.1 pc = .ok (.aastore, 1)) (ha : hk h a = kd) (hkd : kd ∈ [30, 31, 33, 34]) (hel : elt kd = .object r.1) (hc : vwCl[ci]? = some r) (hv : hk h v = ci) (hin : 0 ≤ i.toInt ∧ i.toInt < hn h a) (kk : Rn G d mi (pc + 1) l st (wq h a i.toInt.toNat (some v)) Q) : Rn G d mi pc l (.ref v :: .int i :: .ref a :: st) h Q := by
  intro p la e R s m args below meth c H locs QF d0 ls C K
  have hkd2 : kd ∈ aks := by
    simp only [List.mem_cons, List.not_mem_nil, or_false] at hkd
    rcases hkd with z | z | z | z <;> (rw [z]; decide)
  obtain ⟨l1, l2, cell, hcell, ok, har, hkn, hsz, hcls, hval⟩ := arrcell C ha hkd2
  have hlt := cls_lt hc
  obtain ⟨v1, v2, cv, hcv, w1, w2, w3, -⟩ := C.rp.live hv (by omega) (by omega)
  have hcvc : cv.cls = (gD G).1 ci := by
    rcases w3 with ⟨g1, g2, -⟩ | ⟨g1, -⟩
    · rw [hv] at g2; exact g2
    · omega
  have hKn := C.kx.1.1 ci r hc
  obtain ⟨kA, comp, k1, k2, k3, -⟩ := C.kx.ra hkd2 hel
  obtain ⟨kC, hkC, hkk⟩ := hKn.2.2
  have hcomp : comp = (gD G).1 ci := Option.some.inj (k3.symm.trans hKn.2.1)
  have b1 : ∀ q, cell.vm ≠ .statics q := fun q z => by rw [ok.1] at z; cases z
  have b2 : ∀ q, cv.vm ≠ .statics q := fun q z => by rw [w1] at z; cases z
  have b3 : (s.setDrawn d0).vm.classes[cell.cls]? = some kA := by rw [hcls]; exact k1
  have b4 : (s.setDrawn d0).vm.classes[comp]? = some kC := by rw [hcomp]; exact hkC
  have b5 : (s.setDrawn d0).vm.classes[cv.cls]? = some kC := by rw [hcvc]; exact hkC
  have b6 : (s.setDrawn d0).vm.assignable cv.cls comp = true := by rw [hcvc, hcomp]; exact va_assign (s := s) hKn.2
  have b7 : ¬ i < 0 ∧ i.toNatClampNeg < cell.slots.size := ⟨fun z => ix_in hin (Or.inl z), by rw [hsz, ix_eq]; omega⟩
  have fin := arrput C K ha hkd2 hin (wq_ok ha hkd) kk hcell
  exact W.aast C.hx C.hb hcell b1 hkn b3 k2 rfl b4 b7 hcv b2 b5 b6 rfl rfl hd fin
end RULES
