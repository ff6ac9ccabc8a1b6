/-! ===== making cells; calls ===== -/
theorem psum_head (f : Nat → Nat) : ∀ (k a : Nat), psum f a (k + 1) = f a + psum f (a + 1) k
  | 0, a => by simp [psum]
  | k + 1, a => by
    show psum f a (k + 1) + f (a + (k + 1)) = f a + (psum f (a + 1) k + f (a + 1 + k))
    rw [psum_head f k a, Nat.add_assoc, Nat.add_assoc a 1 k, Nat.add_comm 1 k]
theorem sum_drop {α : Type} (f : α → Nat) (L : List α) : ∀ (k n : Nat), L.length - n = k → n ≤ L.length → ((L.drop n).map f).sum = psum (fun a => ((L[a]?).map f).getD 0) n k
  | 0, n, hk, hn => by
    rw [List.drop_eq_nil_of_le (by omega)]
    rfl
  | k + 1, n, hk, hn => by
    have hlt : n < L.length := by omega
    rw [psum_head, List.drop_eq_getElem_cons hlt, List.map_cons, List.sum_cons, sum_drop f L k (n + 1) (by omega) (by omega)]
    simp [hlt]
theorem tyo_nd : ∀ (ci : Nat) (r : vw_C), vwCl[ci]? = some r → ∀ k, k < r.2.2 → tyo ci k ≠ .double
  | 0, _, h => by cases h; decide +kernel
  | 1, _, h => by cases h; decide +kernel
  | 2, _, h => by cases h; decide +kernel
  | 3, _, h => by cases h; decide +kernel
  | 4, _, h => by cases h; decide +kernel
  | 5, _, h => by cases h; decide +kernel
  | 6, _, h => by cases h; decide +kernel
  | 7, _, h => by cases h; decide +kernel
  | 8, _, h => by cases h; decide +kernel
  | n + 9, _, h => by cases h
section NEWS
variable {G : GG} {d : Nat} {mi : MI} {pc : Nat} {l l' : List (Nat × Value)} {st st2 : List Value} {h h2 : AH} {Q : Option Value → AH → Prop}
theorem Rp.sum {s : State} {H : Heap} (r : Rp G s h H) {n : Nat} (h1 : gB G ≤ n) (h2 : n ≤ hz h) : ((H.toList.drop n).map (·.slots.size)).sum = psum (hn h) n (hz h - n) := by
  obtain ⟨p1, p2, p3, p4, p5, -⟩ := r
  have hlen : H.toList.length = hz h := by rw [Array.length_toList]; exact p1
  rw [sum_drop (·.slots.size) H.toList (hz h - n) n (by rw [hlen]) (by rw [hlen]; exact h2)]
  refine psum_congr fun i hi => ?_
  obtain ⟨cell, q1, q2, q3, -⟩ := p5 (n + i) (by omega) (by omega)
  have : H.toList[n + i]? = some cell := by rw [Array.getElem?_toList]; exact q1
  simp [this, q3]
theorem Rp.moved {s U : State} {H : Heap} (hvm : s.vm.Alike U.vm) (r : Rp G s h H) : Rp G U h H := by
  obtain ⟨h1, h2, h3, h4, h5, h6, h7, h8, h9, h10, h11⟩ := r
  exact ⟨h1, h2, h3, h4, h5, h6, h7, h8, h9, h10, va_X.moved hvm h11⟩
theorem us_split {S : Nat} (h1 : gB G ≤ S) (h2 : S ≤ hz h) : us G h = psum (hn h) (gB G) (S - gB G) + psum (hn h) S (hz h - S) := by
  unfold us
  have e : hz h - gB G = (S - gB G) + (hz h - S) := by omega
  rw [e, psum_app]
  have e2 : gB G + (S - gB G) = S := by omega
  rw [e2]
theorem hn_nw {kd n : Nat} {a : Nat} (ha : a < hz h) : hn (nw h kd n) a = hn h a := by
  unfold hn nw
  show (if a = h.1 then (kd, n) else h.2.1 a).2 = _
  rw [if_neg (show a ≠ h.1 from Nat.ne_of_lt ha)]
theorem hn_nw' {kd n : Nat} : hn (nw h kd n) (hz h) = n := by
  unfold hn nw
  show (if hz h = h.1 then (kd, n) else h.2.1 _).2 = _
  rw [if_pos (show hz h = h.1 from rfl)]
theorem hk_nw' {kd n : Nat} : hk (nw h kd n) (hz h) = kd := by
  unfold hk nw
  show (if hz h = h.1 then (kd, n) else h.2.1 _).1 = _
  rw [if_pos (show hz h = h.1 from rfl)]
theorem hk_nw {kd n : Nat} {a : Nat} (ha : a ≠ hz h) : hk (nw h kd n) a = hk h a := by
  unfold hk nw
  show (if a = h.1 then (kd, n) else h.2.1 a).1 = _
  rw [if_neg (show a ≠ h.1 from ha)]
theorem us_nw {kd n : Nat} (hB : gB G ≤ hz h) : us G (nw h kd n) = us G h + n := by
  unfold us
  have e : hz (nw h kd n) - gB G = (hz h - gB G) + 1 := by show hz h + 1 - _ = _; omega
  rw [e]
  show psum _ _ (hz h - gB G) + hn (nw h kd n) (gB G + (hz h - gB G)) = _
  have e2 : gB G + (hz h - gB G) = hz h := by omega
  rw [e2, hn_nw', psum_congr (g := hn h) (fun i hi => hn_nw (by omega))]
theorem val_nw {kd n : Nat} {a : Nat} (ha : a ≠ hz h) (ty : FieldType) (k : Nat) : val (nw h kd n) a ty k = val h a ty k := by
  have e : ∀ {α : Type} (f : Nat → Nat → α) (v : α), up1 f h.1 v a k = f a k := fun f v => by unfold up1; rw [if_neg (show a ≠ h.1 from ha)]
  cases ty <;> first | exact congrArg Value.int (e _ _) | exact congrArg Value.long (e _ _) | exact congrArg Value.float (e _ _) | exact congrArg va_rf (e _ _)
theorem val_nw' {kd n : Nat} (ty : FieldType) (hty : ty ≠ .double) (k : Nat) : val (nw h kd n) (hz h) ty k = defaultValue ty := by
  have e : ∀ {α : Type} (f : Nat → Nat → α) (v : α), up1 f h.1 v (hz h) k = v := fun f v => by unfold up1; rw [if_pos (show hz h = h.1 from rfl)]
  cases ty <;> first | exact absurd rfl hty | exact congrArg Value.int (e _ _) | exact congrArg Value.long (e _ _) | exact congrArg Value.float (e _ _) | exact congrArg va_rf (e _ _)
theorem Rp.push {s : State} {H : Heap} (r : Rp G s h H) {kd n : Nat} (hkd : kd < 9 ∨ kd ∈ aks) (hroom : hz h < gB G + 600000 ∧ us G h + n ≤ 7302250) {cell : Cell} (ok : cOK G (nw h kd n) (hz h) cell) : Rp G s (nw h kd n) (H.push cell) := by
  obtain ⟨p1, p2, p3, p4, p5, p6, p7, p8, p9, p10, p11⟩ := r
  have hlt : ∀ q, q < hz h → (H.push cell)[q]? = H[q]? := fun q hq => by rw [Array.getElem?_push, if_neg (by omega)]
  refine ⟨by rw [Array.size_push, p1]; rfl, Nat.le_succ_of_le p2, hroom.1, by rw [us_nw p2]; exact hroom.2, fun a a1 a2 => ?_, fun a ha => ?_, p7, by rw [hk_nw (by omega)]; exact p8, by rw [hn_nw (by omega)]; exact p9, fun j => ?_, va_X.kept p11 (hlt _ (by omega))⟩
  · by_cases hq : a = hz h
    · subst hq
      exact ⟨cell, by rw [← p1, Array.getElem?_push_size], ok⟩
    · have a3 : a < hz h + 1 := a2
      have a4 : a < hz h := by omega
      obtain ⟨c, q1, o1, o2, o3, o4⟩ := p5 a a1 a4
      refine ⟨c, by rw [hlt a a4]; exact q1, o1, by rw [hn_nw a4]; exact o2, by rw [hk_nw hq, hn_nw a4]; exact o3, fun k hk => ?_⟩
      rw [hn_nw a4] at hk
      rw [hk_nw hq, val_nw hq]
      exact o4 k hk
  · by_cases hq : a = hz h
    · subst hq
      exact Or.inr ⟨p2, Nat.lt_succ_self _⟩
    · rw [hk_nw hq] at ha
      rcases p6 a ha with z | ⟨z1, z2⟩
      · exact Or.inl z
      · exact Or.inr ⟨z1, Nat.lt_succ_of_lt z2⟩
  · have hne : gb G ≠ h.1 := by have : gb G < hz h := by omega
                                exact Nat.ne_of_lt this
    show up1 h.2.2.1 h.1 0 (gb G) j = _
    unfold up1
    rw [if_neg hne]
    exact p10 j
/-- behind a making -/
theorem pushed {p : Program} {la : Launch} {e : Env} {R : Room} {s : State} {m : MethodId} {args : Array Value} {below : List Frame} {meth : Method} {c : Code} {H : Heap} {locs : List Loc} {QF : State → Prop} {d0 : Drawn} {ls : Array Slot} {kd n pc2 : Nat} {cell : Cell} (C : Ctx G d mi l h p R s m args meth c H locs d0 ls) (K : Hdl G mi h Q p la e R s m args below meth c QF) (hkd : kd < 9 ∨ kd ∈ aks) (hroom : hz h < gB G + 600000 ∧ us G h + n ≤ 7302250) (ok : cOK G (nw h kd n) (hz h) cell) (kk : Rn G d mi pc2 l (.ref (hz h) :: st) (nw h kd n) Q) :
    W p la e R (s.setDrawn d0) m args below meth c (H.push cell) locs (hz h - s.heap.size + 1) (psum (hn h) s.heap.size (hz h - s.heap.size) + n) QF (F0 m pc2 ls (.ref H.size :: st)) := by
  have rp := C.rp.push hkd hroom ok
  obtain ⟨c1, c2, c3, c4, c5, c6, c7, c8, c9⟩ := C
  have eS : psum (hn (nw h kd n)) (gB G) (s.heap.size - gB G) = psum (hn h) (gB G) (s.heap.size - gB G) := psum_congr fun i hi => hn_nw (by omega)
  have eT : psum (hn (nw h kd n)) s.heap.size (hz h - s.heap.size) = psum (hn h) s.heap.size (hz h - s.heap.size) := psum_congr fun i hi => hn_nw (by omega)
  have w := kk p la e R s m args below meth c (H.push cell) locs QF d0 ls ⟨c1, c2, c3, c4, Nat.le_succ_of_le c5, c6, by rw [eS]; exact c7, rp, c9⟩ (K.ext (Ext.nw h kd n))
  unfold Wn at w
  have e1 : hz (nw h kd n) - s.heap.size = hz h - s.heap.size + 1 := by show hz h + 1 - _ = _; omega
  rw [e1] at w
  have e2 : psum (hn (nw h kd n)) s.heap.size (hz h - s.heap.size + 1) = psum (hn h) s.heap.size (hz h - s.heap.size) + n := by
    show psum _ _ (hz h - s.heap.size) + hn (nw h kd n) (s.heap.size + (hz h - s.heap.size)) = _
    have e3 : s.heap.size + (hz h - s.heap.size) = hz h := by omega
    rw [e3, hn_nw', eT]
  rw [e2] at w
  rw [c8.1]
  exact w
theorem rooms {p : Program} {R : Room} {s : State} {m : MethodId} {args : Array Value} {meth : Method} {c : Code} {H : Heap} {locs : List Loc} {d0 : Drawn} {ls : Array Slot} {n : Nat} (C : Ctx G d mi l h p R s m args meth c H locs d0 ls) (hroom : hz h < gB G + 600000 ∧ us G h + n ≤ 7302250) : hz h - s.heap.size + 1 ≤ R.cells ∧ psum (hn h) s.heap.size (hz h - s.heap.size) + n ≤ R.slots := by
  obtain ⟨c1, c2, c3, c4, c5, c6, c7, c8, c9⟩ := C
  have := us_split (G := G) (h := h) c4 c5
  omega
theorem x_new {idx ci : Nat} {r : vw_C} (hd : decode mi.2.1 pc = .ok (.new idx, 3)) (hc : vwCl[ci]? = some r) (hlink : Cond.classLink mi.1.cls idx r.1 ∈ tbG) (hroom : hz h < gB G + 600000 ∧ us G h + r.2.2 ≤ 7302250) (kk : Rn G d mi (pc + 3) l (.ref (hz h) :: st) (nw h ci r.2.2) Q) : Rn G d mi pc l st h Q := by
  intro p la e R s m args below meth c H locs QF d0 ls C K
  obtain ⟨k1, k2, k3, k4, k5⟩ := cls_ok ci r hc
  have hlt := cls_lt hc
  obtain ⟨hr1, hr2⟩ := rooms C hroom
  obtain ⟨hS, hfc, -⟩ := C.kx.1.1 ci r hc
  refine W.newc C.hx C.hb C.own (C.hts _ hlink) (C.hts _ k4) (C.hts _ k5) rfl hd hr1 hr2 fun cC kC h1 h2 h3 h4 => ?_
  have hcc : cC = (gD G).1 ci := Option.some.inj (h1.symm.trans hfc)
  subst hcc
  refine pushed C K (Or.inl hlt) hroom ?_ kk
  refine ⟨rfl, by rw [hn_nw']; show (kC.instanceTypes.map defaultValue).size = _; rw [Array.size_map, h4], Or.inl ?_, fun k hk => ?_⟩
  · rw [hk_nw', hn_nw']
    exact ⟨hlt, rfl, r, hc, rfl⟩
  · rw [hn_nw'] at hk
    rw [hk_nw']
    unfold ixk tyk
    rw [if_pos hlt, if_pos hlt]
    obtain ⟨cf, kf, fi, fd, hfi, he⟩ := hS k hk
    have h5 := (u_facts (args := args) (s := s.setDrawn d0) h1 h2 (u_lays C.hts k1 hk) hfi).2.2
    rw [(State.fieldFound?_type hfi (k2 k hk)).2] at h5
    rw [← he, val_nw' _ (tyo_nd ci r hc k hk)]
    exact k2_blank h5
theorem x_newa {kd : Nat} {at_ : ArrayType} {n : Int32} {N : Nat} (hd : decode mi.2.1 pc = .ok (.newarray at_, 2)) (hkd : kd ∈ [20, 21, 22, 23, 24]) (hel : newarray.typeOf at_ = elt kd) (hw : Cond.arrayClass (elt kd) ∈ tbG) (hn0 : 0 ≤ n.toInt) (hN : n.toInt.toNat = N) (hsm : N ≤ 1000000) (hroom : hz h < gB G + 600000 ∧ us G h + N ≤ 7302250) (kk : Rn G d mi (pc + 2) l (.ref (hz h) :: st) (nw h kd N) Q) : Rn G d mi pc l (.int n :: st) h Q := by
  intro p la e R s m args below meth c H locs QF d0 ls C K
  obtain ⟨hr1, hr2⟩ := rooms C hroom
  subst hN
  have hneg : ¬ n < 0 := by rw [Int32.lt_iff_toInt_lt, Int32.toInt_zero]; omega
  have hb : n.toNatClampNeg * componentBytes (newarray.typeOf at_) ≤ 536870912 := by
    rw [hel, ix_eq]
    simp only [List.mem_cons, List.not_mem_nil, or_false] at hkd
    rcases hkd with rfl | rfl | rfl | rfl | rfl <;> simp only [elt, componentBytes] <;> omega
  have hkd2 : kd ∈ aks ∧ 9 ≤ kd ∧ (elt kd = .int ∨ elt kd = .byte ∨ elt kd = .short ∨ elt kd = .long ∨ elt kd = .boolean) := by
    simp only [List.mem_cons, List.not_mem_nil, or_false] at hkd
    rcases hkd with rfl | rfl | rfl | rfl | rfl <;> exact ⟨by decide, by decide, by decide⟩
  refine W.newa C.hx C.hb (by rw [hel]; exact C.hts _ hw) rfl hd rfl hneg hb hr1 hr2 fun cA kA comp h1 h2 h3 => ?_
  have hm : (gA G kd, elt kd) ∈ tys G := List.mem_map.mpr ⟨kd, hkd2.1, rfl⟩
  obtain ⟨j, hj⟩ := List.getElem?_of_mem hm
  have hra := (C.kx.1.2 j _ hj).2
  have hcA : cA = gA G kd := by
    rw [hel] at h1
    have : s.vm.findClass ("[" ++ (elt kd).toString) = some (gA G kd) := by
      rcases hkd2.2.2 with z | z | z | z | z <;> (simp only [z] at hra ⊢; exact hra)
    exact Option.some.inj (h1.symm.trans this)
  subst hcA
  refine pushed C K (Or.inr hkd2.1) hroom ?_ kk
  refine ⟨rfl, by rw [hn_nw']; show (Array.replicate _ _).size = _; rw [Array.size_replicate, ix_eq], Or.inr ?_, fun k hk => ?_⟩
  · rw [hk_nw']
    exact ⟨hkd2.2.1, hkd2.1, rfl⟩
  · rw [hn_nw'] at hk
    rw [hk_nw']
    unfold ixk tyk
    rw [if_neg (by omega), if_neg (by omega), val_nw' _ (by rcases hkd2.2.2 with z | z | z | z | z <;> (rw [z]; decide)), ← hel]
    show (Array.replicate n.toNatClampNeg _)[k]? = _
    rw [Array.getElem?_replicate, if_pos (by rw [ix_eq]; exact hk)]
theorem x_anew {kd idx : Nat} {C0 : String} {n : Int32} {N : Nat} (hd : decode mi.2.1 pc = .ok (.anewarray idx, 3)) (hkd : kd ∈ [30, 31, 33, 34]) (hel : elt kd = .object C0) (hlink : Cond.classLink mi.1.cls idx C0 ∈ tbG) (hn0 : 0 ≤ n.toInt) (hN : n.toInt.toNat = N) (hsm : N ≤ 1000000) (hroom : hz h < gB G + 600000 ∧ us G h + N ≤ 7302250) (kk : Rn G d mi (pc + 3) l (.ref (hz h) :: st) (nw h kd N) Q) : Rn G d mi pc l (.int n :: st) h Q := by
  intro p la e R s m args below meth c H locs QF d0 ls C K
  obtain ⟨hr1, hr2⟩ := rooms C hroom
  subst hN
  have hneg : ¬ n < 0 := by rw [Int32.lt_iff_toInt_lt, Int32.toInt_zero]; omega
  have hb : n.toNatClampNeg * 4 ≤ 536870912 := by rw [ix_eq]; omega
  have hkd2 : kd ∈ aks ∧ 9 ≤ kd := by
    simp only [List.mem_cons, List.not_mem_nil, or_false] at hkd
    rcases hkd with rfl | rfl | rfl | rfl <;> exact ⟨by decide, by decide⟩
  have hov : va_AO C0 s := by
    obtain ⟨-, -, o0, o1, o4, o5⟩ := C.kx
    simp only [List.mem_cons, List.not_mem_nil, or_false] at hkd
    rcases hkd with rfl | rfl | rfl | rfl <;> (cases hel; assumption)
  refine W.anew C.hx C.hb C.own (C.hts _ hlink) (va_AO.use (A := args) hov) rfl hd rfl hneg hb hr1 hr2 fun cA kA comp h1 h2 h3 h4 => ?_
  obtain ⟨kA2, comp2, r1, r2, r3, r4⟩ := C.kx.ra hkd2.1 hel
  have hcA : cA = gA G kd := Option.some.inj (h1.symm.trans r4)
  subst hcA
  refine pushed C K (Or.inr hkd2.1) hroom ?_ kk
  refine ⟨rfl, by rw [hn_nw']; show (Array.replicate _ _).size = _; rw [Array.size_replicate, ix_eq], Or.inr ?_, fun k hk => ?_⟩
  · rw [hk_nw']
    exact ⟨hkd2.2, hkd2.1, rfl⟩
  · rw [hn_nw'] at hk
    rw [hk_nw']
    unfold ixk tyk
    rw [if_neg (by omega), if_neg (by omega), hel, val_nw' _ (by intro z; cases z)]
    show (Array.replicate n.toNatClampNeg _)[k]? = _
    rw [Array.getElem?_replicate, if_pos (by rw [ix_eq]; exact hk)]
    rfl
end NEWS
