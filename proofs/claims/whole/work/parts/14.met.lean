/-! ===== a method's contract out of its run; calls ===== -/
def PcG (G : GG) (As : List Value) (h : AH) : Array Value → State → Prop := fun av U => av = As.toArray ∧ Rp G U h U.heap ∧ Kx G U
def QcG (G : GG) (h : AH) (Q : Option Value → AH → Prop) : Array Value → State → Outcome → State → Prop := fun _ _ o t => ∃ r h', o = .returned r ∧ Ext h h' ∧ Rp G t h' t.heap ∧ Q r h'
def wsM (mi : MI) : List Cond := Cond.code mi.1 mi.2.1 mi.2.2.1 mi.2.2.2 :: tbG
def roomM (G : GG) (d : Nat) (h : AH) : Room := { frames := d, cells := gB G + 600000 - hz h, slots := 7302250 - us G h, locals := 37 * d }
section MET
variable {G : GG} {d : Nat} {mi : MI} {pc : Nat} {l l' : List (Nat × Value)} {st st2 : List Value} {h h2 : AH} {Q : Option Value → AH → Prop}
theorem PcG.blind (G : GG) (As : List Value) (h : AH) : FrameBlind (PcG G As h) := fun a U g mk q => ⟨q.1, Rp.moved (s := U) (U := U.calling g mk a) (Vm.Alike.refl U.vm) q.2.1, by
  obtain ⟨-, -, h1, h2, h3, h4, h5, h6⟩ := q
  exact ⟨va_K.moved (u := U) (U := U.calling g mk a) (Vm.Alike.refl U.vm) h1, fun w hw => (by
    have hz := h2 w hw
    simp only [nests, List.mem_cons, List.not_mem_nil, or_false] at hw
    rcases hw with rfl | rfl | rfl <;> exact va_Nw.same (u := U) rfl rfl hz), va_AO.moved (u := U) (U := U.calling g mk a) (Vm.Alike.refl U.vm) h3, va_AO.moved (u := U) (U := U.calling g mk a) (Vm.Alike.refl U.vm) h4, va_AO.moved (u := U) (U := U.calling g mk a) (Vm.Alike.refl U.vm) h5, va_AO.moved (u := U) (U := U.calling g mk a) (Vm.Alike.refl U.vm) h6⟩⟩
set_option maxHeartbeats 4000000 in
theorem metOf (la : Launch) (As : List Value) (hy : plainName mi.1.cls = true) (hlen : (lg_sl As).length ≤ mi.2.2.1) (hB : gB G ≤ hz h) (k : Rn G d mi 0 (lv_args 0 As) [] h Q) :
    MetD lw_cs la mi.1 (wsM mi) (roomM G d h) (PcG G As h) (QcG G h Q) (gB G + 600000 - hz h) (7302250 - us G h) (fun q => gB G ≤ q) := by
  refine MetD.ofW (cc := mi.2.1) (maxL := mi.2.2.1) (ret := mi.2.2.2) hy rfl ?_
  intro p e s m args below meth c s₁ B hml hv hd0
  obtain ⟨rfl, hR, hK⟩ := hv
  have hts : ∀ w ∈ wsM mi, w.before As.toArray s = true := atoms_spec (ws := wsM mi) B.pre
  have hl := lk_of (lv_entry As (n := mi.2.2.1) hlen)
  rw [lg_entry_eq]
  generalize (lg_sl As ++ List.replicate (mi.2.2.1 - (lg_sl As).length) Slot.unset).toArray = ls at hl ⊢
  have hsz : s.heap.size = hz h := hR.1
  have hr3 := hR.2.2.1
  have hr4 := hR.2.2.2.1
  have cx : Cx G d mi p (headSpec (wsM mi) (roomM G d h)).room s m As.toArray meth c := ⟨B.exec, B.bytes, B.returns, B.notSynchronized, hml, findClass_of_methodNamed B.named, fun z => (name_of_methodNamed B.named B.method).1.trans z, fun w hw => hts w (List.mem_cons_of_mem _ hw), hK, Nat.le_refl _, Nat.le_refl _⟩
  have hus : psum (hn h) (gB G) (s.heap.size - gB G) = us G h := by rw [hsz]; rfl
  have ctx : Ctx G d mi (lv_args 0 As) h p (headSpec (wsM mi) (roomM G d h)).room s m As.toArray meth c s.heap [] s.drawn ls := by
    refine ⟨cx, hd0, hl, by rw [hsz]; exact hB, Nat.le_of_eq hsz, ?_, ?_, hR, fun q hq => absurd hq List.not_mem_nil⟩
    · show gB G + 600000 ≤ s.heap.size + (gB G + 600000 - hz h)
      omega
    · rw [hus]
      show 7302250 ≤ us G h + (7302250 - us G h)
      omega
  have w := k p la e (headSpec (wsM mi) (roomM G d h)).room s m As.toArray below meth c s.heap [] (MQD lw_cs below (QcG G h Q) As.toArray s (gB G + 600000 - hz h) (7302250 - us G h) (fun q => gB G ≤ q)) s.drawn ls ctx ?_
  · unfold Wn at w
    have e0 : hz h - s.heap.size = 0 := by omega
    rw [e0] at w
    exact w
  · intro r h' H' locs' d1 pc' ls' x1 x2 x3 x4 x5 x6
    have hlk : meth.locks = false := B.notSynchronized
    have y3 := x2.2.2.1
    have y4 := x2.2.2.2.1
    have hxs : psum (hn h') (gB G) (s.heap.size - gB G) = us G h := by
      rw [← hus]
      refine psum_congr fun i hi => ?_
      have := x1.2 (gB G + i) (by omega)
      unfold hm at this
      unfold hn
      rw [this]
    have hsp := us_split (G := G) (h := h') (S := s.heap.size) (by omega) (by have := x1.1; omega)
    have hqc : ∀ t : State, t.heap = H' → (s.setDrawn d1).WarmedH t.vm → QcG G h Q As.toArray (s.setDrawn d1) (.returned r) t := fun t ht hW => ⟨r, h', rfl, x1, by rw [ht]; exact Rp.moved (s := s) (U := t) hW.alike x2, x5⟩
    refine W.widen (k := gB G + 600000 - hz h) (n := 7302250 - us G h) (by omega) (by omega) ?_
    refine W.endD x4 ?_
    have hret := cx.2.2.1
    rcases r with _ | v
    · obtain ⟨z1, z2⟩ := x6
      exact W.vret B.exec B.bytes (by rw [hret, z2]) hqc x3 z1
    · cases v with
      | int x =>
        obtain ⟨z1, ty, z2, z3⟩ := x6
        exact W.zret (ty := ty) B.exec B.bytes (by rw [hret, z2]) z3 hqc x3 z1
      | long x =>
        obtain ⟨z1, z2⟩ := x6
        exact W.lret B.exec B.bytes (by rw [hret, z2]) hqc x3 z1
      | float x =>
        obtain ⟨z1, z2⟩ := x6
        exact W.fret B.exec B.bytes (by rw [hret, z2]) hqc x3 z1
      | null =>
        obtain ⟨z1, C0, z2⟩ := x6
        exact W.aret (rt := .object C0) B.exec B.bytes (by rw [hret, z2]) (Or.inl ⟨_, rfl⟩) (Or.inl rfl) hqc x3 z1
      | ref x =>
        obtain ⟨z1, C0, z2⟩ := x6
        exact W.aret (rt := .object C0) B.exec B.bytes (by rw [hret, z2]) (Or.inl ⟨_, rfl⟩) (Or.inr ⟨_, rfl⟩) hqc x3 z1
      | double x => exact x6.elim
      | retAddr x => exact x6.elim
theorem Stand.tight {p : Program} {la : Launch} {e : Env} {R : Room} {s : State} {m : MethodId} {args : Array Value} {below : List Frame} {meth : Method} {c : Code} {T : State} {locs : List Loc} {c1 n1 c2 n2 : Nat} (X : Stand p la e R s m args below meth c T locs c1 n1) (hc : T.heap.size ≤ s.heap.size + c2) (hs : ((T.heap.toList.drop s.heap.size).map (·.slots.size)).sum ≤ n2) : Stand p la e R s m args below meth c T locs c2 n2 :=
  { X with same := ⟨X.same.1, X.same.2.1, hc, X.same.2.2.2.1, hs, X.same.2.2.2.2.2⟩ }
/-- what every call has behind it -/
theorem called {p : Program} {la : Launch} {e : Env} {R : Room} {s : State} {m : MethodId} {args : Array Value} {below : List Frame} {meth : Method} {c : Code} {H : Heap} {locs : List Loc} {QF : State → Prop} {d0 : Drawn} {ls : Array Slot} {stk rest : List Value} {av : Array Value} {mc ms : Nat} {Q2 : Option Value → AH → Prop}
    (C : Ctx G (d + 1) mi l h p R s m args meth c H locs d0 ls) (K : Hdl G mi h Q p la e R s m args below meth c QF)
    (run : va_RunD lw_cs p la e R (s.setDrawn d0) m args below meth c H locs (hz h - s.heap.size) (psum (hn h) s.heap.size (hz h - s.heap.size)) mc ms (F0 m pc ls stk) rest (QcG G h Q2 av) (fun q => gB G ≤ q))
    (kk : ∀ r h', Q2 r h' → Ext h h' → Rn G (d + 1) mi (pc + 3) l (r.toList ++ rest) h' Q) : Wn h p la e R s m args below meth c H locs QF d0 ls pc stk := by
  intro T hT X
  obtain ⟨v, st₀, t, T', L, d', hd', h0, X', hL, e1, e2, ⟨r, h', hv, ext, rp, hq⟩, go⟩ := run T hT X
  cases hv
  obtain ⟨c1, c2, c3, c4, c5, c6, c7, c8, c9⟩ := C
  have hal : s.vm.Alike t.vm := by rw [← e2]; exact X'.warmed.alike
  have rp2 : Rp G s h' T'.heap := by rw [e1]; exact Rp.moved hal.symm rp
  have hps : psum (hn h') (gB G) (s.heap.size - gB G) = psum (hn h) (gB G) (s.heap.size - gB G) := psum_congr fun i hi => by
    have := ext.2 (gB G + i) (by omega)
    unfold hm at this
    unfold hn
    rw [this]
  have hle : s.heap.size ≤ hz h' := Nat.le_trans c5 ext.1
  have ctx : Ctx G (d + 1) mi l h' p R s m args meth c T'.heap (locs ++ L) d' ls := ⟨c1, c2.trans hd', c3, c4, hle, c6, by rw [hps]; exact c7, rp2, fun q hq => by
    rcases List.mem_append.mp hq with z | z
    · exact c9 q z
    · exact hL q z⟩
  have X2 : Stand p la e R (s.setDrawn d') m args below meth c T' (locs ++ L) (hz h' - s.heap.size) (psum (hn h') s.heap.size (hz h' - s.heap.size)) := by
    refine Stand.tight (s := s.setDrawn d') X' ?_ ?_
    · show T'.heap.size ≤ s.heap.size + _
      rw [rp2.1]
      omega
    · exact Nat.le_of_eq (rp2.sum c4 hle)
  obtain ⟨t2, a1, b1⟩ := kk v h' hq ext p la e R s m args below meth c T'.heap (locs ++ L) QF d' ls ctx (K.ext ext) T' rfl X2
  exact ⟨t2, go t2 a1, b1⟩
theorem callRoom {p : Program} {R : Room} {s : State} {m : MethodId} {args : Array Value} {meth : Method} {c : Code} {H : Heap} {locs : List Loc} {d0 : Drawn} {ls : Array Slot} (C : Ctx G (d + 1) mi l h p R s m args meth c H locs d0 ls) (n : Nat) (hn18 : n ≤ 18) : ((roomM G d h).frames + 1 ≤ R.frames ∧ 8 + (n + 11) + (roomM G d h).locals ≤ R.locals) ∧ (hz h - s.heap.size + (gB G + 600000 - hz h) ≤ R.cells ∧ psum (hn h) s.heap.size (hz h - s.heap.size) + (7302250 - us G h) ≤ R.slots) := by
  obtain ⟨c1, c2, c3, c4, c5, c6, c7, c8, c9⟩ := C
  have := us_split (G := G) (h := h) c4 c5
  obtain ⟨-, -, -, -, -, -, -, -, -, q1, q2⟩ := c1
  have r1 := c8.2.1
  have r2 := c8.2.2.1
  have r3 := c8.2.2.2.1
  refine ⟨⟨q1, ?_⟩, ?_, ?_⟩
  · show 8 + (n + 11) + 37 * d ≤ R.locals
    omega
  · omega
  · omega
theorem okName.spec {y : MethodName} {n : Nat} (h : okName y n = true) : (y.cls ≠ "java/lang/invoke/MethodHandle" ∧ y.cls ≠ "java/lang/invoke/VarHandle" ∧ (parseMethodDescriptor y.desc).map (fun d => d.parameters.length) = some n) ∧ plainName y.cls = true := by
  simp only [okName, Bool.and_eq_true, decide_eq_true_eq] at h
  exact ⟨⟨h.1.1.1, h.1.1.2, h.1.2⟩, h.2⟩
theorem wsM_good {ws : List Cond} {m2 : MI} (hc : Cond.code m2.1 m2.2.1 m2.2.2.1 m2.2.2.2 ∈ tbG) (h : ∀ w ∈ ws, w ∈ tbG) : GoodIn tbG (ws ++ wsM m2) := fun w hw => by
  rcases List.mem_append.mp hw with z | z
  · exact tbG_good w (h w z)
  · rcases List.mem_cons.mp z with rfl | z
    · exact tbG_good _ hc
    · exact tbG_good w z
theorem x_callV {idx ci n a : Nat} {m2 : MI} {As : List Value} (hd : decode mi.2.1 pc = .ok (.invokevirtual idx, 3)) (hlk : vLink mi.1.cls idx ci m2 n) (ha : hk h a = ci) (hn : As.length = n) (hlen : (lg_sl (.ref a :: As)).length ≤ m2.2.2.1) (hst : (st.map fun v => v.category).sum ≤ 8)
    (kk : Rn G d m2 0 (lv_args 0 (.ref a :: As)) [] h (fun r h' => Ext h h' → Rn G (d + 1) mi (pc + 3) l (r.toList ++ st) h' Q)) : Rn G (d + 1) mi pc l (As.reverse ++ .ref a :: st) h Q := by
  intro p la e R s m args below meth c H locs QF d0 ls C K
  obtain ⟨r, hc, hcl, hok, h18, hws⟩ := hlk
  obtain ⟨hnm, hpl⟩ := okName.spec hok
  have hlt := cls_lt hc
  have hws : Cond.methodLink mi.1.cls idx m2.1 ∈ tbG ∧ Cond.instanceMethod m2.1 ∈ tbG ∧ Cond.selects r.1 m2.1 m2.1 ∈ tbG ∧ Cond.initialized r.1 ∈ tbG ∧ Cond.code m2.1 m2.2.1 m2.2.2.1 m2.2.2.2 ∈ tbG := ⟨hws _ (by simp), hws _ (by simp), hws _ (by simp), hws _ (by simp), hws _ (by simp)⟩
  have hM := metOf la (.ref a :: As) hpl hlen C.rp.2.1 kk
  obtain ⟨hR, hf⟩ := callRoom C m2.2.2.1 h18
  obtain ⟨l1, l2, cell, hcell, o1, o2, o3, -⟩ := C.rp.live ha (by omega) (by omega)
  have hcls : cell.cls = (gD G).1 ci := by
    rcases o3 with ⟨g1, g2, -⟩ | ⟨g1, -⟩
    · rw [ha] at g2; exact g2
    · omega
  have hfc := (C.kx.1.1 ci r hc).2.1
  have hgood : GoodIn tbG (wsV mi.1.cls idx r.1 m2.1 (wsM m2)) := wsM_good hws.2.2.2.2 (fun w hw => by
    simp only [List.mem_cons, List.not_mem_nil, or_false] at hw
    rcases hw with rfl | rfl | rfl | rfl
    · exact hws.1
    · exact hws.2.1
    · exact hws.2.2.1
    · exact hws.2.2.2.1)
  refine called C K (va_runV_D (cs := lw_cs) (C := r.1) (As := As) (b := a) (rest := st) (cc := mi.2.1) (nL := mi.2.2.1) ⟨C.hx, C.hb, C.1.2.2.2.2.1, C.own, C.hts⟩ hM (cwV n C.hts hgood rfl rfl rfl ⟨hcl, hnm⟩ hR) ⟨PcG.blind _ _ _, ⟨cell, hcell, by rw [o1]; rfl, by rw [hcls]; exact hfc⟩, fun U hU hW => ⟨rfl, by rw [hU]; exact Rp.moved (s := s) hW.alike C.rp, Kx.warm (s := s) hW C.kx⟩⟩ rfl hn C.has.1 rfl (lv_room hst) hd hf) (fun r h' q x => q x)
theorem x_callS {idx n : Nat} {m2 : MI} {As : List Value} (hd : decode mi.2.1 pc = .ok (.invokestatic idx, 3)) (hlk : sLink mi.1.cls idx m2 n) (hn : As.length = n) (hlen : (lg_sl As).length ≤ m2.2.2.1) (hst : (st.map fun v => v.category).sum ≤ 8)
    (kk : Rn G d m2 0 (lv_args 0 As) [] h (fun r h' => Ext h h' → Rn G (d + 1) mi (pc + 3) l (r.toList ++ st) h' Q)) : Rn G (d + 1) mi pc l (As.reverse ++ st) h Q := by
  intro p la e R s m args below meth c H locs QF d0 ls C K
  obtain ⟨hok, h18, hws⟩ := hlk
  obtain ⟨hnm, hpl⟩ := okName.spec hok
  have hws : Cond.methodLink mi.1.cls idx m2.1 ∈ tbG ∧ Cond.static m2.1 ∈ tbG ∧ Cond.initialized m2.1.cls ∈ tbG ∧ Cond.code m2.1 m2.2.1 m2.2.2.1 m2.2.2.2 ∈ tbG := ⟨hws _ (by simp), hws _ (by simp), hws _ (by simp), hws _ (by simp)⟩
  have hM := metOf la As hpl hlen C.rp.2.1 kk
  obtain ⟨hR, hf⟩ := callRoom C m2.2.2.1 h18
  have hgood : GoodIn tbG (va_wsS mi.1.cls idx m2.1 (wsM m2)) := wsM_good hws.2.2.2 (fun w hw => by
    simp only [List.mem_cons, List.not_mem_nil, or_false] at hw
    rcases hw with rfl | rfl | rfl
    · exact hws.1
    · exact hws.2.1
    · exact hws.2.2.1)
  refine called C K (va_runS_D (cs := lw_cs) (As := As) (rest := st) (cc := mi.2.1) (nL := mi.2.2.1) ⟨C.hx, C.hb, C.1.2.2.2.2.1, C.own, C.hts⟩ hM (va_cwS n C.hts hgood rfl rfl rfl hnm hR) ⟨PcG.blind _ _ _, fun U hU hW => ⟨rfl, by rw [hU]; exact Rp.moved (s := s) hW.alike C.rp, Kx.warm (s := s) hW C.kx⟩⟩ rfl hn C.has.1 rfl (lv_room hst) hd hf) (fun r h' q x => q x)
theorem x_callI {idx n a : Nat} {m2 : MI} {As : List Value} (hd : decode mi.2.1 pc = .ok (.invokespecial idx, 3)) (hlk : iLink mi.1.cls idx m2 n) (hn : As.length = n) (hlen : (lg_sl (.ref a :: As)).length ≤ m2.2.2.1) (hst : (st.map fun v => v.category).sum ≤ 8)
    (kk : Rn G d m2 0 (lv_args 0 (.ref a :: As)) [] h (fun r h' => Ext h h' → Rn G (d + 1) mi (pc + 3) l (r.toList ++ st) h' Q)) : Rn G (d + 1) mi pc l (As.reverse ++ .ref a :: st) h Q := by
  intro p la e R s m args below meth c H locs QF d0 ls C K
  obtain ⟨hok, h18, hini, hno, hws⟩ := hlk
  obtain ⟨y, cc, mL, rt⟩ := m2
  dsimp only at hno
  subst hno
  obtain ⟨hnm, hpl⟩ := okName.spec hok
  have hws : Cond.methodLink mi.1.cls idx y ∈ tbG ∧ Cond.instanceMethod y ∈ tbG ∧ Cond.initialized y.cls ∈ tbG ∧ Cond.code y cc mL none ∈ tbG := ⟨hws _ (by simp), hws _ (by simp), hws _ (by simp), hws _ (by simp)⟩
  have hM := metOf la (.ref a :: As) hpl hlen C.rp.2.1 kk
  obtain ⟨hR, hf⟩ := callRoom C mL h18
  have hgood : GoodIn tbG (wsM (y, cc, mL, none)) := wsM_good (ws := []) hws.2.2.2 (fun w hw => absurd hw List.not_mem_nil)
  refine called C K (va_runI_D (cs := lw_cs) (As := As) (b := a) (rest := st) (cc := mi.2.1) (nL := mi.2.2.1) ⟨C.hx, C.hb, C.1.2.2.2.2.1, C.own, C.hts⟩ hM (cwI n C.hts hgood rfl rfl rfl (C.hts _ hws.2.2.1) (C.hts _ hws.1) (C.hts _ hws.2.1) hini hnm hR) ⟨PcG.blind _ _ _, fun U hU hW => ⟨rfl, by rw [hU]; exact Rp.moved (s := s) hW.alike C.rp, Kx.warm (s := s) hW C.kx⟩⟩ rfl hn C.has.1 rfl (lv_room hst) hd hf) (fun r h' q x => q x)
theorem x_callSN {idx n : Nat} {m2 : MI} {As : List Value} {host : String} (hd : decode mi.2.1 pc = .ok (.invokestatic idx, 3)) (hlk : snLink mi.1.cls idx m2 n host) (hn : As.length = n) (hlen : (lg_sl As).length ≤ m2.2.2.1) (hst : (st.map fun v => v.category).sum ≤ 8)
    (kk : Rn G d m2 0 (lv_args 0 As) [] h (fun r h' => Ext h h' → Rn G (d + 1) mi (pc + 3) l (r.toList ++ st) h' Q)) : Rn G (d + 1) mi pc l (As.reverse ++ st) h Q := by
  intro p la e R s m args below meth c H locs QF d0 ls C K
  obtain ⟨hok, h18, hnest, hws⟩ := hlk
  obtain ⟨hnm, hpl⟩ := okName.spec hok
  have hws : Cond.static m2.1 ∈ tbG ∧ Cond.initialized m2.1.cls ∈ tbG ∧ Cond.code m2.1 m2.2.1 m2.2.2.1 m2.2.2.2 ∈ tbG := ⟨hws _ (by simp), hws _ (by simp), hws _ (by simp)⟩
  have hM := metOf la As hpl hlen C.rp.2.1 kk
  obtain ⟨hR, hf⟩ := callRoom C m2.2.2.1 h18
  have hgood : GoodIn tbG (wsM m2) := wsM_good (ws := []) hws.2.2 (fun w hw => absurd hw List.not_mem_nil)
  have hN : va_Nw (.methodLinkNest mi.1.cls idx m2.1 host) (s.setDrawn d0) := va_Nw.same (u := s) rfl rfl (C.kx.2.1 _ hnest)
  refine called C K (va_runSN_D (cs := lw_cs) (host := host) (As := As) (rest := st) (cc := mi.2.1) (nL := mi.2.2.1) ⟨C.hx, C.hb, C.1.2.2.2.2.1, C.own, C.hts⟩ hM ⟨va_cnB n C.hts hgood rfl rfl rfl hN (C.hts _ hws.2.1) hnm hR, C.hts _ hws.1, trivial⟩ ⟨PcG.blind _ _ _, fun U hU hW => ⟨rfl, by rw [hU]; exact Rp.moved (s := s) hW.alike C.rp, Kx.warm (s := s) hW C.kx⟩⟩ rfl hn C.has.1 rfl (lv_room hst) hd hf) (fun r h' q x => q x)
theorem x_callIN {idx n a : Nat} {m2 : MI} {As : List Value} {host : String} (hd : decode mi.2.1 pc = .ok (.invokespecial idx, 3)) (hlk : inLink mi.1.cls idx m2 n host) (hn : As.length = n) (hlen : (lg_sl (.ref a :: As)).length ≤ m2.2.2.1) (hst : (st.map fun v => v.category).sum ≤ 8)
    (kk : Rn G d m2 0 (lv_args 0 (.ref a :: As)) [] h (fun r h' => Ext h h' → Rn G (d + 1) mi (pc + 3) l (r.toList ++ st) h' Q)) : Rn G (d + 1) mi pc l (As.reverse ++ .ref a :: st) h Q := by
  intro p la e R s m args below meth c H locs QF d0 ls C K
  obtain ⟨hok, h18, hini, hno, hnest, hws⟩ := hlk
  obtain ⟨y, cc, mL, rt⟩ := m2
  dsimp only at hno
  subst hno
  obtain ⟨hnm, hpl⟩ := okName.spec hok
  have hws : Cond.instanceMethod y ∈ tbG ∧ Cond.initialized y.cls ∈ tbG ∧ Cond.code y cc mL none ∈ tbG := ⟨hws _ (by simp), hws _ (by simp), hws _ (by simp)⟩
  have hM := metOf la (.ref a :: As) hpl hlen C.rp.2.1 kk
  obtain ⟨hR, hf⟩ := callRoom C mL h18
  have hgood : GoodIn tbG (wsM (y, cc, mL, none)) := wsM_good (ws := []) hws.2.2 (fun w hw => absurd hw List.not_mem_nil)
  have hN : va_Nw (.methodLinkNest mi.1.cls idx y host) (s.setDrawn d0) := va_Nw.same (u := s) rfl rfl (C.kx.2.1 _ hnest)
  refine called C K (va_runIN_D (cs := lw_cs) (host := host) (As := As) (b := a) (rest := st) (cc := mi.2.1) (nL := mi.2.2.1) ⟨C.hx, C.hb, C.1.2.2.2.2.1, C.own, C.hts⟩ hM ⟨va_cnB n C.hts hgood rfl rfl rfl hN (C.hts _ hws.2.1) hnm hR, hini, C.hts _ hws.1⟩ ⟨PcG.blind _ _ _, fun U hU hW => ⟨rfl, by rw [hU]; exact Rp.moved (s := s) hW.alike C.rp, Kx.warm (s := s) hW C.kx⟩⟩ rfl hn C.has.1 rfl (lv_room hst) hd hf) (fun r h' q x => q x)
/-- Object's constructor -/
theorem x_obj {idx a : Nat} (hd : decode mi.2.1 pc = .ok (.invokespecial idx, 3)) (hws : ∀ w ∈ ([.methodLink mi.1.cls idx objectInit, .instanceMethod objectInit, .code objectInit ⟨#[0xb1]⟩ 1 none] : List Cond), w ∈ tbG) (hst : (st.map fun v => v.category).sum ≤ 8) (kk : Rn G (d + 1) mi (pc + 3) l st h Q) : Rn G (d + 1) mi pc l (.ref a :: st) h Q := by
  intro p la e R s m args below meth c H locs QF d0 ls C K
  obtain ⟨-, -, -, -, hml, -, -, -, -, q1, q2⟩ := C.1
  exact W.objInit C.hx C.hb C.own (C.hts _ (hws _ (by simp))) (C.hts _ (hws _ (by simp))) (C.hts _ (hws _ (by simp))) rfl (by rw [hml]; exact C.has.1) rfl hd (by omega) (by show 2 * 0 + _ + 12 ≤ _; omega) (kk p la e R s m args below meth c H locs QF d0 ls C K)
end MET
