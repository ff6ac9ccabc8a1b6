/-! ===== a call with up to twelve words below it ===== -/
section WIDE
variable {G : GG} {d : Nat} {mi : MI} {pc : Nat} {l l' : List (Nat × Value)} {st st2 : List Value} {h h2 : AH} {Q : Option Value → AH → Prop}
set_option maxRecDepth 100000 in
set_option maxHeartbeats 4000000 in
theorem x_callVw {idx ci n a : Nat} {m2 : MI} {As : List Value} (hd : decode mi.2.1 pc = .ok (.invokevirtual idx, 3)) (hlk : vLink mi.1.cls idx ci m2 n) (ha : hk h a = ci) (hn : As.length = n) (hlen : (lg_sl (.ref a :: As)).length ≤ m2.2.2.1) (h14 : m2.2.2.1 ≤ 14) (hst : (st.map fun v => v.category).sum ≤ 12)
    (kk : Rn G d m2 0 (lv_args 0 (.ref a :: As)) [] h (fun r h' => Ext h h' → Rn G (d + 1) mi (pc + 3) l (r.toList ++ st) h' Q)) : Rn G (d + 1) mi pc l (As.reverse ++ .ref a :: st) h Q := by
  intro p la e R s m args below meth c H locs QF d0 ls C K
  obtain ⟨r, hc, hcl, hok, h18, hws⟩ := hlk
  obtain ⟨hnm, hpl⟩ := okName.spec hok
  have hlt := cls_lt hc
  have hws : Cond.methodLink mi.1.cls idx m2.1 ∈ tbG ∧ Cond.instanceMethod m2.1 ∈ tbG ∧ Cond.selects r.1 m2.1 m2.1 ∈ tbG ∧ Cond.initialized r.1 ∈ tbG ∧ Cond.code m2.1 m2.2.1 m2.2.2.1 m2.2.2.2 ∈ tbG := ⟨hws _ (by simp), hws _ (by simp), hws _ (by simp), hws _ (by simp), hws _ (by simp)⟩
  have hM := metOf la (.ref a :: As) hpl hlen C.rp.2.1 kk
  obtain ⟨hR, hf⟩ := callRoom C m2.2.2.1 h18
  obtain ⟨l1, l2, cell, hcell, o1, o2, o3, -⟩ := C.rp.live ha (by omega) (by omega)
  have hcls : cell.cls = (gD G).1 ci := by
    rcases o3 with ⟨g1, g2, -⟩ | ⟨g1, -⟩
    · rw [ha] at g2; exact g2
    · omega
  have hfc := (C.kx.1.1 ci r hc).2.1
  have hgood : GoodIn tbG (wsV mi.1.cls idx r.1 m2.1 (wsM m2)) := wsM_good hws.2.2.2.2 (fun w hw => by
    simp only [List.mem_cons, List.not_mem_nil, or_false] at hw
    rcases hw with rfl | rfl | rfl | rfl
    · exact hws.1
    · exact hws.2.1
    · exact hws.2.2.1
    · exact hws.2.2.2.1)
  have cw := cwV n (rm := roomM G d h) (mc := (roomM G d h).cells) (ms := (roomM G d h).slots) (R := R) C.hts hgood rfl rfl rfl ⟨hcl, hnm⟩ hR
  have hq2 := C.1.2.2.2.2.2.2.2.2.2.2
  have hlo : 12 + (m2.2.2.1 + 11) + (roomM G d h).locals ≤ R.locals := by
    show 12 + (m2.2.2.1 + 11) + 37 * d ≤ R.locals
    omega
  have run : va_RunD lw_cs p la e R (s.setDrawn d0) m args below meth c H locs (hz h - s.heap.size) (psum (fun q => (h.2.1 q).2) s.heap.size (hz h - s.heap.size)) (roomM G d h).cells (roomM G d h).slots (F0 m pc ls (As.reverse ++ .ref a :: st)) st (QcG G h (fun r h' => Ext h h' → Rn G (d + 1) mi (pc + 3) l (r.toList ++ st) h' Q) (Value.ref a :: As).toArray) (fun q => gB G ≤ q) := by
    obtain ⟨⟨hrc, hrs, hfr, -, hws2, hcw, hcode, hini, hy, hlen2, hl⟩, hin, hse⟩ := cw
    have hK := back_of_D (cs := lw_cs) (l := la) (R := R) (p := p) (e := e) (below := below) (sargs := args) (len := 3) (W := 12) (bytes := m2.2.1) (maxL := m2.2.2.1) (ret := m2.2.2.2) hM (PcG.blind _ _ _) rfl rfl hfr hlo hws2 hcw (fun a' U hW => word_at hW (Or.inl (by first | rfl | simp [Cond.onTables, Cond.keeps, Cond.steady])) hini)
    intro T hT X
    obtain ⟨v, vm₁, ⟨U', l2', c2, s2⟩, d', hd', hW₁, X', ⟨g', mk, t, L, e1, e2, hq, h1, hL, h2, h3⟩, stp⟩ := callV_D X C.hx (C := r.1) (bytes := m2.2.1) (maxL := m2.2.2.1) (ret := m2.2.2.2) C.own hl hin hse hcode hy hK (by rw [hT]; exact hcell) (by rw [o1]; rfl) (by rw [hcls]; exact hfc) (g := F0 m pc ls (As.reverse ++ .ref a :: st)) rfl (C.has.1.trans C.1.2.2.2.2.1.symm) (argsL := As) (rest := st) (fun sig h => hn.trans (hlen2 sig h)) rfl (by show 2 * 0 + _ ≤ 12; omega) (by rw [C.hb]; exact hd)
      (fun vm₁ hW₁ => ⟨hf.1, hf.2, rfl, by show Rp G (T.setVm vm₁) h T.heap; rw [hT]; exact Rp.moved (s := s) hW₁.alike C.rp, Kx.warm (s := s) hW₁ C.kx⟩)
    dsimp only [Pt.U, Pt.locs, Pt.cells, Pt.slots] at X' e1 e2 h1 h2 h3 stp
    subst h1; subst h2; subst h3
    exact ⟨v, ((T.setVm vm₁).setDrawn d').calling g' mk (Value.ref a :: As).toArray, t, U', L, d', hd', hT, X', hL, e1, e2, hq, stp⟩
  exact called C K run (fun r h' q x => q x)
set_option maxRecDepth 100000 in
set_option maxHeartbeats 4000000 in
theorem x_callVw2 {idx ci a : Nat} {m2 : MI} {v1 v2 : Value} (hd : decode mi.2.1 pc = .ok (.invokevirtual idx, 3)) (hlk : vLink mi.1.cls idx ci m2 2) (ha : hk h a = ci) (hlen : (lg_sl (.ref a :: [v1, v2])).length ≤ m2.2.2.1) (h14 : m2.2.2.1 ≤ 14) (hst : (st.map fun v => v.category).sum ≤ 12) (kk : Rn G d m2 0 (lv_args 0 (.ref a :: [v1, v2])) [] h (fun r h' => Ext h h' → Rn G (d + 1) mi (pc + 3) l (r.toList ++ st) h' Q)) : Rn G (d + 1) mi pc l (v2 :: v1 :: .ref a :: st) h Q := x_callVw (As := [v1, v2]) hd hlk ha rfl hlen h14 hst kk
end WIDE

