/-! ===== fewest: the packing is new ===== -/
section FEW7
variable {G : GG} {d : Nat} {h h1 h2 : AH} {Q : Option Value → AH → Prop} {ow o2 : Nat → Nat} {y p a0 a1 a2 a : Nat} {g ld wd : Nat → Int32}
def pkT (t : Nat) : Prop := t = 1 ∨ 9 ≤ t ∧ t ≤ 12
def npH (h : AH) (y : Nat) : AH := wq (inP (nw h 2 4) (hz h)) y 8 (some (hz h))
set_option maxRecDepth 100000 in
set_option maxHeartbeats 4000000 in
theorem pk_new (C : Core ow h y g ld wd) (W : GW g) (rm : Rm G h 100 6000) : ∃ o1, Core o1 (npH h y) y g ld wd ∧ PkS o1 (npH h y) y (hz h) (hz h + 1) (hz h + 2) (hz h + 3) ∧ Fr pkT ow h o1 (npH h y) ∧ Ext h (npH h y) ∧ hz (npH h y) = hz h + 4 ∧ us G (npH h y) = us G h + 772 ∧ hi (npH h y) y = hi h y := by
  have oy := C.2.1.1.2.2.2.2.2
  have ly := (C.1 y (by omega)).1
  have L0 : Lv (upd0 ow (hz h) 9) (nw h 2 4) := Lv.nw C.1 (fun z => by cases z)
  have L1 : Lv (upd0 (upd0 ow (hz h) 9) (hz h + 1) 10) (ast (nw h 2 4) (hz h) 20 256 0) := Lv.nw (h := nw h 2 4) L0 (fun z => by cases z)
  have L2 : Lv (upd0 (upd0 (upd0 ow (hz h) 9) (hz h + 1) 10) (hz h + 2) 11) (ast (ast (nw h 2 4) (hz h) 20 256 0) (hz h) 20 256 1) := Lv.nw (h := ast (nw h 2 4) (hz h) 20 256 0) L1 (fun z => by cases z)
  have L3 : Lv (upd0 (upd0 (upd0 (upd0 ow (hz h) 9) (hz h + 1) 10) (hz h + 2) 11) (hz h + 3) 12) (ast (ast (ast (nw h 2 4) (hz h) 20 256 0) (hz h) 20 256 1) (hz h) 20 256 2) := Lv.nw (h := ast (ast (nw h 2 4) (hz h) 20 256 0) (hz h) 20 256 1) L2 (fun z => by cases z)
  obtain ⟨o1, ho⟩ : ∃ o1, o1 = upd0 (upd0 (upd0 (upd0 ow (hz h) 9) (hz h + 1) 10) (hz h + 2) 11) (hz h + 3) 12 := ⟨_, rfl⟩
  have t9 : o1 (hz h) = 9 := by rw [ho, upd0_ne (by omega), upd0_ne (by omega), upd0_ne (by omega), upd0_same]
  have t10 : o1 (hz h + 1) = 10 := by rw [ho, upd0_ne (by omega), upd0_ne (by omega), upd0_same]
  have t11 : o1 (hz h + 2) = 11 := by rw [ho, upd0_ne (by omega), upd0_same]
  have t12 : o1 (hz h + 3) = 12 := by rw [ho, upd0_same]
  have tq : ∀ q, q < hz h → o1 q = ow q := fun q hq => by rw [ho, upd0_ne (by omega), upd0_ne (by omega), upd0_ne (by omega), upd0_ne (by omega)]
  rw [← ho] at L3
  have x0 : hk (nw h 2 4) (hz h) = 2 ∧ hz h < hz (nw h 2 4) := ⟨hk_nw', by show hz h < hz h + 1; omega⟩
  have x1 := ast_x (kd := 20) (n := 256) (k := 0) x0.1 x0.2
  have x2 := ast_x (kd := 20) (n := 256) (k := 1) x1.1 x1.2
  have x3 := ast_x (kd := 20) (n := 256) (k := 2) x2.1 x2.2
  have m0 : ∀ q, q < hz h → hm (npH h y) q = hm h q := fun q hq => by
    show hm (ast (ast (ast (nw h 2 4) (hz h) 20 256 0) (hz h) 20 256 1) (hz h) 20 256 2) q = _
    rw [ast_m (by show q < hz h + 1 + 1 + 1; omega), ast_m (by show q < hz h + 1 + 1; omega), ast_m (by show q < hz h + 1; omega), (nw_ne (by omega)).1]
  have m1 : hm (npH h y) (hz h + 1) = (20, 256) := by
    show hm (ast (ast (ast (nw h 2 4) (hz h) 20 256 0) (hz h) 20 256 1) (hz h) 20 256 2) (hz h + 1) = _
    rw [ast_m (by show hz h + 1 < hz h + 1 + 1 + 1; omega), ast_m (by show hz h + 1 < hz h + 1 + 1; omega)]
    exact ast_ms (h := nw h 2 4)
  have m2 : hm (npH h y) (hz h + 2) = (20, 256) := by
    show hm (ast (ast (ast (nw h 2 4) (hz h) 20 256 0) (hz h) 20 256 1) (hz h) 20 256 2) (hz h + 2) = _
    rw [ast_m (by show hz h + 2 < hz h + 1 + 1 + 1; omega)]
    exact ast_ms (h := ast (nw h 2 4) (hz h) 20 256 0)
  have m3 : hm (npH h y) (hz h + 3) = (20, 256) := ast_ms (h := ast (ast (nw h 2 4) (hz h) 20 256 0) (hz h) 20 256 1) (x := hz h) (k := 2)
  have kk : ∀ q k n, hm (npH h y) q = (k, n) → hk (npH h y) q = k ∧ hn (npH h y) q = n := fun q k n e => ⟨congrArg Prod.fst e, congrArg Prod.snd e⟩
  have ra : ∀ k, hr (npH h y) (hz h) k = hr (ast (ast (ast (nw h 2 4) (hz h) 20 256 0) (hz h) 20 256 1) (hz h) 20 256 2) (hz h) k := fun k => by
    show up2 (hr (ast (ast (ast (nw h 2 4) (hz h) 20 256 0) (hz h) 20 256 1) (hz h) 20 256 2)) y 8 _ (hz h) k = _
    rw [up2_a (by omega)]
  have r0 : hr (npH h y) (hz h) 0 = some (hz h + 1) := by
    rw [ra, ast_r (by omega) x2.2, ast_r (by omega) x1.2]
    exact ast_rs (h := nw h 2 4)
  have r1 : hr (npH h y) (hz h) 1 = some (hz h + 2) := by
    rw [ra, ast_r (by omega) x2.2]
    exact ast_rs (h := ast (nw h 2 4) (hz h) 20 256 0)
  have r2 : hr (npH h y) (hz h) 2 = some (hz h + 3) := by
    rw [ra]
    exact ast_rs (h := ast (ast (nw h 2 4) (hz h) 20 256 0) (hz h) 20 256 1)
  have S : PkS o1 (npH h y) y (hz h) (hz h + 1) (hz h + 2) (hz h + 3) := ⟨up2_same _ _ _ _, ⟨t9, t10, t11, t12⟩, x3.1, ⟨r0, r1, r2⟩, kk _ _ _ m1, kk _ _ _ m2, kk _ _ _ m3, ⟨by omega, by omega, by omega⟩, by omega, by omega, by omega⟩
  have ev : ∀ q, q < hz h → hi (npH h y) q = hi h q ∧ (∀ k, hr (npH h y) q k = if q = y ∧ k = 8 then some (hz h) else hr h q k) ∧ hl (npH h y) q = hl h q ∧ hf (npH h y) q = hf h q := fun q hq => by
    have e0 := nw_ne (h := h) (kd := 2) (n := 4) (b := q) (by omega)
    have e1 := nw_ne (h := nw h 2 4) (kd := 20) (n := 256) (b := q) (by show q ≠ hz h + 1; omega)
    have e2 := nw_ne (h := ast (nw h 2 4) (hz h) 20 256 0) (kd := 20) (n := 256) (b := q) (by show q ≠ hz h + 2; omega)
    have e3 := nw_ne (h := ast (ast (nw h 2 4) (hz h) 20 256 0) (hz h) 20 256 1) (kd := 20) (n := 256) (b := q) (by show q ≠ hz h + 3; omega)
    refine ⟨?_, fun k => ?_, ?_, ?_⟩
    · show up2 (hi (nw (ast (ast (nw h 2 4) (hz h) 20 256 0) (hz h) 20 256 1) 20 256)) (hz h) 3 _ q = _
      rw [up2_a (by omega), e3.2.1]
      show hi (nw (ast (nw h 2 4) (hz h) 20 256 0) 20 256) q = _
      rw [e2.2.1]
      show hi (nw (nw h 2 4) 20 256) q = _
      rw [e1.2.1, e0.2.1]
    · have base : hr (ast (ast (ast (nw h 2 4) (hz h) 20 256 0) (hz h) 20 256 1) (hz h) 20 256 2) q = hr h q := by
        show up2 (hr (nw (ast (ast (nw h 2 4) (hz h) 20 256 0) (hz h) 20 256 1) 20 256)) (hz h) 2 _ q = _
        rw [up2_a (by omega), e3.2.2.1]
        show up2 (hr (nw (ast (nw h 2 4) (hz h) 20 256 0) 20 256)) (hz h) 1 _ q = _
        rw [up2_a (by omega), e2.2.2.1]
        show up2 (hr (nw (nw h 2 4) 20 256)) (hz h) 0 _ q = _
        rw [up2_a (by omega), e1.2.2.1, e0.2.2.1]
      show up2 (hr (ast (ast (ast (nw h 2 4) (hz h) 20 256 0) (hz h) 20 256 1) (hz h) 20 256 2)) y 8 (some (hz h)) q k = _
      by_cases z : q = y ∧ k = 8
      · rw [if_pos z, z.1, z.2, up2_same]
      · rw [if_neg z, up2_ne z, base]
    · show hl (nw (ast (ast (nw h 2 4) (hz h) 20 256 0) (hz h) 20 256 1) 20 256) q = _
      rw [e3.2.2.2.1]
      show hl (nw (ast (nw h 2 4) (hz h) 20 256 0) 20 256) q = _
      rw [e2.2.2.2.1]
      show hl (nw (nw h 2 4) 20 256) q = _
      rw [e1.2.2.2.1, e0.2.2.2.1]
    · show hf (nw (ast (ast (nw h 2 4) (hz h) 20 256 0) (hz h) 20 256 1) 20 256) q = _
      rw [e3.2.2.2.2]
      show hf (nw (ast (nw h 2 4) (hz h) 20 256 0) 20 256) q = _
      rw [e2.2.2.2.2]
      show hf (nw (nw h 2 4) 20 256) q = _
      rw [e1.2.2.2.2, e0.2.2.2.2]
  have x : Ext h (npH h y) := ⟨by show hz h ≤ hz h + 4; omega, fun q hq => m0 q hq⟩
  have F : Fr pkT ow h o1 (npH h y) := fun b hb hT => by
    have lb := (C.1 b hb).1
    obtain ⟨v1, v2, v3, v4⟩ := ev b lb
    exact ⟨tq b lb, m0 b lb, v1, funext fun k => by rw [v2 k, if_neg (fun z => hT (by rw [z.1, oy]; exact Or.inl rfl))], v3, v4⟩
  have to : To ow o1 := fun b h0 _ => tq b (C.1 b h0).1
  refine ⟨o1, C.pk W F (fun t ht => ht) x L3 to (fun k hk => ?_) (ev y ly).1 S.pack, S, F, x, rfl, ?_, (ev y ly).1⟩
  · rw [(ev y ly).2.1 k, if_neg (fun z => hk z.2)]
  · show us G (ast (ast (ast (nw h 2 4) (hz h) 20 256 0) (hz h) 20 256 1) (hz h) 20 256 2) = _
    have b := rm.1
    have u0 : us G (nw h 2 4) = us G h + 4 := us_nw b
    have u1 : us G (ast (nw h 2 4) (hz h) 20 256 0) = us G (nw h 2 4) + 256 := us_nw (h := nw h 2 4) (by show gB G ≤ hz h + 1; omega)
    have u2 : us G (ast (ast (nw h 2 4) (hz h) 20 256 0) (hz h) 20 256 1) = us G (ast (nw h 2 4) (hz h) 20 256 0) + 256 := us_nw (h := ast (nw h 2 4) (hz h) 20 256 0) (by show gB G ≤ hz h + 2; omega)
    have u3 : us G (ast (ast (ast (nw h 2 4) (hz h) 20 256 0) (hz h) 20 256 1) (hz h) 20 256 2) = us G (ast (ast (nw h 2 4) (hz h) 20 256 0) (hz h) 20 256 1) + 256 := us_nw (h := ast (ast (nw h 2 4) (hz h) 20 256 0) (hz h) 20 256 1) (by show gB G ≤ hz h + 3; omega)
    omega
end FEW7

