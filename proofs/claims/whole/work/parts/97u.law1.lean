/-! ===== the law: what class and reference have in common between two calls ===== -/
section LAW1
variable {G : GG} {d : Nat} {mi : MI} {pc : Nat} {l : List (Nat × Value)} {st : List Value} {h : AH} {Q : Option Value → AH → Prop}
set_option maxRecDepth 100000 in
set_option maxHeartbeats 4000000 in
/-- the script is always there -/
theorem Rn.kn (k : hk h (gb G) = 19 → hn h (gb G) = gL G → (∀ j, hi h (gb G) j = gx G j) → Rn G d mi pc l st h Q) : Rn G d mi pc l st h Q :=
  fun p la e R s m args below meth c H locs QF d0 ls C K => k C.rp.2.2.2.2.2.2.2.1 C.rp.2.2.2.2.2.2.2.2.1 C.rp.2.2.2.2.2.2.2.2.2.1 p la e R s m args below meth c H locs QF d0 ls C K
set_option maxRecDepth 100000 in
set_option maxHeartbeats 4000000 in
theorem x_scr {i : Int32} {k : Nat} (hd : decode mi.2.1 pc = .ok (.iaload, 1)) (ei : i = nI k) (hkn : k < gL G) (hs : gL G < 2 ^ 31) (kk : Rn G d mi (pc + 1) l (.int (gx G k) :: st) h Q) : Rn G d mi pc l (.int i :: .ref (gb G) :: st) h Q :=
  Rn.kn (fun e1 e2 e3 => x_sldN hd ei e1 e2 hkn hs (by rw [e3]; exact kk))
set_option maxRecDepth 100000 in
set_option maxHeartbeats 4000000 in
theorem x_scl (hd : decode mi.2.1 pc = .ok (.arraylength, 1)) (kk : Rn G d mi (pc + 1) l (.int (nI (gL G)) :: st) h Q) : Rn G d mi pc l (.ref (gb G) :: st) h Q :=
  Rn.kn (fun e1 e2 _ => x_slenN hd e1 e2 kk)
end LAW1
/-- y the class's object, x the reference's, o the tags, ps the states before -/
def Rel (h : AH) (y x : Nat) (o : Nat → Nat) (kp nx la : Nat) (ps : Nat → Nat → Int32) : Prop :=
  (MD h x ∧ MK h x kp la ∧ ∀ i, i < 10 → o (x + i) = 13) ∧ Core o h y (hi h (x + 1)) (hi h (x + 3)) (hi h (x + 4)) ∧ Acts o h y (hi h (x + 1)) kp nx ps ∧ (GI (hi h (x + 1)) ∧ BO (hi h (x + 1))) ∧
  ∀ j, j < kp → GI (ps j) ∧ BO (ps j) ∧ ∀ k, k < 9000 → ps j k = hi h (x + 2) (9000 * ((la + 16 - j) % 16) + k)
section LAW2
variable {G : GG} {h h2 : AH} {y x kp nx la : Nat} {o o2 : Nat → Nat} {g2 ld2 wd2 : Nat → Int32} {ps : Nat → Nat → Int32}
set_option maxRecDepth 100000 in
set_option maxHeartbeats 4000000 in
theorem MD.keep (M : MD h x) (e : ∀ i, i < 10 → hm h2 (x + i) = hm h (x + i)) (r : ∀ i, i < 10 → hr h2 (x + i) = hr h (x + i)) : MD h2 x := by
  have ek : ∀ i, i < 10 → hk h2 (x + i) = hk h (x + i) := fun i hi4 => congrArg Prod.fst (e i hi4)
  have en : ∀ i, i < 10 → hn h2 (x + i) = hn h (x + i) := fun i hi4 => congrArg Prod.snd (e i hi4)
  have r0 : hr h2 x = hr h x := r 0 (by omega)
  have k0 : hk h2 x = hk h x := ek 0 (by omega)
  obtain ⟨⟨a1, a2, a3, a4⟩, ⟨b1, b2, b3⟩, ⟨c1, c2, c3⟩, ⟨d1, d2, d3⟩, ⟨e1, e2, e3⟩, ⟨f1, f2, f3⟩, ⟨g1, g2, g3⟩, ⟨i1, i2, i3⟩, ⟨j1, j2, j3⟩⟩ := M
  unfold MD
  rw [r0, k0, ek 1 (by omega), en 1 (by omega), ek 2 (by omega), en 2 (by omega), ek 3 (by omega), en 3 (by omega), ek 4 (by omega), en 4 (by omega), ek 5 (by omega), en 5 (by omega), ek 6 (by omega), en 6 (by omega), ek 7 (by omega), en 7 (by omega), ek 8 (by omega), en 8 (by omega), ek 9 (by omega), en 9 (by omega)]
  exact ⟨⟨a1, a2, a3, a4⟩, ⟨b1, b2, b3⟩, ⟨c1, c2, c3⟩, ⟨d1, d2, d3⟩, ⟨e1, e2, e3⟩, ⟨f1, f2, f3⟩, ⟨g1, g2, g3⟩, ⟨i1, i2, i3⟩, ⟨j1, j2, j3⟩⟩
set_option maxRecDepth 100000 in
set_option maxHeartbeats 4000000 in
/-- behind the class's call -/
theorem Rel.mid (R : Rel h y x o kp nx la ps) (Z : Zk o h o2 h2) : MD h2 x ∧ MK h2 x kp la ∧ (∀ i, i < 10 → o2 (x + i) = 13) ∧ (∀ i, i < 10 → hi h2 (x + i) = hi h (x + i)) ∧ hk h2 x = 8 := by
  obtain ⟨⟨M, K, T⟩, -⟩ := R
  have z := fun i hi4 => Z (x + i) (T i hi4)
  have M2 : MD h2 x := M.keep (fun i h4 => (z i h4).2.1) (fun i h4 => (z i h4).2.2.2)
  have e0 : hi h2 x = hi h x := (z 0 (by omega)).2.2.1
  exact ⟨M2, ⟨by rw [e0]; exact K.1, by rw [e0]; exact K.2.1, K.2.2⟩, fun i h4 => (z i h4).1, fun i h4 => (z i h4).2.2.1, M2.1.1⟩
set_option maxRecDepth 100000 in
set_option maxHeartbeats 4000000 in
theorem Rel.ky (R : Rel h y x o kp nx la ps) : hk h y = 7 := R.2.1.2.1.1.1
set_option maxRecDepth 100000 in
set_option maxHeartbeats 4000000 in
theorem Rel.kx (R : Rel h y x o kp nx la ps) : hk h x = 8 := R.1.1.1.1
set_option maxRecDepth 100000 in
set_option maxHeartbeats 4000000 in
/-- an act of both -/
theorem Rel.act (R : Rel h y x o kp nx la ps) (P : Ps G y o h g2 (hi h (x + 3)) (hi h (x + 4)) (kpS kp) ((nx + 1) % 16) (cns (hi h (x + 1)) ps) h2) (I2 : GI g2) (B2 : BO g2) : ∃ o2, Rel (acted h2 x la kp g2) y x o2 (kpS kp) ((nx + 1) % 16) ((la + 1) % 16) (cns (hi h (x + 1)) ps) := by
  obtain ⟨o2, C2, K2, Z, -, -⟩ := P
  obtain ⟨M2, MK2, T2, E2, -⟩ := R.mid Z
  obtain ⟨⟨M, ⟨q1, q2, q3, q4⟩, T⟩, C, K, ⟨I, B⟩, H⟩ := R
  have hF : ∀ a, o2 a ≠ 13 → ST (actF (hi h2) x la kp) x g2 a = hi h2 a := fun a ha => by
    have n0 : a ≠ x := fun z => ha (by rw [z]; exact T2 0 (by omega))
    have n1 : a ≠ x + 1 := fun z => ha (by rw [z]; exact T2 1 (by omega))
    have n2 : a ≠ x + 2 := fun z => ha (by rw [z]; exact T2 2 (by omega))
    funext j
    unfold ST actF
    rw [if_neg n1, up2_a n0]
    unfold cpyF
    rw [if_neg (fun z => n2 z.1), up2_a n0]
  obtain ⟨C3, K3⟩ := zone_set C2 K2 I2.gw hF
  have e1 : hi (acted h2 x la kp g2) (x + 1) = g2 := hi_acted h2 x la kp g2
  have far : ∀ i, 3 ≤ i → i < 10 → hi (acted h2 x la kp g2) (x + i) = hi h (x + i) := fun i h3 h4 => by
    rw [← E2 i h4]
    show ST (actF (hi h2) x la kp) x g2 (x + i) = hi h2 (x + i)
    funext j
    unfold ST actF
    rw [if_neg (by omega), up2_a (by omega)]
    unfold cpyF
    rw [if_neg (by omega), up2_a (by omega)]
  have past : ∀ j, hi (acted h2 x la kp g2) (x + 2) j = if 9000 * ((la + 1) % 16) ≤ j ∧ j < 9000 * ((la + 1) % 16) + 9000 then hi h (x + 1) (j - 9000 * ((la + 1) % 16)) else hi h (x + 2) j := fun j => by
    show ST (actF (hi h2) x la kp) x g2 (x + 2) j = _
    unfold ST actF
    rw [if_neg (by omega), up2_a (by omega)]
    unfold cpyF
    by_cases z : 9000 * ((la + 1) % 16) ≤ j ∧ j < 9000 * ((la + 1) % 16) + 9000
    · rw [if_pos ⟨rfl, z⟩, if_pos z, up2_a (by omega), E2 1 (by omega), Nat.zero_add]
    · rw [if_neg (fun w => z w.2), if_neg z, up2_a (by omega), E2 2 (by omega)]
  have x2 : hi (acted h2 x la kp g2) x 2 = nI (kpS kp) := by
    show ST (actF (hi h2) x la kp) x g2 x 2 = _
    unfold ST actF
    rw [if_neg (by omega)]
    unfold up2 kpS
    rw [if_pos ⟨rfl, rfl⟩]
  have x3 : hi (acted h2 x la kp g2) x 3 = nI ((la + 1) % 16) := by
    show ST (actF (hi h2) x la kp) x g2 x 3 = _
    unfold ST actF
    rw [if_neg (by omega), up2_ne (by omega)]
    unfold cpyF
    rw [if_neg (by omega)]
    unfold up2
    rw [if_pos ⟨rfl, rfl⟩]
  refine ⟨o2, ⟨M2, ⟨x2, x3, by unfold kpS; split <;> omega, by omega⟩, T2⟩, ?_, ?_, ?_, fun j hj => ?_⟩
  · rw [e1, far 3 (by omega) (by omega), far 4 (by omega) (by omega)]
    exact C3
  · rw [e1]
    exact K3
  · rw [e1]
    exact ⟨I2, B2⟩
  · have hj16 : j < kp + 1 ∧ j < 16 := by unfold kpS at hj; split at hj <;> omega
    unfold cns
    by_cases z : j = 0
    · subst z
      rw [if_pos rfl]
      refine ⟨I, B, fun k hk4 => ?_⟩
      rw [past, show ((la + 1) % 16 + 16 - 0) % 16 = (la + 1) % 16 by omega, if_pos (by omega)]
      congr 1
      omega
    · rw [if_neg z]
      obtain ⟨i1, i2, i3⟩ := H (j - 1) (by omega)
      refine ⟨i1, i2, fun k hk4 => ?_⟩
      rw [i3 k hk4, past, show ((la + 1) % 16 + 16 - j) % 16 = (la + 16 - (j - 1)) % 16 by omega, if_neg (by omega)]
end LAW2

