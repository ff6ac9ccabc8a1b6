/-! ===== fewest: the packing is made ===== -/
section FEW6
variable {G : GG} {d : Nat} {h h1 h2 : AH} {Q : Option Value → AH → Prop} {ow o2 : Nat → Nat} {T : Nat → Prop} {y p a0 a1 a2 a : Nat} {g ld wd : Nat → Int32}
def inP (h : AH) (a : Nat) : AH := wi (ast (ast (ast h a 20 256 0) a 20 256 1) a 20 256 2) a 3 (nI 1)
set_option maxRecDepth 100000 in
set_option maxHeartbeats 4000000 in
theorem c_X3_init (ka : hk h a = 2) (hlt : a < hz h) (rm : Rm G h 3 768) (hq : Q none (inP h a)) : Rn G (d + 1) mX3_init 0 [(0, .ref a)] [] h Q := by
  have m1 := rm.ast (x := a) (kd := 20) (n := 256) (k := 0) (c := 2) (N := 512)
  have m2 := m1.ast (x := a) (kd := 20) (n := 256) (k := 1) (c := 1) (N := 256)
  have g0 := rm.room (c := 2) (n := 256) (N := 512)
  have g1 := m1.room (c := 1) (n := 256) (N := 256)
  have g2 := m2.room (c := 0) (n := 256) (N := 0)
  have x1 := ast_x (kd := 20) (n := 256) (k := 0) ka hlt
  have x2 := ast_x (kd := 20) (n := 256) (k := 1) x1.1 x1.2
  have x3 := ast_x (kd := 20) (n := 256) (k := 2) x2.1 x2.2
  have y1 : hk (nw h 20 256) a = 2 := x1.1
  have y2 : hk (nw (ast h a 20 256 0) 20 256) a = 2 := x2.1
  have y3 : hk (nw (ast (ast h a 20 256 0) a 20 256 1) 20 256) a = 2 := x3.1
  first | refine x_aload_n eX3_init_0 rfl rfl ?_ | refine x_aload_nN eX3_init_0 rfl rfl ?_
  refine x_obj eX3_init_1 lk_X3_3 (Nat.le_of_ble_eq_true rfl) ?_
  first | refine x_aload_n eX3_init_4 rfl rfl ?_ | refine x_aload_nN eX3_init_4 rfl rfl ?_
  refine x_sipush (v := nI 256) eX3_init_5 (by decide) ?_
  refine x_newaN (kd := 20) eX3_init_8 (by decide) rfl ak_20 (by with_reducible rfl) (by omega) (by first | assumption | omega) ?_
  first | refine x_putR eX3_init_10 fk_X3_11 (by decide) rfl ⟨_, rfl, Or.inr ⟨rfl, rfl, rfl⟩⟩ (by assumption) ?_ | refine x_putN eX3_init_10 fk_X3_11 (by decide) rfl ⟨_, rfl, Or.inr ⟨rfl, rfl, rfl⟩⟩ (by assumption) ?_
  first | refine x_aload_n eX3_init_13 rfl rfl ?_ | refine x_aload_nN eX3_init_13 rfl rfl ?_
  refine x_sipush (v := nI 256) eX3_init_14 (by decide) ?_
  refine x_newaN (kd := 20) eX3_init_17 (by decide) rfl ak_20 (by with_reducible rfl) (by omega) (by first | assumption | omega) ?_
  first | refine x_putR eX3_init_19 fk_X3_15 (by decide) rfl ⟨_, rfl, Or.inr ⟨rfl, rfl, rfl⟩⟩ (by assumption) ?_ | refine x_putN eX3_init_19 fk_X3_15 (by decide) rfl ⟨_, rfl, Or.inr ⟨rfl, rfl, rfl⟩⟩ (by assumption) ?_
  first | refine x_aload_n eX3_init_22 rfl rfl ?_ | refine x_aload_nN eX3_init_22 rfl rfl ?_
  refine x_sipush (v := nI 256) eX3_init_23 (by decide) ?_
  refine x_newaN (kd := 20) eX3_init_26 (by decide) rfl ak_20 (by with_reducible rfl) (by omega) (by first | assumption | omega) ?_
  first | refine x_putR eX3_init_28 fk_X3_18 (by decide) rfl ⟨_, rfl, Or.inr ⟨rfl, rfl, rfl⟩⟩ (by assumption) ?_ | refine x_putN eX3_init_28 fk_X3_18 (by decide) rfl ⟨_, rfl, Or.inr ⟨rfl, rfl, rfl⟩⟩ (by assumption) ?_
  first | refine x_aload_n eX3_init_31 rfl rfl ?_ | refine x_aload_nN eX3_init_31 rfl rfl ?_
  refine x_iconst (v := nI 1) eX3_init_32 (by decide) ?_
  refine x_putI eX3_init_33 fk_X3_21 (by decide) rfl ⟨_, rfl, Or.inl rfl⟩ (by assumption) ?_
  refine x_ret (rt := none) eX3_init_36 rfl ?_
  exact hq
set_option maxRecDepth 100000 in
set_option maxHeartbeats 4000000 in
theorem Core.pk (C : Core ow h y g ld wd) (W : GW g) (F : Fr T ow h o2 h2) (hT : ∀ t, T t → t = 1 ∨ 9 ≤ t ∧ t ≤ 12) (x : Ext h h2) (L2 : Lv o2 h2) (to : To ow o2) (r : ∀ k, k ≠ 8 → hr h2 y k = hr h y k) (e : hi h2 y = hi h y) (P : PackR o2 h2 y) : Core o2 h2 y g ld wd := by
  obtain ⟨C1, C2, C3, C4, C5, C6, ⟨C7, C8⟩, -⟩ := id C
  obtain ⟨-, s2, s3, s5, s6, s7, -⟩ := id C2
  have h24 := W.1.2.2
  have h10 := W.2.1.2.2
  have no : ∀ t, t ≠ 1 → (t < 9 ∨ 12 < t) → ¬ T t := fun t h1 h2 z => by have := hT t z; omega
  have q2 := F.at_ s2.2.2 (by decide) (no _ (by omega) (by omega))
  have q3 := F.at_ s3.2.2 (by decide) (no _ (by omega) (by omega))
  have q5 := F.at_ s5.2.2.2.2 (by decide) (no _ (by omega) (by omega))
  have q6 := F.at_ s6.2.2 (by decide) (no _ (by omega) (by omega))
  have q7 := F.at_ s7.2.2 (by decide) (no _ (by omega) (by omega))
  exact ⟨L2, C2.up C1 x to r q5.2.2.2.2.1, ⟨by rw [e]; exact C3.1, by rw [e]; exact C3.2⟩, fun i hi => (C4 i hi).fr F (no _ (by omega) (by omega)) (no _ (by omega) (by omega)) (by rw [q2.2.2.2.2.1]), fun i hi => (C5 i hi).fr F (no _ (by omega) (by omega)) (no _ (by omega) (by omega)) (no _ (by omega) (by omega)) (W.2.2.1 i hi) (by rw [q2.2.2.2.2.1]) (fun _ _ => rfl) (fun _ _ => rfl), fun t ht => (C6 t ht).fr F (fun u hu => no _ (by unfold sT at hu; omega) (by unfold sT at hu; omega)) (W.2.2.2 t ht) (by rw [q3.2.2.2.2.1]) (fun _ _ => rfl), ⟨fun k hk => by rw [q6.2.2.2.1]; exact C7 k hk, fun k hk => by rw [q7.2.2.2.1]; exact C8 k hk⟩, P⟩
/-- the packing is there -/
def PkS (ow : Nat → Nat) (h : AH) (y p a0 a1 a2 : Nat) : Prop := hr h y 8 = some p ∧ (ow p = 9 ∧ ow a0 = 10 ∧ ow a1 = 11 ∧ ow a2 = 12) ∧ PkO h p a0 a1 a2
set_option maxRecDepth 100000 in
set_option maxHeartbeats 4000000 in
theorem PkS.pack (S : PkS ow h y p a0 a1 a2) : PackR ow h y := by
  obtain ⟨s1, ⟨t1, t2, t3, t4⟩, k1, ⟨r0, r1, r2⟩, ⟨k2, n2⟩, ⟨k3, n3⟩, ⟨k4, n4⟩, -⟩ := S
  exact Or.inr ⟨p, s1, t1, k1, ⟨a0, r0, t2, k2, n2⟩, ⟨a1, r1, t3, k3, n3⟩, ⟨a2, r2, t4, k4, n4⟩⟩
set_option maxRecDepth 100000 in
set_option maxHeartbeats 4000000 in
theorem PkS.of (h8 : ¬ hr h y 8 = none) (P : PackR ow h y) : ∃ p a0 a1 a2, PkS ow h y p a0 a1 a2 := by
  rcases P with z | ⟨p, p1, p2, p3, ⟨a, b1, b2, b3, b4⟩, ⟨b, c1, c2, c3, c4⟩, ⟨c, d1, d2, d3, d4⟩⟩
  · exact absurd z h8
  · have ne : ∀ {u v m n : Nat}, ow u = m → ow v = n → m ≠ n → u ≠ v := fun e1 e2 hne z => hne (by rw [← e1, z, e2])
    exact ⟨p, a, b, c, p1, ⟨p2, b2, c2, d2⟩, p3, ⟨b1, c1, d1⟩, ⟨b3, b4⟩, ⟨c3, c4⟩, ⟨d3, d4⟩, ⟨ne b2 c2 (by decide), ne b2 d2 (by decide), ne c2 d2 (by decide)⟩, ne p2 b2 (by decide), ne p2 c2 (by decide), ne p2 d2 (by decide)⟩
set_option maxRecDepth 100000 in
set_option maxHeartbeats 4000000 in
/-- ints of the packing's arrays may change -/
theorem PkS.upd {F : Nat → Nat → Int32} {v : Int32} (C : Core ow h y g ld wd) (W : GW g) (S : PkS ow h y p a0 a1 a2) (hF : ∀ r, r ≠ a0 → r ≠ a1 → r ≠ a2 → r ≠ p → F r = hi h r) : Core ow (setI h F) y g ld wd ∧ PkS ow (setI h F) y p a0 a1 a2 ∧ Fr (fun t => 9 ≤ t ∧ t ≤ 12) ow h ow (setI h F) := by
  obtain ⟨s1, ⟨t1, t2, t3, t4⟩, P⟩ := id S
  have Fr1 : Fr (fun t => 9 ≤ t ∧ t ≤ 12) ow h ow (setI h F) := fun b hb hT => ⟨rfl, rfl, hF b (fun z => hT (by rw [z, t2]; omega)) (fun z => hT (by rw [z, t3]; omega)) (fun z => hT (by rw [z, t4]; omega)) (fun z => hT (by rw [z, t1]; omega)), rfl, rfl, rfl⟩
  have oy := C.2.1.1.2.2.2.2.2
  have q1 := Fr1.at_ oy (by decide) (by omega)
  have S' : PkS ow (setI h F) y p a0 a1 a2 := S
  exact ⟨C.pk W Fr1 (fun t ht => Or.inr ht) ⟨Nat.le_refl _, fun _ _ => rfl⟩ C.1 To.rf (fun _ _ => rfl) q1.2.2.2.1 S'.pack, S', Fr1⟩
end FEW6

