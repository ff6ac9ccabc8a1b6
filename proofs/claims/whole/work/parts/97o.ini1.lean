/-! ===== the class: its constructor ===== -/
section INI1
variable {G : GG} {d : Nat} {h : AH} {Q : Option Value → AH → Prop} {y a : Nat}
def spA (h : AH) (a : Nat) : AH := ast (ast (ast h a 20 61 0) a 20 60 1) a 23 60 2
def spI (h : AH) (a : Nat) : AH := setI (spA h a) (filF (hi (spA h a)) (hz h) 0 61 (nI 2000000000))
set_option maxRecDepth 100000 in
set_option maxHeartbeats 4000000 in
theorem c_X7_init (ka : hk h a = 6) (hlt : a < hz h) (rm : Rm G h 3 181) (hq : Q none (spI h a)) : Rn G (d + 1) mX7_init 0 [(0, .ref a)] [] h Q := by
  have m1 := rm.ast (x := a) (kd := 20) (n := 61) (k := 0) (c := 2) (N := 120)
  have m2 := m1.ast (x := a) (kd := 20) (n := 60) (k := 1) (c := 1) (N := 60)
  have g0 := rm.room (c := 2) (n := 61) (N := 120)
  have g1 := m1.room (c := 1) (n := 60) (N := 60)
  have g2 := m2.room (c := 0) (n := 60) (N := 0)
  have x1 := ast_x (kd := 20) (n := 61) (k := 0) ka hlt
  have x2 := ast_x (kd := 20) (n := 60) (k := 1) x1.1 x1.2
  have x3 := ast_x (kd := 23) (n := 60) (k := 2) x2.1 x2.2
  have y1 : hk (nw h 20 61) a = 6 := x1.1
  have y2 : hk (nw (ast h a 20 61 0) 20 60) a = 6 := x2.1
  have y3 : hk (nw (ast (ast h a 20 61 0) a 20 60 1) 23 60) a = 6 := x3.1
  have y4 : hk (spA h a) a = 6 := x3.1
  have r0 : hr (spA h a) a 0 = some (hz h) := by
    unfold spA
    rw [ast_r (by omega) x2.2, ast_r (by omega) x1.2, ast_rs]
  have mm : hm (spA h a) (hz h) = (20, 61) := by
    unfold spA
    rw [ast_m (by show hz h < hz h + 1 + 1; omega), ast_m (by show hz h < hz h + 1; omega), ast_ms]
  first | refine x_aload_n eX7_init_0 rfl rfl ?_ | refine x_aload_nN eX7_init_0 rfl rfl ?_
  refine x_obj eX7_init_1 lk_X7_3 (Nat.le_of_ble_eq_true rfl) ?_
  first | refine x_aload_n eX7_init_4 rfl rfl ?_ | refine x_aload_nN eX7_init_4 rfl rfl ?_
  refine x_bipush (v := nI 61) eX7_init_5 (by decide) ?_
  refine x_newaN (kd := 20) eX7_init_7 (by decide) rfl ak_20 (by with_reducible rfl) (by omega) (by first | assumption | omega) ?_
  first | refine x_putR eX7_init_9 fk_X7_9 (by decide) rfl ⟨_, rfl, Or.inr ⟨rfl, rfl, rfl⟩⟩ (by assumption) ?_ | refine x_putN eX7_init_9 fk_X7_9 (by decide) rfl ⟨_, rfl, Or.inr ⟨rfl, rfl, rfl⟩⟩ (by assumption) ?_
  first | refine x_aload_n eX7_init_12 rfl rfl ?_ | refine x_aload_nN eX7_init_12 rfl rfl ?_
  refine x_bipush (v := nI 60) eX7_init_13 (by decide) ?_
  refine x_newaN (kd := 20) eX7_init_15 (by decide) rfl ak_20 (by with_reducible rfl) (by omega) (by first | assumption | omega) ?_
  first | refine x_putR eX7_init_17 fk_X7_15 (by decide) rfl ⟨_, rfl, Or.inr ⟨rfl, rfl, rfl⟩⟩ (by assumption) ?_ | refine x_putN eX7_init_17 fk_X7_15 (by decide) rfl ⟨_, rfl, Or.inr ⟨rfl, rfl, rfl⟩⟩ (by assumption) ?_
  first | refine x_aload_n eX7_init_20 rfl rfl ?_ | refine x_aload_nN eX7_init_20 rfl rfl ?_
  refine x_bipush (v := nI 60) eX7_init_21 (by decide) ?_
  refine x_newaN (kd := 23) eX7_init_23 (by decide) rfl ak_23 (by with_reducible rfl) (by omega) (by first | assumption | omega) ?_
  first | refine x_putR eX7_init_25 fk_X7_18 (by decide) rfl ⟨_, rfl, Or.inr ⟨rfl, rfl, rfl⟩⟩ (by assumption) ?_ | refine x_putN eX7_init_25 fk_X7_18 (by decide) rfl ⟨_, rfl, Or.inr ⟨rfl, rfl, rfl⟩⟩ (by assumption) ?_
  first | refine x_aload_n eX7_init_28 rfl rfl ?_ | refine x_aload_nN eX7_init_28 rfl rfl ?_
  first | refine x_getR eX7_init_29 fk_X7_9 rfl (by assumption) (by assumption) ?_ | refine x_getN eX7_init_29 fk_X7_9 rfl (by assumption) (by assumption) ?_
  refine x_ldc (v := 2000000000) eX7_init_32 kk_X7_22 ?_
  refine x_callS2 eX7_init_34 lk_X7_23 (Nat.le_of_ble_eq_true rfl) (Nat.le_of_ble_eq_true rfl) ?_
  refine Rn.deep (c_J7_fillI (d := d) (h := spA h a) (c := hz h) (n := 61) (v := nI 2000000000) (congrArg Prod.fst mm) (congrArg Prod.snd mm) (by omega) (fun _ => ?_)) (by omega)
  refine x_ret (rt := none) eX7_init_37 rfl ?_
  exact hq
end INI1

