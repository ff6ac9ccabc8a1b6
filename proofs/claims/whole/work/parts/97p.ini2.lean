/-! ===== the class: its constructor, the run ===== -/
section INI2
variable {G : GG} {d : Nat} {h : AH} {Q : Option Value → AH → Prop} {y a : Nat}
def lfA (h : AH) (y : Nat) : AH := wi (ast (wi (ast h y 31 24 0) y 1 (nI 0)) y 34 10 2) y 3 (nI 0)
def lfB (h : AH) (y : Nat) : AH := wq (spI (nw (lfA h y) 6 3) (hz h + 2)) y 4 (some (hz h + 2))
def lfI (h : AH) (y : Nat) : AH := wq (wi (wi (ast (lfB h y) y 30 16 5) y 6 (nI 0)) y 7 (nI 0)) y 8 none
set_option maxRecDepth 100000 in
set_option maxHeartbeats 4000000 in
theorem spI_k {h : AH} {a q v : Nat} (hq : hk h q = v) (hlt : q < hz h) : hk (spI h a) q = v ∧ q < hz (spI h a) := by
  refine ⟨?_, by show q < hz h + 3; omega⟩
  show (hm (spA h a) q).1 = v
  unfold spA
  rw [ast_m (by show q < hz h + 1 + 1; omega), ast_m (by show q < hz h + 1; omega), ast_m hlt]
  exact hq
set_option maxRecDepth 100000 in
set_option maxHeartbeats 4000000 in
theorem spI_us {h : AH} {a : Nat} (hB : gB G ≤ hz h) : us G (spI h a) = us G h + 181 := by
  have u1 : us G (ast h a 20 61 0) = us G h + 61 := us_nw hB
  have u2 : us G (ast (ast h a 20 61 0) a 20 60 1) = us G (ast h a 20 61 0) + 60 := us_nw (h := ast h a 20 61 0) (by show gB G ≤ hz h + 1; omega)
  have u3 : us G (spA h a) = us G (ast (ast h a 20 61 0) a 20 60 1) + 60 := us_nw (h := ast (ast h a 20 61 0) a 20 60 1) (by show gB G ≤ hz h + 2; omega)
  show us G (spA h a) = _
  omega
set_option maxRecDepth 100000 in
set_option maxHeartbeats 4000000 in
theorem c_X8_init (ka : hk h y = 7) (hlt : y < hz h) (rm : Rm G h 7 234) (hq : Q none (lfI h y)) : Rn G (d + 2) mX8_init 0 [(0, .ref y)] [] h Q := by
  have m1 := rm.ast (x := y) (kd := 31) (n := 24) (k := 0) (c := 6) (N := 210)
  have g0 := rm.room (c := 6) (n := 24) (N := 210)
  have m1' : Rm G (wi (ast h y 31 24 0) y 1 (nI 0)) 6 210 := m1
  have m2 := m1'.ast (x := y) (kd := 34) (n := 10) (k := 2) (c := 5) (N := 200)
  have g1 := m1'.room (c := 5) (n := 10) (N := 200)
  have mA : Rm G (lfA h y) 5 200 := m2
  have gA := mA.room (c := 4) (n := 3) (N := 197)
  have x1 := ast_x (kd := 31) (n := 24) (k := 0) ka hlt
  have x1' : hk (wi (ast h y 31 24 0) y 1 (nI 0)) y = 7 ∧ y < hz (wi (ast h y 31 24 0) y 1 (nI 0)) := x1
  have x2 := ast_x (kd := 34) (n := 10) (k := 2) x1'.1 x1'.2
  have xA : hk (lfA h y) y = 7 ∧ y < hz (lfA h y) := x2
  have y1 : hk (nw h 31 24) y = 7 := x1.1
  have y2 : hk (nw (wi (ast h y 31 24 0) y 1 (nI 0)) 34 10) y = 7 := x2.1
  have ez : hz (lfA h y) = hz h + 2 := rfl
  have b0 := rm.1
  have xN : hk (nw (lfA h y) 6 3) y = 7 ∧ y < hz (nw (lfA h y) 6 3) := ⟨by rw [hk_nw (by omega)]; exact xA.1, by show y < hz (lfA h y) + 1; omega⟩
  have kS : hk (nw (lfA h y) 6 3) (hz h + 2) = 6 := hk_nw' (h := lfA h y)
  have uN : us G (nw (lfA h y) 6 3) = us G (lfA h y) + 3 := us_nw (by omega)
  have rS : Rm G (nw (lfA h y) 6 3) 3 181 := ⟨by show gB G ≤ hz h + 3; omega, by show hz h + 3 + 3 ≤ _; have := mA.2.1; omega, by have := mA.2.2; omega⟩
  have xS := spI_k (a := hz h + 2) xN.1 xN.2
  have xB : hk (lfB h y) y = 7 ∧ y < hz (lfB h y) := xS
  have uS : us G (lfB h y) = us G (nw (lfA h y) 6 3) + 181 := spI_us (h := nw (lfA h y) 6 3) (by show gB G ≤ hz h + 3; omega)
  have gB' : hz (lfB h y) < gB G + 600000 ∧ us G (lfB h y) + 16 ≤ 7302250 := ⟨by show hz h + 6 < _; have := mA.2.1; omega, by have := mA.2.2; omega⟩
  have x3 := ast_x (kd := 30) (n := 16) (k := 5) xB.1 xB.2
  have y3 : hk (nw (lfB h y) 30 16) y = 7 := x3.1
  have w40 : Rn G (d + 2) mX8_init 40 [(0, .ref y)] [.ref (hz h + 2), .ref y] (spI (nw (lfA h y) 6 3) (hz h + 2)) Q := by
    have k0 : hk (spI (nw (lfA h y) 6 3) (hz h + 2)) y = 7 := xS.1
    first | refine x_putR eX8_init_40 fk_X8_31 (by decide) rfl ⟨_, rfl, Or.inr ⟨rfl, rfl, rfl⟩⟩ (by assumption) ?_ | refine x_putN eX8_init_40 fk_X8_31 (by decide) rfl ⟨_, rfl, Or.inr ⟨rfl, rfl, rfl⟩⟩ (by assumption) ?_
    first | refine x_aload_n eX8_init_43 rfl rfl ?_ | refine x_aload_nN eX8_init_43 rfl rfl ?_
    refine x_bipush (v := nI 16) eX8_init_44 (by decide) ?_
    refine x_anewN (kd := 30) eX8_init_46 (by decide) rfl ck_X8_35 (by with_reducible rfl) (by omega) (by first | assumption | omega) ?_
    first | refine x_putR eX8_init_49 fk_X8_37 (by decide) rfl ⟨_, rfl, Or.inr ⟨rfl, rfl, rfl⟩⟩ (by assumption) ?_ | refine x_putN eX8_init_49 fk_X8_37 (by decide) rfl ⟨_, rfl, Or.inr ⟨rfl, rfl, rfl⟩⟩ (by assumption) ?_
    first | refine x_aload_n eX8_init_52 rfl rfl ?_ | refine x_aload_nN eX8_init_52 rfl rfl ?_
    refine x_iconst (v := nI 0) eX8_init_53 (by decide) ?_
    refine x_putI eX8_init_54 fk_X8_41 (by decide) rfl ⟨_, rfl, Or.inl rfl⟩ (by assumption) ?_
    first | refine x_aload_n eX8_init_57 rfl rfl ?_ | refine x_aload_nN eX8_init_57 rfl rfl ?_
    refine x_iconst (v := nI 0) eX8_init_58 (by decide) ?_
    refine x_putI eX8_init_59 fk_X8_44 (by decide) rfl ⟨_, rfl, Or.inl rfl⟩ (by assumption) ?_
    first | refine x_aload_n eX8_init_62 rfl rfl ?_ | refine x_aload_nN eX8_init_62 rfl rfl ?_
    refine x_null eX8_init_63 ?_
    first | refine x_putR eX8_init_64 fk_X8_47 (by decide) rfl ⟨_, rfl, Or.inl rfl⟩ (by assumption) ?_ | refine x_putN eX8_init_64 fk_X8_47 (by decide) rfl ⟨_, rfl, Or.inl rfl⟩ (by assumption) ?_
    refine x_ret (rt := none) eX8_init_67 rfl ?_
    exact hq
  first | refine x_aload_n eX8_init_0 rfl rfl ?_ | refine x_aload_nN eX8_init_0 rfl rfl ?_
  refine x_obj eX8_init_1 lk_X8_1 (Nat.le_of_ble_eq_true rfl) ?_
  first | refine x_aload_n eX8_init_4 rfl rfl ?_ | refine x_aload_nN eX8_init_4 rfl rfl ?_
  refine x_bipush (v := nI 24) eX8_init_5 (by decide) ?_
  refine x_anewN (kd := 31) eX8_init_7 (by decide) rfl ck_X8_9 (by with_reducible rfl) (by omega) (by first | assumption | omega) ?_
  first | refine x_putR eX8_init_10 fk_X8_11 (by decide) rfl ⟨_, rfl, Or.inr ⟨rfl, rfl, rfl⟩⟩ (by assumption) ?_ | refine x_putN eX8_init_10 fk_X8_11 (by decide) rfl ⟨_, rfl, Or.inr ⟨rfl, rfl, rfl⟩⟩ (by assumption) ?_
  first | refine x_aload_n eX8_init_13 rfl rfl ?_ | refine x_aload_nN eX8_init_13 rfl rfl ?_
  refine x_iconst (v := nI 0) eX8_init_14 (by decide) ?_
  refine x_putI eX8_init_15 fk_X8_15 (by decide) rfl ⟨_, rfl, Or.inl rfl⟩ (by assumption) ?_
  first | refine x_aload_n eX8_init_18 rfl rfl ?_ | refine x_aload_nN eX8_init_18 rfl rfl ?_
  refine x_bipush (v := nI 10) eX8_init_19 (by decide) ?_
  refine x_anewN (kd := 34) eX8_init_21 (by decide) rfl ck_X8_19 (by with_reducible rfl) (by omega) (by first | assumption | omega) ?_
  first | refine x_putR eX8_init_24 fk_X8_21 (by decide) rfl ⟨_, rfl, Or.inr ⟨rfl, rfl, rfl⟩⟩ (by assumption) ?_ | refine x_putN eX8_init_24 fk_X8_21 (by decide) rfl ⟨_, rfl, Or.inr ⟨rfl, rfl, rfl⟩⟩ (by assumption) ?_
  first | refine x_aload_n eX8_init_27 rfl rfl ?_ | refine x_aload_nN eX8_init_27 rfl rfl ?_
  refine x_iconst (v := nI 0) eX8_init_28 (by decide) ?_
  refine x_putI eX8_init_29 fk_X8_25 (by decide) rfl ⟨_, rfl, Or.inl rfl⟩ (by assumption) ?_
  first | refine x_aload_n eX8_init_32 rfl rfl ?_ | refine x_aload_nN eX8_init_32 rfl rfl ?_
  refine x_new (ci := 6) eX8_init_33 rfl ck_X8_28 (by first | assumption | omega) ?_
  refine x_dup eX8_init_36 rfl ?_
  refine x_callI0 eX8_init_37 lk_X8_30 (Nat.le_of_ble_eq_true rfl) (Nat.le_of_ble_eq_true rfl) ?_
  refine Rn.deep (c_X7_init (d := d) kS (by show hz h + 2 < hz h + 3; omega) rS (fun _ => ?_)) (by omega)
  exact w40
end INI2

