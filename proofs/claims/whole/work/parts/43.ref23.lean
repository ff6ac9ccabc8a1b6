/-! ===== the reference: its constructor ===== -/
/-- a new array, put into a field -/
def ast (h : AH) (x kd n k : Nat) : AH := wq (nw h kd n) x k (some (hz h))
/-- room for c cells more with n slots -/
def Rm (G : GG) (h : AH) (c n : Nat) : Prop := gB G ≤ hz h ∧ hz h + c ≤ gB G + 600000 ∧ us G h + n ≤ 7302250
set_option maxRecDepth 100000 in
set_option maxHeartbeats 4000000 in
theorem ast_room {G : GG} {h : AH} {x kd n k c N : Nat} (r : Rm G h (c + 1) (N + n)) : Rm G (ast h x kd n k) c N := by
  obtain ⟨r1, r2, r3⟩ := r
  have e : us G (ast h x kd n k) = us G h + n := us_nw r1
  have z : hz (ast h x kd n k) = hz h + 1 := rfl
  exact ⟨by omega, by omega, by omega⟩
set_option maxRecDepth 100000 in
set_option maxHeartbeats 4000000 in
theorem Rm.ast {G : GG} {h : AH} {x kd n k c N : Nat} (r : Rm G h (c + 1) (N + n)) : Rm G (ast h x kd n k) c N := ast_room r
set_option maxRecDepth 100000 in
set_option maxHeartbeats 4000000 in
theorem Rm.room {G : GG} {h : AH} {c n N : Nat} (r : Rm G h (c + 1) (N + n)) : hz h < gB G + 600000 ∧ us G h + n ≤ 7302250 := by
  obtain ⟨r1, r2, r3⟩ := r
  exact ⟨by omega, by omega⟩
set_option maxRecDepth 100000 in
set_option maxHeartbeats 4000000 in
theorem ast_x {h : AH} {x kd n k v : Nat} (hx : hk h x = v) (hlt : x < hz h) : hk (ast h x kd n k) x = v ∧ x < hz (ast h x kd n k) := by
  constructor
  · show (if x = h.1 then (kd, n) else h.2.1 x).1 = v
    rw [if_neg (by unfold hz at hlt; omega)]
    exact hx
  · show x < hz h + 1
    omega
/-- the reference's arrays made -/
def iniA (h : AH) (x : Nat) : AH := ast (ast (ast (ast (ast (ast (ast (ast (ast h x 20 9000 0) x 20 144000 1) x 20 61 4) x 20 60 5) x 24 200 6) x 20 8 7) x 20 256 8) x 20 256 9) x 20 10 10
set_option maxRecDepth 100000 in
set_option maxHeartbeats 4000000 in
theorem ast_r {h : AH} {x kd n k q : Nat} (hne : q ≠ k) (hlt : x < hz h) : hr (ast h x kd n k) x q = hr h x q := by
  have e1 : x ≠ h.1 := by unfold hz at hlt; omega
  show up2 (up1 h.2.2.2.1 h.1 none) x k (some (hz h)) x q = h.2.2.2.1 x q
  rw [up2_ne (by omega)]
  unfold up1
  rw [if_neg e1]
set_option maxRecDepth 100000 in
set_option maxHeartbeats 4000000 in
theorem ast_rs {h : AH} {x kd n k : Nat} : hr (ast h x kd n k) x k = some (hz h) := up2_same _ _ _ _
set_option maxRecDepth 100000 in
set_option maxHeartbeats 4000000 in
theorem ast_m {h : AH} {x kd n k a : Nat} (ha : a < hz h) : hm (ast h x kd n k) a = hm h a := by
  show (if a = h.1 then (kd, n) else h.2.1 a) = h.2.1 a
  rw [if_neg (by unfold hz at ha; omega)]
set_option maxRecDepth 100000 in
set_option maxHeartbeats 4000000 in
theorem ast_ms {h : AH} {x kd n k : Nat} : hm (ast h x kd n k) (hz h) = (kd, n) := if_pos rfl
set_option maxRecDepth 100000 in
set_option maxHeartbeats 4000000 in
theorem ast_z {h : AH} {x kd n k : Nat} : hz (ast h x kd n k) = hz h + 1 := rfl
set_option maxRecDepth 100000 in
set_option maxHeartbeats 4000000 in
theorem iniA_4 {h : AH} {x : Nat} (hlt : x < hz h) : hr (iniA h x) x 4 = some (hz h + 2) := by
  unfold iniA
  rw [ast_r (by omega) (by simp only [ast_z]; omega), ast_r (by omega) (by simp only [ast_z]; omega), ast_r (by omega) (by simp only [ast_z]; omega), ast_r (by omega) (by simp only [ast_z]; omega), ast_r (by omega) (by simp only [ast_z]; omega), ast_r (by omega) (by simp only [ast_z]; omega), ast_rs]
  rfl
set_option maxRecDepth 100000 in
set_option maxHeartbeats 4000000 in
theorem iniA_m {h : AH} {x : Nat} : hm (iniA h x) (hz h + 2) = (20, 61) := by
  unfold iniA
  rw [ast_m (by simp only [ast_z]; omega), ast_m (by simp only [ast_z]; omega), ast_m (by simp only [ast_z]; omega), ast_m (by simp only [ast_z]; omega), ast_m (by simp only [ast_z]; omega), ast_m (by simp only [ast_z]; omega)]
  exact ast_ms
set_option maxRecDepth 100000 in
set_option maxHeartbeats 4000000 in
theorem iniA_k {h : AH} {x : Nat} (_ : x < hz h) : hk (iniA h x) (hz h + 2) = 20 := congrArg (·.1) (iniA_m (h := h) (x := x))
set_option maxRecDepth 100000 in
set_option maxHeartbeats 4000000 in
theorem iniA_n {h : AH} {x : Nat} (_ : x < hz h) : hn (iniA h x) (hz h + 2) = 61 := congrArg (·.2) (iniA_m (h := h) (x := x))
section REF23
variable {G : GG} {d : Nat} {h : AH} {Q : Option Value → AH → Prop} {x la kp : Nat}
set_option maxRecDepth 100000 in
set_option maxHeartbeats 4000000 in
theorem l_X9_init {a : Nat} (hx : hk h x = 8) (h4 : hr h x 4 = some a) (k4 : hk h a = 20) (n4 : hn h a = 61) (hq : Q none (setI h (filF (hi h) a 0 61 2000000000))) : ∀ n k, k + n = 61 → Rn G (d + 1) mX9_init 82 [(0, .ref x), (1, .int (nI k))] [] (setI h (filF (hi h) a 0 k 2000000000)) Q := by
  intro n
  induction n with
  | zero =>
    intro k hk0
    have e : k = 61 := by omega
    subst e
    refine x_iload_n eX9_init_82 rfl rfl ?_
    refine x_bipush (v := nI 60) eX9_init_83 (by decide) ?_
    first | refine x_icmp_gtN (tgt := 102) eX9_init_85 (by decide) (by with_reducible rfl) (by with_reducible rfl) (by omega) (by omega) (fun cq1 => ?_) (fun cq1 => ?_) | refine x_icmp_gt (tgt := 102) eX9_init_85 (by decide) (fun cq1 => ?_) (fun cq1 => ?_)
    · refine x_ret (rt := none) eX9_init_102 rfl ?_
      exact hq
    · exact absurd cq1 (by omega)
  | succ n ih =>
    intro k hk0
    have hx2 : hk (setI h (filF (hi h) a 0 k 2000000000)) x = 8 := hx
    have h42 : hr (setI h (filF (hi h) a 0 k 2000000000)) x 4 = some a := h4
    have k42 : hk (setI h (filF (hi h) a 0 k 2000000000)) a = 20 := k4
    have n42 : hn (setI h (filF (hi h) a 0 k 2000000000)) a = 61 := n4
    have iw := ih (k + 1) (by omega)
    have ef : up2 (filF (hi h) a 0 k 2000000000) a k 2000000000 = filF (hi h) a 0 (k + 1) 2000000000 := by
      have := filF_s (hi h) (b := a) (lo := 0) (n := k) (v := 2000000000)
      rw [Nat.zero_add] at this
      exact this
    refine x_iload_n eX9_init_82 rfl rfl ?_
    refine x_bipush (v := nI 60) eX9_init_83 (by decide) ?_
    first | refine x_icmp_gtN (tgt := 102) eX9_init_85 (by decide) (by with_reducible rfl) (by with_reducible rfl) (by omega) (by omega) (fun cq1 => ?_) (fun cq1 => ?_) | refine x_icmp_gt (tgt := 102) eX9_init_85 (by decide) (fun cq1 => ?_) (fun cq1 => ?_)
    · exact absurd cq1 (by omega)
    · first | refine x_aload_n eX9_init_88 rfl rfl ?_ | refine x_aload_nN eX9_init_88 rfl rfl ?_
      first | refine x_getR eX9_init_89 fk_X9_17 rfl (by assumption) (by assumption) ?_ | refine x_getN eX9_init_89 fk_X9_17 rfl (by assumption) (by assumption) ?_
      refine x_iload_n eX9_init_92 rfl rfl ?_
      refine x_ldc (v := 2000000000) eX9_init_93 kk_X9_39 ?_
      first | refine x_iastN eX9_init_95 (by with_reducible rfl) (by assumption) (by assumption) (by omega) (by omega) ?_ | refine x_iast eX9_init_95 (by assumption) (by assumption) ?_
      first | refine x_iincN eX9_init_96 rfl (by with_reducible rfl) (by decide) rfl rfl ?_ | refine x_iinc eX9_init_96 rfl rfl (by decide) rfl rfl ?_
      refine x_goto (tgt := 82) eX9_init_99 (by decide) ?_
      rw [setI_wi, ef]
      refine Rn.weak (iw) (by repeat' first | exact fun _ h => absurd h List.not_mem_nil | refine List.forall_mem_cons.mpr ⟨rfl, ?_⟩)
set_option maxRecDepth 100000 in
set_option maxHeartbeats 4000000 in
theorem c_X9_init (hx : hk h x = 8) (hlt : x < hz h) (r : Rm G h 9 153851) (hq : Q none (setI (iniA h x) (filF (hi (iniA h x)) (hz h + 2) 0 61 2000000000))) : Rn G (d + 1) mX9_init 0 [(0, .ref x)] [] h Q := by
  have k0 : hk h x = 8 ∧ x < hz h := ⟨hx, hlt⟩
  have o0 := Rm.room (c := 8) (n := 9000) (N := 144851) r
  have p0 : hk (nw (h) 20 9000) x = 8 := (ast_x (kd := 20) (n := 9000) (k := 0) k0.1 k0.2).1
  first | refine x_aload_n eX9_init_0 rfl rfl ?_ | refine x_aload_nN eX9_init_0 rfl rfl ?_
  refine x_obj eX9_init_1 lk_X9_1 (Nat.le_of_ble_eq_true rfl) ?_
  first | refine x_aload_n eX9_init_4 rfl rfl ?_ | refine x_aload_nN eX9_init_4 rfl rfl ?_
  refine x_sipush (v := nI 9000) eX9_init_5 (by decide) ?_
  refine x_newaN (kd := 20) eX9_init_8 (by decide) rfl ak_20 (by with_reducible rfl) (by omega) (by first | assumption | omega) ?_
  first | refine x_putR eX9_init_10 fk_X9_7 (by decide) rfl ⟨_, rfl, Or.inr ⟨rfl, rfl, rfl⟩⟩ (by assumption) ?_ | refine x_putN eX9_init_10 fk_X9_7 (by decide) rfl ⟨_, rfl, Or.inr ⟨rfl, rfl, rfl⟩⟩ (by assumption) ?_
  show Rn _ _ _ _ _ _ (ast h x 20 9000 0) _
  have r1 : Rm G (ast h x 20 9000 0) 8 144851 := Rm.ast (c := 8) (n := 9000) (N := 144851) r
  have k1 := ast_x (kd := 20) (n := 9000) (k := 0) k0.1 k0.2
  have o1 := Rm.room (c := 7) (n := 144000) (N := 851) r1
  have p1 : hk (nw (ast h x 20 9000 0) 20 144000) x = 8 := (ast_x (kd := 20) (n := 144000) (k := 1) k1.1 k1.2).1
  first | refine x_aload_n eX9_init_13 rfl rfl ?_ | refine x_aload_nN eX9_init_13 rfl rfl ?_
  refine x_ldc (v := 144000) eX9_init_14 kk_X9_13 ?_
  rw [show (144000 : Int32) = nI 144000 from rfl]
  refine x_newaN (kd := 20) eX9_init_16 (by decide) rfl ak_20 (by with_reducible rfl) (by omega) (by first | assumption | omega) ?_
  first | refine x_putR eX9_init_18 fk_X9_14 (by decide) rfl ⟨_, rfl, Or.inr ⟨rfl, rfl, rfl⟩⟩ (by assumption) ?_ | refine x_putN eX9_init_18 fk_X9_14 (by decide) rfl ⟨_, rfl, Or.inr ⟨rfl, rfl, rfl⟩⟩ (by assumption) ?_
  show Rn _ _ _ _ _ _ (ast (ast h x 20 9000 0) x 20 144000 1) _
  have r2 : Rm G (ast (ast h x 20 9000 0) x 20 144000 1) 7 851 := Rm.ast (c := 7) (n := 144000) (N := 851) r1
  have k2 := ast_x (kd := 20) (n := 144000) (k := 1) k1.1 k1.2
  have o2 := Rm.room (c := 6) (n := 61) (N := 790) r2
  have p2 : hk (nw (ast (ast h x 20 9000 0) x 20 144000 1) 20 61) x = 8 := (ast_x (kd := 20) (n := 61) (k := 4) k2.1 k2.2).1
  first | refine x_aload_n eX9_init_21 rfl rfl ?_ | refine x_aload_nN eX9_init_21 rfl rfl ?_
  refine x_bipush (v := nI 61) eX9_init_22 (by decide) ?_
  refine x_newaN (kd := 20) eX9_init_24 (by decide) rfl ak_20 (by with_reducible rfl) (by omega) (by first | assumption | omega) ?_
  first | refine x_putR eX9_init_26 fk_X9_17 (by decide) rfl ⟨_, rfl, Or.inr ⟨rfl, rfl, rfl⟩⟩ (by assumption) ?_ | refine x_putN eX9_init_26 fk_X9_17 (by decide) rfl ⟨_, rfl, Or.inr ⟨rfl, rfl, rfl⟩⟩ (by assumption) ?_
  show Rn _ _ _ _ _ _ (ast (ast (ast h x 20 9000 0) x 20 144000 1) x 20 61 4) _
  have r3 : Rm G (ast (ast (ast h x 20 9000 0) x 20 144000 1) x 20 61 4) 6 790 := Rm.ast (c := 6) (n := 61) (N := 790) r2
  have k3 := ast_x (kd := 20) (n := 61) (k := 4) k2.1 k2.2
  have o3 := Rm.room (c := 5) (n := 60) (N := 730) r3
  have p3 : hk (nw (ast (ast (ast h x 20 9000 0) x 20 144000 1) x 20 61 4) 20 60) x = 8 := (ast_x (kd := 20) (n := 60) (k := 5) k3.1 k3.2).1
  first | refine x_aload_n eX9_init_29 rfl rfl ?_ | refine x_aload_nN eX9_init_29 rfl rfl ?_
  refine x_bipush (v := nI 60) eX9_init_30 (by decide) ?_
  refine x_newaN (kd := 20) eX9_init_32 (by decide) rfl ak_20 (by with_reducible rfl) (by omega) (by first | assumption | omega) ?_
  first | refine x_putR eX9_init_34 fk_X9_20 (by decide) rfl ⟨_, rfl, Or.inr ⟨rfl, rfl, rfl⟩⟩ (by assumption) ?_ | refine x_putN eX9_init_34 fk_X9_20 (by decide) rfl ⟨_, rfl, Or.inr ⟨rfl, rfl, rfl⟩⟩ (by assumption) ?_
  show Rn _ _ _ _ _ _ (ast (ast (ast (ast h x 20 9000 0) x 20 144000 1) x 20 61 4) x 20 60 5) _
  have r4 : Rm G (ast (ast (ast (ast h x 20 9000 0) x 20 144000 1) x 20 61 4) x 20 60 5) 5 730 := Rm.ast (c := 5) (n := 60) (N := 730) r3
  have k4 := ast_x (kd := 20) (n := 60) (k := 5) k3.1 k3.2
  have o4 := Rm.room (c := 4) (n := 200) (N := 530) r4
  have p4 : hk (nw (ast (ast (ast (ast h x 20 9000 0) x 20 144000 1) x 20 61 4) x 20 60 5) 24 200) x = 8 := (ast_x (kd := 24) (n := 200) (k := 6) k4.1 k4.2).1
  first | refine x_aload_n eX9_init_37 rfl rfl ?_ | refine x_aload_nN eX9_init_37 rfl rfl ?_
  refine x_sipush (v := nI 200) eX9_init_38 (by decide) ?_
  refine x_newaN (kd := 24) eX9_init_41 (by decide) rfl ak_24 (by with_reducible rfl) (by omega) (by first | assumption | omega) ?_
  first | refine x_putR eX9_init_43 fk_X9_23 (by decide) rfl ⟨_, rfl, Or.inr ⟨rfl, rfl, rfl⟩⟩ (by assumption) ?_ | refine x_putN eX9_init_43 fk_X9_23 (by decide) rfl ⟨_, rfl, Or.inr ⟨rfl, rfl, rfl⟩⟩ (by assumption) ?_
  show Rn _ _ _ _ _ _ (ast (ast (ast (ast (ast h x 20 9000 0) x 20 144000 1) x 20 61 4) x 20 60 5) x 24 200 6) _
  have r5 : Rm G (ast (ast (ast (ast (ast h x 20 9000 0) x 20 144000 1) x 20 61 4) x 20 60 5) x 24 200 6) 4 530 := Rm.ast (c := 4) (n := 200) (N := 530) r4
  have k5 := ast_x (kd := 24) (n := 200) (k := 6) k4.1 k4.2
  have o5 := Rm.room (c := 3) (n := 8) (N := 522) r5
  have p5 : hk (nw (ast (ast (ast (ast (ast h x 20 9000 0) x 20 144000 1) x 20 61 4) x 20 60 5) x 24 200 6) 20 8) x = 8 := (ast_x (kd := 20) (n := 8) (k := 7) k5.1 k5.2).1
  first | refine x_aload_n eX9_init_46 rfl rfl ?_ | refine x_aload_nN eX9_init_46 rfl rfl ?_
  refine x_bipush (v := nI 8) eX9_init_47 (by decide) ?_
  refine x_newaN (kd := 20) eX9_init_49 (by decide) rfl ak_20 (by with_reducible rfl) (by omega) (by first | assumption | omega) ?_
  first | refine x_putR eX9_init_51 fk_X9_27 (by decide) rfl ⟨_, rfl, Or.inr ⟨rfl, rfl, rfl⟩⟩ (by assumption) ?_ | refine x_putN eX9_init_51 fk_X9_27 (by decide) rfl ⟨_, rfl, Or.inr ⟨rfl, rfl, rfl⟩⟩ (by assumption) ?_
  show Rn _ _ _ _ _ _ (ast (ast (ast (ast (ast (ast h x 20 9000 0) x 20 144000 1) x 20 61 4) x 20 60 5) x 24 200 6) x 20 8 7) _
  have r6 : Rm G (ast (ast (ast (ast (ast (ast h x 20 9000 0) x 20 144000 1) x 20 61 4) x 20 60 5) x 24 200 6) x 20 8 7) 3 522 := Rm.ast (c := 3) (n := 8) (N := 522) r5
  have k6 := ast_x (kd := 20) (n := 8) (k := 7) k5.1 k5.2
  have o6 := Rm.room (c := 2) (n := 256) (N := 266) r6
  have p6 : hk (nw (ast (ast (ast (ast (ast (ast h x 20 9000 0) x 20 144000 1) x 20 61 4) x 20 60 5) x 24 200 6) x 20 8 7) 20 256) x = 8 := (ast_x (kd := 20) (n := 256) (k := 8) k6.1 k6.2).1
  first | refine x_aload_n eX9_init_54 rfl rfl ?_ | refine x_aload_nN eX9_init_54 rfl rfl ?_
  refine x_sipush (v := nI 256) eX9_init_55 (by decide) ?_
  refine x_newaN (kd := 20) eX9_init_58 (by decide) rfl ak_20 (by with_reducible rfl) (by omega) (by first | assumption | omega) ?_
  first | refine x_putR eX9_init_60 fk_X9_30 (by decide) rfl ⟨_, rfl, Or.inr ⟨rfl, rfl, rfl⟩⟩ (by assumption) ?_ | refine x_putN eX9_init_60 fk_X9_30 (by decide) rfl ⟨_, rfl, Or.inr ⟨rfl, rfl, rfl⟩⟩ (by assumption) ?_
  show Rn _ _ _ _ _ _ (ast (ast (ast (ast (ast (ast (ast h x 20 9000 0) x 20 144000 1) x 20 61 4) x 20 60 5) x 24 200 6) x 20 8 7) x 20 256 8) _
  have r7 : Rm G (ast (ast (ast (ast (ast (ast (ast h x 20 9000 0) x 20 144000 1) x 20 61 4) x 20 60 5) x 24 200 6) x 20 8 7) x 20 256 8) 2 266 := Rm.ast (c := 2) (n := 256) (N := 266) r6
  have k7 := ast_x (kd := 20) (n := 256) (k := 8) k6.1 k6.2
  have o7 := Rm.room (c := 1) (n := 256) (N := 10) r7
  have p7 : hk (nw (ast (ast (ast (ast (ast (ast (ast h x 20 9000 0) x 20 144000 1) x 20 61 4) x 20 60 5) x 24 200 6) x 20 8 7) x 20 256 8) 20 256) x = 8 := (ast_x (kd := 20) (n := 256) (k := 9) k7.1 k7.2).1
  first | refine x_aload_n eX9_init_63 rfl rfl ?_ | refine x_aload_nN eX9_init_63 rfl rfl ?_
  refine x_sipush (v := nI 256) eX9_init_64 (by decide) ?_
  refine x_newaN (kd := 20) eX9_init_67 (by decide) rfl ak_20 (by with_reducible rfl) (by omega) (by first | assumption | omega) ?_
  first | refine x_putR eX9_init_69 fk_X9_33 (by decide) rfl ⟨_, rfl, Or.inr ⟨rfl, rfl, rfl⟩⟩ (by assumption) ?_ | refine x_putN eX9_init_69 fk_X9_33 (by decide) rfl ⟨_, rfl, Or.inr ⟨rfl, rfl, rfl⟩⟩ (by assumption) ?_
  show Rn _ _ _ _ _ _ (ast (ast (ast (ast (ast (ast (ast (ast h x 20 9000 0) x 20 144000 1) x 20 61 4) x 20 60 5) x 24 200 6) x 20 8 7) x 20 256 8) x 20 256 9) _
  have r8 : Rm G (ast (ast (ast (ast (ast (ast (ast (ast h x 20 9000 0) x 20 144000 1) x 20 61 4) x 20 60 5) x 24 200 6) x 20 8 7) x 20 256 8) x 20 256 9) 1 10 := Rm.ast (c := 1) (n := 256) (N := 10) r7
  have k8 := ast_x (kd := 20) (n := 256) (k := 9) k7.1 k7.2
  have o8 := Rm.room (c := 0) (n := 10) (N := 0) r8
  have p8 : hk (nw (ast (ast (ast (ast (ast (ast (ast (ast h x 20 9000 0) x 20 144000 1) x 20 61 4) x 20 60 5) x 24 200 6) x 20 8 7) x 20 256 8) x 20 256 9) 20 10) x = 8 := (ast_x (kd := 20) (n := 10) (k := 10) k8.1 k8.2).1
  first | refine x_aload_n eX9_init_72 rfl rfl ?_ | refine x_aload_nN eX9_init_72 rfl rfl ?_
  refine x_bipush (v := nI 10) eX9_init_73 (by decide) ?_
  refine x_newaN (kd := 20) eX9_init_75 (by decide) rfl ak_20 (by with_reducible rfl) (by omega) (by first | assumption | omega) ?_
  first | refine x_putR eX9_init_77 fk_X9_36 (by decide) rfl ⟨_, rfl, Or.inr ⟨rfl, rfl, rfl⟩⟩ (by assumption) ?_ | refine x_putN eX9_init_77 fk_X9_36 (by decide) rfl ⟨_, rfl, Or.inr ⟨rfl, rfl, rfl⟩⟩ (by assumption) ?_
  show Rn _ _ _ _ _ _ (ast (ast (ast (ast (ast (ast (ast (ast (ast h x 20 9000 0) x 20 144000 1) x 20 61 4) x 20 60 5) x 24 200 6) x 20 8 7) x 20 256 8) x 20 256 9) x 20 10 10) _
  have r9 : Rm G (ast (ast (ast (ast (ast (ast (ast (ast (ast h x 20 9000 0) x 20 144000 1) x 20 61 4) x 20 60 5) x 24 200 6) x 20 8 7) x 20 256 8) x 20 256 9) x 20 10 10) 0 0 := Rm.ast (c := 0) (n := 10) (N := 0) r8
  have k9 := ast_x (kd := 20) (n := 10) (k := 10) k8.1 k8.2
  have w := l_X9_init (G := G) (d := d) (Q := Q) (h := iniA h x) (a := hz h + 2) k9.1 (iniA_4 hlt) (iniA_k hlt) (iniA_n hlt) hq 61 0 (by omega)
  rw [filF_0, setI_self] at w
  refine x_iconst (v := nI 0) eX9_init_80 (by decide) ?_
  refine x_istore_n eX9_init_81 rfl (by decide) rfl rfl ?_
  refine Rn.weak (w) (by repeat' first | exact fun _ h => absurd h List.not_mem_nil | refine List.forall_mem_cons.mpr ⟨rfl, ?_⟩)
end REF23

