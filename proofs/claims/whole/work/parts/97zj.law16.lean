/-! ===== the law's run ===== -/
section LAW18
variable {G : GG} {h : AH}
set_option maxRecDepth 100000 in
set_option maxHeartbeats 4000000 in
theorem law_run (hL : gL G ≤ 3072) (hz0 : hz h = gB G) : Rn G 10 mL_law 0 [(0, .ref (gb G))] [] h (fun r _ => r = some (.int 1)) := by
  have u0 : us G h = 0 := by
    unfold us
    rw [hz0, Nat.sub_self]
    rfl
  have u1 : us G (nw h 7 9) = us G h + 9 := us_nw (by omega)
  have u2 := us_lf (G := G) (h := h) (by omega)
  have z1 : hz (nw h 7 9) = hz h + 1 := rfl
  have z2 : hz (lfI (nw h 7 9) (hz h)) = hz h + 8 := rfl
  have u3 : us G (nw (lfI (nw h 7 9) (hz h)) 8 11) = us G (lfI (nw h 7 9) (hz h)) + 11 := us_nw (by omega)
  have u4 := us_rf (G := G) (h1 := lfI (nw h 7 9) (hz h)) (by omega)
  have z3 : hz (nw (lfI (nw h 7 9) (hz h)) 8 11) = hz h + 9 := rfl
  have z4 : hz (rfI (lfI (nw h 7 9) (hz h))) = hz h + 18 := rfl
  have g0 : hz h < gB G + 600000 ∧ us G h + 9 ≤ 7302250 := ⟨by omega, by omega⟩
  have g1 : hz (lfI (nw h 7 9) (hz h)) < gB G + 600000 ∧ us G (lfI (nw h 7 9) (hz h)) + 11 ≤ 7302250 := ⟨by omega, by omega⟩
  have rm1 : Rm G (nw h 7 9) 7 234 := ⟨by omega, by omega, by omega⟩
  have rm2 : Rm G (nw (lfI (nw h 7 9) (hz h)) 8 11) 9 153851 := ⟨by omega, by omega, by omega⟩
  have k7 : hk (nw h 7 9) (hz h) = 7 := hk_nw' (h := h)
  have k8 : hk (nw (lfI (nw h 7 9) (hz h)) 8 11) (hz (lfI (nw h 7 9) (hz h))) = 8 := hk_nw' (h := lfI (nw h 7 9) (hz h))
  have l7 : hz h < hz (nw h 7 9) := by omega
  have l8 : hz (lfI (nw h 7 9) (hz h)) < hz (nw (lfI (nw h 7 9) (hz h)) 8 11) := by omega
  have S : St G (hz h) (hz h + 8) 0 (rfI (lfI (nw h 7 9) (hz h))) := ⟨_, 0, 0, 0, fun _ _ => 0, rel_ini, by omega, by omega, by omega⟩
  have w := lw_loop (G := G) (Q := fun r _ => r = some (.int 1)) hL (fun _ => rfl) (gL G / 6) 0 _ (by omega) S
  refine x_new (ci := 7) eL_law_0 rfl ck_L_7 (by first | assumption | omega) ?_
  refine x_dup eL_law_3 rfl ?_
  refine x_callI0 eL_law_4 lk_L_9 (Nat.le_of_ble_eq_true rfl) (Nat.le_of_ble_eq_true rfl) ?_
  refine Rn.deep (c_X8_init (d := 0) k7 l7 rm1 (fun _ => ?_)) (by omega)
  first | refine x_astore_n eL_law_7 rfl (by decide) rfl rfl ?_ | refine x_astore_nN eL_law_7 rfl (by decide) rfl rfl ?_
  refine x_new (ci := 8) eL_law_8 rfl ck_L_10 (by first | assumption | omega) ?_
  refine x_dup eL_law_11 rfl ?_
  refine x_callI0 eL_law_12 lk_L_12 (Nat.le_of_ble_eq_true rfl) (Nat.le_of_ble_eq_true rfl) ?_
  refine Rn.deep (c_X9_init (d := 0) k8 l8 rm2 (fun _ => ?_)) (by omega)
  first | refine x_astore_n eL_law_15 rfl (by decide) rfl rfl ?_ | refine x_astore_nN eL_law_15 rfl (by decide) rfl rfl ?_
  refine x_iconst (v := nI 0) eL_law_16 (by decide) ?_
  refine x_istore_n eL_law_17 rfl (by decide) rfl rfl ?_
  refine Rn.weak (w) (by repeat' first | exact fun _ h => absurd h List.not_mem_nil | refine List.forall_mem_cons.mpr ⟨rfl, ?_⟩)
end LAW18

