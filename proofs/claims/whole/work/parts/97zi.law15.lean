/-! ===== the law: from its first instruction ===== -/
section LAW17
variable {G : GG} {h : AH}
set_option maxRecDepth 100000 in
set_option maxHeartbeats 4000000 in
theorem rel_ini {ps : Nat → Nat → Int32} : Rel (rfI (lfI (nw h 7 9) (hz h))) (hz h) (hz h + 8) (fun a => if hz h + 8 ≤ a ∧ a ≤ hz h + 17 then 13 else iniO (hz h) a) 0 0 0 ps := by
  obtain ⟨h1, e1⟩ : ∃ h1, h1 = lfI (nw h 7 9) (hz h) := ⟨_, rfl⟩
  have z1 : hz h1 = hz h + 8 := by rw [e1]; rfl
  obtain ⟨v0, v1, v3, v4⟩ := rfI_v (h := h1)
  have M := rfI_md (h := h1)
  rw [z1] at v0 v1 v3 v4 M
  have I0 : GI (hi (rfI h1) (hz h + 8 + 1)) := GI_ini v1
  have C1 : Core (iniO (hz h)) h1 (hz h) (hi (rfI h1) (hz h + 8 + 1)) (hi (rfI h1) (hz h + 8 + 3)) (hi (rfI h1) (hz h + 8 + 4)) := by
    rw [e1]
    exact ini_core (by rw [← e1]; exact v1 0) (by rw [← e1]; exact v1 1) (fun k hk6 => by rw [← e1]; exact v3 k hk6) (fun k _ => by rw [← e1]; exact v4 k)
  obtain ⟨⟨-, -, i6, i7⟩, -, -⟩ := ini_i (h := h)
  rw [← e1] at i6 i7 ⊢
  have oz : ∀ a, iniO (hz h) a ≠ 0 → (if hz h + 8 ≤ a ∧ a ≤ hz h + 17 then 13 else iniO (hz h) a) = iniO (hz h) a := fun a ha => by
    have := iniO_z ha
    rw [if_neg (by omega)]
  have F : Fr (fun t => t = 13) (iniO (hz h)) h1 (fun a => if hz h + 8 ≤ a ∧ a ≤ hz h + 17 then 13 else iniO (hz h) a) (rfI h1) := fun a ha _ => by
    have := iniO_z ha
    exact ⟨oz a ha, rfI_low (by omega)⟩
  have zF : hz (rfI h1) = hz h1 + 10 := rfl
  have L2 : Lv (fun a => if hz h + 8 ≤ a ∧ a ≤ hz h + 17 then 13 else iniO (hz h) a) (rfI h1) := fun a ha => by
    by_cases z : hz h + 8 ≤ a ∧ a ≤ hz h + 17
    · refine ⟨by omega, fun k4 => ?_⟩
      exfalso
      have m := rfI_m (h := h1) a
      rw [z1] at m
      have k5 : (hm (rfI h1) a).1 = 4 := k4
      rw [m] at k5
      have q : a = hz h + 8 ∨ a = hz h + 8 + 1 ∨ a = hz h + 8 + 2 ∨ a = hz h + 8 + 3 ∨ a = hz h + 8 + 4 ∨ a = hz h + 8 + 5 ∨ a = hz h + 8 + 6 ∨ a = hz h + 8 + 7 ∨ a = hz h + 8 + 8 ∨ a = hz h + 8 + 9 := by omega
      rcases q with rfl | rfl | rfl | rfl | rfl | rfl | rfl | rfl | rfl | rfl <;> simp at k5
    · have e : (if hz h + 8 ≤ a ∧ a ≤ hz h + 17 then 13 else iniO (hz h) a) = iniO (hz h) a := if_neg z
      have ha2 : (if hz h + 8 ≤ a ∧ a ≤ hz h + 17 then 13 else iniO (hz h) a) ≠ 0 := ha
      rw [e] at ha2
      show a < _ ∧ (_ → 400 ≤ (if hz h + 8 ≤ a ∧ a ≤ hz h + 17 then 13 else iniO (hz h) a) ∧ (if hz h + 8 ≤ a ∧ a ≤ hz h + 17 then 13 else iniO (hz h) a) < 410)
      rw [e]
      obtain ⟨l1, l2⟩ := C1.1 a ha2
      refine ⟨by omega, fun k4 => l2 ?_⟩
      have : hm (rfI h1) a = hm h1 a := (rfI_low l1).1
      exact (congrArg Prod.fst this).symm.trans k4
  have x1 : Ext h1 (rfI h1) := ⟨by omega, fun a ha => (rfI_low ha).1⟩
  have C2 := C1.zone I0.gw F (fun t ht => ht) x1 L2 (fun a h0 _ => oz a h0)
  have ey : hi (rfI h1) (hz h) = hi h1 (hz h) := (rfI_low (by omega)).2.1
  refine ⟨⟨M, ⟨v0 2, v0 3, by omega, by omega⟩, fun i hi4 => if_pos (by omega)⟩, C2, ⟨by rw [ey]; exact i6, by rw [ey]; exact i7, by omega, by omega, fun j hj => absurd hj (by omega)⟩, ⟨I0, BO_ini v1⟩, fun j hj => absurd hj (by omega)⟩
set_option maxRecDepth 100000 in
set_option maxHeartbeats 4000000 in
theorem us_lf (hB : gB G ≤ hz h) : us G (lfI (nw h 7 9) (hz h)) = us G h + 243 := by
  have u0 : us G (nw h 7 9) = us G h + 9 := us_nw hB
  have u1 : us G (ast (nw h 7 9) (hz h) 31 24 0) = us G (nw h 7 9) + 24 := us_nw (h := nw h 7 9) (by show gB G ≤ hz h + 1; omega)
  have u2 : us G (lfA (nw h 7 9) (hz h)) = us G (ast (nw h 7 9) (hz h) 31 24 0) + 10 := us_nw (h := wi (ast (nw h 7 9) (hz h) 31 24 0) (hz h) 1 (nI 0)) (by show gB G ≤ hz h + 2; omega)
  have u3 : us G (nw (lfA (nw h 7 9) (hz h)) 6 3) = us G (lfA (nw h 7 9) (hz h)) + 3 := us_nw (by show gB G ≤ hz h + 3; omega)
  have u4 : us G (lfB (nw h 7 9) (hz h)) = us G (nw (lfA (nw h 7 9) (hz h)) 6 3) + 181 := spI_us (h := nw (lfA (nw h 7 9) (hz h)) 6 3) (by show gB G ≤ hz h + 4; omega)
  have u5 : us G (lfI (nw h 7 9) (hz h)) = us G (lfB (nw h 7 9) (hz h)) + 16 := us_nw (h := lfB (nw h 7 9) (hz h)) (by show gB G ≤ hz h + 7; omega)
  omega
set_option maxRecDepth 100000 in
set_option maxHeartbeats 4000000 in
theorem us_ast {h : AH} {a kd n k : Nat} (hB : gB G ≤ hz h) : us G (ast h a kd n k) = us G h + n := us_nw hB
set_option maxRecDepth 100000 in
set_option maxHeartbeats 4000000 in
theorem us_rf {h1 : AH} (hB : gB G ≤ hz h1) : us G (rfI h1) = us G h1 + 153862 := by
  have u0 : us G (nw h1 8 11) = us G h1 + 11 := us_nw hB
  have e : us G (rfI h1) = us G (iniA (nw h1 8 11) (hz h1)) := rfl
  have zz : hz (nw h1 8 11) = hz h1 + 1 := rfl
  rw [e]
  unfold iniA
  repeat rw [us_ast (by first | omega | (simp only [ast_z]; omega))]
  omega
end LAW17

