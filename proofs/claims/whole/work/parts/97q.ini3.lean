/-! ===== the class when it is new ===== -/
def iniO (y : Nat) : Nat → Nat := fun a => if a = y then 1 else if a = y + 1 then 2 else if a = y + 2 then 3 else if a = y + 3 then 5 else if a = y + 4 then 6 else if a = y + 5 then 7 else if a = y + 6 then 8 else if a = y + 7 then 4 else 0
section INI3
variable {G : GG} {h : AH} {g ld wd : Nat → Int32}
set_option maxRecDepth 100000 in
set_option maxHeartbeats 4000000 in
theorem iniO_z {y a : Nat} (h : iniO y a ≠ 0) : y ≤ a ∧ a ≤ y + 7 := by
  unfold iniO at h
  by_cases z : y ≤ a ∧ a ≤ y + 7
  · exact z
  · exact absurd (by rw [if_neg (by omega), if_neg (by omega), if_neg (by omega), if_neg (by omega), if_neg (by omega), if_neg (by omega), if_neg (by omega), if_neg (by omega)]) h
set_option maxRecDepth 100000 in
set_option maxHeartbeats 4000000 in
theorem ini_m : hm (lfI (nw h 7 9) (hz h)) (hz h) = (7, 9) ∧ hm (lfI (nw h 7 9) (hz h)) (hz h + 1) = (31, 24) ∧ hm (lfI (nw h 7 9) (hz h)) (hz h + 2) = (34, 10) ∧ hm (lfI (nw h 7 9) (hz h)) (hz h + 3) = (6, 3) ∧ hm (lfI (nw h 7 9) (hz h)) (hz h + 4) = (20, 61) ∧ hm (lfI (nw h 7 9) (hz h)) (hz h + 5) = (20, 60) ∧ hm (lfI (nw h 7 9) (hz h)) (hz h + 6) = (23, 60) ∧ hm (lfI (nw h 7 9) (hz h)) (hz h + 7) = (30, 16) := by
  have e : ∀ q, hm (lfI (nw h 7 9) (hz h)) q = if q = hz h + 7 then (30, 16) else if q = hz h + 6 then (23, 60) else if q = hz h + 5 then (20, 60) else if q = hz h + 4 then (20, 61) else if q = hz h + 3 then (6, 3) else if q = hz h + 2 then (34, 10) else if q = hz h + 1 then (31, 24) else if q = hz h then (7, 9) else hm h q := fun q => rfl
  refine ⟨?_, ?_, ?_, ?_, ?_, ?_, ?_, ?_⟩ <;> rw [e] <;> simp
end INI3
section INI4
variable {G : GG} {h : AH} {g ld wd : Nat → Int32}
set_option maxRecDepth 100000 in
set_option maxHeartbeats 4000000 in
theorem ini_r : (hr (lfI (nw h 7 9) (hz h)) (hz h) 0 = some (hz h + 1) ∧ hr (lfI (nw h 7 9) (hz h)) (hz h) 2 = some (hz h + 2) ∧ hr (lfI (nw h 7 9) (hz h)) (hz h) 4 = some (hz h + 3) ∧ hr (lfI (nw h 7 9) (hz h)) (hz h) 5 = some (hz h + 7) ∧ hr (lfI (nw h 7 9) (hz h)) (hz h) 8 = none) ∧ (hr (lfI (nw h 7 9) (hz h)) (hz h + 3) 0 = some (hz h + 4) ∧ hr (lfI (nw h 7 9) (hz h)) (hz h + 3) 1 = some (hz h + 5) ∧ hr (lfI (nw h 7 9) (hz h)) (hz h + 3) 2 = some (hz h + 6)) ∧ ∀ k, hr (lfI (nw h 7 9) (hz h)) (hz h + 1) k = none := by
  obtain ⟨n, hn'⟩ : ∃ n, n = h.1 := ⟨_, rfl⟩
  have e : ∀ q k, hr (lfI (nw h 7 9) (hz h)) q k = up2 (up2 (up1 (up2 (up2 (up1 (up2 (up1 (up2 (up1 (up1 (up2 (up1 (up2 (up1 (up1 h.2.2.2.1 h.1 none) (h.1 + 1) none) h.1 0 (some (h.1 + 1))) (h.1 + 2) none) h.1 2 (some (h.1 + 2))) (h.1 + 3) none) (h.1 + 4) none) (h.1 + 3) 0 (some (h.1 + 4))) (h.1 + 5) none) (h.1 + 3) 1 (some (h.1 + 5))) (h.1 + 6) none) (h.1 + 3) 2 (some (h.1 + 6))) h.1 4 (some (h.1 + 3))) (h.1 + 7) none) h.1 5 (some (h.1 + 7))) h.1 8 none q k := fun q k => rfl
  have ez : hz h = h.1 := rfl
  refine ⟨⟨?_, ?_, ?_, ?_, ?_⟩, ⟨?_, ?_, ?_⟩, fun k => ?_⟩ <;> rw [e, ez] <;> simp [up2, up1]
end INI4

