/-! ===== the class when it is new ===== -/
def iniO (y : Nat) : Nat → Nat := fun a => if a = y then 1 else if a = y + 1 then 2 else if a = y + 2 then 3 else if a = y + 3 then 5 else if a = y + 4 then 6 else if a = y + 5 then 7 else if a = y + 6 then 8 else if a = y + 7 then 4 else 0
section INI3
variable {G : GG} {h : AH} {g ld wd : Nat → Int32}
set_option maxRecDepth 100000 in
set_option maxHeartbeats 4000000 in
theorem iniO_z {y a : Nat} (h : iniO y a ≠ 0) : y ≤ a ∧ a ≤ y + 7 := by
  unfold iniO at h
  by_cases z : y ≤ a ∧ a ≤ y + 7
  · exact z
  · exact absurd (by rw [if_neg (by omega), if_neg (by omega), if_neg (by omega), if_neg (by omega), if_neg (by omega), if_neg (by omega), if_neg (by omega), if_neg (by omega)]) h
set_option maxRecDepth 100000 in
set_option maxHeartbeats 4000000 in
theorem ini_m : hm (lfI (nw h 7 9) (hz h)) (hz h) = (7, 9) ∧ hm (lfI (nw h 7 9) (hz h)) (hz h + 1) = (31, 24) ∧ hm (lfI (nw h 7 9) (hz h)) (hz h + 2) = (34, 10) ∧ hm (lfI (nw h 7 9) (hz h)) (hz h + 3) = (6, 3) ∧ hm (lfI (nw h 7 9) (hz h)) (hz h + 4) = (20, 61) ∧ hm (lfI (nw h 7 9) (hz h)) (hz h + 5) = (20, 60) ∧ hm (lfI (nw h 7 9) (hz h)) (hz h + 6) = (23, 60) ∧ hm (lfI (nw h 7 9) (hz h)) (hz h + 7) = (30, 16) := by
  have e : ∀ q, hm (lfI (nw h 7 9) (hz h)) q = if q = hz h + 7 then (30, 16) else if q = hz h + 6 then (23, 60) else if q = hz h + 5 then (20, 60) else if q = hz h + 4 then (20, 61) else if q = hz h + 3 then (6, 3) else if q = hz h + 2 then (34, 10) else if q = hz h + 1 then (31, 24) else if q = hz h then (7, 9) else hm h q := fun q => rfl
  refine ⟨?_, ?_, ?_, ?_, ?_, ?_, ?_, ?_⟩ <;> rw [e] <;> simp
end INI3
section INI4
variable {G : GG} {h : AH} {g ld wd : Nat → Int32}
set_option maxRecDepth 100000 in
set_option maxHeartbeats 4000000 in
theorem ini_r : (hr (lfI (nw h 7 9) (hz h)) (hz h) 0 = some (hz h + 1) ∧ hr (lfI (nw h 7 9) (hz h)) (hz h) 2 = some (hz h + 2) ∧ hr (lfI (nw h 7 9) (hz h)) (hz h) 4 = some (hz h + 3) ∧ hr (lfI (nw h 7 9) (hz h)) (hz h) 5 = some (hz h + 7) ∧ hr (lfI (nw h 7 9) (hz h)) (hz h) 8 = none) ∧ (hr (lfI (nw h 7 9) (hz h)) (hz h + 3) 0 = some (hz h + 4) ∧ hr (lfI (nw h 7 9) (hz h)) (hz h + 3) 1 = some (hz h + 5) ∧ hr (lfI (nw h 7 9) (hz h)) (hz h + 3) 2 = some (hz h + 6)) ∧ ∀ k, hr (lfI (nw h 7 9) (hz h)) (hz h + 1) k = none := by
  obtain ⟨n, hn'⟩ : ∃ n, n = h.1 := ⟨_, rfl⟩
  have e : ∀ q k, hr (lfI (nw h 7 9) (hz h)) q k = up2 (up2 (up1 (up2 (up2 (up1 (up2 (up1 (up2 (up1 (up1 (up2 (up1 (up2 (up1 (up1 h.2.2.2.1 h.1 none) (h.1 + 1) none) h.1 0 (some (h.1 + 1))) (h.1 + 2) none) h.1 2 (some (h.1 + 2))) (h.1 + 3) none) (h.1 + 4) none) (h.1 + 3) 0 (some (h.1 + 4))) (h.1 + 5) none) (h.1 + 3) 1 (some (h.1 + 5))) (h.1 + 6) none) (h.1 + 3) 2 (some (h.1 + 6))) h.1 4 (some (h.1 + 3))) (h.1 + 7) none) h.1 5 (some (h.1 + 7))) h.1 8 none q k := fun q k => rfl
  have ez : hz h = h.1 := rfl
  refine ⟨⟨?_, ?_, ?_, ?_, ?_⟩, ⟨?_, ?_, ?_⟩, fun k => ?_⟩ <;> rw [e, ez] <;> simp [up2, up1]
end INI4
section INI5
variable {G : GG} {h : AH} {g ld wd : Nat → Int32}
set_option maxRecDepth 100000 in
set_option maxHeartbeats 4000000 in
theorem ini_i : (hi (lfI (nw h 7 9) (hz h)) (hz h) 1 = nI 0 ∧ hi (lfI (nw h 7 9) (hz h)) (hz h) 3 = nI 0 ∧ hi (lfI (nw h 7 9) (hz h)) (hz h) 6 = nI 0 ∧ hi (lfI (nw h 7 9) (hz h)) (hz h) 7 = nI 0) ∧ (∀ k, k < 61 → hi (lfI (nw h 7 9) (hz h)) (hz h + 4) k = nI 2000000000) ∧ ∀ k, hi (lfI (nw h 7 9) (hz h)) (hz h + 5) k = 0 := by
  have e : ∀ q k, hi (lfI (nw h 7 9) (hz h)) q k = up2 (up2 (up1 (filF (up1 (up1 (up1 (up1 (up2 (up1 (up2 (up1 (up1 h.2.2.1 h.1 0) (h.1 + 1) 0) h.1 1 (nI 0)) (h.1 + 2) 0) h.1 3 (nI 0)) (h.1 + 3) 0) (h.1 + 4) 0) (h.1 + 5) 0) (h.1 + 6) 0) (h.1 + 4) 0 61 (nI 2000000000)) (h.1 + 7) 0) h.1 6 (nI 0)) h.1 7 (nI 0) q k := fun q k => rfl
  have ez : hz h = h.1 := rfl
  refine ⟨⟨?_, ?_, ?_, ?_⟩, fun k hk => ?_, fun k => ?_⟩ <;> rw [e, ez] <;> simp [up2, up1, filF]
  intro hk2
  omega
set_option maxRecDepth 100000 in
set_option maxHeartbeats 4000000 in
theorem ini_core (g0 : g 0 = nI 0) (g1 : g 1 = nI 0) (hld : ∀ k, k < 61 → ld k = nI 2000000000) (hwd : ∀ k, k < 60 → wd k = 0) : Core (iniO (hz h)) (lfI (nw h 7 9) (hz h)) (hz h) g ld wd := by
  obtain ⟨m0, m1, m2, m3, m4, m5, m6, m7⟩ := ini_m (h := h)
  obtain ⟨⟨r0, r2, r4, r5, r8⟩, ⟨s0, s1, s2⟩, rb⟩ := ini_r (h := h)
  obtain ⟨⟨i1, i3, i6, i7⟩, il, iw⟩ := ini_i (h := h)
  have kk : ∀ q k n, hm (lfI (nw h 7 9) (hz h)) q = (k, n) → hk (lfI (nw h 7 9) (hz h)) q = k ∧ hn (lfI (nw h 7 9) (hz h)) q = n := fun q k n e => ⟨congrArg Prod.fst e, congrArg Prod.snd e⟩
  have n0 : nt (nI 0) = 0 := nt_nI (by omega)
  have t : iniO (hz h) (hz h) = 1 ∧ iniO (hz h) (hz h + 1) = 2 ∧ iniO (hz h) (hz h + 2) = 3 ∧ iniO (hz h) (hz h + 3) = 5 ∧ iniO (hz h) (hz h + 4) = 6 ∧ iniO (hz h) (hz h + 5) = 7 ∧ iniO (hz h) (hz h + 6) = 8 ∧ iniO (hz h) (hz h + 7) = 4 := by
    refine ⟨?_, ?_, ?_, ?_, ?_, ?_, ?_, ?_⟩ <;> unfold iniO <;> simp
  obtain ⟨t0, t1, t2, t3, t4, t5, t6, t7⟩ := t
  refine ⟨fun b hb => ?_, ⟨⟨(kk _ _ _ m0).1, r0, r2, r4, r5, t0⟩, ⟨(kk _ _ _ m1).1, (kk _ _ _ m1).2, t1⟩, ⟨(kk _ _ _ m2).1, (kk _ _ _ m2).2, t2⟩, ⟨(kk _ _ _ m3).1, s0, s1, s2, t3⟩, ⟨(kk _ _ _ m4).1, (kk _ _ _ m4).2, t4⟩, ⟨(kk _ _ _ m5).1, (kk _ _ _ m5).2, t5⟩, ⟨(kk _ _ _ m6).1, (kk _ _ _ m6).2, t6⟩, ⟨(kk _ _ _ m7).1, (kk _ _ _ m7).2, t7⟩⟩, ⟨i1.trans g0.symm, i3.trans g1.symm⟩, fun i _ => Or.inl (rb i), fun i hi => ?_, fun s hs => ?_, ⟨fun k hk => (il k hk).trans (hld k hk).symm, fun k hk => (iw k).trans (hwd k hk).symm⟩, Or.inl r8⟩
  · have z := iniO_z hb
    refine ⟨by show b < hz h + 8; omega, fun k4 => ?_⟩
    have : b = hz h ∨ b = hz h + 1 ∨ b = hz h + 2 ∨ b = hz h + 3 ∨ b = hz h + 4 ∨ b = hz h + 5 ∨ b = hz h + 6 ∨ b = hz h + 7 := by omega
    rcases this with rfl | rfl | rfl | rfl | rfl | rfl | rfl | rfl
    · rw [(kk _ _ _ m0).1] at k4; omega
    · rw [(kk _ _ _ m1).1] at k4; omega
    · rw [(kk _ _ _ m2).1] at k4; omega
    · rw [(kk _ _ _ m3).1] at k4; omega
    · rw [(kk _ _ _ m4).1] at k4; omega
    · rw [(kk _ _ _ m5).1] at k4; omega
    · rw [(kk _ _ _ m6).1] at k4; omega
    · rw [(kk _ _ _ m7).1] at k4; omega
  · rw [g0, n0] at hi; omega
  · rw [g1, n0] at hs; omega
end INI5

