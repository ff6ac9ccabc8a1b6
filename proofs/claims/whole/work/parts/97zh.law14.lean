/-! ===== the law: the reference when it is new ===== -/
def rfI (h : AH) : AH := setI (iniA (nw h 8 11) (hz h)) (filF (hi (iniA (nw h 8 11) (hz h))) (hz (nw h 8 11) + 2) 0 61 2000000000)
section LAW16
variable {G : GG} {h : AH}
set_option maxRecDepth 100000 in
set_option maxHeartbeats 4000000 in
theorem rfI_m (q : Nat) : hm (rfI h) q = if q = hz h + 9 then (20, 10) else if q = hz h + 8 then (20, 256) else if q = hz h + 7 then (20, 256) else if q = hz h + 6 then (20, 8) else if q = hz h + 5 then (24, 200) else if q = hz h + 4 then (20, 60) else if q = hz h + 3 then (20, 61) else if q = hz h + 2 then (20, 144000) else if q = hz h + 1 then (20, 9000) else if q = hz h then (8, 11) else hm h q := rfl
set_option maxRecDepth 100000 in
set_option maxHeartbeats 4000000 in
theorem rfI_r (q k : Nat) : hr (rfI h) q k = up2 (up1 (up2 (up1 (up2 (up1 (up2 (up1 (up2 (up1 (up2 (up1 (up2 (up1 (up2 (up1 (up2 (up1 (up1 h.2.2.2.1 (hz h) none) (hz h + 1) none) (hz h) 0 (some (hz h + 1))) (hz h + 2) none) (hz h) 1 (some (hz h + 2))) (hz h + 3) none) (hz h) 4 (some (hz h + 3))) (hz h + 4) none) (hz h) 5 (some (hz h + 4))) (hz h + 5) none) (hz h) 6 (some (hz h + 5))) (hz h + 6) none) (hz h) 7 (some (hz h + 6))) (hz h + 7) none) (hz h) 8 (some (hz h + 7))) (hz h + 8) none) (hz h) 9 (some (hz h + 8))) (hz h + 9) none) (hz h) 10 (some (hz h + 9)) q k := rfl
set_option maxRecDepth 100000 in
set_option maxHeartbeats 4000000 in
theorem rfI_i (q k : Nat) : hi (rfI h) q k = filF (up1 (up1 (up1 (up1 (up1 (up1 (up1 (up1 (up1 (up1 h.2.2.1 (hz h) 0) (hz h + 1) 0) (hz h + 2) 0) (hz h + 3) 0) (hz h + 4) 0) (hz h + 5) 0) (hz h + 6) 0) (hz h + 7) 0) (hz h + 8) 0) (hz h + 9) 0) (hz h + 3) 0 61 2000000000 q k := rfl
set_option maxRecDepth 100000 in
set_option maxHeartbeats 4000000 in
theorem rfI_l (q k : Nat) : hl (rfI h) q k = up1 (up1 (up1 (up1 (up1 (up1 (up1 (up1 (up1 (up1 h.2.2.2.2.1 (hz h) 0) (hz h + 1) 0) (hz h + 2) 0) (hz h + 3) 0) (hz h + 4) 0) (hz h + 5) 0) (hz h + 6) 0) (hz h + 7) 0) (hz h + 8) 0) (hz h + 9) 0 q k := rfl
set_option maxRecDepth 100000 in
set_option maxHeartbeats 4000000 in
theorem rfI_f (q k : Nat) : hf (rfI h) q k = up1 (up1 (up1 (up1 (up1 (up1 (up1 (up1 (up1 (up1 h.2.2.2.2.2 (hz h) 0) (hz h + 1) 0) (hz h + 2) 0) (hz h + 3) 0) (hz h + 4) 0) (hz h + 5) 0) (hz h + 6) 0) (hz h + 7) 0) (hz h + 8) 0) (hz h + 9) 0 q k := rfl
set_option maxRecDepth 100000 in
set_option maxHeartbeats 4000000 in
theorem up1_ne {α : Type} {f : Nat → Nat → α} {a q : Nat} {v : α} (hne : q ≠ a) : up1 f a v q = f q := funext fun j => if_neg hne
set_option maxRecDepth 100000 in
set_option maxHeartbeats 4000000 in
theorem rfI_low {q : Nat} (hq : q < hz h) : hm (rfI h) q = hm h q ∧ hi (rfI h) q = hi h q ∧ hr (rfI h) q = hr h q ∧ hl (rfI h) q = hl h q ∧ hf (rfI h) q = hf h q := by
  refine ⟨?_, ?_, ?_, ?_, ?_⟩
  · rw [rfI_m]
    repeat rw [if_neg (by omega)]
  · funext k
    rw [rfI_i, filF_a (by omega)]
    repeat rw [up1_ne (by omega)]
    rfl
  · funext k
    rw [rfI_r]
    repeat (first | rw [up2_a (by omega)] | rw [up1_ne (by omega)])
    rfl
  · funext k
    rw [rfI_l]
    repeat rw [up1_ne (by omega)]
    rfl
  · funext k
    rw [rfI_f]
    repeat rw [up1_ne (by omega)]
    rfl
set_option maxRecDepth 100000 in
set_option maxHeartbeats 4000000 in
theorem rfI_md : MD (rfI h) (hz h) := by
  have kk : ∀ q k n, hm (rfI h) q = (k, n) → hk (rfI h) q = k ∧ hn (rfI h) q = n := fun q k n e => ⟨congrArg Prod.fst e, congrArg Prod.snd e⟩
  have m0 : hm (rfI h) (hz h) = (8, 11) := by rw [rfI_m]; simp
  have m1 := kk (hz h + 1) 20 9000 (by rw [rfI_m]; simp)
  have m2 := kk (hz h + 2) 20 144000 (by rw [rfI_m]; simp)
  have m3 := kk (hz h + 3) 20 61 (by rw [rfI_m]; simp)
  have m4 := kk (hz h + 4) 20 60 (by rw [rfI_m]; simp)
  have m5 := kk (hz h + 5) 24 200 (by rw [rfI_m]; simp)
  have m6 := kk (hz h + 6) 20 8 (by rw [rfI_m]; simp)
  have m7 := kk (hz h + 7) 20 256 (by rw [rfI_m]; simp)
  have m8 := kk (hz h + 8) 20 256 (by rw [rfI_m]; simp)
  have m9 := kk (hz h + 9) 20 10 (by rw [rfI_m]; simp)
  exact ⟨⟨(kk _ _ _ m0).1, by rw [rfI_r]; simp [up2, up1], m1⟩, ⟨by rw [rfI_r]; simp [up2, up1], m2⟩, ⟨by rw [rfI_r]; simp [up2, up1], m3⟩, ⟨by rw [rfI_r]; simp [up2, up1], m4⟩, ⟨by rw [rfI_r]; simp [up2, up1], m5⟩, ⟨by rw [rfI_r]; simp [up2, up1], m6⟩, ⟨by rw [rfI_r]; simp [up2, up1], m7⟩, ⟨by rw [rfI_r]; simp [up2, up1], m8⟩, ⟨by rw [rfI_r]; simp [up2, up1], m9⟩⟩
set_option maxRecDepth 100000 in
set_option maxHeartbeats 4000000 in
theorem rfI_v : (∀ k, hi (rfI h) (hz h) k = 0) ∧ (∀ k, hi (rfI h) (hz h + 1) k = 0) ∧ (∀ k, k < 61 → hi (rfI h) (hz h + 3) k = nI 2000000000) ∧ ∀ k, hi (rfI h) (hz h + 4) k = 0 := by
  refine ⟨fun k => ?_, fun k => ?_, fun k hk6 => ?_, fun k => ?_⟩
  · rw [rfI_i]; simp [up1, filF]
  · rw [rfI_i]; simp [up1, filF]
  · rw [rfI_i]
    unfold filF
    rw [if_pos ⟨rfl, by omega, by omega⟩]
    rfl
  · rw [rfI_i]; simp [up1, filF]
end LAW16

