/-! ===== the first state ===== -/
section INI6
variable {g : Nat → Int32}
set_option maxRecDepth 100000 in
set_option maxHeartbeats 4000000 in
theorem GI_ini (e : ∀ k, g k = 0) : GI g := by
  have n0 : nt (0 : Int32) = 0 := nt_nI (n := 0) (by omega)
  have z0 : nt (g 0) = 0 := by rw [e, n0]
  have z1 : nt (g 1) = 0 := by rw [e, n0]
  have i0 : ∀ m, isN (0 : Int32) 0 m := fun m => isN_nI (n := 0) (by omega) (by omega) (by omega)
  refine ⟨⟨by rw [e]; exact i0 24, by rw [e]; exact i0 10⟩, fun b hb => ?_, fun s hs => ?_, fun s i hs => ?_, fun s i t j hs => ?_, fun k _ => e k⟩
  · rw [z0] at hb; omega
  · rw [z1] at hs; omega
  · rw [z1] at hs; omega
  · rw [z1] at hs; omega
set_option maxRecDepth 100000 in
set_option maxHeartbeats 4000000 in
theorem BO_ini (e : ∀ k, g k = 0) : BO g := by
  have z1 : nt (g 1) = 0 := by rw [e]; exact nt_nI (n := 0) (by omega)
  refine ⟨fun s i hs => ?_, fun s hs => ?_⟩
  · rw [z1] at hs; omega
  · rw [z1] at hs; omega
end INI6

