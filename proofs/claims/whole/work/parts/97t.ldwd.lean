/-! ===== loads and winds: only those that are there ===== -/
set_option maxRecDepth 100000 in
set_option maxHeartbeats 4000000 in
theorem Core.lw {ow : Nat → Nat} {h : AH} {y : Nat} {g ld wd ld2 wd2 : Nat → Int32} (C : Core ow h y g ld wd) (e1 : ∀ k, k < 61 → ld2 k = ld k) (e2 : ∀ k, k < 60 → wd2 k = wd k) : Core ow h y g ld2 wd2 := by
  obtain ⟨C1, C2, C3, C4, C5, C6, ⟨C7, C8⟩, C9⟩ := C
  exact ⟨C1, C2, C3, C4, C5, C6, ⟨fun k hk => (C7 k hk).trans (e1 k hk).symm, fun k hk => (C8 k hk).trans (e2 k hk).symm⟩, C9⟩

