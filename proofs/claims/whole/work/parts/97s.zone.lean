/-! ===== what the reference writes leaves the class ===== -/
section ZONE
variable {T : Nat → Prop} {ow o2 : Nat → Nat} {h h2 : AH} {y kp nx : Nat} {g ld wd : Nat → Int32} {ps : Nat → Nat → Int32}
set_option maxRecDepth 100000 in
set_option maxHeartbeats 4000000 in
theorem Core.zone (C : Core ow h y g ld wd) (W : GW g) (F : Fr T ow h o2 h2) (hT : ∀ t, T t → t = 13) (x : Ext h h2) (L2 : Lv o2 h2) (to : To ow o2) : Core o2 h2 y g ld wd := by
  obtain ⟨C1, C2, C3, C4, C5, C6, ⟨C7, C8⟩, C9⟩ := id C
  obtain ⟨s1, s2, s3, s5, s6, s7, -⟩ := id C2
  have h24 := W.1.2.2
  have h10 := W.2.1.2.2
  have no : ∀ t, t ≠ 13 → ¬ T t := fun t h1 z => h1 (hT t z)
  have q1 := F.at_ s1.2.2.2.2.2 (by decide) (no _ (by omega))
  have q2 := F.at_ s2.2.2 (by decide) (no _ (by omega))
  have q3 := F.at_ s3.2.2 (by decide) (no _ (by omega))
  have q5 := F.at_ s5.2.2.2.2 (by decide) (no _ (by omega))
  have q6 := F.at_ s6.2.2 (by decide) (no _ (by omega))
  have q7 := F.at_ s7.2.2 (by decide) (no _ (by omega))
  exact ⟨L2, C2.up C1 x to (fun k _ => by rw [q1.2.2.2.2.1]) q5.2.2.2.2.1, ⟨by rw [q1.2.2.2.1]; exact C3.1, by rw [q1.2.2.2.1]; exact C3.2⟩, fun i hi => (C4 i hi).fr F (no _ (by omega)) (no _ (by omega)) (by rw [q2.2.2.2.2.1]), fun i hi => (C5 i hi).fr F (no _ (by omega)) (no _ (by omega)) (no _ (by omega)) (W.2.2.1 i hi) (by rw [q2.2.2.2.2.1]) (fun _ _ => rfl) (fun _ _ => rfl), fun t ht => (C6 t ht).fr F (fun u hu => no _ (by unfold sT at hu; omega)) (W.2.2.2 t ht) (by rw [q3.2.2.2.2.1]) (fun _ _ => rfl), ⟨fun k hk => by rw [q6.2.2.2.1]; exact C7 k hk, fun k hk => by rw [q7.2.2.2.1]; exact C8 k hk⟩, C9.fr F (fun t h1 h2 => no _ (by omega)) (by rw [q1.2.2.2.2.1])⟩
set_option maxRecDepth 100000 in
set_option maxHeartbeats 4000000 in
/-- ints of the reference's cells change -/
theorem zone_set {F : Nat → Nat → Int32} (C : Core ow h y g ld wd) (K : Acts ow h y g kp nx ps) (W : GW g) (hF : ∀ a, ow a ≠ 13 → F a = hi h a) : Core ow (setI h F) y g ld wd ∧ Acts ow (setI h F) y g kp nx ps := by
  have F1 : Fr (fun t => t = 13) ow h ow (setI h F) := fun b hb hT => ⟨rfl, rfl, hF b hT, rfl, rfl, rfl⟩
  have o1 := C.2.1.1.2.2.2.2.2
  have q1 := F1.at_ o1 (by decide) (by omega)
  exact ⟨C.zone W F1 (fun t ht => ht) ⟨Nat.le_refl _, fun _ _ => rfl⟩ C.1 To.rf, K.fr F1 (fun t ht z => by omega) rfl (by rw [q1.2.2.2.1]) (by rw [q1.2.2.2.1])⟩
end ZONE

