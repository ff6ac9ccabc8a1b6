/-! ===== the law: between two calls ===== -/
/-- room for the calls that are left, k are done -/
def Ro (G : GG) (k : Nat) (h : AH) : Prop := gB G ≤ hz h ∧ hz h + 100 * (512 - k) ≤ gB G + 600000 ∧ us G h + 6000 * (512 - k) ≤ 7302250
def St (G : GG) (y x k : Nat) (h : AH) : Prop := ∃ o kp nx la ps, Rel h y x o kp nx la ps ∧ Ro G k h
/-- the law goes on behind call k -/
def Kc (G : GG) (y x k : Nat) (Q : Option Value → AH → Prop) : Prop := ∀ h', St G y x (k + 1) h' → Rn G 10 mL_law 1299 [(0, .ref (gb G)), (1, .ref y), (2, .ref x), (3, .int (nI (6 * k)))] [] h' Q
section LAW6
variable {G : GG} {h h2 : AH} {y x kp nx la k : Nat} {o : Nat → Nat} {g2 : Nat → Int32} {ps : Nat → Nat → Int32}
set_option maxRecDepth 100000 in
set_option maxHeartbeats 4000000 in
theorem Ro.rm (r : Ro G k h) (hk5 : k < 512) : Rm G h 100 6000 := by
  obtain ⟨r1, r2, r3⟩ := r
  exact ⟨r1, by omega, by omega⟩
set_option maxRecDepth 100000 in
set_option maxHeartbeats 4000000 in
theorem Ro.next {h3 : AH} (r : Ro G k h) (hk5 : k < 512) (x1 : Ext h h2) (h1 : hz h2 ≤ hz h + 100) (u1 : us G h2 ≤ us G h + 6000) (e1 : hz h3 = hz h2) (e2 : us G h3 = us G h2) : Ro G (k + 1) h3 := by
  obtain ⟨r1, r2, r3⟩ := r
  have := x1.1
  exact ⟨by omega, by omega, by omega⟩
set_option maxRecDepth 100000 in
set_option maxHeartbeats 4000000 in
theorem St.same (R : Rel h y x o kp nx la ps) (r : Ro G k h) (hk5 : k < 512) : St G y x (k + 1) h := ⟨o, kp, nx, la, ps, R, r.next hk5 (Ext.rf h) (by omega) (by omega) rfl rfl⟩
set_option maxRecDepth 100000 in
set_option maxHeartbeats 4000000 in
theorem St.act (R : Rel h y x o kp nx la ps) (r : Ro G k h) (hk5 : k < 512) (x1 : Ext h h2) (P : Ps G y o h g2 (hi h (x + 3)) (hi h (x + 4)) (kpS kp) ((nx + 1) % 16) (cns (hi h (x + 1)) ps) h2) (I2 : GI g2 ∧ BO g2) : St G y x (k + 1) (acted h2 x la kp g2) := by
  obtain ⟨o2, R2⟩ := R.act P I2.1 I2.2
  obtain ⟨o3, -, -, -, p1, p2⟩ := P
  exact ⟨o2, _, _, _, _, R2, r.next hk5 x1 p1 p2 rfl rfl⟩
set_option maxRecDepth 100000 in
set_option maxHeartbeats 4000000 in
theorem St.still {F : Nat → Nat → Int32} (R : Rel h y x o kp nx la ps) (r : Ro G k h) (hk5 : k < 512) (x1 : Ext h h2) (P : Ps G y o h (hi h (x + 1)) (hi h (x + 3)) (hi h (x + 4)) kp nx ps h2) (hF : ∀ a, (a < x + 5 ∨ x + 10 ≤ a) → F a = hi h2 a) : St G y x (k + 1) (setI h2 F) := by
  obtain ⟨o2, R2⟩ := R.still P hF
  obtain ⟨o3, -, -, -, p1, p2⟩ := P
  exact ⟨o2, _, _, _, _, R2, r.next hk5 x1 p1 p2 rfl rfl⟩
set_option maxRecDepth 100000 in
set_option maxHeartbeats 4000000 in
theorem St.mast {n : Nat} {v : Int32} (R : Rel h y x o kp nx la ps) (r : Ro G k h) (hk5 : k < 512) (x1 : Ext h h2) (P : Ps G y o h (hi h (x + 1)) (upd0 (hi h (x + 3)) n v) (hi h (x + 4)) kp nx ps h2) : St G y x (k + 1) (wi h2 (x + 3) n v) := by
  obtain ⟨o2, R2⟩ := R.mast P
  obtain ⟨o3, -, -, -, p1, p2⟩ := P
  exact ⟨o2, _, _, _, _, R2, r.next hk5 x1 p1 p2 rfl rfl⟩
set_option maxRecDepth 100000 in
set_option maxHeartbeats 4000000 in
theorem St.wind {n : Nat} {v : Int32} (R : Rel h y x o kp nx la ps) (r : Ro G k h) (hk5 : k < 512) (x1 : Ext h h2) (P : Ps G y o h (hi h (x + 1)) (hi h (x + 3)) (upd0 (hi h (x + 4)) n v) kp nx ps h2) : St G y x (k + 1) (wi h2 (x + 4) n v) := by
  obtain ⟨o2, R2⟩ := R.wind P
  obtain ⟨o3, -, -, -, p1, p2⟩ := P
  exact ⟨o2, _, _, _, _, R2, r.next hk5 x1 p1 p2 rfl rfl⟩
set_option maxRecDepth 100000 in
set_option maxHeartbeats 4000000 in
theorem St.undo (R : Rel h y x o kp nx la ps) (r : Ro G k h) (hk5 : k < 512) (x1 : Ext h h2) (hkp : 0 < kp) (P : Ps G y o h (ps 0) (hi h (x + 3)) (hi h (x + 4)) (kp - 1) ((nx + 15) % 16) (fun j => ps (j + 1)) h2) : St G y x (k + 1) (setI h2 (undoF (hi h2) x la kp)) := by
  obtain ⟨o2, R2⟩ := R.undo hkp P
  obtain ⟨o3, -, -, -, p1, p2⟩ := P
  exact ⟨o2, _, _, _, _, R2, r.next hk5 x1 p1 p2 rfl rfl⟩
end LAW6

