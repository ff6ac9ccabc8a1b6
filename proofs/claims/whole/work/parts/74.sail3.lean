/-! ===== acts: sail ===== -/
def sdI (h : AH) (a : Nat) (e1 e2 : Int32) : AH := wi (wi (wq h a 2 none) a 0 e1) a 1 e2
section SAIL3
variable {G : GG} {d : Nat} {h h2 : AH} {Q : Option Value → AH → Prop} {ow o2 : Nat → Nat} {y : Nat} {g g2 ld wd : Nat → Int32} {kp nx s a : Nat} {ps : Nat → Nat → Int32} {T : Nat → Prop}
set_option maxRecDepth 100000 in
set_option maxHeartbeats 4000000 in
theorem sdI_ne {q : Nat} {e1 e2 : Int32} (hq : q ≠ a) : hi (sdI h a e1 e2) q = hi h q ∧ hr (sdI h a e1 e2) q = hr h q := by
  refine ⟨?_, ?_⟩
  · show up2 (up2 (hi h) a 0 e1) a 1 e2 q = _
    rw [up2_a hq, up2_a hq]
  · show up2 (hr h) a 2 none q = _
    rw [up2_a hq]
set_option maxRecDepth 100000 in
set_option maxHeartbeats 4000000 in
theorem sdI_v {e1 e2 : Int32} : hi (sdI h a e1 e2) a 0 = e1 ∧ hi (sdI h a e1 e2) a 1 = e2 ∧ hr (sdI h a e1 e2) a 2 = none := by
  refine ⟨?_, ?_, ?_⟩
  · show up2 (up2 (hi h) a 0 e1) a 1 e2 a 0 = _
    rw [up2_k (by decide), up2_same]
  · show up2 (up2 (hi h) a 0 e1) a 1 e2 a 1 = _
    rw [up2_same]
  · show up2 (hr h) a 2 none a 2 = _
    rw [up2_same]
set_option maxRecDepth 100000 in
set_option maxHeartbeats 4000000 in
theorem inS_ne {l r q : Nat} {ht : Int32} (h1 : q ≠ a) (h2 : q ≠ hz h) : hi (inS h a l r ht) q = hi h q ∧ hr (inS h a l r ht) q = hr h q := by
  refine ⟨?_, ?_⟩
  · show up2 (up2 (up2 (up1 (up2 (up2 (up2 (up2 (up2 (hi h) a 3 0) a 5 0) a 6 0) a 8 0) a 9 0) (hz h) 0) a 11 0) a 12 0) a 2 ht q = _
    rw [up2_a h1, up2_a h1, up2_a h1]
    funext j
    unfold up1
    rw [if_neg h2, up2_a h1, up2_a h1, up2_a h1, up2_a h1, up2_a h1]
  · show up2 (up2 (up2 (up1 (up2 (up2 (hr h) a 4 none) a 7 none) (hz h) none) a 10 (some (hz h))) a 0 (some l)) a 1 (some r) q = _
    rw [up2_a h1, up2_a h1, up2_a h1]
    funext j
    unfold up1
    rw [if_neg h2, up2_a h1, up2_a h1]
set_option maxRecDepth 100000 in
set_option maxHeartbeats 4000000 in
theorem inS_i {l r : Nat} {ht : Int32} (hla : a < hz h) : hi (inS h a l r ht) a 2 = ht ∧ hi (inS h a l r ht) a 3 = 0 ∧ hi (inS h a l r ht) a 5 = 0 ∧ hi (inS h a l r ht) a 6 = 0 ∧ hi (inS h a l r ht) a 8 = 0 ∧ hi (inS h a l r ht) a 9 = 0 ∧ hi (inS h a l r ht) a 11 = 0 := by
  have hne : ¬ a = hz h := by omega
  refine ⟨?_, ?_, ?_, ?_, ?_, ?_, ?_⟩ <;> (show up2 (up2 (up2 (up1 (up2 (up2 (up2 (up2 (up2 (hi h) a 3 0) a 5 0) a 6 0) a 8 0) a 9 0) (hz h) 0) a 11 0) a 12 0) a 2 ht a _ = _) <;> simp [up2, up1, hne]
set_option maxRecDepth 100000 in
set_option maxHeartbeats 4000000 in
theorem inS_r {l r : Nat} {ht : Int32} (hla : a < hz h) : hr (inS h a l r ht) a 0 = some l ∧ hr (inS h a l r ht) a 1 = some r ∧ hr (inS h a l r ht) a 4 = none ∧ hr (inS h a l r ht) a 7 = none ∧ hr (inS h a l r ht) a 10 = some (hz h) := by
  have hne : ¬ a = hz h := by omega
  refine ⟨?_, ?_, ?_, ?_, ?_⟩ <;> (show up2 (up2 (up2 (up1 (up2 (up2 (hr h) a 4 none) a 7 none) (hz h) none) a 10 (some (hz h))) a 0 (some l)) a 1 (some r) a _ = _) <;> simp [up2, up1, hne]
set_option maxRecDepth 100000 in
set_option maxHeartbeats 4000000 in
theorem gSail_sl {n c : Nat} {e1 e2 e3 e4 e5 : Int32} (hc : c < 390) : sl (gSail g n e1 e2 e3 e4 e5) n c = if 300 ≤ c ∧ c < 380 then -1 else if c = 5 then e5 else if c = 4 then e4 else if c = 3 then e3 else if c = 2 then e2 else if c = 1 then e1 else 0 := by
  unfold sl gSail
  by_cases z : 300 ≤ c ∧ c < 380
  · rw [if_pos z]
    unfold filG
    by_cases z2 : 340 ≤ c
    · rw [if_pos (by omega)]
    · rw [if_neg (by omega), if_pos (by omega)]
  · rw [if_neg z]
    rw [show ∀ (f : Nat → Int32), filG f (5050 + 390 * n + 340) 40 (-1) (5050 + 390 * n + c) = f (5050 + 390 * n + c) from fun f => if_neg (by omega)]
    rw [show ∀ (f : Nat → Int32), filG f (5050 + 390 * n + 300) 40 (-1) (5050 + 390 * n + c) = f (5050 + 390 * n + c) from fun f => if_neg (by omega)]
    by_cases z5 : c = 5
    · rw [if_pos z5, z5, upd0_same]
    · rw [if_neg z5, upd0_ne (by omega)]
      by_cases z4 : c = 4
      · rw [if_pos z4, z4, upd0_same]
      · rw [if_neg z4, upd0_ne (by omega)]
        by_cases z3 : c = 3
        · rw [if_pos z3, z3, upd0_same]
        · rw [if_neg z3, upd0_ne (by omega)]
          by_cases z2 : c = 2
          · rw [if_pos z2, z2, upd0_same]
          · rw [if_neg z2, upd0_ne (by omega)]
            by_cases z1 : c = 1
            · rw [if_pos z1, z1, upd0_same]
            · rw [if_neg z1, upd0_ne (by omega)]
              exact if_pos (by omega)
set_option maxRecDepth 100000 in
set_option maxHeartbeats 4000000 in
theorem gSail_ne {n q : Nat} {e1 e2 e3 e4 e5 : Int32} (h1 : q ≠ 1) (h2 : q < 5050 + 390 * n ∨ 5050 + 390 * n + 390 ≤ q) : gSail g n e1 e2 e3 e4 e5 q = g q := by
  unfold gSail
  rw [show ∀ (f : Nat → Int32), filG f (5050 + 390 * n + 340) 40 (-1) q = f q from fun f => if_neg (by omega)]
  rw [show ∀ (f : Nat → Int32), filG f (5050 + 390 * n + 300) 40 (-1) q = f q from fun f => if_neg (by omega)]
  rw [upd0_ne (by omega), upd0_ne (by omega), upd0_ne (by omega), upd0_ne (by omega), upd0_ne (by omega)]
  rw [show ∀ (f : Nat → Int32), filG f (5050 + 390 * n) 390 0 q = f q from fun f => if_neg (by omega)]
  exact upd0_ne h1
set_option maxRecDepth 100000 in
set_option maxHeartbeats 4000000 in
theorem gSail_1 {n : Nat} {e1 e2 e3 e4 e5 : Int32} : gSail g n e1 e2 e3 e4 e5 1 = nI (n + 1) := by
  unfold gSail
  rw [show ∀ (f : Nat → Int32), filG f (5050 + 390 * n + 340) 40 (-1) 1 = f 1 from fun f => if_neg (by omega)]
  rw [show ∀ (f : Nat → Int32), filG f (5050 + 390 * n + 300) 40 (-1) 1 = f 1 from fun f => if_neg (by omega)]
  rw [upd0_ne (by omega), upd0_ne (by omega), upd0_ne (by omega), upd0_ne (by omega), upd0_ne (by omega)]
  rw [show ∀ (f : Nat → Int32), filG f (5050 + 390 * n) 390 0 1 = f 1 from fun f => if_neg (by omega)]
  exact upd0_same _ _ _
set_option maxRecDepth 100000 in
set_option maxHeartbeats 4000000 in
theorem gSail_np {n : Nat} {e1 e2 e3 e4 e5 : Int32} : np (gSail g n e1 e2 e3 e4 e5) n = 0 := by
  unfold np
  rw [gSail_sl (by omega), gSail_sl (by omega), if_neg (by omega), if_neg (by omega), if_neg (by omega), if_neg (by omega), if_neg (by omega), if_neg (by omega)]
  rfl
set_option maxRecDepth 100000 in
set_option maxHeartbeats 4000000 in
theorem gSail_lies {n : Nat} {e1 e2 e3 e4 e5 b k : Int32} (W : GW g) (en : n = nt (g 1)) (hn10 : n < 10) : liesV (gSail g n e1 e2 e3 e4 e5) b k = liesV g b k := by
  have e : ∀ s, s < nt (g 1) → fstN (onB (gSail g n e1 e2 e3 e4 e5) b k s) (np (gSail g n e1 e2 e3 e4 e5) s) = fstN (onB g b k s) (np g s) := fun s hs => by
    have w2 := W.2.2.2 s hs
    have le := LE.all (g2 := gSail g n e1 e2 e3 e4 e5) (fun c hc => gSail_ne (q := 5050 + 390 * s + c) (by omega) (by omega)) w2.2.2.2.2.1
    rw [le.1]
    exact fstN_eq (fun i hi => onB_eq (le.2 i hi).2.1 (le.2 i hi).2.2 ((le.2 i hi).1.ln w2))
  have eZ : fstN (fun s => (fstN (onB (gSail g n e1 e2 e3 e4 e5) b k s) (np (gSail g n e1 e2 e3 e4 e5) s)).isSome) (nt (gSail g n e1 e2 e3 e4 e5 1)) = fstN (fun s => (fstN (onB g b k s) (np g s)).isSome) (nt (g 1)) := by
    rw [gSail_1, nt_nI (by omega), fstN_f (by rw [gSail_np]; rfl), en]
    rw [← en]
    exact fstN_eq (fun s hs => by rw [e s (by omega)])
  unfold liesV
  rw [eZ]
  rcases fstN_spec (P := fun s => (fstN (onB g b k s) (np g s)).isSome) (n := nt (g 1)) with ⟨z, -⟩ | ⟨i, z, z1, -, -⟩
  · rw [z]
  · rw [z]
    show nI (100 * i + (fstN (onB (gSail g n e1 e2 e3 e4 e5) b k i) (np (gSail g n e1 e2 e3 e4 e5) i)).getD 0) = nI (100 * i + (fstN (onB g b k i) (np g i)).getD 0)
    rw [e i z1]
set_option maxRecDepth 100000 in
set_option maxHeartbeats 4000000 in
theorem sail_core {n : Nat} {e1 e2 e3 e4 : Int32} {ht : Nat} (C : Core ow h y g ld wd) (W : GW g) (hB : gB G ≤ hz h) (en : n = nt (g 1)) (hn10 : n < 10) (h1 : 1 ≤ ht) (h60 : ht ≤ 60) : ∃ oM, Core oM (wi (wq (inS (sdI (nw (sdI (nw (nw h 4 13) 5 3) (hz h + 1) e1 e3) 5 3) (hz h + 2) e2 e4) (hz h) (hz h + 1) (hz h + 2) (nI ht)) (y + 2) n (some (hz h))) y 3 (nI (n + 1))) y (gSail g n e1 e2 e3 e4 (nI ht)) ld wd ∧ Fr (fun t => t = 1 ∨ t = 3 ∨ sT n t) ow h oM (wi (wq (inS (sdI (nw (sdI (nw (nw h 4 13) 5 3) (hz h + 1) e1 e3) 5 3) (hz h + 2) e2 e4) (hz h) (hz h + 1) (hz h + 2) (nI ht)) (y + 2) n (some (hz h))) y 3 (nI (n + 1))) ∧ To ow oM := by
  obtain ⟨C1, C2, C3, C4, C5, C6, -⟩ := id C
  obtain ⟨⟨s1, s2, s3, s4, s5, s6⟩, ⟨-, -, b3⟩, ⟨-, -, c3⟩, -⟩ := id C2
  have h24 := W.1.2.2
  have h10 := W.2.1.2.2
  have l2 := (C1 (y + 2) (by omega)).1
  -- the heap, cell by cell
  have z1 : hz (nw h 4 13) = hz h + 1 := rfl
  have z2 : hz (sdI (nw (nw h 4 13) 5 3) (hz h + 1) e1 e3) = hz h + 2 := rfl
  have z3 : hz (sdI (nw (sdI (nw (nw h 4 13) 5 3) (hz h + 1) e1 e3) 5 3) (hz h + 2) e2 e4) = hz h + 3 := rfl
  have L1 : Lv (upd0 ow (hz h) (400 + n)) (nw h 4 13) := Lv.nw C1 (fun _ => ⟨by omega, by omega⟩)
  have L2 : Lv (upd0 (upd0 ow (hz h) (400 + n)) (hz h + 1) (410 + n)) (sdI (nw (nw h 4 13) 5 3) (hz h + 1) e1 e3) := Lv.nw (h := nw h 4 13) (kd := 5) (n := 3) L1 (fun z => by cases z)
  have L3 : Lv (upd0 (upd0 (upd0 ow (hz h) (400 + n)) (hz h + 1) (410 + n)) (hz h + 2) (420 + n)) (sdI (nw (sdI (nw (nw h 4 13) 5 3) (hz h + 1) e1 e3) 5 3) (hz h + 2) e2 e4) := Lv.nw (h := sdI (nw (nw h 4 13) 5 3) (hz h + 1) e1 e3) (kd := 5) (n := 3) L2 (fun z => by cases z)
  have L4 : Lv (upd0 (upd0 (upd0 (upd0 ow (hz h) (400 + n)) (hz h + 1) (410 + n)) (hz h + 2) (420 + n)) (hz h + 3) (470 + n)) (wi (wq (inS (sdI (nw (sdI (nw (nw h 4 13) 5 3) (hz h + 1) e1 e3) 5 3) (hz h + 2) e2 e4) (hz h) (hz h + 1) (hz h + 2) (nI ht)) (y + 2) n (some (hz h))) y 3 (nI (n + 1))) := Lv.nw (h := sdI (nw (sdI (nw (nw h 4 13) 5 3) (hz h + 1) e1 e3) 5 3) (hz h + 2) e2 e4) (kd := 20) (n := 3) L3 (fun z => by cases z)
  have to : To ow (upd0 (upd0 (upd0 (upd0 ow (hz h) (400 + n)) (hz h + 1) (410 + n)) (hz h + 2) (420 + n)) (hz h + 3) (470 + n)) := ((To.nw C1).tr (To.nw (h := nw h 4 13) L1)).tr ((To.nw (h := sdI (nw (nw h 4 13) 5 3) (hz h + 1) e1 e3) L2).tr (To.nw (h := sdI (nw (sdI (nw (nw h 4 13) 5 3) (hz h + 1) e1 e3) 5 3) (hz h + 2) e2 e4) L3))
  have x : Ext h (wi (wq (inS (sdI (nw (sdI (nw (nw h 4 13) 5 3) (hz h + 1) e1 e3) 5 3) (hz h + 2) e2 e4) (hz h) (hz h + 1) (hz h + 2) (nI ht)) (y + 2) n (some (hz h))) y 3 (nI (n + 1))) := (Ext.nw h 4 13).tr ((Ext.nw (nw h 4 13) 5 3).tr ((Ext.nw (sdI (nw (nw h 4 13) 5 3) (hz h + 1) e1 e3) 5 3).tr (Ext.nw (sdI (nw (sdI (nw (nw h 4 13) 5 3) (hz h + 1) e1 e3) 5 3) (hz h + 2) e2 e4) 20 3)))
  -- before the root's writes
  have iq0 : ∀ q, q < hz h → hi (inS (sdI (nw (sdI (nw (nw h 4 13) 5 3) (hz h + 1) e1 e3) 5 3) (hz h + 2) e2 e4) (hz h) (hz h + 1) (hz h + 2) (nI ht)) q = hi h q ∧ hr (inS (sdI (nw (sdI (nw (nw h 4 13) 5 3) (hz h + 1) e1 e3) 5 3) (hz h + 2) e2 e4) (hz h) (hz h + 1) (hz h + 2) (nI ht)) q = hr h q ∧ hl (inS (sdI (nw (sdI (nw (nw h 4 13) 5 3) (hz h + 1) e1 e3) 5 3) (hz h + 2) e2 e4) (hz h) (hz h + 1) (hz h + 2) (nI ht)) q = hl h q ∧ hf (inS (sdI (nw (sdI (nw (nw h 4 13) 5 3) (hz h + 1) e1 e3) 5 3) (hz h + 2) e2 e4) (hz h) (hz h + 1) (hz h + 2) (nI ht)) q = hf h q := fun q hq => by
    have a1 := inS_ne (h := sdI (nw (sdI (nw (nw h 4 13) 5 3) (hz h + 1) e1 e3) 5 3) (hz h + 2) e2 e4) (a := hz h) (l := hz h + 1) (r := hz h + 2) (ht := nI ht) (q := q) (by omega) (by omega)
    have a2 := sdI_ne (h := nw (sdI (nw (nw h 4 13) 5 3) (hz h + 1) e1 e3) 5 3) (a := hz h + 2) (e1 := e2) (e2 := e4) (q := q) (by omega)
    have a3 := nw_ne (h := sdI (nw (nw h 4 13) 5 3) (hz h + 1) e1 e3) (kd := 5) (n := 3) (b := q) (by omega)
    have a4 := sdI_ne (h := nw (nw h 4 13) 5 3) (a := hz h + 1) (e1 := e1) (e2 := e3) (q := q) (by omega)
    have a5 := nw_ne (h := nw h 4 13) (kd := 5) (n := 3) (b := q) (by omega)
    have a6 := nw_ne (h := h) (kd := 4) (n := 13) (b := q) (by omega)
    have a7 := nw_ne (h := sdI (nw (sdI (nw (nw h 4 13) 5 3) (hz h + 1) e1 e3) 5 3) (hz h + 2) e2 e4) (kd := 20) (n := 3) (b := q) (by omega)
    exact ⟨a1.1.trans (a2.1.trans (a3.2.1.trans (a4.1.trans (a5.2.1.trans a6.2.1)))), a1.2.trans (a2.2.trans (a3.2.2.1.trans (a4.2.trans (a5.2.2.1.trans a6.2.2.1)))), a7.2.2.2.1.trans (a3.2.2.2.1.trans (a5.2.2.2.1.trans a6.2.2.2.1)), a7.2.2.2.2.trans (a3.2.2.2.2.trans (a5.2.2.2.2.trans a6.2.2.2.2))⟩
  have vI := inS_i (h := sdI (nw (sdI (nw (nw h 4 13) 5 3) (hz h + 1) e1 e3) 5 3) (hz h + 2) e2 e4) (a := hz h) (l := hz h + 1) (r := hz h + 2) (ht := nI ht) (by omega)
  have vR := inS_r (h := sdI (nw (sdI (nw (nw h 4 13) 5 3) (hz h + 1) e1 e3) 5 3) (hz h + 2) e2 e4) (a := hz h) (l := hz h + 1) (r := hz h + 2) (ht := nI ht) (by omega)
  have vr := inS_ne (h := sdI (nw (sdI (nw (nw h 4 13) 5 3) (hz h + 1) e1 e3) 5 3) (hz h + 2) e2 e4) (a := hz h) (l := hz h + 1) (r := hz h + 2) (ht := nI ht) (q := hz h + 2) (by omega) (by omega)
  have vl := inS_ne (h := sdI (nw (sdI (nw (nw h 4 13) 5 3) (hz h + 1) e1 e3) 5 3) (hz h + 2) e2 e4) (a := hz h) (l := hz h + 1) (r := hz h + 2) (ht := nI ht) (q := hz h + 1) (by omega) (by omega)
  have vl2 := sdI_ne (h := nw (sdI (nw (nw h 4 13) 5 3) (hz h + 1) e1 e3) 5 3) (a := hz h + 2) (e1 := e2) (e2 := e4) (q := hz h + 1) (by omega)
  have vl3 := nw_ne (h := sdI (nw (nw h 4 13) 5 3) (hz h + 1) e1 e3) (kd := 5) (n := 3) (b := hz h + 1) (by omega)
  have vL := sdI_v (h := nw (nw h 4 13) 5 3) (a := hz h + 1) (e1 := e1) (e2 := e3)
  have vR2 := sdI_v (h := nw (sdI (nw (nw h 4 13) 5 3) (hz h + 1) e1 e3) 5 3) (a := hz h + 2) (e1 := e2) (e2 := e4)
  have xq : Ext (sdI (nw (sdI (nw (nw h 4 13) 5 3) (hz h + 1) e1 e3) 5 3) (hz h + 2) e2 e4) (inS (sdI (nw (sdI (nw (nw h 4 13) 5 3) (hz h + 1) e1 e3) 5 3) (hz h + 2) e2 e4) (hz h) (hz h + 1) (hz h + 2) (nI ht)) := Ext.nw _ 20 3
  have xr : Ext (sdI (nw (nw h 4 13) 5 3) (hz h + 1) e1 e3) (sdI (nw (sdI (nw (nw h 4 13) 5 3) (hz h + 1) e1 e3) 5 3) (hz h + 2) e2 e4) := Ext.nw _ 5 3
  have xl : Ext (nw h 4 13) (sdI (nw (nw h 4 13) 5 3) (hz h + 1) e1 e3) := Ext.nw _ 5 3
  have ka : hk (inS (sdI (nw (sdI (nw (nw h 4 13) 5 3) (hz h + 1) e1 e3) 5 3) (hz h + 2) e2 e4) (hz h) (hz h + 1) (hz h + 2) (nI ht)) (hz h) = 4 := by rw [xq.k (by omega), xr.k (by omega), xl.k (by omega)]; exact hk_nw'
  have kl : hk (inS (sdI (nw (sdI (nw (nw h 4 13) 5 3) (hz h + 1) e1 e3) 5 3) (hz h + 2) e2 e4) (hz h) (hz h + 1) (hz h + 2) (nI ht)) (hz h + 1) = 5 := by rw [xq.k (by omega), xr.k (by omega)]; exact hk_nw' (h := nw h 4 13)
  have kr : hk (inS (sdI (nw (sdI (nw (nw h 4 13) 5 3) (hz h + 1) e1 e3) 5 3) (hz h + 2) e2 e4) (hz h) (hz h + 1) (hz h + 2) (nI ht)) (hz h + 2) = 5 := by rw [xq.k (by omega)]; exact hk_nw' (h := sdI (nw (nw h 4 13) 5 3) (hz h + 1) e1 e3)
  have kq : hk (inS (sdI (nw (sdI (nw (nw h 4 13) 5 3) (hz h + 1) e1 e3) 5 3) (hz h + 2) e2 e4) (hz h) (hz h + 1) (hz h + 2) (nI ht)) (hz h + 3) = 20 := hk_nw' (h := sdI (nw (sdI (nw (nw h 4 13) 5 3) (hz h + 1) e1 e3) 5 3) (hz h + 2) e2 e4)
  have nq : hn (inS (sdI (nw (sdI (nw (nw h 4 13) 5 3) (hz h + 1) e1 e3) 5 3) (hz h + 2) e2 e4) (hz h) (hz h + 1) (hz h + 2) (nI ht)) (hz h + 3) = 3 := hn_nw' (h := sdI (nw (sdI (nw (nw h 4 13) 5 3) (hz h + 1) e1 e3) 5 3) (hz h + 2) e2 e4)
  have hzS : hz (inS (sdI (nw (sdI (nw (nw h 4 13) 5 3) (hz h + 1) e1 e3) 5 3) (hz h + 2) e2 e4) (hz h) (hz h + 1) (hz h + 2) (nI ht)) = hz h + 4 := rfl
  rw [vl2.1, vl3.2.1] at vl
  rw [vl2.2, vl3.2.2.1] at vl
  have l0 : hi (inS (sdI (nw (sdI (nw (nw h 4 13) 5 3) (hz h + 1) e1 e3) 5 3) (hz h + 2) e2 e4) (hz h) (hz h + 1) (hz h + 2) (nI ht)) (hz h + 1) 0 = e1 := by rw [vl.1]; exact vL.1
  have l1 : hi (inS (sdI (nw (sdI (nw (nw h 4 13) 5 3) (hz h + 1) e1 e3) 5 3) (hz h + 2) e2 e4) (hz h) (hz h + 1) (hz h + 2) (nI ht)) (hz h + 1) 1 = e3 := by rw [vl.1]; exact vL.2.1
  have l2' : hr (inS (sdI (nw (sdI (nw (nw h 4 13) 5 3) (hz h + 1) e1 e3) 5 3) (hz h + 2) e2 e4) (hz h) (hz h + 1) (hz h + 2) (nI ht)) (hz h + 1) 2 = none := by rw [vl.2]; exact vL.2.2
  have r0 : hi (inS (sdI (nw (sdI (nw (nw h 4 13) 5 3) (hz h + 1) e1 e3) 5 3) (hz h + 2) e2 e4) (hz h) (hz h + 1) (hz h + 2) (nI ht)) (hz h + 2) 0 = e2 := by rw [vr.1]; exact vR2.1
  have r1 : hi (inS (sdI (nw (sdI (nw (nw h 4 13) 5 3) (hz h + 1) e1 e3) 5 3) (hz h + 2) e2 e4) (hz h) (hz h + 1) (hz h + 2) (nI ht)) (hz h + 2) 1 = e4 := by rw [vr.1]; exact vR2.2.1
  have r2' : hr (inS (sdI (nw (sdI (nw (nw h 4 13) 5 3) (hz h + 1) e1 e3) 5 3) (hz h + 2) e2 e4) (hz h) (hz h + 1) (hz h + 2) (nI ht)) (hz h + 2) 2 = none := by rw [vr.2]; exact vR2.2.2
  clear vl vr vl2 vl3 vL vR2 xq xr xl L1 L2 L3 z1 z2
  rw [z3] at vR
  clear z3
  generalize inS (sdI (nw (sdI (nw (nw h 4 13) 5 3) (hz h + 1) e1 e3) 5 3) (hz h + 2) e2 e4) (hz h) (hz h + 1) (hz h + 2) (nI ht) = hS at *
  refine ⟨upd0 (upd0 (upd0 (upd0 ow (hz h) (400 + n)) (hz h + 1) (410 + n)) (hz h + 2) (420 + n)) (hz h + 3) (470 + n), ?_⟩
  have oq : ∀ q, q < hz h → upd0 (upd0 (upd0 (upd0 ow (hz h) (400 + n)) (hz h + 1) (410 + n)) (hz h + 2) (420 + n)) (hz h + 3) (470 + n) q = ow q := fun q hq => by rw [upd0_ne (by omega), upd0_ne (by omega), upd0_ne (by omega), upd0_ne (by omega)]
  have oA : upd0 (upd0 (upd0 (upd0 ow (hz h) (400 + n)) (hz h + 1) (410 + n)) (hz h + 2) (420 + n)) (hz h + 3) (470 + n) (hz h) = 400 + n := by rw [upd0_ne (by omega), upd0_ne (by omega), upd0_ne (by omega), upd0_same]
  have oL : upd0 (upd0 (upd0 (upd0 ow (hz h) (400 + n)) (hz h + 1) (410 + n)) (hz h + 2) (420 + n)) (hz h + 3) (470 + n) (hz h + 1) = 410 + n := by rw [upd0_ne (by omega), upd0_ne (by omega), upd0_same]
  have oR : upd0 (upd0 (upd0 (upd0 ow (hz h) (400 + n)) (hz h + 1) (410 + n)) (hz h + 2) (420 + n)) (hz h + 3) (470 + n) (hz h + 2) = 420 + n := by rw [upd0_ne (by omega), upd0_same]
  have oQ : upd0 (upd0 (upd0 (upd0 ow (hz h) (400 + n)) (hz h + 1) (410 + n)) (hz h + 2) (420 + n)) (hz h + 3) (470 + n) (hz h + 3) = 470 + n := upd0_same _ _ _
  generalize upd0 (upd0 (upd0 (upd0 ow (hz h) (400 + n)) (hz h + 1) (410 + n)) (hz h + 2) (420 + n)) (hz h + 3) (470 + n) = oM at *
  have iM : ∀ q, q ≠ y → hi (wi (wq hS (y + 2) n (some (hz h))) y 3 (nI (n + 1))) q = hi hS q := fun q hq => by
    show up2 (hi hS) y 3 _ q = _
    rw [up2_a hq]
  have iMy : hi (wi (wq hS (y + 2) n (some (hz h))) y 3 (nI (n + 1))) y = upd0 (hi h y) 3 (nI (n + 1)) := by
    show up2 (hi hS) y 3 _ y = _
    rw [up2_at, (iq0 y (by omega)).1]
  have rM : ∀ q, q ≠ y + 2 → hr (wi (wq hS (y + 2) n (some (hz h))) y 3 (nI (n + 1))) q = hr hS q := fun q hq => by
    show up2 (hr hS) (y + 2) n _ q = _
    rw [up2_a hq]
  have rM2 : hr (wi (wq hS (y + 2) n (some (hz h))) y 3 (nI (n + 1))) (y + 2) = upd0 (hr h (y + 2)) n (some (hz h)) := by
    show up2 (hr hS) (y + 2) n _ (y + 2) = _
    rw [up2_at, (iq0 (y + 2) l2).2.1]
  have kM : ∀ q, hk (wi (wq hS (y + 2) n (some (hz h))) y 3 (nI (n + 1))) q = hk hS q := fun _ => rfl
  have nM : ∀ q, hn (wi (wq hS (y + 2) n (some (hz h))) y 3 (nI (n + 1))) q = hn hS q := fun _ => rfl
  have lM : ∀ q, hl (wi (wq hS (y + 2) n (some (hz h))) y 3 (nI (n + 1))) q = hl hS q := fun _ => rfl
  have fM : ∀ q, hf (wi (wq hS (y + 2) n (some (hz h))) y 3 (nI (n + 1))) q = hf hS q := fun _ => rfl
  generalize wi (wq hS (y + 2) n (some (hz h))) y 3 (nI (n + 1)) = hM at *
  have F : Fr (fun t => t = 1 ∨ t = 3 ∨ sT n t) ow h oM hM := fun q q1 q2 => by
    have lq := (C1 q q1).1
    have e1' : q ≠ y := fun z => q2 (by rw [z, s6]; exact Or.inl rfl)
    have e2' : q ≠ y + 2 := fun z => q2 (by rw [z, c3]; exact Or.inr (Or.inl rfl))
    exact ⟨oq q lq, x.2 q lq, (iM q e1').trans (iq0 q lq).1, (rM q e2').trans (iq0 q lq).2.1, (lM q).trans (iq0 q lq).2.2.1, (fM q).trans (iq0 q lq).2.2.2⟩
  have gs := fun c (hc : c < 390) => gSail_sl (g := g) (n := n) (e1 := e1) (e2 := e2) (e3 := e3) (e4 := e4) (e5 := nI ht) hc
  have g0s : ∀ c, c < 300 → 6 ≤ c → sl (gSail g n e1 e2 e3 e4 (nI ht)) n c = 0 := fun c h1 h2 => by rw [gs c (by omega), if_neg (by omega), if_neg (by omega), if_neg (by omega), if_neg (by omega), if_neg (by omega), if_neg (by omega)]
  have g00 : sl (gSail g n e1 e2 e3 e4 (nI ht)) n 0 = 0 := by rw [gs 0 (by omega), if_neg (by omega), if_neg (by omega), if_neg (by omega), if_neg (by omega), if_neg (by omega), if_neg (by omega)]
  have nt0 : nt (0 : Int32) = 0 := nt_nI (n := 0) (by omega)
  have y1' := F.at_ b3 (by omega) (fun q => by unfold sT at q; omega)
  refine ⟨C.up F x L4 to (fun k => by rw [rM y (by omega), (iq0 y (by omega)).2.1]) (fun t h1 h2 h3 z => by unfold sT at z; omega) (by rw [iMy, upd0_ne (by decide), gSail_ne (by omega) (by omega)]; exact C3.1) (by rw [iMy, upd0_same, gSail_1]) (fun i hib => (C4 i hib).fr F (fun z => by unfold sT at z; omega) (fun z => by unfold sT at z; omega) (by rw [y1'.2.2.2.2.1])) (fun i hib => ?_) (fun t ht2 => ?_), F, to⟩
  · rw [gSail_ne (by omega) (by omega)] at hib
    exact (C5 i hib).fr F (fun z => by unfold sT at z; omega) (fun z => by unfold sT at z; omega) (fun z => by unfold sT at z; omega) (W.2.2.1 i hib) (by rw [y1'.2.2.2.2.1]) (fun c hc => gSail_ne (by omega) (by omega)) (fun k hk => gSail_lies W en hn10)
  · rw [gSail_1, nt_nI (by omega)] at ht2
    by_cases e : t = n
    · subst e
      refine ⟨hz h, by rw [rM2, upd0_same], ⟨oA, by rw [kM]; exact ka, ⟨hz h + 1, by rw [rM _ (by omega)]; exact vR.1, oL, by rw [kM]; exact kl, ?_, ?_, Or.inl ⟨?_, ?_⟩⟩, ⟨hz h + 2, by rw [rM _ (by omega)]; exact vR.2.1, oR, by rw [kM]; exact kr, ?_, ?_, Or.inl ⟨?_, ?_⟩⟩, ?_⟩, ⟨?_, ?_, ?_, Or.inl ⟨g00, ?_, ?_⟩⟩, ⟨?_, ?_, ?_, hz h + 3, ?_, oQ, by rw [kM]; exact kq, by rw [nM]; exact nq, fun m hm => ?_⟩⟩
      · rw [iM _ (by omega), l0, gs 1 (by omega)]
        rfl
      · rw [iM _ (by omega), l1, gs 3 (by omega)]
        rfl
      · rw [rM _ (by omega)]
        exact l2'
      · rw [g0s 16 (by omega) (by omega), nt0]
      · rw [iM _ (by omega), r0, gs 2 (by omega)]
        rfl
      · rw [iM _ (by omega), r1, gs 4 (by omega)]
        rfl
      · rw [rM _ (by omega)]
        exact r2'
      · rw [g0s 17 (by omega) (by omega), nt0]
      · rw [iM _ (by omega), vI.1, gs 5 (by omega)]
        rfl
      · rw [iM _ (by omega), vI.2.1, g00]
      · rw [iM _ (by omega), vI.2.2.1, g0s 8 (by omega) (by omega)]
      · rw [iM _ (by omega), vI.2.2.2.1, gSail_np]
        rfl
      · rw [rM _ (by omega)]
        exact vR.2.2.1
      · rw [rM _ (by omega)]
        exact vR.2.2.2.1
      · rw [iM _ (by omega), vI.2.2.2.2.1, g0s 10 (by omega) (by omega)]
      · rw [iM _ (by omega), vI.2.2.2.2.2.1, g0s 11 (by omega) (by omega)]
      · rw [iM _ (by omega), vI.2.2.2.2.2.2, g0s 12 (by omega) (by omega)]
      · rw [rM _ (by omega)]
        exact vR.2.2.2.2
      · rw [g0s 12 (by omega) (by omega), nt0] at hm
        omega
    · exact (C6 t (by omega)).fr F (fun u hu z => by unfold sT at z hu; omega) (W.2.2.2 t (by omega)) (by rw [rM2, upd0_ne e]) (fun c hc => gSail_ne (by omega) (by omega))
end SAIL3

