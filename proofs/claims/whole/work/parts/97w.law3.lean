/-! ===== the law: the reefs that are read are those of the sails; an act keeps what holds of every state ===== -/
section LAW4
variable {g wd ld rf rf2 : Nat → Int32}
set_option maxRecDepth 100000 in
set_option maxHeartbeats 4000000 in
theorem psh_cg (e : ∀ s, s < nt (g 1) → rf s = rf2 s) (k : Nat) : pshV g wd rf k = pshV g wd rf2 k := by
  unfold pshV
  exact sumL_eq (fun s _ hs => by unfold p1V; rw [e s (by omega)])
set_option maxRecDepth 100000 in
set_option maxHeartbeats 4000000 in
theorem brk_cg (e : ∀ s, s < nt (g 1) → rf s = rf2 s) : brkV g wd rf ld = brkV g wd rf2 ld := by
  have e2 : brkN g wd rf ld = brkN g wd rf2 ld := by
    unfold brkN
    exact fstN_eq (fun j _ => by rw [psh_cg e j])
  unfold brkV
  rw [e2]
set_option maxRecDepth 100000 in
set_option maxHeartbeats 4000000 in
theorem rnd_cg : ∀ m s (rf rf2 : Nat → Int32) t ch, s + m ≤ nt (g 1) → (∀ s, s < nt (g 1) → rf s = rf2 s) → (∃ t', rnd g wd ld m s rf t ch = .inl t' ∧ rnd g wd ld m s rf2 t ch = .inl t') ∨ ∃ r r2 t' c', rnd g wd ld m s rf t ch = .inr (r, t', c') ∧ rnd g wd ld m s rf2 t ch = .inr (r2, t', c') ∧ ∀ s, s < nt (g 1) → r s = r2 s
  | 0, s, rf, rf2, t, ch, _, e => Or.inr ⟨rf, rf2, t, ch, rfl, rfl, e⟩
  | m + 1, s, rf, rf2, t, ch, hs, e => by
    have es := e s (by omega)
    by_cases z1 : sl g s 11 = 0
    · rw [rnd, rnd, if_pos z1, if_pos z1]
      exact rnd_cg m (s + 1) rf rf2 t ch (by omega) e
    · by_cases z2 : nxV g s (rf s) = -1
      · rw [rnd, rnd, if_neg z1, if_neg z1, if_pos z2, if_pos (by rw [← es]; exact z2)]
        exact rnd_cg m (s + 1) rf rf2 t ch (by omega) e
      · have eu : ∀ a, a < nt (g 1) → upd0 rf s (nxV g s (rf s)) a = upd0 rf2 s (nxV g s (rf2 s)) a := fun a ha => by
          unfold upd0
          rw [es, e a ha]
        have z2' : ¬ nxV g s (rf2 s) = -1 := by rw [← es]; exact z2
        by_cases z3 : brkV g wd (upd0 rf s (nxV g s (rf s))) ld = -1
        · have z3' : brkV g wd (upd0 rf2 s (nxV g s (rf2 s))) ld = -1 := by rw [← brk_cg eu]; exact z3
          rw [rnd, rnd, if_neg z1, if_neg z1, if_neg z2, if_neg z2', if_pos z3, if_pos z3']
          exact Or.inl ⟨_, rfl, rfl⟩
        · have z3' : ¬ brkV g wd (upd0 rf2 s (nxV g s (rf2 s))) ld = -1 := by rw [← brk_cg eu]; exact z3
          rw [rnd, rnd, if_neg z1, if_neg z1, if_neg z2, if_neg z2', if_neg z3, if_neg z3']
          exact rnd_cg m (s + 1) _ _ (t + 1) true (by omega) eu
set_option maxRecDepth 100000 in
set_option maxHeartbeats 4000000 in
theorem lst_cg : ∀ f (rf rf2 : Nat → Int32) t, (∀ s, s < nt (g 1) → rf s = rf2 s) → lst g wd ld f rf t = lst g wd ld f rf2 t
  | 0, _, _, _, _ => rfl
  | f + 1, rf, rf2, t, e => by
    rcases rnd_cg (wd := wd) (ld := ld) (nt (g 1)) 0 rf rf2 t false (by omega) e with ⟨t', h1, h2⟩ | ⟨r, r2, t', c', h1, h2, h3⟩
    · rw [lst, lst, h1, h2]
    · rw [lst, lst, h1, h2]
      cases c' with
      | true =>
        show lst g wd ld f r t' = lst g wd ld f r2 t'
        exact lst_cg f r r2 t' h3
      | false => rfl
set_option maxRecDepth 100000 in
set_option maxHeartbeats 4000000 in
theorem lstV_cg (e : ∀ s, s < nt (g 1) → rf s = rf2 s) : lstV g wd ld rf = lstV g wd ld rf2 := by
  unfold lstV
  rw [brk_cg e, lst_cg 4 rf rf2 0 e]
end LAW4
section LAW5
variable {g : Nat → Int32}
set_option maxRecDepth 100000 in
set_option maxHeartbeats 4000000 in
theorem isN.eq {v : Int32} {lo hi4 : Nat} (w : isN v lo hi4) : v = nI (nt v) := w.1
set_option maxRecDepth 100000 in
set_option maxHeartbeats 4000000 in
theorem GO_bolt {w l gr : Int32} (I : GI g) (B : BO g) (z : bltOK g w l gr = true) (h24 : nt (g 0) < 24) : GI (gBolt g (nt (g 0)) w l gr (-1)) ∧ BO (gBolt g (nt (g 0)) w l gr (-1)) := by
  unfold bltOK at z
  simp only [Bool.and_eq_true] at z
  exact ⟨GI_bolt I h24 z.1 z.2.1 z.2.2.1, BO_bolt I h24 B⟩
set_option maxRecDepth 100000 in
set_option maxHeartbeats 4000000 in
theorem GO_sail {e1 e2 e3 e4 e5 : Int32} (I : GI g) (B : BO g) (z : salOK g e1 e2 e3 e4 e5 = true) (h10 : nt (g 1) < 10) : GI (gSail g (nt (g 1)) e1 e2 e3 e4 e5) ∧ BO (gSail g (nt (g 1)) e1 e2 e3 e4 e5) := by
  unfold salOK at z
  simp only [Bool.and_eq_true] at z
  exact ⟨GI_sail I rfl h10 z.1 z.2.1 z.2.2.1 z.2.2.2.1 z.2.2.2.2.1, BO_sail I rfl h10 B⟩
set_option maxRecDepth 100000 in
set_option maxHeartbeats 4000000 in
theorem isB_nt {b : Int32} (I : GI g) (z : isB g b = true) : nt b < nt (g 0) := by
  obtain ⟨j, hj, rfl⟩ := isB_spec I.1.1 z
  have := I.1.1.2.2
  rw [nt_nI (by omega)]
  exact hj
set_option maxRecDepth 100000 in
set_option maxHeartbeats 4000000 in
theorem isS_nt {s : Int32} (I : GI g) (z : isS g s = true) : nt s < nt (g 1) := by
  obtain ⟨j, hj, rfl⟩ := isS_spec I.1.2 z
  have := I.1.2.2.2
  rw [nt_nI (by omega)]
  exact hj
set_option maxRecDepth 100000 in
set_option maxHeartbeats 4000000 in
theorem isC_nt {s : Int32} (I : GI g) (z : isC g s = true) : nt s < nt (g 1) ∧ sl g (nt s) 0 = 1 := by
  refine ⟨isS_nt I (isC_S z), ?_⟩
  unfold isC at z
  simp only [Bool.and_eq_true, decide_eq_true_eq] at z
  exact z.2
set_option maxRecDepth 100000 in
set_option maxHeartbeats 4000000 in
theorem isO_nt {s : Int32} (I : GI g) (z : isO g s = true) : nt s < nt (g 1) ∧ sl g (nt s) 0 = 0 := by
  refine ⟨isS_nt I (isO_S z), ?_⟩
  unfold isO at z
  simp only [Bool.and_eq_true, decide_eq_true_eq] at z
  exact z.2
set_option maxRecDepth 100000 in
set_option maxHeartbeats 4000000 in
theorem sub_nI {c k : Nat} (hc : c ≤ 1000) (hk4 : k ≤ 1000) : (nI c - nI k).toInt = (c : Int) - k := by
  have e1 : (nI c).toInt = c := nI_toInt (by omega)
  have e2 : (nI k).toInt = k := nI_toInt (by omega)
  rw [i32_sub (m := 1000) (by rw [e1]; omega) (by rw [e2]; omega) (by omega), e1, e2]
set_option maxRecDepth 100000 in
set_option maxHeartbeats 4000000 in
theorem GO_row {v u : Int32} (I : GI g) (B : BO g) (z : rowOK g v u = true) : GI (gRow g (nt v) (nt u)) ∧ BO (gRow g (nt v) (nt u)) := by
  unfold rowOK at z
  simp only [Bool.and_eq_true] at z
  have hb := isB_nt I z.1
  obtain ⟨w0, w1, w3⟩ := (I.2.1 _ hb).1
  have u1 := w1.2.2
  obtain ⟨m, m1, m2, rfl⟩ := inR_N (lo := 0) z.2.1 w1.1 (by omega) (by omega)
  rw [nt_nI (n := m) (by omega)]
  exact ⟨GI_row I hb m2, BO_row I hb (by omega) B⟩
set_option maxRecDepth 100000 in
set_option maxHeartbeats 4000000 in
theorem GO_wear {b k v : Int32} (I : GI g) (B : BO g) (z : wearOK g b k v = true) : GI (gWear g (nt b) (nt k) v) ∧ BO (gWear g (nt b) (nt k) v) := by
  unfold wearOK at z
  simp only [Bool.and_eq_true, decide_eq_true_eq] at z
  have hb := isB_nt I z.1
  obtain ⟨w0, w1, w3⟩ := (I.2.1 _ hb).1
  have u1 := w1.2.2
  have u3 := w3.2.2
  obtain ⟨j, j1, rfl⟩ := lt_nI z.2.1 z.2.2.1 w3 (by omega)
  obtain ⟨m, m1, m2, rfl⟩ := inR_N (lo := 0) (hi := 100) z.2.2.2.1 rfl (by omega) (by omega)
  rw [nt_nI (n := j) (by omega)]
  exact ⟨GI_wear I hb j1 m2, BO_wear I hb (by omega) B⟩
set_option maxRecDepth 100000 in
set_option maxHeartbeats 4000000 in
theorem GO_edge {s a n : Int32} (I : GI g) (B : BO g) (z : edgeOK g s a n = true) : GI (gEdge g (nt s) (nt a) (nt n)) ∧ BO (gEdge g (nt s) (nt a) (nt n)) := by
  unfold edgeOK at z
  simp only [Bool.and_eq_true] at z
  obtain ⟨hs, ho⟩ := isO_nt I z.1
  have w5 := (I.2.2.1 _ hs).1.2.1
  have u5 := w5.2.2
  obtain ⟨p, hp⟩ : ∃ p, p = nt (sl g (nt s) 5) := ⟨_, rfl⟩
  obtain ⟨m, m1, m2, rfl⟩ := inR_N (lo := 0) (hi := 1) z.2.1 rfl (by omega) (by omega)
  obtain ⟨q, q1, q2, rfl⟩ := inR_N (lo := 0) (hi := p + 1) z.2.2 (by rw [w5.1, ← hp]; exact (nI_1 p)) (by omega) (by omega)
  rw [nt_nI (n := m) (by omega), nt_nI (n := q) (by omega)]
  exact ⟨GI_edge I hs ho (by omega) (by omega), BO_edge I (by omega) (by omega) B⟩
set_option maxRecDepth 100000 in
set_option maxHeartbeats 4000000 in
theorem GO_stand {s a k v : Int32} (I : GI g) (B : BO g) (z : standOK g s a k v = true) : GI (gStand g (nt s) (nt a) (nt k) v) ∧ BO (gStand g (nt s) (nt a) (nt k) v) := by
  unfold standOK at z
  simp only [Bool.and_eq_true, decide_eq_true_eq] at z
  obtain ⟨hs, ho⟩ := isO_nt I z.1
  have w := (I.2.2.1 _ hs).1
  obtain ⟨m, m1, m2, rfl⟩ := inR_N (lo := 0) (hi := 1) z.2.1 rfl (by omega) (by omega)
  rw [nt_nI (n := m) (by omega)] at z ⊢
  have w6 := row61 (b := m) w (by omega)
  have u6 := w6.2.2
  obtain ⟨j, j1, rfl⟩ := lt_nI z.2.2.1 z.2.2.2.1 w6 (by omega)
  rw [nt_nI (n := j) (by omega)]
  exact ⟨GI_stand I hs ho (by omega) j1 z.2.2.2.2, BO_stand I (by omega) (by omega) B⟩
set_option maxRecDepth 100000 in
set_option maxHeartbeats 4000000 in
theorem GO_nar {s i v : Int32} (I : GI g) (B : BO g) (z : narOK g s i v = true) : GI (gNar g (nt s) (nt i) v) ∧ BO (gNar g (nt s) (nt i) v) := by
  unfold narOK at z
  simp only [Bool.and_eq_true] at z
  obtain ⟨hs, ho⟩ := isC_nt I z.1
  have w8 := (I.2.2.1 _ hs).1.2.2.1
  have u8 := w8.2.2
  obtain ⟨p, hp⟩ : ∃ p, p = nt (sl g (nt s) 8) := ⟨_, rfl⟩
  obtain ⟨i1, i2⟩ := inR_int z.2.1
  rw [w8.1, ← hp, show (2 : Int32) = nI 2 from rfl, sub_nI (by omega) (by omega)] at i2
  have e0 : (0 : Int32).toInt = 0 := by decide
  have hi4 : nt i + 1 < nt (sl g (nt s) 8) := by unfold nt at hp ⊢; omega
  exact ⟨GI_narrow I hs hi4, BO_nar I (by omega) B⟩
set_option maxRecDepth 100000 in
set_option maxHeartbeats 4000000 in
theorem GO_pat {s k b l : Int32} (I : GI g) (B : BO g) (z : patOK g s k b l = true) : GI (gPat g (nt s) k b l) ∧ BO (gPat g (nt s) k b l) := by
  unfold patOK at z
  simp only [Bool.and_eq_true, Bool.not_eq_true', decide_eq_false_iff_not] at z
  obtain ⟨hs, ho⟩ := isC_nt I z.1
  have w89 := (I.2.2.1 _ hs).1.2.2.2.2.1
  have hnp : np g (nt s) < 40 := by
    have := z.2.2.2.2
    unfold np at this ⊢
    omega
  exact ⟨GI_patch I hs ho hnp z.2.2.2.1, BO_pat I hs ho hnp z.2.2.1 B⟩
set_option maxRecDepth 100000 in
set_option maxHeartbeats 4000000 in
theorem GO_set {s v : Int32} (I : GI g) (B : BO g) (z : setOK g s v = true) : GI (gSet g (nt s) v) ∧ BO (gSet g (nt s) v) := by
  unfold setOK at z
  simp only [Bool.and_eq_true] at z
  obtain ⟨hs, ho⟩ := isC_nt I z.1
  exact ⟨GI_set I hs, BO_set I ho B⟩
set_option maxRecDepth 100000 in
set_option maxHeartbeats 4000000 in
theorem GO_reef {s v : Int32} (I : GI g) (B : BO g) (z : reefOK g s v = true) : GI (gReef g (nt s) v) ∧ BO (gReef g (nt s) v) := by
  unfold reefOK at z
  simp only [Bool.and_eq_true] at z
  obtain ⟨hs, ho⟩ := isC_nt I z.1
  exact ⟨GI_reef I hs z.2.1, BO_reef I B⟩
set_option maxRecDepth 100000 in
set_option maxHeartbeats 4000000 in
theorem GO_line {s v : Int32} (I : GI g) (B : BO g) (z : lineOK g s v = true) : GI (gLine g (nt s) v) ∧ BO (gLine g (nt s) v) := by
  unfold lineOK at z
  simp only [Bool.and_eq_true, Bool.not_eq_true', decide_eq_false_iff_not] at z
  have hs := isS_nt I z.1
  have w12 := (I.2.2.1 _ hs).1.2.2.2.2.2.2.2.2.2.2.1
  have hl : nt (sl g (nt s) 12) < 3 := by
    have u := w12.2.2
    have n3 : ¬ nt (sl g (nt s) 12) = 3 := fun e => z.2.2.2.1 (by rw [w12.1, e]; rfl)
    omega
  exact ⟨GI_line I hs z.2.2.1 hl, BO_line I hl B⟩
set_option maxRecDepth 100000 in
set_option maxHeartbeats 4000000 in
theorem GO_take {s : Int32} (I : GI g) (B : BO g) (z : takOK g s = true) : GI (gTake g (nt s)) ∧ BO (gTake g (nt s)) := by
  unfold takOK at z
  simp only [Bool.and_eq_true, decide_eq_true_eq] at z
  obtain ⟨hs, ho⟩ := isC_nt I z.1
  refine ⟨GI_take I B hs ho z.2.2 (fun j hj => ?_), BO_take I z.2.2 B⟩
  have := allN_iff.mp z.2.1 j hj
  simp only [Bool.not_eq_true', decide_eq_false_iff_not] at this
  exact this
set_option maxRecDepth 100000 in
set_option maxHeartbeats 4000000 in
theorem GO_cut {s w b : Int32} (I : GI g) (B : BO g) (z : cutOK g s w b = true) : GI (gCut g (nt s) (nt w) (nt b)) ∧ BO (gCut g (nt s) (nt w) (nt b)) := by
  unfold cutOK at z
  simp only [Bool.and_eq_true, decide_eq_true_eq] at z
  obtain ⟨hs, ho⟩ := isO_nt I z.2.2.1
  obtain ⟨m, m1, m2, rfl⟩ := inR_N (lo := 2) (hi := 20) z.1 rfl (by omega) (by omega)
  rw [nt_nI (n := m) (by omega)] at z ⊢
  obtain ⟨i1, i2⟩ := inR_int z.2.1
  rw [show (1 : Int32) = nI 1 from rfl, sub_nI (by omega) (by omega)] at i2
  have e1 : (1 : Int32).toInt = 1 := by decide
  have hb : 1 ≤ nt b ∧ nt b < m := by unfold nt; omega
  exact ⟨GI_cut I hs ho hb.2 hb.1 m2 z.2.2.2.1 z.2.2.2.2, BO_cut I hs ho hb.2 m2 z.2.2.2.2 B⟩
set_option maxRecDepth 100000 in
set_option maxHeartbeats 4000000 in
theorem GO_lay {s i b p w : Int32} (I : GI g) (B : BO g) (z : layOK g s i b p w = true) : GI (gPut g (nt s) (nt i) b p) ∧ BO (gPut g (nt s) (nt i) b p) := by
  unfold layOK at z
  simp only [Bool.and_eq_true, decide_eq_true_eq] at z
  obtain ⟨j, m, hj, hm, rfl, rfl, ej, em, -⟩ := isPc_spec I.gw z.1
  obtain ⟨q, hq, rfl⟩ := isB_spec I.1.1 z.2.1
  have h24 := I.1.1.2.2
  have eq : nt (nI q) = q := nt_nI (by omega)
  rw [ej, em, eq] at z
  rw [ej, em]
  have htk := z.2.2.2.2
  have htk2 := htk
  unfold takesV at htk
  simp only [Bool.and_eq_true] at htk
  obtain ⟨pn, rfl, hle, hpn⟩ := takes_sp (w := w) I hq hj hm htk.2.1 htk.2.2.1
  have h40 := I.h40 j hj
  exact ⟨GI_put I hj hm (Or.inr ⟨q, pn, rfl, rfl, hq, hle, z.2.2.2.1, takes_free hpn htk2⟩), BO_put I (by omega) B⟩
set_option maxRecDepth 100000 in
set_option maxHeartbeats 4000000 in
theorem GO_lift {s i : Int32} (I : GI g) (B : BO g) (z : liftOK g s i = true) : GI (gPut g (nt s) (nt i) (-1) (-1)) ∧ BO (gPut g (nt s) (nt i) (-1) (-1)) := by
  unfold liftOK at z
  simp only [Bool.and_eq_true] at z
  obtain ⟨j, m, hj, hm, rfl, rfl, ej, em, -⟩ := isPc_spec I.gw z.1
  rw [ej, em]
  have h40 := I.h40 j hj
  exact ⟨GI_put I hj hm (Or.inl ⟨rfl, rfl⟩), BO_put I (by omega) B⟩
end LAW5

