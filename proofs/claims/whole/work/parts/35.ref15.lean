/-! ===== the reference: push, bears, least ===== -/
def rfF (F : Nat → Nat → Int32) (x : Nat) (rf : Nat → Int32) : Nat → Nat → Int32 := fun a j => if a = x + 9 then rf j else F a j
def rfH (h : AH) (x : Nat) (rf : Nat → Int32) : AH := setI h (rfF (hi h) x rf)
set_option maxRecDepth 100000 in
set_option maxHeartbeats 4000000 in
theorem rfH_9 (h : AH) (x : Nat) (rf : Nat → Int32) : hi (rfH h x rf) (x + 9) = rf := funext fun j => if_pos rfl
set_option maxRecDepth 100000 in
set_option maxHeartbeats 4000000 in
theorem rfH_ne (h : AH) {x a : Nat} (rf : Nat → Int32) (hne : a ≠ x + 9) : hi (rfH h x rf) a = hi h a := funext fun j => if_neg hne
set_option maxRecDepth 100000 in
set_option maxHeartbeats 4000000 in
theorem rfH_wi (h : AH) (x s : Nat) (rf : Nat → Int32) (v : Int32) : wi (rfH h x rf) (x + 9) s v = rfH h x (upd0 rf s v) := by
  show setI h (up2 (rfF (hi h) x rf) (x + 9) s v) = setI h _
  congr 1
  funext a j
  unfold up2 rfF upd0
  by_cases z : a = x + 9
  · by_cases y : j = s <;> simp [z, y]
  · simp [z]
set_option maxRecDepth 100000 in
set_option maxHeartbeats 4000000 in
theorem asF_rf (h : AH) (x n : Nat) : setI h (asF (hi h) x n) = rfH h x (asF (hi h) x n (x + 9)) := by
  unfold rfH
  congr 1
  funext a j
  unfold rfF
  by_cases z : a = x + 9
  · rw [if_pos z, z]
  · rw [if_neg z, asF_ne _ z]
/-- the first line above -/
def nxV (g : Nat → Int32) (s : Nat) (r : Int32) : Int32 := match fstN (fun n => decide (r < sl g s (13 + n))) (nt (sl g s 12)) with
  | none => -1
  | some n => sl g s (13 + n)
/-- the scan from the last line down -/
def nxd (g : Nat → Int32) (s : Nat) (r : Int32) (c : Nat) : Nat → Int32
  | 0 => -1
  | m + 1 => if r < sl g s (13 + (c - (m + 1))) then sl g s (13 + (c - (m + 1))) else nxd g s r c m
set_option maxRecDepth 100000 in
set_option maxHeartbeats 4000000 in
theorem fstN_sh (P : Nat → Bool) : ∀ n, fstN P (n + 1) = if P 0 then some 0 else (fstN (fun j => P (j + 1)) n).map (· + 1)
  | 0 => by
    unfold fstN
    rfl
  | n + 1 => by
    rw [fstN, fstN_sh P n]
    by_cases z : P 0 = true
    · rw [if_pos z, if_pos z]
    · rw [if_neg z, if_neg z]
      rw [fstN]
      cases fstN (fun j => P (j + 1)) n with
      | some i => rfl
      | none =>
        by_cases y : P (n + 1) = true
        · simp [y]
        · simp [y]
set_option maxRecDepth 100000 in
set_option maxHeartbeats 4000000 in
theorem nxd_eq (g : Nat → Int32) (s : Nat) (r : Int32) (c : Nat) : ∀ m, m ≤ c → nxd g s r c m = match fstN (fun n => decide (r < sl g s (13 + (c - m + n)))) m with
    | none => -1
    | some n => sl g s (13 + (c - m + n))
  | 0, _ => rfl
  | m + 1, hm => by
    rw [fstN_sh, nxd]
    by_cases z : r < sl g s (13 + (c - (m + 1)))
    · rw [if_pos z]
      simp [z]
    · rw [if_neg z, nxd_eq g s r c m (by omega)]
      have e : (fun n => decide (r < sl g s (13 + (c - (m + 1) + (n + 1))))) = fun n => decide (r < sl g s (13 + (c - m + n))) := by
        funext n
        rw [show c - (m + 1) + (n + 1) = c - m + n by omega]
      rw [if_neg (by simpa using z), e]
      cases fstN (fun n => decide (r < sl g s (13 + (c - m + n)))) m with
      | none => rfl
      | some n =>
        show sl g s (13 + (c - m + n)) = sl g s (13 + (c - (m + 1) + (n + 1)))
        rw [show c - (m + 1) + (n + 1) = c - m + n by omega]
set_option maxRecDepth 100000 in
set_option maxHeartbeats 4000000 in
theorem nxd_nx (g : Nat → Int32) (s : Nat) (r : Int32) : nxd g s r (nt (sl g s 12)) (nt (sl g s 12)) = nxV g s r := by
  rw [nxd_eq g s r _ _ (Nat.le_refl _)]
  simp only [Nat.sub_self, Nat.zero_add]
  rfl
/-- one round over m sails from s on: done, or the reefs tried, how many are taken, and whether any was -/
def rnd (g wd ld : Nat → Int32) : Nat → Nat → (Nat → Int32) → Nat → Bool → Nat ⊕ ((Nat → Int32) × Nat × Bool)
  | 0, _, rf, t, ch => .inr (rf, t, ch)
  | m + 1, s, rf, t, ch =>
    if sl g s 11 = 0 then rnd g wd ld m (s + 1) rf t ch
    else if nxV g s (rf s) = -1 then rnd g wd ld m (s + 1) rf t ch
    else if brkV g wd (upd0 rf s (nxV g s (rf s))) ld = -1 then .inl (t + 1)
    else rnd g wd ld m (s + 1) (upd0 rf s (nxV g s (rf s))) (t + 1) true
def lst (g wd ld : Nat → Int32) : Nat → (Nat → Int32) → Nat → Int32
  | 0, _, _ => -1
  | f + 1, rf, t => match rnd g wd ld (nt (g 1)) 0 rf t false with
    | .inl t' => nI t'
    | .inr (rf', t', ch) => if ch then lst g wd ld f rf' t' else -1
/-- how many lines of a sail stand above r -/
def cntN (P : Nat → Bool) : Nat → Nat
  | 0 => 0
  | n + 1 => cntN P n + (if P n then 1 else 0)
set_option maxRecDepth 100000 in
set_option maxHeartbeats 4000000 in
theorem cntN_mono {P R : Nat → Bool} : ∀ {n : Nat}, (∀ j, j < n → P j = true → R j = true) → cntN P n ≤ cntN R n
  | 0, _ => Nat.le_refl _
  | n + 1, h => by
    have ih := cntN_mono (n := n) (P := P) (R := R) (fun j hj => h j (by omega))
    unfold cntN
    have := h n (by omega)
    by_cases z : P n = true
    · rw [if_pos z, if_pos (this z)]
      omega
    · rw [if_neg z]
      omega
set_option maxRecDepth 100000 in
set_option maxHeartbeats 4000000 in
theorem cntN_lt {P R : Nat → Bool} {i : Nat} : ∀ {n : Nat}, (∀ j, j < n → P j = true → R j = true) → i < n → P i = false → R i = true → cntN P n < cntN R n
  | 0, _, hi, _, _ => by omega
  | n + 1, h, hi, h1, h2 => by
    unfold cntN
    by_cases e : i = n
    · subst e
      rw [h1, h2]
      have := cntN_mono (n := i) (P := P) (R := R) (fun j hj => h j (by omega))
      simp
      omega
    · have ih := cntN_lt (n := n) (P := P) (R := R) (fun j hj => h j (by omega)) (by omega) h1 h2
      have := h n (by omega)
      by_cases z : P n = true
      · rw [if_pos z, if_pos (this z)]
        omega
      · rw [if_neg z]
        omega
set_option maxRecDepth 100000 in
set_option maxHeartbeats 4000000 in
theorem cntN_le (P : Nat → Bool) : ∀ n, cntN P n ≤ n
  | 0 => Nat.le_refl _
  | n + 1 => by
    have := cntN_le P n
    unfold cntN
    split <;> omega
def cntA (g : Nat → Int32) (s : Nat) (r : Int32) : Nat := cntN (fun n => decide (r < sl g s (13 + n))) (nt (sl g s 12))
set_option maxRecDepth 100000 in
set_option maxHeartbeats 4000000 in
theorem cntA_nx {g : Nat → Int32} {s : Nat} {r : Int32} (h : ¬ nxV g s r = -1) : ∃ n, n < nt (sl g s 12) ∧ nxV g s r = sl g s (13 + n) ∧ cntA g s (sl g s (13 + n)) < cntA g s r := by
  rcases fstN_spec (P := fun n => decide (r < sl g s (13 + n))) (n := nt (sl g s 12)) with ⟨e, -⟩ | ⟨i, e, h1, h2, -⟩
  · exact absurd (by unfold nxV; rw [e]) h
  · refine ⟨i, h1, by unfold nxV; rw [e], ?_⟩
    have hi2 := of_decide_eq_true h2
    exact cntN_lt (i := i) (fun j hj hp => decide_eq_true (Int32.lt_trans hi2 (of_decide_eq_true hp))) h1 (decide_eq_false Int32.lt_irrefl) h2
set_option maxRecDepth 100000 in
set_option maxHeartbeats 4000000 in
theorem cntA_0 {g : Nat → Int32} {s : Nat} {r : Int32} (hl : ∀ n, n < nt (sl g s 12) → ¬ sl g s (13 + n) = -1) (h : nxV g s r = -1) : cntA g s r = 0 := by
  rcases fstN_spec (P := fun n => decide (r < sl g s (13 + n))) (n := nt (sl g s 12)) with ⟨e, hall⟩ | ⟨i, e, h1, h2, -⟩
  · have : cntA g s r ≤ cntN (fun _ => false) (nt (sl g s 12)) := cntN_mono (fun j hj hp => by rw [hall j hj] at hp; cases hp)
    have z : ∀ n, cntN (fun _ => false) n = 0 := fun n => by
      induction n with
      | zero => rfl
      | succ n ih => unfold cntN; rw [ih]; rfl
    rw [z] at this
    omega
  · have : nxV g s r = sl g s (13 + i) := by unfold nxV; rw [e]
    exact absurd (this ▸ h) (hl i h1)
-- what a round does
set_option maxRecDepth 100000 in
set_option maxHeartbeats 4000000 in
theorem rnd_spec (g wd ld : Nat → Int32) (hl : ∀ s n, n < nt (sl g s 12) → ¬ sl g s (13 + n) = -1) : ∀ m s rf t ch rf' t' ch', rnd g wd ld m s rf t ch = .inr (rf', t', ch') → (∀ a, ¬ (s ≤ a ∧ a < s + m) → rf' a = rf a) ∧ (∀ a, s ≤ a → a < s + m → ¬ sl g a 11 = 0 → cntA g a (rf' a) ≤ cntA g a (rf a) - 1 ∧ (rf' a = rf a ∨ ∃ n, n < nt (sl g a 12) ∧ rf' a = sl g a (13 + n))) ∧ (∀ a, sl g a 11 = 0 → rf' a = rf a) ∧ (ch' = true → ch = true ∨ ∃ a, s ≤ a ∧ a < s + m ∧ ¬ sl g a 11 = 0 ∧ 0 < cntA g a (rf a)) ∧ (ch' = false → ch = false ∧ rf' = rf ∧ t' = t)
  | 0, s, rf, t, ch, rf', t', ch', h => by
    unfold rnd at h
    obtain ⟨rfl, rfl, rfl⟩ : rf = rf' ∧ t = t' ∧ ch = ch' := by
      have := Sum.inr.inj h
      exact ⟨congrArg (·.1) this, congrArg (·.2.1) this, congrArg (·.2.2) this⟩
    exact ⟨fun _ _ => rfl, fun a h1 h2 => by omega, fun _ _ => rfl, fun z => Or.inl z, fun z => ⟨z, rfl, rfl⟩⟩
  | m + 1, s, rf, t, ch, rf', t', ch', h => by
    unfold rnd at h
    by_cases z1 : sl g s 11 = 0
    · rw [if_pos z1] at h
      obtain ⟨a1, a2, a3, a4, a5⟩ := rnd_spec g wd ld hl m (s + 1) rf t ch rf' t' ch' h
      refine ⟨fun a ha => a1 a (by omega), fun a h1 h2 hz => ?_, a3, fun hc => ?_, a5⟩
      · by_cases e : a = s
        · rw [e] at hz
          exact absurd z1 hz
        · exact a2 a (by omega) (by omega) hz
      · rcases a4 hc with z | ⟨a, b1, b2, b3⟩
        · exact Or.inl z
        · exact Or.inr ⟨a, by omega, by omega, b3⟩
    · rw [if_neg z1] at h
      by_cases z2 : nxV g s (rf s) = -1
      · rw [if_pos z2] at h
        obtain ⟨a1, a2, a3, a4, a5⟩ := rnd_spec g wd ld hl m (s + 1) rf t ch rf' t' ch' h
        have c0 := cntA_0 (hl s) z2
        refine ⟨fun a ha => a1 a (by omega), fun a h1 h2 hz => ?_, a3, fun hc => ?_, a5⟩
        · by_cases e : a = s
          · subst e
            rw [a1 a (by omega)]
            exact ⟨by omega, Or.inl rfl⟩
          · exact a2 a (by omega) (by omega) hz
        · rcases a4 hc with z | ⟨a, b1, b2, b3⟩
          · exact Or.inl z
          · exact Or.inr ⟨a, by omega, by omega, b3⟩
      · rw [if_neg z2] at h
        by_cases z3 : brkV g wd (upd0 rf s (nxV g s (rf s))) ld = -1
        · rw [if_pos z3] at h
          cases h
        · rw [if_neg z3] at h
          obtain ⟨a1, a2, a3, a4, a5⟩ := rnd_spec g wd ld hl m (s + 1) _ (t + 1) true rf' t' ch' h
          obtain ⟨n, n1, n2, n3⟩ := cntA_nx z2
          refine ⟨fun a ha => ?_, fun a h1 h2 hz => ?_, fun a hz => ?_, fun hc => Or.inr ⟨s, by omega, by omega, z1, by omega⟩, fun hc => absurd (a5 hc).1 (by decide)⟩
          · rw [a1 a (by omega), upd0_ne (by omega)]
          · by_cases e : a = s
            · subst e
              rw [a1 a (by omega), upd0_same, n2]
              exact ⟨by omega, Or.inr ⟨n, n1, rfl⟩⟩
            · have := a2 a (by omega) (by omega) hz
              rw [upd0_ne e] at this
              exact this
          · rw [a3 a hz, upd0_ne (fun e => by rw [e] at hz; exact z1 hz)]
section REF15
variable {G : GG} {d : Nat} {h : AH} {Q : Option Value → AH → Prop} {x la kp : Nat}
/-- the reefs tried are heights -/
def RFok (g rf : Nat → Int32) : Prop := ∀ s, s < nt (g 1) → isN (rf s) 0 60
set_option maxRecDepth 100000 in
set_option maxHeartbeats 4000000 in
theorem asF_ok {h : AH} {x : Nat} (W : GW (hi h (x + 1))) : RFok (hi h (x + 1)) (asF (hi h) x (nt (hi h (x + 1) 1)) (x + 9)) := by
  intro s hs
  have e : asF (hi h) x (nt (hi h (x + 1) 1)) (x + 9) s = sl (hi h (x + 1)) s 10 := if_pos ⟨rfl, hs⟩
  rw [e]
  exact (W.2.2.2 s hs).2.2.2.2.2.2.2.2.1
set_option maxRecDepth 100000 in
set_option maxHeartbeats 4000000 in
theorem c_X9_brk {rf : Nat → Int32} (M : MD h x) (W : GW (hi h (x + 1))) (R : RFok (hi h (x + 1)) rf) (hq : Q (some (.int (brkV (hi h (x + 1)) (hi h (x + 4)) rf (hi h (x + 3))))) (rfH h x rf)) : Rn G (d + 5) mX9_firstBreak 0 [(0, .ref x)] [] (rfH h x rf) Q := by
  have M2 : MD (rfH h x rf) x := M
  have e1 := rfH_ne h rf (show x + 1 ≠ x + 9 by omega)
  have e3 := rfH_ne h rf (show x + 3 ≠ x + 9 by omega)
  have e4 := rfH_ne h rf (show x + 4 ≠ x + 9 by omega)
  refine c_X9_firstBreak M2 (by rw [e1]; exact W) (by rw [e1, rfH_9]; exact R) ?_
  rw [e1, e3, e4, rfH_9]
  exact hq
set_option maxRecDepth 100000 in
set_option maxHeartbeats 4000000 in
theorem c_X9_bears (M : MD h x) (W : GW (hi h (x + 1))) (hq : ∀ rf, Q (some (.int (brkV (hi h (x + 1)) (hi h (x + 4)) (asF (hi h) x (nt (hi h (x + 1) 1)) (x + 9)) (hi h (x + 3))))) (rfH h x rf)) : Rn G (d + 6) mX9_bears 0 [(0, .ref x)] [] h Q := by
  obtain ⟨⟨hx, hS, kS, nS⟩, -⟩ := id M
  first | refine x_aload_n eX9_bears_0 rfl rfl ?_ | refine x_aload_nN eX9_bears_0 rfl rfl ?_
  refine x_callV0 eX9_bears_1 lk_X9_176 (by assumption) (Nat.le_of_ble_eq_true rfl) (Nat.le_of_ble_eq_true rfl) ?_
  refine Rn.deep (c_X9_asTheyAre (d := d) M W (fun _ => ?_)) (by omega)
  rw [asF_rf]
  have hx2 : hk (rfH h x (asF (hi h) x (nt (hi h (x + 1) 1)) (x + 9))) x = 8 := hx
  first | refine x_aload_n eX9_bears_4 rfl rfl ?_ | refine x_aload_nN eX9_bears_4 rfl rfl ?_
  refine x_callV0 eX9_bears_5 lk_X9_181 (by assumption) (Nat.le_of_ble_eq_true rfl) (Nat.le_of_ble_eq_true rfl) ?_
  refine c_X9_brk M W (asF_ok W) (fun _ => ?_)
  refine x_iret eX9_bears_8 rfl ?_
  exact hq _
set_option maxRecDepth 100000 in
set_option maxHeartbeats 4000000 in
theorem c_X9_push {k : Int32} (M : MD h x) (W : GW (hi h (x + 1))) (hq : ∀ rf, Q (some (.long (if inR k 0 60 then pshV (hi h (x + 1)) (hi h (x + 4)) (asF (hi h) x (nt (hi h (x + 1) 1)) (x + 9)) (nt k) else -1))) (rfH h x rf)) : Rn G (d + 6) mX9_push 0 [(0, .ref x), (1, .int k)] [] h Q := by
  obtain ⟨⟨hx, hS, kS, nS⟩, -⟩ := id M
  first | refine x_aload_n eX9_push_0 rfl rfl ?_ | refine x_aload_nN eX9_push_0 rfl rfl ?_
  refine x_callV0 eX9_push_1 lk_X9_176 (by assumption) (Nat.le_of_ble_eq_true rfl) (Nat.le_of_ble_eq_true rfl) ?_
  refine Rn.deep (c_X9_asTheyAre (d := d) M W (fun _ => ?_)) (by omega)
  rw [asF_rf]
  have hx2 : hk (rfH h x (asF (hi h) x (nt (hi h (x + 1) 1)) (x + 9))) x = 8 := hx
  have hqq := hq (asF (hi h) x (nt (hi h (x + 1) 1)) (x + 9))
  clear hq
  have R := asF_ok W
  generalize asF (hi h) x (nt (hi h (x + 1) 1)) (x + 9) = rf at hqq R hx2
  refine x_iload_n eX9_push_4 rfl rfl ?_
  refine x_iconst (v := nI 0) eX9_push_5 (by decide) ?_
  refine x_bipush (v := nI 60) eX9_push_6 (by decide) ?_
  refine x_callS3 eX9_push_8 lk_X9_70 (Nat.le_of_ble_eq_true rfl) (Nat.le_of_ble_eq_true rfl) ?_
  refine Rn.deep (c_X9_isIn (d := d) (fun _ => ?_)) (by omega)
  first | refine x_if_eqB (tgt := 22) eX9_push_11 (by decide) (by with_reducible rfl) (fun cq1 => ?_) (fun cq1 => ?_) | refine x_if_eq (tgt := 22) eX9_push_11 (by decide) (fun cq1 => ?_) (fun cq1 => ?_)
  · refine x_ldc2 (v := -1) eX9_push_22 kk_X9_179 ?_
    refine x_lret eX9_push_25 rfl ?_
    have c1 : inR k 0 60 = false := cq1
    rw [c1] at hqq
    exact hqq
  · have c1 : inR k 0 60 = true := cq1
    obtain ⟨m, -, hm, rfl⟩ := inR_N (lo := 0) (hi := 60) c1 rfl (by omega) (by omega)
    rw [c1, nt_nI (by omega)] at hqq
    have M2 : MD (rfH h x rf) x := M
    have e1 := rfH_ne h rf (show x + 1 ≠ x + 9 by omega)
    have e4 := rfH_ne h rf (show x + 4 ≠ x + 9 by omega)
    first | refine x_aload_n eX9_push_14 rfl rfl ?_ | refine x_aload_nN eX9_push_14 rfl rfl ?_
    refine x_iload_n eX9_push_15 rfl rfl ?_
    refine x_callV1 eX9_push_16 lk_X9_170 (by assumption) (Nat.le_of_ble_eq_true rfl) (Nat.le_of_ble_eq_true rfl) ?_
    refine Rn.deep (c_X9_pushAt (d := d) M2 (by rw [e1]; exact W) hm (by rw [e1, rfH_9]; exact R) (fun _ => ?_)) (by omega)
    rw [e1, e4, rfH_9]
    refine x_goto (tgt := 25) eX9_push_19 (by decide) ?_
    refine x_lret eX9_push_25 rfl ?_
    exact hqq
set_option maxRecDepth 100000 in
set_option maxHeartbeats 4000000 in
theorem l_X9_least2 {s t : Nat} {rf : Nat → Int32} {ch : Int32} (M : MD h x) (hs : s < 10) (hc : nt (sl (hi h (x + 1)) s 12) ≤ 3) (kx : Rn G (d + 6) mX9_least 105 [(0, .ref x), (1, .int (nI t)), (2, .int ch), (3, .int (nI s)), (4, .int (nxd (hi h (x + 1)) s (rf s) (nt (sl (hi h (x + 1)) s 12)) (nt (sl (hi h (x + 1)) s 12))))] [] (rfH h x rf) Q) : ∀ n m, m + n = nt (sl (hi h (x + 1)) s 12) → Rn G (d + 6) mX9_least 63 [(0, .ref x), (1, .int (nI t)), (2, .int ch), (3, .int (nI s)), (4, .int (nxd (hi h (x + 1)) s (rf s) (nt (sl (hi h (x + 1)) s 12)) m)), (5, .int (nI n - nI 1))] [] (rfH h x rf) Q := by
  have M2 : MD (rfH h x rf) x := M
  have e1 := rfH_ne h rf (show x + 1 ≠ x + 9 by omega)
  obtain ⟨⟨hx, hS, kS, nS⟩, -, -, -, -, -, -, -, ⟨h9, k9, n9⟩⟩ := id M2
  intro n
  induction n with
  | zero =>
    intro m hm
    have e : m = nt (sl (hi h (x + 1)) s 12) := by omega
    rw [← e] at kx
    rw [← e]
    refine x_iload eX9_least_63 rfl ?_
    refine x_if_lt (tgt := 105) eX9_least_65 (by decide) (fun cq1 => ?_) (fun cq1 => ?_)
    · refine Rn.weak (kx) (by repeat' first | exact fun _ h => absurd h List.not_mem_nil | refine List.forall_mem_cons.mpr ⟨rfl, ?_⟩)
    · exact absurd (by decide) cq1
  | succ n ih =>
    intro m hm
    have iw := ih (m + 1) (by omega)
    have en : nt (sl (hi h (x + 1)) s 12) - (m + 1) = n := by omega
    rw [nxd, en] at iw
    have ed : nI n + Int32.ofInt (-1) = nI n - nI 1 := by
      rw [Int32.sub_eq_add_neg]
      rfl
    rw [pk_sub (show 1 ≤ n + 1 by omega), Nat.add_sub_cancel]
    refine x_iload eX9_least_63 rfl ?_
    refine x_if_lt (tgt := 105) eX9_least_65 (by decide) (fun cq1 => ?_) (fun cq1 => ?_)
    · exact absurd cq1 (nI_pos (by omega))
    · first | refine x_aload_n eX9_least_68 rfl rfl ?_ | refine x_aload_nN eX9_least_68 rfl rfl ?_
      refine x_iload_n eX9_least_69 rfl rfl ?_
      refine x_bipush (v := nI 13) eX9_least_70 (by decide) ?_
      refine x_iload eX9_least_72 rfl ?_
      first | refine x_iaddN eX9_least_74 (by with_reducible rfl) (by with_reducible rfl) ?_ | refine x_iadd eX9_least_74 ?_
      refine x_callV2 eX9_least_75 lk_X9_57 (by assumption) (Nat.le_of_ble_eq_true rfl) (Nat.le_of_ble_eq_true rfl) ?_
      refine Rn.deep (c_X9_sail (d := d) M2.md (by omega) (fun _ => ?_)) (by omega)
      rw [e1]
      first | refine x_aload_n eX9_least_78 rfl rfl ?_ | refine x_aload_nN eX9_least_78 rfl rfl ?_
      first | refine x_getR eX9_least_79 fk_X9_36 rfl (by assumption) (by assumption) ?_ | refine x_getN eX9_least_79 fk_X9_36 rfl (by assumption) (by assumption) ?_
      refine x_iload_n eX9_least_82 rfl rfl ?_
      first | refine x_ialdN eX9_least_83 (by with_reducible rfl) (by assumption) (by assumption) (by omega) (by omega) ?_ | refine x_sldN eX9_least_83 (by with_reducible rfl) (by assumption) (by assumption) (by omega) (by omega) ?_ | refine x_iald eX9_least_83 (by assumption) (by assumption) ?_
      rw [rfH_9]
      first | refine x_icmp_leN (tgt := 99) eX9_least_84 (by decide) (by with_reducible rfl) (by with_reducible rfl) (by omega) (by omega) (fun cq2 => ?_) (fun cq2 => ?_) | refine x_icmp_le (tgt := 99) eX9_least_84 (by decide) (fun cq2 => ?_) (fun cq2 => ?_)
      · have c2 : ¬ rf s < sl (hi h (x + 1)) s (13 + n) := Int32.not_lt.mpr cq2
        rw [if_neg c2] at iw
        refine x_iinc eX9_least_99 rfl rfl (by decide) rfl rfl ?_
        refine x_goto (tgt := 63) eX9_least_102 (by decide) ?_
        rw [ed]
        refine Rn.weak (iw) (by repeat' first | exact fun _ h => absurd h List.not_mem_nil | refine List.forall_mem_cons.mpr ⟨rfl, ?_⟩)
      · have c2 : rf s < sl (hi h (x + 1)) s (13 + n) := Int32.not_le.mp cq2
        rw [if_pos c2] at iw
        first | refine x_aload_n eX9_least_87 rfl rfl ?_ | refine x_aload_nN eX9_least_87 rfl rfl ?_
        refine x_iload_n eX9_least_88 rfl rfl ?_
        refine x_bipush (v := nI 13) eX9_least_89 (by decide) ?_
        refine x_iload eX9_least_91 rfl ?_
        first | refine x_iaddN eX9_least_93 (by with_reducible rfl) (by with_reducible rfl) ?_ | refine x_iadd eX9_least_93 ?_
        refine x_callV2 eX9_least_94 lk_X9_57 (by assumption) (Nat.le_of_ble_eq_true rfl) (Nat.le_of_ble_eq_true rfl) ?_
        refine Rn.deep (c_X9_sail (d := d) M2.md (by omega) (fun _ => ?_)) (by omega)
        rw [e1]
        refine x_istore eX9_least_97 (by decide) rfl rfl ?_
        refine x_iinc eX9_least_99 rfl rfl (by decide) rfl rfl ?_
        refine x_goto (tgt := 63) eX9_least_102 (by decide) ?_
        rw [ed]
        refine Rn.weak (iw) (by repeat' first | exact fun _ h => absurd h List.not_mem_nil | refine List.forall_mem_cons.mpr ⟨rfl, ?_⟩)
set_option maxRecDepth 100000 in
set_option maxHeartbeats 4000000 in
theorem l_X9_least1 {ns : Nat} (M : MD h x) (W : GW (hi h (x + 1))) (hns : nt (hi h (x + 1) 1) = ns) (hL : ∀ s n, s < ns → n < nt (sl (hi h (x + 1)) s 12) → isN (sl (hi h (x + 1)) s (13 + n)) 0 60) : ∀ m s rf t ch, s + m = ns → RFok (hi h (x + 1)) rf → (∀ t' rf', rnd (hi h (x + 1)) (hi h (x + 4)) (hi h (x + 3)) m s rf t ch = .inl t' → Q (some (.int (nI t'))) (rfH h x rf')) → (∀ rf' t' ch', rnd (hi h (x + 1)) (hi h (x + 4)) (hi h (x + 3)) m s rf t ch = .inr (rf', t', ch') → RFok (hi h (x + 1)) rf' → Rn G (d + 6) mX9_least 18 [(0, .ref x), (1, .int (nI t')), (2, .int (bI ch'))] [] (rfH h x rf') Q) → Rn G (d + 6) mX9_least 26 [(0, .ref x), (1, .int (nI t)), (2, .int (bI ch)), (3, .int (nI s))] [] (rfH h x rf) Q := by
  obtain ⟨w1, -, h10⟩ := W.2.1
  rw [hns] at w1 h10
  intro m
  induction m with
  | zero =>
    intro s rf t ch hs0 R hq kx
    have e : s = ns := by omega
    subst e
    have M2 : MD (rfH h x rf) x := M
    have e1 := rfH_ne h rf (show x + 1 ≠ x + 9 by omega)
    obtain ⟨⟨hx, hS, kS, nS⟩, -⟩ := id M2
    refine x_iload_n eX9_least_26 rfl rfl ?_
    first | refine x_aload_n eX9_least_27 rfl rfl ?_ | refine x_aload_nN eX9_least_27 rfl rfl ?_
    first | refine x_getR eX9_least_28 fk_X9_7 rfl (by assumption) (by assumption) ?_ | refine x_getN eX9_least_28 fk_X9_7 rfl (by assumption) (by assumption) ?_
    refine x_iconst (v := nI 1) eX9_least_31 (by decide) ?_
    first | refine x_ialdN eX9_least_32 (by with_reducible rfl) (by assumption) (by assumption) (by omega) (by omega) ?_ | refine x_sldN eX9_least_32 (by with_reducible rfl) (by assumption) (by assumption) (by omega) (by omega) ?_ | refine x_iald eX9_least_32 (by assumption) (by assumption) ?_
    rw [e1, w1]
    first | refine x_icmp_geN (tgt := 143) eX9_least_33 (by decide) (by with_reducible rfl) (by with_reducible rfl) (by omega) (by omega) (fun cq1 => ?_) (fun cq1 => ?_) | refine x_icmp_ge (tgt := 143) eX9_least_33 (by decide) (fun cq1 => ?_) (fun cq1 => ?_)
    · refine x_goto (tgt := 18) eX9_least_143 (by decide) ?_
      refine Rn.weak (kx rf t ch rfl R) (by repeat' first | exact fun _ h => absurd h List.not_mem_nil | refine List.forall_mem_cons.mpr ⟨rfl, ?_⟩)
    · exact absurd cq1 (by omega)
  | succ m ih =>
    intro s rf t ch hs0 R hq kx
    have sw := W.2.2.2 s (by omega)
    obtain ⟨-, -, -, -, -, -, -, -, -, -, ⟨e12, l12, u12⟩, -⟩ := id sw
    have M2 : MD (rfH h x rf) x := M
    have e1 := rfH_ne h rf (show x + 1 ≠ x + 9 by omega)
    obtain ⟨⟨hx, hS, kS, nS⟩, -, -, -, -, -, -, -, ⟨h9, k9, n9⟩⟩ := id M2
    have next : ∀ rf' t' ch', RFok (hi h (x + 1)) rf' → rnd (hi h (x + 1)) (hi h (x + 4)) (hi h (x + 3)) (m + 1) s rf t ch = rnd (hi h (x + 1)) (hi h (x + 4)) (hi h (x + 3)) m (s + 1) rf' t' ch' → Rn G (d + 6) mX9_least 137 [(0, .ref x), (1, .int (nI t')), (2, .int (bI ch')), (3, .int (nI s))] [] (rfH h x rf') Q := by
      intro rf' t' ch' R' e
      rw [e] at hq kx
      have iw := ih (s + 1) rf' t' ch' (by omega) R' hq kx
      first | refine x_iincN eX9_least_137 rfl (by with_reducible rfl) (by decide) rfl rfl ?_ | refine x_iinc eX9_least_137 rfl rfl (by decide) rfl rfl ?_
      refine x_goto (tgt := 26) eX9_least_140 (by decide) ?_
      refine Rn.weak (iw) (by repeat' first | exact fun _ h => absurd h List.not_mem_nil | refine List.forall_mem_cons.mpr ⟨rfl, ?_⟩)
    refine x_iload_n eX9_least_26 rfl rfl ?_
    first | refine x_aload_n eX9_least_27 rfl rfl ?_ | refine x_aload_nN eX9_least_27 rfl rfl ?_
    first | refine x_getR eX9_least_28 fk_X9_7 rfl (by assumption) (by assumption) ?_ | refine x_getN eX9_least_28 fk_X9_7 rfl (by assumption) (by assumption) ?_
    refine x_iconst (v := nI 1) eX9_least_31 (by decide) ?_
    first | refine x_ialdN eX9_least_32 (by with_reducible rfl) (by assumption) (by assumption) (by omega) (by omega) ?_ | refine x_sldN eX9_least_32 (by with_reducible rfl) (by assumption) (by assumption) (by omega) (by omega) ?_ | refine x_iald eX9_least_32 (by assumption) (by assumption) ?_
    rw [e1, w1]
    first | refine x_icmp_geN (tgt := 143) eX9_least_33 (by decide) (by with_reducible rfl) (by with_reducible rfl) (by omega) (by omega) (fun cq1 => ?_) (fun cq1 => ?_) | refine x_icmp_ge (tgt := 143) eX9_least_33 (by decide) (fun cq1 => ?_) (fun cq1 => ?_)
    · exact absurd cq1 (by omega)
    · first | refine x_aload_n eX9_least_36 rfl rfl ?_ | refine x_aload_nN eX9_least_36 rfl rfl ?_
      refine x_iload_n eX9_least_37 rfl rfl ?_
      refine x_bipush (v := nI 11) eX9_least_38 (by decide) ?_
      refine x_callV2 eX9_least_40 lk_X9_57 (by assumption) (Nat.le_of_ble_eq_true rfl) (Nat.le_of_ble_eq_true rfl) ?_
      refine Rn.deep (c_X9_sail (d := d) M2.md (by omega) (fun _ => ?_)) (by omega)
      rw [e1]
      first | refine x_if_neB (tgt := 49) eX9_least_43 (by decide) (by with_reducible rfl) (fun cq2 => ?_) (fun cq2 => ?_) | refine x_if_ne (tgt := 49) eX9_least_43 (by decide) (fun cq2 => ?_) (fun cq2 => ?_)
      · have c2 : ¬ sl (hi h (x + 1)) s 11 = 0 := cq2
        refine x_iconst (v := (-1)) eX9_least_49 (by decide) ?_
        refine x_istore eX9_least_50 (by decide) rfl rfl ?_
        first | refine x_aload_n eX9_least_52 rfl rfl ?_ | refine x_aload_nN eX9_least_52 rfl rfl ?_
        refine x_iload_n eX9_least_53 rfl rfl ?_
        refine x_bipush (v := nI 12) eX9_least_54 (by decide) ?_
        refine x_callV2 eX9_least_56 lk_X9_57 (by assumption) (Nat.le_of_ble_eq_true rfl) (Nat.le_of_ble_eq_true rfl) ?_
        refine Rn.deep (c_X9_sail (d := d) M2.md (by omega) (fun _ => ?_)) (by omega)
        rw [e1, e12]
        suffices k105 : Rn G (d + 6) mX9_least 105 [(0, .ref x), (1, .int (nI t)), (2, .int (bI ch)), (3, .int (nI s)), (4, .int (nxV (hi h (x + 1)) s (rf s)))] [] (rfH h x rf) Q by
          rw [← nxd_nx] at k105
          refine x_iconst (v := nI 1) eX9_least_59 (by decide) ?_
          first | refine x_isubN eX9_least_60 (by with_reducible rfl) (by with_reducible rfl) (by omega) ?_ | refine x_isub eX9_least_60 ?_
          refine x_istore eX9_least_61 (by decide) rfl rfl ?_
          refine Rn.weak (l_X9_least2 M (by omega) u12 k105 (nt (sl (hi h (x + 1)) s 12)) 0 (Nat.zero_add _)) (by repeat' first | exact fun _ h => absurd h List.not_mem_nil | refine List.forall_mem_cons.mpr ⟨rfl, ?_⟩)
        refine x_iload eX9_least_105 rfl ?_
        refine x_iconst (v := (-1)) eX9_least_107 (by decide) ?_
        first | refine x_icmp_neN (tgt := 114) eX9_least_108 (by decide) (by with_reducible rfl) (by with_reducible rfl) (by omega) (by omega) (fun cq1 => ?_) (fun cq1 => ?_) | refine x_icmp_ne (tgt := 114) eX9_least_108 (by decide) (fun cq1 => ?_) (fun cq1 => ?_)
        · have c3 : ¬ nxV (hi h (x + 1)) s (rf s) = -1 := cq1
          have R' : RFok (hi h (x + 1)) (upd0 rf s (nxV (hi h (x + 1)) s (rf s))) := by
            intro a ha
            by_cases z : a = s
            · subst z
              rw [upd0_same]
              obtain ⟨n, n1, n2, -⟩ := cntA_nx c3
              rw [n2]
              exact hL a n (by omega) n1
            · rw [upd0_ne z]
              exact R a ha
          have hx3 : hk (rfH h x (upd0 rf s (nxV (hi h (x + 1)) s (rf s)))) x = 8 := hx
          first | refine x_aload_n eX9_least_114 rfl rfl ?_ | refine x_aload_nN eX9_least_114 rfl rfl ?_
          first | refine x_getR eX9_least_115 fk_X9_36 rfl (by assumption) (by assumption) ?_ | refine x_getN eX9_least_115 fk_X9_36 rfl (by assumption) (by assumption) ?_
          refine x_iload_n eX9_least_118 rfl rfl ?_
          refine x_iload eX9_least_119 rfl ?_
          first | refine x_iastN eX9_least_121 (by with_reducible rfl) (by assumption) (by assumption) (by omega) (by omega) ?_ | refine x_iast eX9_least_121 (by assumption) (by assumption) ?_
          first | refine x_iincN eX9_least_122 rfl (by with_reducible rfl) (by decide) rfl rfl ?_ | refine x_iinc eX9_least_122 rfl rfl (by decide) rfl rfl ?_
          refine x_iconst (v := nI 1) eX9_least_125 (by decide) ?_
          refine x_istore_n eX9_least_126 rfl (by decide) rfl rfl ?_
          first | refine x_aload_n eX9_least_127 rfl rfl ?_ | refine x_aload_nN eX9_least_127 rfl rfl ?_
          refine x_callV0 eX9_least_128 lk_X9_181 (by assumption) (Nat.le_of_ble_eq_true rfl) (Nat.le_of_ble_eq_true rfl) ?_
          rw [rfH_wi]
          refine c_X9_brk M W R' (fun _ => ?_)
          refine x_iconst (v := (-1)) eX9_least_131 (by decide) ?_
          first | refine x_icmp_neN (tgt := 137) eX9_least_132 (by decide) (by with_reducible rfl) (by with_reducible rfl) (by omega) (by omega) (fun cq2 => ?_) (fun cq2 => ?_) | refine x_icmp_ne (tgt := 137) eX9_least_132 (by decide) (fun cq2 => ?_) (fun cq2 => ?_)
          · have c4 : ¬ brkV (hi h (x + 1)) (hi h (x + 4)) (upd0 rf s (nxV (hi h (x + 1)) s (rf s))) (hi h (x + 3)) = -1 := cq2
            refine Rn.weak (next (upd0 rf s (nxV (hi h (x + 1)) s (rf s))) (t + 1) true R' (by rw [rnd, if_neg c2, if_neg c3, if_neg c4])) (by repeat' first | exact fun _ h => absurd h List.not_mem_nil | refine List.forall_mem_cons.mpr ⟨rfl, ?_⟩)
          · have c4 : brkV (hi h (x + 1)) (hi h (x + 4)) (upd0 rf s (nxV (hi h (x + 1)) s (rf s))) (hi h (x + 3)) = -1 := cq2
            refine x_iload_n eX9_least_135 rfl rfl ?_
            refine x_iret eX9_least_136 rfl ?_
            exact hq (t + 1) _ (by rw [rnd, if_neg c2, if_neg c3, if_pos c4])
        · have c3 : nxV (hi h (x + 1)) s (rf s) = -1 := cq1
          refine x_goto (tgt := 137) eX9_least_111 (by decide) ?_
          refine Rn.weak (next rf t ch R (by rw [rnd, if_neg c2, if_pos c3])) (by repeat' first | exact fun _ h => absurd h List.not_mem_nil | refine List.forall_mem_cons.mpr ⟨rfl, ?_⟩)
      · have c2 : sl (hi h (x + 1)) s 11 = 0 := cq2
        refine x_goto (tgt := 137) eX9_least_46 (by decide) ?_
        refine Rn.weak (next rf t ch R (by rw [rnd, if_pos c2])) (by repeat' first | exact fun _ h => absurd h List.not_mem_nil | refine List.forall_mem_cons.mpr ⟨rfl, ?_⟩)
set_option maxRecDepth 100000 in
set_option maxHeartbeats 4000000 in
theorem l_X9_least0 (M : MD h x) (W : GW (hi h (x + 1))) (hL : ∀ s n, s < nt (hi h (x + 1) 1) → n < nt (sl (hi h (x + 1)) s 12) → isN (sl (hi h (x + 1)) s (13 + n)) 0 60) (hl : ∀ s n, n < nt (sl (hi h (x + 1)) s 12) → ¬ sl (hi h (x + 1)) s (13 + n) = -1) : ∀ f rf t, RFok (hi h (x + 1)) rf → (∀ s, s < nt (hi h (x + 1) 1) → ¬ sl (hi h (x + 1)) s 11 = 0 → cntA (hi h (x + 1)) s (rf s) ≤ f) → (∀ rf', Q (some (.int (lst (hi h (x + 1)) (hi h (x + 4)) (hi h (x + 3)) (f + 1) rf t))) (rfH h x rf')) → Rn G (d + 6) mX9_least 18 [(0, .ref x), (1, .int (nI t)), (2, .int (nI 1))] [] (rfH h x rf) Q := by
  intro f
  induction f with
  | zero =>
    intro rf t R hf hq
    have kx : ∀ rf' t' ch', rnd (hi h (x + 1)) (hi h (x + 4)) (hi h (x + 3)) (nt (hi h (x + 1) 1)) 0 rf t false = .inr (rf', t', ch') → RFok (hi h (x + 1)) rf' → Rn G (d + 6) mX9_least 18 [(0, .ref x), (1, .int (nI t')), (2, .int (bI ch'))] [] (rfH h x rf') Q := by
      intro rf' t' ch' e R'
      obtain ⟨-, -, -, a4, -⟩ := rnd_spec _ _ _ hl _ _ _ _ _ _ _ _ e
      have hc : ch' = false := by
        cases hc : ch' with
        | false => rfl
        | true =>
          rcases a4 hc with z | ⟨a, b1, b2, b3, b4⟩
          · cases z
          · have := hf a (by omega) b3
            omega
      subst hc
      have hqq := hq rf'
      rw [lst, e] at hqq
      refine x_iload_n eX9_least_18 rfl rfl ?_
      first | refine x_if_eqB (tgt := 146) eX9_least_19 (by decide) (by with_reducible rfl) (fun cq1 => ?_) (fun cq1 => ?_) | refine x_if_eq (tgt := 146) eX9_least_19 (by decide) (fun cq1 => ?_) (fun cq1 => ?_)
      · refine x_iconst (v := (-1)) eX9_least_146 (by decide) ?_
        refine x_iret eX9_least_147 rfl ?_
        exact hqq
      · cases cq1
    refine x_iload_n eX9_least_18 rfl rfl ?_
    first | refine x_if_eqB (tgt := 146) eX9_least_19 (by decide) (by with_reducible rfl) (fun cq1 => ?_) (fun cq1 => ?_) | refine x_if_eq (tgt := 146) eX9_least_19 (by decide) (fun cq1 => ?_) (fun cq1 => ?_)
    · exact absurd cq1 (by decide)
    · refine x_iconst (v := nI 0) eX9_least_22 (by decide) ?_
      refine x_istore_n eX9_least_23 rfl (by decide) rfl rfl ?_
      refine x_iconst (v := nI 0) eX9_least_24 (by decide) ?_
      refine x_istore_n eX9_least_25 rfl (by decide) rfl rfl ?_
      refine Rn.weak (l_X9_least1 M W rfl hL (nt (hi h (x + 1) 1)) 0 rf t false (Nat.zero_add _) R (fun t' rf' e => by have hqq := hq rf'; rw [lst, e] at hqq; exact hqq) kx) (by repeat' first | exact fun _ h => absurd h List.not_mem_nil | refine List.forall_mem_cons.mpr ⟨rfl, ?_⟩)
  | succ f ih =>
    intro rf t R hf hq
    have kx : ∀ rf' t' ch', rnd (hi h (x + 1)) (hi h (x + 4)) (hi h (x + 3)) (nt (hi h (x + 1) 1)) 0 rf t false = .inr (rf', t', ch') → RFok (hi h (x + 1)) rf' → Rn G (d + 6) mX9_least 18 [(0, .ref x), (1, .int (nI t')), (2, .int (bI ch'))] [] (rfH h x rf') Q := by
      intro rf' t' ch' e R'
      obtain ⟨-, a2, -, a4, -⟩ := rnd_spec _ _ _ hl _ _ _ _ _ _ _ _ e
      cases hc : ch' with
      | false =>
        subst hc
        have hqq := hq rf'
        rw [lst, e] at hqq
        refine x_iload_n eX9_least_18 rfl rfl ?_
        first | refine x_if_eqB (tgt := 146) eX9_least_19 (by decide) (by with_reducible rfl) (fun cq1 => ?_) (fun cq1 => ?_) | refine x_if_eq (tgt := 146) eX9_least_19 (by decide) (fun cq1 => ?_) (fun cq1 => ?_)
        · refine x_iconst (v := (-1)) eX9_least_146 (by decide) ?_
          refine x_iret eX9_least_147 rfl ?_
          exact hqq
        · cases cq1
      | true =>
        subst hc
        refine ih rf' t' R' (fun a ha hz => ?_) (fun rf2 => ?_)
        · have h1 := (a2 a (Nat.zero_le _) (by omega) hz).1
          have h2 := hf a ha hz
          omega
        · have hqq := hq rf2
          rw [lst, e] at hqq
          exact hqq
    refine x_iload_n eX9_least_18 rfl rfl ?_
    first | refine x_if_eqB (tgt := 146) eX9_least_19 (by decide) (by with_reducible rfl) (fun cq1 => ?_) (fun cq1 => ?_) | refine x_if_eq (tgt := 146) eX9_least_19 (by decide) (fun cq1 => ?_) (fun cq1 => ?_)
    · exact absurd cq1 (by decide)
    · refine x_iconst (v := nI 0) eX9_least_22 (by decide) ?_
      refine x_istore_n eX9_least_23 rfl (by decide) rfl rfl ?_
      refine x_iconst (v := nI 0) eX9_least_24 (by decide) ?_
      refine x_istore_n eX9_least_25 rfl (by decide) rfl rfl ?_
      refine Rn.weak (l_X9_least1 M W rfl hL (nt (hi h (x + 1) 1)) 0 rf t false (Nat.zero_add _) R (fun t' rf' e => by have hqq := hq rf'; rw [lst, e] at hqq; exact hqq) kx) (by repeat' first | exact fun _ h => absurd h List.not_mem_nil | refine List.forall_mem_cons.mpr ⟨rfl, ?_⟩)

def lstV (g wd ld rf : Nat → Int32) : Int32 := if brkV g wd rf ld = -1 then 0 else lst g wd ld 4 rf 0
set_option maxRecDepth 100000 in
set_option maxHeartbeats 4000000 in
theorem c_X9_least (M : MD h x) (W : GW (hi h (x + 1))) (hL : ∀ s n, s < nt (hi h (x + 1) 1) → n < nt (sl (hi h (x + 1)) s 12) → isN (sl (hi h (x + 1)) s (13 + n)) 0 60) (hl : ∀ s n, n < nt (sl (hi h (x + 1)) s 12) → ¬ sl (hi h (x + 1)) s (13 + n) = -1) (hq : ∀ rf, Q (some (.int (lstV (hi h (x + 1)) (hi h (x + 4)) (hi h (x + 3)) (asF (hi h) x (nt (hi h (x + 1) 1)) (x + 9))))) (rfH h x rf)) : Rn G (d + 6) mX9_least 0 [(0, .ref x)] [] h Q := by
  obtain ⟨⟨hx, hS, kS, nS⟩, -⟩ := id M
  first | refine x_aload_n eX9_least_0 rfl rfl ?_ | refine x_aload_nN eX9_least_0 rfl rfl ?_
  refine x_callV0 eX9_least_1 lk_X9_176 (by assumption) (Nat.le_of_ble_eq_true rfl) (Nat.le_of_ble_eq_true rfl) ?_
  refine Rn.deep (c_X9_asTheyAre (d := d) M W (fun _ => ?_)) (by omega)
  rw [asF_rf]
  have hx2 : hk (rfH h x (asF (hi h) x (nt (hi h (x + 1) 1)) (x + 9))) x = 8 := hx
  have R := asF_ok W
  generalize asF (hi h) x (nt (hi h (x + 1) 1)) (x + 9) = rf at hq R hx2
  first | refine x_aload_n eX9_least_4 rfl rfl ?_ | refine x_aload_nN eX9_least_4 rfl rfl ?_
  refine x_callV0 eX9_least_5 lk_X9_181 (by assumption) (Nat.le_of_ble_eq_true rfl) (Nat.le_of_ble_eq_true rfl) ?_
  refine c_X9_brk M W R (fun _ => ?_)
  refine x_iconst (v := (-1)) eX9_least_8 (by decide) ?_
  first | refine x_icmp_neN (tgt := 14) eX9_least_9 (by decide) (by with_reducible rfl) (by with_reducible rfl) (by omega) (by omega) (fun cq1 => ?_) (fun cq1 => ?_) | refine x_icmp_ne (tgt := 14) eX9_least_9 (by decide) (fun cq1 => ?_) (fun cq1 => ?_)
  · have c1 : ¬ brkV (hi h (x + 1)) (hi h (x + 4)) rf (hi h (x + 3)) = -1 := cq1
    rw [lstV, if_neg c1] at hq
    refine x_iconst (v := nI 0) eX9_least_14 (by decide) ?_
    refine x_istore_n eX9_least_15 rfl (by decide) rfl rfl ?_
    refine x_iconst (v := nI 1) eX9_least_16 (by decide) ?_
    refine x_istore_n eX9_least_17 rfl (by decide) rfl rfl ?_
    refine Rn.weak (l_X9_least0 M W hL hl 3 rf 0 R (fun s hs _ => Nat.le_trans (cntN_le _ _) (W.2.2.2 s hs).2.2.2.2.2.2.2.2.2.2.1.2.2) hq) (by repeat' first | exact fun _ h => absurd h List.not_mem_nil | refine List.forall_mem_cons.mpr ⟨rfl, ?_⟩)
  · have c1 : brkV (hi h (x + 1)) (hi h (x + 4)) rf (hi h (x + 3)) = -1 := cq1
    rw [lstV, if_pos c1] at hq
    refine x_iconst (v := nI 0) eX9_least_12 (by decide) ?_
    refine x_iret eX9_least_13 rfl ?_
    exact hq _
end REF15

