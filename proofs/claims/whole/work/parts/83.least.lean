/-! ===== push, bears, least ===== -/
section LEAST
variable {G : GG} {d : Nat} {h h2 : AH} {Q : Option Value → AH → Prop} {ow o2 : Nat → Nat} {y : Nat} {g g2 ld wd : Nat → Int32} {kp nx s a : Nat} {ps : Nat → Nat → Int32} {T : Nat → Prop}
set_option maxRecDepth 100000 in
set_option maxHeartbeats 4000000 in
/-- a call that leaves the state as it was -/
theorem Ps.ho {f : Nat → Int64} {t : Nat → Int32} (C : Core ow h y g ld wd) (K : Acts ow h y g kp nx ps) (W : GW g) : Ps G y ow h g ld wd kp nx ps (hoH h (y + 6) f t) := by
  obtain ⟨C', F⟩ := C.ho (f := f) (t := t) W
  exact ⟨ow, C', K.fr F (fun u hu z => by omega) rfl (ho_k (by decide)) (ho_k (by decide)), F.zk (by decide), by show hz h ≤ _; omega, by show us G h ≤ _; omega⟩
set_option maxRecDepth 100000 in
set_option maxHeartbeats 4000000 in
theorem brk_eq {f : Nat → Int64} {t : Nat → Int32} {rf : Nat → Int32} (C : Core ow h y g ld wd) (W : GW g) (hf : ∀ j, j < 60 → f j = fcV g wd rf j) (hq : Q (some (.int (brkV g wd rf ld))) (hoH h (y + 6) f t)) : Rn G (d + 2) mX7_firstBreak 0 [(0, .ref (y + 3))] [] (hoH h (y + 6) f t) Q := by
  obtain ⟨spk, r0, r1, k4, n4, k5, n5, k3, r2, k6, n6⟩ := C.spk
  have e4 := C.2.2.2.2.2.2.1.1
  exact c_X7_firstBreak (h := hoH h (y + 6) f t) (ld := ld) k3 r0 k4 n4 r2 k6 n6 (fun k hk => by rw [ho_hi (by rw [k4]; decide)]; exact e4 k hk) (fun k hk => by rw [ho_l]; exact psh_eq W (by omega) hf) hq
set_option maxRecDepth 100000 in
set_option maxHeartbeats 4000000 in
theorem c_X8_push {k : Int32} (C : Core ow h y g ld wd) (K : Acts ow h y g kp nx ps) (I : GI g) (O : OS g) (hq : ∀ h2, Ps G y ow h g ld wd kp nx ps h2 → Q (some (.long (if inR k 0 60 then pshV g wd (fun s => sl g s 10) (nt k) else -1))) h2) : Rn G (d + 4) mX8_push 0 [(0, .ref y), (1, .int k)] [] h Q := by
  obtain ⟨spk, r0, r1, k4, n4, k5, n5, k3, r2, k6, n6⟩ := C.spk
  have s1 := C.2.1.1.1
  have s4 := C.2.1.1.2.2.2.1
  refine x_iload_n eX8_push_0 rfl rfl ?_
  refine x_iconst (v := nI 0) eX8_push_1 (by decide) ?_
  refine x_bipush (v := nI 60) eX8_push_2 (by decide) ?_
  refine x_callS3 eX8_push_4 lk_X8_51 (Nat.le_of_ble_eq_true rfl) (Nat.le_of_ble_eq_true rfl) ?_
  refine Rn.deep (c_X8_isWithin (d := d) (fun _ => ?_)) (by omega)
  first | refine x_if_neB (tgt := 14) eX8_push_7 (by decide) (by with_reducible rfl) (fun cq1 => ?_) (fun cq1 => ?_) | refine x_if_ne (tgt := 14) eX8_push_7 (by decide) (fun cq1 => ?_) (fun cq1 => ?_)
  · have hin : inR k 0 60 = true := cq1
    obtain ⟨m, -, hm, rfl⟩ := inR_N (lo := 0) (hi := 60) hin rfl (by omega) (by omega)
    first | refine x_aload_n eX8_push_14 rfl rfl ?_ | refine x_aload_nN eX8_push_14 rfl rfl ?_
    refine x_callV0 eX8_push_15 lk_X8_305 (by assumption) (Nat.le_of_ble_eq_true rfl) (Nat.le_of_ble_eq_true rfl) ?_
    refine Rn.deep (c_X8_hoistAll (d := d) C I O (fun f t N _ => ?_)) (by omega)
    have p := hq _ (Ps.ho (f := f) (t := t) C K I.gw)
    rw [if_pos hin, nt_nI (by omega), ← psh_eq (f := f) I.gw hm N.1] at p
    have s12 : hk (hoH h (y + 6) f t) y = 7 := s1
    have s42 : hr (hoH h (y + 6) f t) y 4 = some (y + 3) := s4
    have k32 : hk (hoH h (y + 6) f t) (y + 3) = 6 := k3
    first | refine x_aload_n eX8_push_18 rfl rfl ?_ | refine x_aload_nN eX8_push_18 rfl rfl ?_
    first | refine x_getR eX8_push_19 fk_X8_31 rfl (by assumption) (by assumption) ?_ | refine x_getN eX8_push_19 fk_X8_31 rfl (by assumption) (by assumption) ?_
    refine x_iload_n eX8_push_22 rfl rfl ?_
    refine x_callV1 eX8_push_23 lk_X8_308 (by assumption) (Nat.le_of_ble_eq_true rfl) (Nat.le_of_ble_eq_true rfl) ?_
    refine Rn.deep (c_X7_pushAt (d := d) (h := hoH h (y + 6) f t) k3 r2 k6 n6 hm (fun _ => ?_)) (by omega)
    rw [ho_l]
    refine x_lret eX8_push_26 rfl ?_
    exact p
  · have hin : inR k 0 60 = false := cq1
    have p := hq h ⟨ow, C, K, fun a ha => ⟨ha, rfl, rfl, rfl⟩, by omega, by omega⟩
    rw [hin] at p
    refine x_ldc2 (v := -1) eX8_push_10 kk_X8_303 ?_
    refine x_lret eX8_push_13 rfl ?_
    exact p
set_option maxRecDepth 100000 in
set_option maxHeartbeats 4000000 in
theorem c_X8_bears (C : Core ow h y g ld wd) (K : Acts ow h y g kp nx ps) (I : GI g) (O : OS g) (hq : ∀ h2, Ps G y ow h g ld wd kp nx ps h2 → Q (some (.int (brkV g wd (fun s => sl g s 10) ld))) h2) : Rn G (d + 4) mX8_bears 0 [(0, .ref y)] [] h Q := by
  obtain ⟨spk, r0, r1, k4, n4, k5, n5, k3, r2, k6, n6⟩ := C.spk
  have s1 := C.2.1.1.1
  have s4 := C.2.1.1.2.2.2.1
  first | refine x_aload_n eX8_bears_0 rfl rfl ?_ | refine x_aload_nN eX8_bears_0 rfl rfl ?_
  refine x_callV0 eX8_bears_1 lk_X8_305 (by assumption) (Nat.le_of_ble_eq_true rfl) (Nat.le_of_ble_eq_true rfl) ?_
  refine Rn.deep (c_X8_hoistAll (d := d) C I O (fun f t N _ => ?_)) (by omega)
  have s12 : hk (hoH h (y + 6) f t) y = 7 := s1
  have s42 : hr (hoH h (y + 6) f t) y 4 = some (y + 3) := s4
  have k32 : hk (hoH h (y + 6) f t) (y + 3) = 6 := k3
  first | refine x_aload_n eX8_bears_4 rfl rfl ?_ | refine x_aload_nN eX8_bears_4 rfl rfl ?_
  first | refine x_getR eX8_bears_5 fk_X8_31 rfl (by assumption) (by assumption) ?_ | refine x_getN eX8_bears_5 fk_X8_31 rfl (by assumption) (by assumption) ?_
  refine x_callV0 eX8_bears_8 lk_X8_312 (by assumption) (Nat.le_of_ble_eq_true rfl) (Nat.le_of_ble_eq_true rfl) ?_
  refine Rn.deep (brk_eq (d := d) C I.gw N.1 (fun _ => ?_)) (by omega)
  refine x_iret eX8_bears_11 rfl ?_
  exact hq _ (Ps.ho C K I.gw)
/-- the class's rounds -/
def clR (g wd ld : Nat → Int32) : Nat → (Nat → Int32) → Nat → Int32
  | 0, _, _ => -1
  | f + 1, rf, t => match rnd g wd ld (nt (g 1)) 0 rf t false with
    | .inl t' => nI t'
    | .inr (rf', t', _) => clR g wd ld f rf' t'
set_option maxRecDepth 100000 in
set_option maxHeartbeats 4000000 in
theorem rnd_ch (g wd ld : Nat → Int32) : ∀ m s rf t ch, (∃ t', rnd g wd ld m s rf t ch = .inl t') ∨ ∃ rf' t' ch', rnd g wd ld m s rf t ch = .inr (rf', t', ch')
  | m, s, rf, t, ch => by
    cases rnd g wd ld m s rf t ch with
    | inl t' => exact Or.inl ⟨t', rfl⟩
    | inr p => exact Or.inr ⟨p.1, p.2.1, p.2.2, rfl⟩
set_option maxRecDepth 100000 in
set_option maxHeartbeats 4000000 in
/-- where no sail has a line left, a round does nothing -/
theorem rnd_0 (g wd ld : Nat → Int32) : ∀ m s rf t ch, (∀ a, s ≤ a → a < s + m → ¬ sl g a 11 = 0 → cntA g a (rf a) = 0) → rnd g wd ld m s rf t ch = .inr (rf, t, ch)
  | 0, _, _, _, _, _ => rfl
  | m + 1, s, rf, t, ch, h => by
    have ih := rnd_0 g wd ld m (s + 1) rf t ch (fun a h1 h2 h3 => h a (by omega) (by omega) h3)
    unfold rnd
    by_cases z : sl g s 11 = 0
    · rw [if_pos z]
      exact ih
    · rw [if_neg z]
      have c0 := h s (by omega) (by omega) z
      have nx : nxV g s (rf s) = -1 := by
        by_cases q : nxV g s (rf s) = -1
        · exact q
        · obtain ⟨n, -, -, n3⟩ := cntA_nx q
          omega
      rw [if_pos nx]
      exact ih
set_option maxRecDepth 100000 in
set_option maxHeartbeats 4000000 in
theorem clR_0 (g wd ld : Nat → Int32) {rf : Nat → Int32} (h : ∀ a, a < nt (g 1) → ¬ sl g a 11 = 0 → cntA g a (rf a) = 0) : ∀ f t, clR g wd ld f rf t = -1
  | 0, _ => rfl
  | f + 1, t => by
    unfold clR
    rw [rnd_0 g wd ld (nt (g 1)) 0 rf t false (fun a _ h2 h3 => h a (by omega) h3)]
    exact clR_0 g wd ld h f t
set_option maxRecDepth 100000 in
set_option maxHeartbeats 4000000 in
theorem lst_0 (g wd ld : Nat → Int32) {rf : Nat → Int32} (h : ∀ a, a < nt (g 1) → ¬ sl g a 11 = 0 → cntA g a (rf a) = 0) : ∀ f t, lst g wd ld f rf t = -1
  | 0, _ => rfl
  | f + 1, t => by
    unfold lst
    rw [rnd_0 g wd ld (nt (g 1)) 0 rf t false (fun a _ h2 h3 => h a (by omega) h3)]
    rfl
set_option maxRecDepth 100000 in
set_option maxHeartbeats 4000000 in
theorem clR_same (g wd ld : Nat → Int32) {rf : Nat → Int32} {t : Nat} (h : rnd g wd ld (nt (g 1)) 0 rf t false = .inr (rf, t, false)) : ∀ f, clR g wd ld f rf t = -1
  | 0 => rfl
  | f + 1 => by
    unfold clR
    rw [h]
    exact clR_same g wd ld h f
set_option maxRecDepth 100000 in
set_option maxHeartbeats 4000000 in
theorem clR_lst (g wd ld : Nat → Int32) (hl : ∀ s n, n < nt (sl g s 12) → ¬ sl g s (13 + n) = -1) : ∀ f rf t, (∀ a, a < nt (g 1) → ¬ sl g a 11 = 0 → cntA g a (rf a) ≤ f) → clR g wd ld f rf t = lst g wd ld (f + 1) rf t
  | 0, rf, t, h => by
    rw [lst_0 g wd ld (fun a h1 h2 => by have := h a h1 h2; omega)]
    rfl
  | f + 1, rf, t, h => by
    unfold clR lst
    rcases rnd_ch g wd ld (nt (g 1)) 0 rf t false with ⟨t', e⟩ | ⟨rf', t', ch', e⟩
    · rw [e]
    · rw [e]
      obtain ⟨q1, q2, q3, q4, q5⟩ := rnd_spec g wd ld hl (nt (g 1)) 0 rf t false rf' t' ch' e
      show clR g wd ld f rf' t' = if ch' then lst g wd ld (f + 1) rf' t' else -1
      cases ch' with
      | false =>
        obtain ⟨-, e1, e2⟩ := q5 rfl
        rw [e1, e2] at e ⊢
        exact clR_same g wd ld e f
      | true =>
        refine clR_lst g wd ld hl f rf' t' (fun a h1 h2 => ?_)
        have := (q2 a (by omega) (by omega) h2).1
        have := h a h1 h2
        omega
end LEAST

