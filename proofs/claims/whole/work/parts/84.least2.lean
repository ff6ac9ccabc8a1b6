/-! ===== least ===== -/
section LEAST2
variable {G : GG} {d : Nat} {h h2 : AH} {Q : Option Value → AH → Prop} {ow o2 : Nat → Nat} {y : Nat} {g g2 ld wd : Nat → Int32} {kp nx s a : Nat} {ps : Nat → Nat → Int32} {T : Nat → Prop}
/-- the forces and tried reefs that rf asks for -/
def LsI (h : AH) (y : Nat) (g wd rf : Nat → Int32) (f : Nat → Int64) (t : Nat → Int32) : Prop := (∀ j, j < 60 → f j = fcV g wd rf j) ∧ (∀ s a, s < nt (g 1) → hr h (y + 2) s = some a → ¬ sl g s 11 = 0 → t a = rf s) ∧ ∀ s, s < nt (g 1) → isN (rf s) 0 60
set_option maxRecDepth 100000 in
set_option maxHeartbeats 4000000 in
theorem l_X8_least1 {m k : Nat} (C : Core ow h y g ld wd) (I : GI g) (O : OS g) (em : nt (g 1) = m) : ∀ n s rf tk ch f t, s + n = m → LsI h y g wd rf f t → tk + n ≤ 1000 → (∀ t' f t, rnd g wd ld n s rf tk ch = .inl t' → Q (some (.int (nI t'))) (hoH h (y + 6) f t)) → (∀ rf' t' ch' f' t2, rnd g wd ld n s rf tk ch = .inr (rf', t', ch') → t' ≤ tk + n → LsI h y g wd rf' f' t2 → Rn G (d + 4) mX8_least 90 [(0, .ref y), (1, .int (nI t')), (2, .int (nI k))] [] (hoH h (y + 6) f' t2) Q) → Rn G (d + 4) mX8_least 28 [(0, .ref y), (1, .int (nI tk)), (2, .int (nI k)), (3, .int (nI s))] [] (hoH h (y + 6) f t) Q := by
  have W := I.gw
  have h10 := W.2.1.2.2
  rw [em] at h10
  obtain ⟨C1, C2, C3, C4, C5, C6, ⟨C7, C8⟩, -⟩ := id C
  obtain ⟨⟨s1, s2, s3, s4, s5, s6⟩, -, ⟨b1, b2, b3⟩, -⟩ := id C2
  have e3 : hi h y 3 = nI m := by rw [C3.2, W.2.1.1, em]
  obtain ⟨spk, r0, r1, k4, n4, k5, n5, k3, r2, k6, n6⟩ := C.spk
  intro n
  induction n with
  | zero =>
    intro s rf tk ch f t hs0 N ht hq kx
    have kx1 := kx rf tk ch f t rfl (by omega) N
    have ky2 : hk (hoH h (y + 6) f t) y = 7 := s1
    have e32 : hi (hoH h (y + 6) f t) y 3 = nI m := by rw [ho_k (by decide)]; exact e3
    refine x_iload_n eX8_least_28 rfl rfl ?_
    first | refine x_aload_n eX8_least_29 rfl rfl ?_ | refine x_aload_nN eX8_least_29 rfl rfl ?_
    first | refine x_getIe eX8_least_30 fk_X8_25 (by decide) (by assumption) (by assumption) ?_ | refine x_getI eX8_least_30 fk_X8_25 (by decide) (by assumption) ?_
    first | refine x_icmp_geN (tgt := 90) eX8_least_33 (by decide) (by with_reducible rfl) (by with_reducible rfl) (by omega) (by omega) (fun cq1 => ?_) (fun cq1 => ?_) | refine x_icmp_ge (tgt := 90) eX8_least_33 (by decide) (fun cq1 => ?_) (fun cq1 => ?_)
    · refine Rn.weak (kx1) (by repeat' first | exact fun _ h => absurd h List.not_mem_nil | refine List.forall_mem_cons.mpr ⟨rfl, ?_⟩)
    · exact absurd cq1 (by omega)
  | succ n ih =>
    intro s rf tk ch f t hs0 N ht hq kx
    obtain ⟨N1, N2, N3⟩ := id N
    have ks : s < nt (g 1) := by omega
    obtain ⟨a, ha, S⟩ := C6 s ks
    obtain ⟨sw, sx⟩ := I.2.2.1 s ks
    obtain ⟨E, Cc, Ll⟩ := id S
    have ka := E.2.1
    have oa := E.1
    have hsa : hr (hoH h (y + 6) f t) (y + 2) s = some a := ha
    have ky2 : hk (hoH h (y + 6) f t) y = 7 := s1
    have e32 : hi (hoH h (y + 6) f t) y 3 = nI m := by rw [ho_k (by decide)]; exact e3
    have rs2 : hr (hoH h (y + 6) f t) y 2 = some (y + 2) := s3
    have rs4 : hr (hoH h (y + 6) f t) y 4 = some (y + 3) := s4
    have kb2 : hk (hoH h (y + 6) f t) (y + 2) = 34 := b1
    have nb2 : hn (hoH h (y + 6) f t) (y + 2) = 10 := b2
    have ka2 : hk (hoH h (y + 6) f t) a = 4 := ka
    have k32 : hk (hoH h (y + 6) f t) (y + 3) = 6 := k3
    have e92 : hi (hoH h (y + 6) f t) a 9 = sl g s 11 := by rw [ho_k (by decide)]; exact Ll.2.1
    -- on to the next sail
    have go : ∀ rf2 tk2 ch2 f2 t2, rnd g wd ld (n + 1) s rf tk ch = rnd g wd ld n (s + 1) rf2 tk2 ch2 → LsI h y g wd rf2 f2 t2 → tk2 ≤ tk + 1 → Rn G (d + 4) mX8_least 84 [(0, .ref y), (1, .int (nI tk2)), (2, .int (nI k)), (3, .int (nI s))] [] (hoH h (y + 6) f2 t2) Q := by
      intro rf2 tk2 ch2 f2 t2 e N' htk
      have iw := ih (s + 1) rf2 tk2 ch2 f2 t2 (by omega) N' (by omega) (fun t' f t z => hq t' f t (by rw [e]; exact z)) (fun rf' t' ch' f' t2 z1 z2 z3 => kx rf' t' ch' f' t2 (by rw [e]; exact z1) (by omega) z3)
      first | refine x_iincN eX8_least_84 rfl (by with_reducible rfl) (by decide) rfl rfl ?_ | refine x_iinc eX8_least_84 rfl rfl (by decide) rfl rfl ?_
      refine x_goto (tgt := 28) eX8_least_87 (by decide) ?_
      refine Rn.weak (iw) (by repeat' first | exact fun _ h => absurd h List.not_mem_nil | refine List.forall_mem_cons.mpr ⟨rfl, ?_⟩)
    refine x_iload_n eX8_least_28 rfl rfl ?_
    first | refine x_aload_n eX8_least_29 rfl rfl ?_ | refine x_aload_nN eX8_least_29 rfl rfl ?_
    first | refine x_getIe eX8_least_30 fk_X8_25 (by decide) (by assumption) (by assumption) ?_ | refine x_getI eX8_least_30 fk_X8_25 (by decide) (by assumption) ?_
    first | refine x_icmp_geN (tgt := 90) eX8_least_33 (by decide) (by with_reducible rfl) (by with_reducible rfl) (by omega) (by omega) (fun cq1 => ?_) (fun cq1 => ?_) | refine x_icmp_ge (tgt := 90) eX8_least_33 (by decide) (fun cq1 => ?_) (fun cq1 => ?_)
    · exact absurd cq1 (by omega)
    · first | refine x_aload_n eX8_least_36 rfl rfl ?_ | refine x_aload_nN eX8_least_36 rfl rfl ?_
      refine x_iload_n eX8_least_37 rfl rfl ?_
      refine x_callV1 eX8_least_38 lk_X8_149 (by assumption) (Nat.le_of_ble_eq_true rfl) (Nat.le_of_ble_eq_true rfl) ?_
      refine Rn.deep (c_X8_sailNumbered (d := d) (C.ho (f := f) (t := t) W).1 W (fun z _ => absurd (isS_of W ks) (by rw [z]; decide)) (fun j a' ej hj ha' P' _ => ?_)) (by omega)
      obtain rfl : s = j := by
        have q := congrArg nt ej
        rwa [nt_nI (by omega), nt_nI (by omega)] at q
      obtain rfl : a = a' := Option.some.inj (hsa.symm.trans ha')
      first | refine x_astore eX8_least_41 (by decide) rfl rfl ?_ | refine x_astoreN eX8_least_41 (by decide) rfl rfl ?_
      first | refine x_aload eX8_least_43 rfl ?_ | refine x_aloadN eX8_least_43 rfl ?_
      refine x_ifnullR eX8_least_45 ?_
      first | refine x_aload eX8_least_48 rfl ?_ | refine x_aloadN eX8_least_48 rfl ?_
      first | refine x_getIe eX8_least_50 fk_X8_195 (by decide) (by assumption) (by assumption) ?_ | refine x_getI eX8_least_50 fk_X8_195 (by decide) (by assumption) ?_
      first | refine x_if_eqB (tgt := 84) eX8_least_53 (by decide) (by with_reducible rfl) (fun cq2 => ?_) (fun cq2 => ?_) | refine x_if_eq (tgt := 84) eX8_least_53 (by decide) (fun cq2 => ?_) (fun cq2 => ?_)
      · have hz11 : sl g s 11 = 0 := cq2
        have w := go rf tk ch f t (by rw [rnd, if_pos hz11]) N (by omega)
        refine Rn.weak (w) (by repeat' first | exact fun _ h => absurd h List.not_mem_nil | refine List.forall_mem_cons.mpr ⟨rfl, ?_⟩)
      · have hn11 : ¬ sl g s 11 = 0 := cq2
        have hn0 : ¬ sl g s 0 = 0 := fun z => hn11 (O s ks z)
        obtain ⟨st, z1, z2, z3, z4, z5⟩ : ∃ st, hr h a 7 = some st ∧ ow st = 460 + s ∧ hk h st = 20 ∧ hn h st = nt (sl g s 5) ∧ ∀ q, q < nt (sl g s 5) → hi h st q = stp g s q := by
          rcases Cc.2.2.2 with ⟨z, -⟩ | ⟨-, -, z⟩
          · exact absurd z hn0
          · exact z
        obtain ⟨w5, w51, w52⟩ := sw.2.1
        obtain ⟨q, l4, l5, l6, l7, l8⟩ := Ll.2.2.2
        obtain ⟨w12, -, u12⟩ := sw.2.2.2.2.2.2.2.2.2.2.1
        have e11 : hi h a 11 = nI (nt (sl g s 12)) := Ll.2.2.1.trans w12
        obtain ⟨rr1, -, rr2⟩ := N3 s ks
        have et : t a = nI (nt (rf s)) := (N2 s a ks ha hn11).trans rr1
        have hl8 : ∀ j, j < nt (sl g s 12) → isN (hi h q j) 1 (nt (sl g s 5)) := fun j hj => by rw [l8 j hj]; exact sx.2.2.2.2.2.1 j hj
        have efs : fstN (fun j => decide (nI (nt (rf s)) < hi h q j)) (nt (sl g s 12)) = fstN (fun n => decide (rf s < sl g s (13 + n))) (nt (sl g s 12)) := fstN_eq (fun j hj => by rw [l8 j hj, ← rr1])
        first | refine x_aload_n eX8_least_56 rfl rfl ?_ | refine x_aload_nN eX8_least_56 rfl rfl ?_
        first | refine x_getR eX8_least_57 fk_X8_31 rfl (by assumption) (by assumption) ?_ | refine x_getN eX8_least_57 fk_X8_31 rfl (by assumption) (by assumption) ?_
        first | refine x_aload eX8_least_60 rfl ?_ | refine x_aloadN eX8_least_60 rfl ?_
        refine x_callV1 eX8_least_62 lk_X8_315 (by assumption) (Nat.le_of_ble_eq_true rfl) (Nat.le_of_ble_eq_true rfl) ?_
        refine Rn.deep (c_X7_reefOnce (d := d) (f := f) (t := t) spk ka z1 z3 z4 r1 et rr2 w52 e11 u12 l4 l6 l7 hl8 (fun q1 _ => ?_) (fun j j1 j2 j3 _ => ?_)) (by omega)
        · have nxe : nxV g s (rf s) = -1 := by unfold nxV; rw [← efs, q1]
          have w := go rf tk ch f t (by rw [rnd, if_neg hn11, if_pos nxe]) N (by omega)
          first | refine x_if_eqB (tgt := 84) eX8_least_65 (by decide) (by with_reducible rfl) (fun cq3 => ?_) (fun cq3 => ?_) | refine x_if_eq (tgt := 84) eX8_least_65 (by decide) (fun cq3 => ?_) (fun cq3 => ?_)
          · refine Rn.weak (w) (by repeat' first | exact fun _ h => absurd h List.not_mem_nil | refine List.forall_mem_cons.mpr ⟨rfl, ?_⟩)
          · exact absurd rfl cq3
        · obtain ⟨m1, m2, m3⟩ := hl8 j j1
          have nxe : nxV g s (rf s) = hi h q j := by unfold nxV; rw [← efs, j2]; exact (l8 j j1).symm
          have nxn : ¬ nxV g s (rf s) = -1 := by rw [nxe, m1]; exact nI_m1 (by omega)
          have N' : LsI h y g wd (upd0 rf s (nxV g s (rf s))) (adL f (nt (rf s)) (nt (hi h q j) - nt (rf s)) (fun y_1 => (-1 : Int32).toInt64 * (hi h st y_1).toInt64 * (hi h (y + 5) y_1).toInt64)) (upd0 t a (hi h q j)) := by
            refine ⟨fun i hi6 => ?_, fun s' a' h1 h2 h3 => ?_, fun s' h1 => ?_⟩
            · rw [nxe]
              unfold adL
              have up : fcV g wd (upd0 rf s (hi h q j)) i = fcV g wd rf i + (if nt (rf s) ≤ i ∧ i < nt (hi h q j) then (-1 : Int32).toInt64 * (stp g s i).toInt64 * (wd i).toInt64 else 0) := by
                unfold fcV
                refine sumL_up (k := s) (fun s' hs' => by rw [upd0_ne hs']) ?_ (by omega)
                rw [upd0_same]
                unfold tmV
                rw [if_neg hn11, if_neg hn11]
                by_cases c1 : nt (rf s) ≤ i
                · by_cases c2 : i < nt (hi h q j)
                  · rw [if_neg (by omega), if_pos (by omega), if_pos (by omega), show (-1 : Int32).toInt64 = -1 from by decide, Int64.mul_assoc, Int64.neg_mul, Int64.one_mul, Int64.add_right_neg]
                  · by_cases c3 : i < nt (sl g s 5)
                    · rw [if_pos (by omega), if_pos (by omega), if_neg (by omega), Int64.add_zero]
                    · rw [if_neg (by omega), if_neg (by omega), if_neg (by omega), Int64.add_zero]
                · rw [if_neg (by omega), if_neg (by omega), if_neg (by omega), Int64.add_zero]
              rw [up, ← N1 i hi6]
              by_cases c : nt (rf s) ≤ i ∧ i < nt (hi h q j)
              · rw [if_pos (by omega), if_pos c]
                show f i + (-1 : Int32).toInt64 * (hi h st i).toInt64 * (hi h (y + 5) i).toInt64 = _
                rw [z5 i (by omega), C8 i hi6]
              · rw [if_neg (by omega), if_neg c, Int64.add_zero]
            · by_cases e : s' = s
              · subst e
                rw [ha] at h2
                cases h2
                rw [upd0_same, upd0_same, nxe]
              · obtain ⟨a2, ha2, S2⟩ := C6 s' h1
                rw [ha2] at h2
                cases h2
                rw [upd0_ne (fun z => by have := S2.1.1; rw [z, oa] at this; omega), upd0_ne e]
                exact N2 s' a' h1 ha2 h3
            · by_cases e : s' = s
              · rw [e, upd0_same, nxe]
                exact ⟨m1, Nat.zero_le _, by omega⟩
              · rw [upd0_ne e]
                exact N3 s' h1
          have ky3 : hk (hoH h (y + 6) (adL f (nt (rf s)) (nt (hi h q j) - nt (rf s)) (fun y_1 => (-1 : Int32).toInt64 * (hi h st y_1).toInt64 * (hi h (y + 5) y_1).toInt64)) (upd0 t a (hi h q j))) y = 7 := s1
          have rs43 : hr (hoH h (y + 6) (adL f (nt (rf s)) (nt (hi h q j) - nt (rf s)) (fun y_1 => (-1 : Int32).toInt64 * (hi h st y_1).toInt64 * (hi h (y + 5) y_1).toInt64)) (upd0 t a (hi h q j))) y 4 = some (y + 3) := s4
          have k33 : hk (hoH h (y + 6) (adL f (nt (rf s)) (nt (hi h q j) - nt (rf s)) (fun y_1 => (-1 : Int32).toInt64 * (hi h st y_1).toInt64 * (hi h (y + 5) y_1).toInt64)) (upd0 t a (hi h q j))) (y + 3) = 6 := k3
          first | refine x_if_eqB (tgt := 84) eX8_least_65 (by decide) (by with_reducible rfl) (fun cq4 => ?_) (fun cq4 => ?_) | refine x_if_eq (tgt := 84) eX8_least_65 (by decide) (fun cq4 => ?_) (fun cq4 => ?_)
          · exact absurd cq4 (by decide)
          · first | refine x_iincN eX8_least_68 rfl (by with_reducible rfl) (by decide) rfl rfl ?_ | refine x_iinc eX8_least_68 rfl rfl (by decide) rfl rfl ?_
            first | refine x_aload_n eX8_least_71 rfl rfl ?_ | refine x_aload_nN eX8_least_71 rfl rfl ?_
            first | refine x_getR eX8_least_72 fk_X8_31 rfl (by assumption) (by assumption) ?_ | refine x_getN eX8_least_72 fk_X8_31 rfl (by assumption) (by assumption) ?_
            refine x_callV0 eX8_least_75 lk_X8_312 (by assumption) (Nat.le_of_ble_eq_true rfl) (Nat.le_of_ble_eq_true rfl) ?_
            refine Rn.deep (brk_eq (d := d) C W N'.1 (fun _ => ?_)) (by omega)
            refine x_iconst (v := (-1)) eX8_least_78 (by decide) ?_
            first | refine x_icmp_neN (tgt := 84) eX8_least_79 (by decide) (by with_reducible rfl) (by with_reducible rfl) (by omega) (by omega) (fun cq5 => ?_) (fun cq5 => ?_) | refine x_icmp_ne (tgt := 84) eX8_least_79 (by decide) (fun cq5 => ?_) (fun cq5 => ?_)
            · have w := go _ (tk + 1) true _ _ (by rw [rnd, if_neg hn11, if_neg nxn, if_neg cq5]) N' (by omega)
              refine Rn.weak (w) (by repeat' first | exact fun _ h => absurd h List.not_mem_nil | refine List.forall_mem_cons.mpr ⟨rfl, ?_⟩)
            · have fin := hq (tk + 1) (adL f (nt (rf s)) (nt (hi h q j) - nt (rf s)) (fun y_1 => (-1 : Int32).toInt64 * (hi h st y_1).toInt64 * (hi h (y + 5) y_1).toInt64)) (upd0 t a (hi h q j)) (by rw [rnd, if_neg hn11, if_neg nxn, if_pos cq5])
              refine x_iload_n eX8_least_82 rfl rfl ?_
              refine x_iret eX8_least_83 rfl ?_
              exact fin
set_option maxRecDepth 100000 in
set_option maxHeartbeats 4000000 in
theorem l_X8_least0 (C : Core ow h y g ld wd) (I : GI g) (O : OS g) : ∀ n k rf tk f t, k + n = 3 → LsI h y g wd rf f t → tk + 100 * n ≤ 800 → (∀ f t, Q (some (.int (clR g wd ld n rf tk))) (hoH h (y + 6) f t)) → Rn G (d + 4) mX8_least 21 [(0, .ref y), (1, .int (nI tk)), (2, .int (nI k))] [] (hoH h (y + 6) f t) Q := by
  have h10 := I.gw.2.1.2.2
  intro n
  induction n with
  | zero =>
    intro k rf tk f t hk0 N ht hq
    have fin := hq f t
    refine x_iload_n eX8_least_21 rfl rfl ?_
    refine x_iconst (v := nI 3) eX8_least_22 (by decide) ?_
    first | refine x_icmp_geN (tgt := 96) eX8_least_23 (by decide) (by with_reducible rfl) (by with_reducible rfl) (by omega) (by omega) (fun cq1 => ?_) (fun cq1 => ?_) | refine x_icmp_ge (tgt := 96) eX8_least_23 (by decide) (fun cq1 => ?_) (fun cq1 => ?_)
    · refine x_iconst (v := (-1)) eX8_least_96 (by decide) ?_
      refine x_iret eX8_least_97 rfl ?_
      exact fin
    · exact absurd cq1 (by omega)
  | succ n ih =>
    intro k rf tk f t hk0 N ht hq
    have k91 : ∀ rf' t' ch' f' t2, rnd g wd ld (nt (g 1)) 0 rf tk false = .inr (rf', t', ch') → t' ≤ tk + nt (g 1) → LsI h y g wd rf' f' t2 → Rn G (d + 4) mX8_least 90 [(0, .ref y), (1, .int (nI t')), (2, .int (nI k))] [] (hoH h (y + 6) f' t2) Q := by
      intro rf' t' ch' f' t2 e ht' N'
      have iw := ih (k + 1) rf' t' f' t2 (by omega) N' (by omega) (fun f t => by
        have := hq f t
        unfold clR at this
        rw [e] at this
        exact this)
      first | refine x_iincN eX8_least_90 rfl (by with_reducible rfl) (by decide) rfl rfl ?_ | refine x_iinc eX8_least_90 rfl rfl (by decide) rfl rfl ?_
      refine x_goto (tgt := 21) eX8_least_93 (by decide) ?_
      refine Rn.weak (iw) (by repeat' first | exact fun _ h => absurd h List.not_mem_nil | refine List.forall_mem_cons.mpr ⟨rfl, ?_⟩)
    have w := l_X8_least1 (G := G) (d := d) (Q := Q) (k := k) C I O rfl (nt (g 1)) 0 rf tk false f t (by omega) N (by omega) (fun t' f t e => by
      have := hq f t
      unfold clR at this
      rw [e] at this
      exact this) k91
    refine x_iload_n eX8_least_21 rfl rfl ?_
    refine x_iconst (v := nI 3) eX8_least_22 (by decide) ?_
    first | refine x_icmp_geN (tgt := 96) eX8_least_23 (by decide) (by with_reducible rfl) (by with_reducible rfl) (by omega) (by omega) (fun cq1 => ?_) (fun cq1 => ?_) | refine x_icmp_ge (tgt := 96) eX8_least_23 (by decide) (fun cq1 => ?_) (fun cq1 => ?_)
    · exact absurd cq1 (by omega)
    · refine x_iconst (v := nI 0) eX8_least_26 (by decide) ?_
      refine x_istore_n eX8_least_27 rfl (by decide) rfl rfl ?_
      refine Rn.weak (w) (by repeat' first | exact fun _ h => absurd h List.not_mem_nil | refine List.forall_mem_cons.mpr ⟨rfl, ?_⟩)
set_option maxRecDepth 100000 in
set_option maxHeartbeats 4000000 in
theorem c_X8_least (C : Core ow h y g ld wd) (K : Acts ow h y g kp nx ps) (I : GI g) (O : OS g) (hq : ∀ h2, Ps G y ow h g ld wd kp nx ps h2 → Q (some (.int (lstV g wd ld (fun s => sl g s 10)))) h2) : Rn G (d + 4) mX8_least 0 [(0, .ref y)] [] h Q := by
  obtain ⟨spk, r0, r1, k4, n4, k5, n5, k3, r2, k6, n6⟩ := C.spk
  have s1 := C.2.1.1.1
  have s4 := C.2.1.1.2.2.2.1
  have W := I.gw
  have h10 := W.2.1.2.2
  have hl : ∀ s n, n < nt (sl g s 12) → ¬ sl g s (13 + n) = -1 := fun s n hn2 => by
    by_cases hs : s < nt (g 1)
    · have q := (I.2.2.1 s hs).2.2.2.2.2.2.1 n hn2
      rw [q.1]
      exact nI_m1 (by have := q.2.2; have := (W.2.2.2 s hs).2.1.2.2; omega)
    · have z : sl g s 12 = 0 := I.2.2.2.2.2 _ (by omega)
      rw [z, show nt (0 : Int32) = 0 from nt_nI (n := 0) (by omega)] at hn2
      omega
  have cnt3 : ∀ a, a < nt (g 1) → ¬ sl g a 11 = 0 → cntA g a (sl g a 10) ≤ 3 := fun a ha _ => by
    have := cntN_le (fun n => decide (sl g a 10 < sl g a (13 + n))) (nt (sl g a 12))
    have := (W.2.2.2 a ha).2.2.2.2.2.2.2.2.2.2.1.2.2
    unfold cntA
    omega
  first | refine x_aload_n eX8_least_0 rfl rfl ?_ | refine x_aload_nN eX8_least_0 rfl rfl ?_
  refine x_callV0 eX8_least_1 lk_X8_305 (by assumption) (Nat.le_of_ble_eq_true rfl) (Nat.le_of_ble_eq_true rfl) ?_
  refine Rn.deep (c_X8_hoistAll (d := d) C I O (fun f t N _ => ?_)) (by omega)
  have p := fun f t => hq _ (Ps.ho (f := f) (t := t) C K I.gw)
  have s12 : hk (hoH h (y + 6) f t) y = 7 := s1
  have s42 : hr (hoH h (y + 6) f t) y 4 = some (y + 3) := s4
  have k32 : hk (hoH h (y + 6) f t) (y + 3) = 6 := k3
  first | refine x_aload_n eX8_least_4 rfl rfl ?_ | refine x_aload_nN eX8_least_4 rfl rfl ?_
  first | refine x_getR eX8_least_5 fk_X8_31 rfl (by assumption) (by assumption) ?_ | refine x_getN eX8_least_5 fk_X8_31 rfl (by assumption) (by assumption) ?_
  refine x_callV0 eX8_least_8 lk_X8_312 (by assumption) (Nat.le_of_ble_eq_true rfl) (Nat.le_of_ble_eq_true rfl) ?_
  refine Rn.deep (brk_eq (d := d) C W N.1 (fun _ => ?_)) (by omega)
  refine x_iconst (v := (-1)) eX8_least_11 (by decide) ?_
  first | refine x_icmp_neN (tgt := 17) eX8_least_12 (by decide) (by with_reducible rfl) (by with_reducible rfl) (by omega) (by omega) (fun cq1 => ?_) (fun cq1 => ?_) | refine x_icmp_ne (tgt := 17) eX8_least_12 (by decide) (fun cq1 => ?_) (fun cq1 => ?_)
  · have p2 : ∀ f t, Q (some (.int (clR g wd ld 3 (fun s => sl g s 10) 0))) (hoH h (y + 6) f t) := fun f t => by
      have := p f t
      unfold lstV at this
      rw [if_neg cq1, ← clR_lst g wd ld hl 3 _ 0 cnt3] at this
      exact this
    have w := l_X8_least0 (G := G) (d := d) (Q := Q) C I O 3 0 (fun s => sl g s 10) 0 f t (by omega) ⟨N.1, fun s a hs ha h3 => N.2 s a hs ha h3, fun s hs => (W.2.2.2 s hs).2.2.2.2.2.2.2.2.1⟩ (by omega) p2
    refine x_iconst (v := nI 0) eX8_least_17 (by decide) ?_
    refine x_istore_n eX8_least_18 rfl (by decide) rfl rfl ?_
    refine x_iconst (v := nI 0) eX8_least_19 (by decide) ?_
    refine x_istore_n eX8_least_20 rfl (by decide) rfl rfl ?_
    refine Rn.weak (w) (by repeat' first | exact fun _ h => absurd h List.not_mem_nil | refine List.forall_mem_cons.mpr ⟨rfl, ?_⟩)
  · have p3 := p f t
    unfold lstV at p3
    rw [if_pos cq1] at p3
    refine x_iconst (v := nI 0) eX8_least_15 (by decide) ?_
    refine x_iret eX8_least_16 rfl ?_
    exact p3
end LEAST2

