/-! ===== the reference: the mast ===== -/
def sumL (f : Nat → Int64) (a : Nat) : Nat → Int64
  | 0 => 0
  | n + 1 => sumL f a n + f (a + n)
/-- what the wind does to strip y of sail s -/
def pyV (g wd : Nat → Int32) (s y : Nat) : Int64 := if y < nt (sl g s 5) then (stp g s y).toInt64 * (wd y).toInt64 else 0
def frV (r k : Nat) : Nat := if k - 1 < r then r else k - 1
def p1V (g wd rf : Nat → Int32) (s k : Nat) : Int64 := if sl g s 11 = 0 then 0 else sumL (pyV g wd s) (frV (nt (rf s)) k) (k + 1 - frV (nt (rf s)) k)
def pshV (g wd rf : Nat → Int32) (k : Nat) : Int64 := sumL (fun s => p1V g wd rf s k) 0 (nt (g 1))
/-- the first place that breaks -/
def brkN (g wd rf ld : Nat → Int32) : Option Nat := fstN (fun k => decide (4 * (ld k).toInt64 < pshV g wd rf k)) 61
def brkV (g wd rf ld : Nat → Int32) : Int32 := match brkN g wd rf ld with
  | none => -1
  | some k => nI k
set_option maxRecDepth 100000 in
set_option maxHeartbeats 4000000 in
theorem brk_none {g wd rf ld : Nat → Int32} (h : ∀ j, j < 61 → decide (4 * (ld j).toInt64 < pshV g wd rf j) = false) : brkV g wd rf ld = -1 := by
  have e : brkN g wd rf ld = none := fstN_none (n := 61) h
  unfold brkV
  rw [e]
set_option maxRecDepth 100000 in
set_option maxHeartbeats 4000000 in
theorem brk_some {g wd rf ld : Nat → Int32} {k : Nat} (hk : k < 61) (h1 : 4 * (ld k).toInt64 < pshV g wd rf k) (h : ∀ j, j < k → decide (4 * (ld j).toInt64 < pshV g wd rf j) = false) : brkV g wd rf ld = nI k := by
  have e : brkN g wd rf ld = some k := fstN_some (n := 61) (P := fun k => decide (4 * (ld k).toInt64 < pshV g wd rf k)) (decide_eq_true h1) h hk
  unfold brkV
  rw [e]
/-- the reefs as they are, in the reference's scratch -/
def asF (F : Nat → Nat → Int32) (x n : Nat) : Nat → Nat → Int32 := fun a j => if a = x + 9 ∧ j < n then sl (F (x + 1)) j 10 else F a j
set_option maxRecDepth 100000 in
set_option maxHeartbeats 4000000 in
theorem asF_0 (F : Nat → Nat → Int32) (x : Nat) : asF F x 0 = F := by
  funext a j
  exact if_neg (by omega)
set_option maxRecDepth 100000 in
set_option maxHeartbeats 4000000 in
theorem asF_s (F : Nat → Nat → Int32) (x n : Nat) : up2 (asF F x n) (x + 9) n (sl (F (x + 1)) n 10) = asF F x (n + 1) := by
  funext a j
  unfold up2 asF
  by_cases z : a = x + 9 ∧ j = n
  · rw [if_pos z, if_pos (by omega), z.2]
  · rw [if_neg z]
    by_cases y : a = x + 9 ∧ j < n
    · rw [if_pos y, if_pos (by omega)]
    · rw [if_neg y, if_neg (by omega)]
set_option maxRecDepth 100000 in
set_option maxHeartbeats 4000000 in
theorem asF_ne (F : Nat → Nat → Int32) {x n a : Nat} (h : a ≠ x + 9) : asF F x n a = F a := by
  funext j
  exact if_neg (fun z => h z.1)
set_option maxRecDepth 100000 in
set_option maxHeartbeats 4000000 in
theorem frV_eq {r k : Nat} (hr : r ≤ 60) (hk : k ≤ 60) : (if nI k - nI 1 < nI r then nI r else nI k - nI 1) = nI (frV r k) := by
  unfold frV
  rcases Nat.eq_zero_or_pos k with z | z
  · subst z
    have h1 : nI 0 - nI 1 < nI r := by
      have e : (nI 0 - nI 1).toInt = -1 := by decide
      rw [Int32.lt_iff_toInt_lt, e, nI_toInt (by omega)]
      omega
    rw [if_pos h1]
    by_cases y : 0 - 1 < r
    · rw [if_pos y]
    · rw [if_neg y, show r = 0 - 1 by omega]
  · rw [pk_sub z]
    by_cases y : k - 1 < r
    · rw [if_pos ((nI_ltI (by omega) (by omega)).mpr y), if_pos y]
    · rw [if_neg (fun w => y ((nI_ltI (by omega) (by omega)).mp w)), if_neg y]
set_option maxRecDepth 100000 in
set_option maxHeartbeats 4000000 in
theorem lg_le (a b : Int64) : lg_cmp a b ≤ 0 ↔ ¬ b < a := by
  unfold lg_cmp
  by_cases z : a > b
  · rw [if_pos z]
    exact ⟨fun y => absurd y (by decide), fun y => absurd z y⟩
  · rw [if_neg z]
    refine ⟨fun _ => z, fun _ => ?_⟩
    split <;> decide
section REF14
variable {G : GG} {d : Nat} {h : AH} {Q : Option Value → AH → Prop} {x la kp : Nat}
set_option maxRecDepth 100000 in
set_option maxHeartbeats 4000000 in
theorem l_X9_asTheyAre {ns : Nat} (M : MD h x) (h10 : ns ≤ 10) (w1 : hi h (x + 1) 1 = nI ns) (hq : Q none (setI h (asF (hi h) x ns))) : ∀ n k, k + n = ns → Rn G (d + 1) mX9_asTheyAre 2 [(0, .ref x), (1, .int (nI k))] [] (setI h (asF (hi h) x k)) Q := by
  intro n
  induction n with
  | zero =>
    intro k hk0
    have e : k = ns := by omega
    subst e
    have M2 : MD (setI h (asF (hi h) x k)) x := M
    obtain ⟨⟨hx, hS, kS, nS⟩, -⟩ := id M2
    have e1 : hi (setI h (asF (hi h) x k)) (x + 1) 1 = nI k := by
      show asF (hi h) x k (x + 1) 1 = _
      rw [asF_ne _ (by omega), w1]
    refine x_iload_n eX9_asTheyAre_2 rfl rfl ?_
    first | refine x_aload_n eX9_asTheyAre_3 rfl rfl ?_ | refine x_aload_nN eX9_asTheyAre_3 rfl rfl ?_
    first | refine x_getR eX9_asTheyAre_4 fk_X9_7 rfl (by assumption) (by assumption) ?_ | refine x_getN eX9_asTheyAre_4 fk_X9_7 rfl (by assumption) (by assumption) ?_
    refine x_iconst (v := nI 1) eX9_asTheyAre_7 (by decide) ?_
    first | refine x_ialdN eX9_asTheyAre_8 (by with_reducible rfl) (by assumption) (by assumption) (by omega) (by omega) ?_ | refine x_sldN eX9_asTheyAre_8 (by with_reducible rfl) (by assumption) (by assumption) (by omega) (by omega) ?_ | refine x_iald eX9_asTheyAre_8 (by assumption) (by assumption) ?_
    rw [e1]
    first | refine x_icmp_geN (tgt := 31) eX9_asTheyAre_9 (by decide) (by with_reducible rfl) (by with_reducible rfl) (by omega) (by omega) (fun cq1 => ?_) (fun cq1 => ?_) | refine x_icmp_ge (tgt := 31) eX9_asTheyAre_9 (by decide) (fun cq1 => ?_) (fun cq1 => ?_)
    · refine x_ret (rt := none) eX9_asTheyAre_31 rfl ?_
      exact hq
    · exact absurd cq1 (by omega)
  | succ n ih =>
    intro k hk0
    have M2 : MD (setI h (asF (hi h) x k)) x := M
    obtain ⟨⟨hx, hS, kS, nS⟩, -, -, -, -, -, -, -, ⟨h9, k9, n9⟩⟩ := id M2
    have e1 : hi (setI h (asF (hi h) x k)) (x + 1) 1 = nI ns := by
      show asF (hi h) x k (x + 1) 1 = _
      rw [asF_ne _ (by omega), w1]
    refine x_iload_n eX9_asTheyAre_2 rfl rfl ?_
    first | refine x_aload_n eX9_asTheyAre_3 rfl rfl ?_ | refine x_aload_nN eX9_asTheyAre_3 rfl rfl ?_
    first | refine x_getR eX9_asTheyAre_4 fk_X9_7 rfl (by assumption) (by assumption) ?_ | refine x_getN eX9_asTheyAre_4 fk_X9_7 rfl (by assumption) (by assumption) ?_
    refine x_iconst (v := nI 1) eX9_asTheyAre_7 (by decide) ?_
    first | refine x_ialdN eX9_asTheyAre_8 (by with_reducible rfl) (by assumption) (by assumption) (by omega) (by omega) ?_ | refine x_sldN eX9_asTheyAre_8 (by with_reducible rfl) (by assumption) (by assumption) (by omega) (by omega) ?_ | refine x_iald eX9_asTheyAre_8 (by assumption) (by assumption) ?_
    rw [e1]
    first | refine x_icmp_geN (tgt := 31) eX9_asTheyAre_9 (by decide) (by with_reducible rfl) (by with_reducible rfl) (by omega) (by omega) (fun cq1 => ?_) (fun cq1 => ?_) | refine x_icmp_ge (tgt := 31) eX9_asTheyAre_9 (by decide) (fun cq1 => ?_) (fun cq1 => ?_)
    · exact absurd cq1 (by omega)
    · first | refine x_aload_n eX9_asTheyAre_12 rfl rfl ?_ | refine x_aload_nN eX9_asTheyAre_12 rfl rfl ?_
      first | refine x_getR eX9_asTheyAre_13 fk_X9_36 rfl (by assumption) (by assumption) ?_ | refine x_getN eX9_asTheyAre_13 fk_X9_36 rfl (by assumption) (by assumption) ?_
      refine x_iload_n eX9_asTheyAre_16 rfl rfl ?_
      first | refine x_aload_n eX9_asTheyAre_17 rfl rfl ?_ | refine x_aload_nN eX9_asTheyAre_17 rfl rfl ?_
      refine x_iload_n eX9_asTheyAre_18 rfl rfl ?_
      refine x_bipush (v := nI 10) eX9_asTheyAre_19 (by decide) ?_
      refine x_callV2 eX9_asTheyAre_21 lk_X9_57 (by assumption) (Nat.le_of_ble_eq_true rfl) (Nat.le_of_ble_eq_true rfl) ?_
      refine Rn.deep (c_X9_sail (d := d) M2.md (by omega) (fun _ => ?_)) (by omega)
      rw [hi_setI, asF_ne _ (by omega)]
      first | refine x_iastN eX9_asTheyAre_24 (by with_reducible rfl) (by assumption) (by assumption) (by omega) (by omega) ?_ | refine x_iast eX9_asTheyAre_24 (by assumption) (by assumption) ?_
      first | refine x_iincN eX9_asTheyAre_25 rfl (by with_reducible rfl) (by decide) rfl rfl ?_ | refine x_iinc eX9_asTheyAre_25 rfl rfl (by decide) rfl rfl ?_
      refine x_goto (tgt := 2) eX9_asTheyAre_28 (by decide) ?_
      rw [setI_wi, asF_s]
      refine Rn.weak (ih (k + 1) (by omega)) (by repeat' first | exact fun _ h => absurd h List.not_mem_nil | refine List.forall_mem_cons.mpr ⟨rfl, ?_⟩)
set_option maxRecDepth 100000 in
set_option maxHeartbeats 4000000 in
theorem c_X9_asTheyAre (M : MD h x) (W : GW (hi h (x + 1))) (hq : Q none (setI h (asF (hi h) x (nt (hi h (x + 1) 1))))) : Rn G (d + 1) mX9_asTheyAre 0 [(0, .ref x)] [] h Q := by
  have w := l_X9_asTheyAre (G := G) (d := d) M W.2.1.2.2 W.2.1.1 hq _ 0 (Nat.zero_add _)
  rw [asF_0, setI_self] at w
  refine x_iconst (v := nI 0) eX9_asTheyAre_0 (by decide) ?_
  refine x_istore_n eX9_asTheyAre_1 rfl (by decide) rfl rfl ?_
  refine Rn.weak (w) (by repeat' first | exact fun _ h => absurd h List.not_mem_nil | refine List.forall_mem_cons.mpr ⟨rfl, ?_⟩)
set_option maxRecDepth 100000 in
set_option maxHeartbeats 4000000 in
theorem l_X9_pushAt1 {s k a r : Nat} {A : Int64} (M : MD h x) (hs : s < 10) (w : SW (hi h (x + 1)) s) (hk6 : k ≤ 60) (kx : Rn G (d + 4) mX9_pushAt 95 [(0, .ref x), (1, .int (nI k)), (2, .long (A + sumL (pyV (hi h (x + 1)) (hi h (x + 4)) s) a (k + 1 - a))), (4, .int (nI s))] [] h Q) : ∀ n j, a + j + n = k + 1 → Rn G (d + 4) mX9_pushAt 45 [(0, .ref x), (1, .int (nI k)), (2, .long (A + sumL (pyV (hi h (x + 1)) (hi h (x + 4)) s) a j)), (4, .int (nI s)), (5, .int (nI (a + j)))] [] h Q := by
  obtain ⟨⟨hx, hS, kS, nS⟩, -, -, ⟨h5, k5, n5⟩, -⟩ := id M
  have w5 := w.h5
  obtain ⟨-, ⟨e5, l5, u5⟩, -⟩ := id w
  intro n
  induction n with
  | zero =>
    intro j hj
    rw [show k + 1 - a = j by omega] at kx
    refine x_iload eX9_pushAt_45 rfl ?_
    refine x_iload_n eX9_pushAt_47 rfl rfl ?_
    first | refine x_icmp_gtN (tgt := 95) eX9_pushAt_48 (by decide) (by with_reducible rfl) (by with_reducible rfl) (by omega) (by omega) (fun cq1 => ?_) (fun cq1 => ?_) | refine x_icmp_gt (tgt := 95) eX9_pushAt_48 (by decide) (fun cq1 => ?_) (fun cq1 => ?_)
    · refine Rn.weak (kx) (by repeat' first | exact fun _ h => absurd h List.not_mem_nil | refine List.forall_mem_cons.mpr ⟨rfl, ?_⟩)
    · exact absurd cq1 (by omega)
  | succ n ih =>
    intro j hj
    refine x_iload eX9_pushAt_45 rfl ?_
    refine x_iload_n eX9_pushAt_47 rfl rfl ?_
    first | refine x_icmp_gtN (tgt := 95) eX9_pushAt_48 (by decide) (by with_reducible rfl) (by with_reducible rfl) (by omega) (by omega) (fun cq1 => ?_) (fun cq1 => ?_) | refine x_icmp_gt (tgt := 95) eX9_pushAt_48 (by decide) (fun cq1 => ?_) (fun cq1 => ?_)
    · exact absurd cq1 (by omega)
    · refine x_iload eX9_pushAt_51 rfl ?_
      refine x_if_lt (tgt := 89) eX9_pushAt_53 (by decide) (fun cq2 => ?_) (fun cq2 => ?_)
      · exact absurd cq2 (nI_pos (by omega))
      · refine x_iload eX9_pushAt_56 rfl ?_
        first | refine x_aload_n eX9_pushAt_58 rfl rfl ?_ | refine x_aload_nN eX9_pushAt_58 rfl rfl ?_
        refine x_iload eX9_pushAt_59 rfl ?_
        refine x_iconst (v := nI 5) eX9_pushAt_61 (by decide) ?_
        refine x_callV2 eX9_pushAt_62 lk_X9_57 (by assumption) (Nat.le_of_ble_eq_true rfl) (Nat.le_of_ble_eq_true rfl) ?_
        refine Rn.deep (c_X9_sail (d := d) M.md (by omega) (fun _ => ?_)) (by omega)
        rw [e5]
        first | refine x_icmp_geN (tgt := 89) eX9_pushAt_65 (by decide) (by with_reducible rfl) (by with_reducible rfl) (by omega) (by omega) (fun cq3 => ?_) (fun cq3 => ?_) | refine x_icmp_ge (tgt := 89) eX9_pushAt_65 (by decide) (fun cq3 => ?_) (fun cq3 => ?_)
        · have iw := ih (j + 1) (by omega)
          rw [sumL, pyV, if_neg (by omega), Int64.add_zero] at iw
          first | refine x_iincN eX9_pushAt_89 rfl (by with_reducible rfl) (by decide) rfl rfl ?_ | refine x_iinc eX9_pushAt_89 rfl rfl (by decide) rfl rfl ?_
          refine x_goto (tgt := 45) eX9_pushAt_92 (by decide) ?_
          refine Rn.weak (iw) (by repeat' first | exact fun _ h => absurd h List.not_mem_nil | refine List.forall_mem_cons.mpr ⟨rfl, ?_⟩)
        · have hy : a + j < nt (sl (hi h (x + 1)) s 5) := by omega
          have iw := ih (j + 1) (by omega)
          rw [sumL, pyV, if_pos hy, ← Int64.add_assoc] at iw
          refine x_lload_n eX9_pushAt_68 rfl rfl ?_
          first | refine x_aload_n eX9_pushAt_69 rfl rfl ?_ | refine x_aload_nN eX9_pushAt_69 rfl rfl ?_
          refine x_iload eX9_pushAt_70 rfl ?_
          refine x_iload eX9_pushAt_72 rfl ?_
          refine x_callV2 eX9_pushAt_74 lk_X9_114 (by assumption) (Nat.le_of_ble_eq_true rfl) (Nat.le_of_ble_eq_true rfl) ?_
          refine c_X9_strip (y := a + j) M.md hs (by omega) w5 (fun _ => ?_)
          refine x_i2l eX9_pushAt_77 ?_
          first | refine x_aload_n eX9_pushAt_78 rfl rfl ?_ | refine x_aload_nN eX9_pushAt_78 rfl rfl ?_
          first | refine x_getR eX9_pushAt_79 fk_X9_20 rfl (by assumption) (by assumption) ?_ | refine x_getN eX9_pushAt_79 fk_X9_20 rfl (by assumption) (by assumption) ?_
          refine x_iload eX9_pushAt_82 rfl ?_
          first | refine x_ialdN eX9_pushAt_84 (by with_reducible rfl) (by assumption) (by assumption) (by omega) (by omega) ?_ | refine x_sldN eX9_pushAt_84 (by with_reducible rfl) (by assumption) (by assumption) (by omega) (by omega) ?_ | refine x_iald eX9_pushAt_84 (by assumption) (by assumption) ?_
          refine x_i2l eX9_pushAt_85 ?_
          refine x_lmul eX9_pushAt_86 ?_
          refine x_ladd eX9_pushAt_87 ?_
          refine x_lstore_n eX9_pushAt_88 rfl (by decide) rfl rfl rfl ?_
          first | refine x_iincN eX9_pushAt_89 rfl (by with_reducible rfl) (by decide) rfl rfl ?_ | refine x_iinc eX9_pushAt_89 rfl rfl (by decide) rfl rfl ?_
          refine x_goto (tgt := 45) eX9_pushAt_92 (by decide) ?_
          refine Rn.weak (iw) (by repeat' first | exact fun _ h => absurd h List.not_mem_nil | refine List.forall_mem_cons.mpr ⟨rfl, ?_⟩)
set_option maxRecDepth 100000 in
set_option maxHeartbeats 4000000 in
theorem l_X9_pushAt0 {k ns : Nat} (M : MD h x) (W : GW (hi h (x + 1))) (hk6 : k ≤ 60) (hns : nt (hi h (x + 1) 1) = ns) (hR : ∀ s, s < ns → isN (hi h (x + 9) s) 0 60) (hq : Q (some (.long (sumL (fun s => p1V (hi h (x + 1)) (hi h (x + 4)) (hi h (x + 9)) s k) 0 ns))) h) : ∀ n s, s + n = ns → Rn G (d + 4) mX9_pushAt 5 [(0, .ref x), (1, .int (nI k)), (2, .long (sumL (fun s => p1V (hi h (x + 1)) (hi h (x + 4)) (hi h (x + 9)) s k) 0 s)), (4, .int (nI s))] [] h Q := by
  obtain ⟨⟨hx, hS, kS, nS⟩, -, -, -, -, -, -, -, ⟨h9, k9, n9⟩⟩ := id M
  obtain ⟨w1, -, h10⟩ := W.2.1
  rw [hns] at w1 h10
  intro n
  induction n with
  | zero =>
    intro s hs0
    have e : s = ns := by omega
    subst e
    refine x_iload eX9_pushAt_5 rfl ?_
    first | refine x_aload_n eX9_pushAt_7 rfl rfl ?_ | refine x_aload_nN eX9_pushAt_7 rfl rfl ?_
    first | refine x_getR eX9_pushAt_8 fk_X9_7 rfl (by assumption) (by assumption) ?_ | refine x_getN eX9_pushAt_8 fk_X9_7 rfl (by assumption) (by assumption) ?_
    refine x_iconst (v := nI 1) eX9_pushAt_11 (by decide) ?_
    first | refine x_ialdN eX9_pushAt_12 (by with_reducible rfl) (by assumption) (by assumption) (by omega) (by omega) ?_ | refine x_sldN eX9_pushAt_12 (by with_reducible rfl) (by assumption) (by assumption) (by omega) (by omega) ?_ | refine x_iald eX9_pushAt_12 (by assumption) (by assumption) ?_
    rw [w1]
    first | refine x_icmp_geN (tgt := 101) eX9_pushAt_13 (by decide) (by with_reducible rfl) (by with_reducible rfl) (by omega) (by omega) (fun cq1 => ?_) (fun cq1 => ?_) | refine x_icmp_ge (tgt := 101) eX9_pushAt_13 (by decide) (fun cq1 => ?_) (fun cq1 => ?_)
    · refine x_lload_n eX9_pushAt_101 rfl rfl ?_
      refine x_lret eX9_pushAt_102 rfl ?_
      exact hq
    · exact absurd cq1 (by omega)
  | succ n ih =>
    intro s hs0
    have sw := W.2.2.2 s (by omega)
    have iw := ih (s + 1) (by omega)
    rw [sumL, Nat.zero_add] at iw
    obtain ⟨er, lr, ur⟩ := hR s (by omega)
    refine x_iload eX9_pushAt_5 rfl ?_
    first | refine x_aload_n eX9_pushAt_7 rfl rfl ?_ | refine x_aload_nN eX9_pushAt_7 rfl rfl ?_
    first | refine x_getR eX9_pushAt_8 fk_X9_7 rfl (by assumption) (by assumption) ?_ | refine x_getN eX9_pushAt_8 fk_X9_7 rfl (by assumption) (by assumption) ?_
    refine x_iconst (v := nI 1) eX9_pushAt_11 (by decide) ?_
    first | refine x_ialdN eX9_pushAt_12 (by with_reducible rfl) (by assumption) (by assumption) (by omega) (by omega) ?_ | refine x_sldN eX9_pushAt_12 (by with_reducible rfl) (by assumption) (by assumption) (by omega) (by omega) ?_ | refine x_iald eX9_pushAt_12 (by assumption) (by assumption) ?_
    rw [w1]
    first | refine x_icmp_geN (tgt := 101) eX9_pushAt_13 (by decide) (by with_reducible rfl) (by with_reducible rfl) (by omega) (by omega) (fun cq1 => ?_) (fun cq1 => ?_) | refine x_icmp_ge (tgt := 101) eX9_pushAt_13 (by decide) (fun cq1 => ?_) (fun cq1 => ?_)
    · exact absurd cq1 (by omega)
    · first | refine x_aload_n eX9_pushAt_16 rfl rfl ?_ | refine x_aload_nN eX9_pushAt_16 rfl rfl ?_
      refine x_iload eX9_pushAt_17 rfl ?_
      refine x_bipush (v := nI 11) eX9_pushAt_19 (by decide) ?_
      refine x_callV2 eX9_pushAt_21 lk_X9_57 (by assumption) (Nat.le_of_ble_eq_true rfl) (Nat.le_of_ble_eq_true rfl) ?_
      refine Rn.deep (c_X9_sail (d := d) M.md (by omega) (fun _ => ?_)) (by omega)
      first | refine x_if_neB (tgt := 30) eX9_pushAt_24 (by decide) (by with_reducible rfl) (fun cq2 => ?_) (fun cq2 => ?_) | refine x_if_ne (tgt := 30) eX9_pushAt_24 (by decide) (fun cq2 => ?_) (fun cq2 => ?_)
      · have c2 : ¬ sl (hi h (x + 1)) s 11 = 0 := cq2
        refine x_iload_n eX9_pushAt_30 rfl rfl ?_
        refine x_iconst (v := nI 1) eX9_pushAt_31 (by decide) ?_
        first | refine x_isubN eX9_pushAt_32 (by with_reducible rfl) (by with_reducible rfl) (by omega) ?_ | refine x_isub eX9_pushAt_32 ?_
        first | refine x_aload_n eX9_pushAt_33 rfl rfl ?_ | refine x_aload_nN eX9_pushAt_33 rfl rfl ?_
        first | refine x_getR eX9_pushAt_34 fk_X9_36 rfl (by assumption) (by assumption) ?_ | refine x_getN eX9_pushAt_34 fk_X9_36 rfl (by assumption) (by assumption) ?_
        refine x_iload eX9_pushAt_37 rfl ?_
        first | refine x_ialdN eX9_pushAt_39 (by with_reducible rfl) (by assumption) (by assumption) (by omega) (by omega) ?_ | refine x_sldN eX9_pushAt_39 (by with_reducible rfl) (by assumption) (by assumption) (by omega) (by omega) ?_ | refine x_iald eX9_pushAt_39 (by assumption) (by assumption) ?_
        rw [er]
        have hfr : frV (nt (hi h (x + 9) s)) k ≤ k + 1 ∨ k + 1 < frV (nt (hi h (x + 9) s)) k := by omega
        rw [p1V, if_neg c2] at iw
        refine x_max eX9_pushAt_40 lk_X9_127 (Nat.le_of_ble_eq_true rfl) ?_
        refine x_istore eX9_pushAt_43 (by decide) rfl rfl ?_
        rw [frV_eq ur hk6]
        have k95 : Rn G (d + 4) mX9_pushAt 95 [(0, .ref x), (1, .int (nI k)), (2, .long (sumL (fun s => p1V (hi h (x + 1)) (hi h (x + 4)) (hi h (x + 9)) s k) 0 s + sumL (pyV (hi h (x + 1)) (hi h (x + 4)) s) (frV (nt (hi h (x + 9) s)) k) (k + 1 - frV (nt (hi h (x + 9) s)) k))), (4, .int (nI s))] [] h Q := by
          first | refine x_iincN eX9_pushAt_95 rfl (by with_reducible rfl) (by decide) rfl rfl ?_ | refine x_iinc eX9_pushAt_95 rfl rfl (by decide) rfl rfl ?_
          refine x_goto (tgt := 5) eX9_pushAt_98 (by decide) ?_
          refine Rn.weak (iw) (by repeat' first | exact fun _ h => absurd h List.not_mem_nil | refine List.forall_mem_cons.mpr ⟨rfl, ?_⟩)
        rcases hfr with hfr | hfr
        · have ww := l_X9_pushAt1 (G := G) (d := d) (Q := Q) (s := s) (k := k) (a := frV (nt (hi h (x + 9) s)) k) (r := 0) (A := sumL (fun s => p1V (hi h (x + 1)) (hi h (x + 4)) (hi h (x + 9)) s k) 0 s) M (by omega) sw hk6 k95 (k + 1 - frV (nt (hi h (x + 9) s)) k) 0 (by omega)
          rw [show sumL (pyV (hi h (x + 1)) (hi h (x + 4)) s) (frV (nt (hi h (x + 9) s)) k) 0 = 0 from rfl, Int64.add_zero] at ww
          refine Rn.weak (ww) (by repeat' first | exact fun _ h => absurd h List.not_mem_nil | refine List.forall_mem_cons.mpr ⟨rfl, ?_⟩)
        · have hfr6 : frV (nt (hi h (x + 9) s)) k ≤ 60 := by unfold frV; split <;> omega
          rw [show k + 1 - frV (nt (hi h (x + 9) s)) k = 0 by omega, show sumL (pyV (hi h (x + 1)) (hi h (x + 4)) s) (frV (nt (hi h (x + 9) s)) k) 0 = 0 from rfl, Int64.add_zero] at k95
          refine x_iload eX9_pushAt_45 rfl ?_
          refine x_iload_n eX9_pushAt_47 rfl rfl ?_
          first | refine x_icmp_gtN (tgt := 95) eX9_pushAt_48 (by decide) (by with_reducible rfl) (by with_reducible rfl) (by omega) (by omega) (fun cq1 => ?_) (fun cq1 => ?_) | refine x_icmp_gt (tgt := 95) eX9_pushAt_48 (by decide) (fun cq1 => ?_) (fun cq1 => ?_)
          · refine Rn.weak (k95) (by repeat' first | exact fun _ h => absurd h List.not_mem_nil | refine List.forall_mem_cons.mpr ⟨rfl, ?_⟩)
          · exact absurd cq1 (by omega)
      · have c2 : sl (hi h (x + 1)) s 11 = 0 := cq2
        rw [p1V, if_pos c2, Int64.add_zero] at iw
        refine x_goto (tgt := 95) eX9_pushAt_27 (by decide) ?_
        first | refine x_iincN eX9_pushAt_95 rfl (by with_reducible rfl) (by decide) rfl rfl ?_ | refine x_iinc eX9_pushAt_95 rfl rfl (by decide) rfl rfl ?_
        refine x_goto (tgt := 5) eX9_pushAt_98 (by decide) ?_
        refine Rn.weak (iw) (by repeat' first | exact fun _ h => absurd h List.not_mem_nil | refine List.forall_mem_cons.mpr ⟨rfl, ?_⟩)
set_option maxRecDepth 100000 in
set_option maxHeartbeats 4000000 in
theorem c_X9_pushAt {k : Nat} (M : MD h x) (W : GW (hi h (x + 1))) (hk6 : k ≤ 60) (hR : ∀ s, s < nt (hi h (x + 1) 1) → isN (hi h (x + 9) s) 0 60) (hq : Q (some (.long (pshV (hi h (x + 1)) (hi h (x + 4)) (hi h (x + 9)) k))) h) : Rn G (d + 4) mX9_pushAt 0 [(0, .ref x), (1, .int (nI k))] [] h Q := by
  refine x_lconst (v := 0) eX9_pushAt_0 (by decide) ?_
  refine x_lstore_n eX9_pushAt_1 rfl (by decide) rfl rfl rfl ?_
  refine x_iconst (v := nI 0) eX9_pushAt_2 (by decide) ?_
  refine x_istore eX9_pushAt_3 (by decide) rfl rfl ?_
  refine Rn.weak (l_X9_pushAt0 M W hk6 rfl hR hq _ 0 (Nat.zero_add _)) (by repeat' first | exact fun _ h => absurd h List.not_mem_nil | refine List.forall_mem_cons.mpr ⟨rfl, ?_⟩)
set_option maxRecDepth 100000 in
set_option maxHeartbeats 4000000 in
theorem l_X9_firstBreak (M : MD h x) (W : GW (hi h (x + 1))) (hR : ∀ s, s < nt (hi h (x + 1) 1) → isN (hi h (x + 9) s) 0 60) (hq : Q (some (.int (brkV (hi h (x + 1)) (hi h (x + 4)) (hi h (x + 9)) (hi h (x + 3))))) h) : ∀ n k, k + n = 61 → (∀ j, j < k → decide (4 * (hi h (x + 3) j).toInt64 < pshV (hi h (x + 1)) (hi h (x + 4)) (hi h (x + 9)) j) = false) → Rn G (d + 5) mX9_firstBreak 2 [(0, .ref x), (1, .int (nI k))] [] h Q := by
  obtain ⟨⟨hx, hS, kS, nS⟩, -, ⟨h4, k4, n4⟩, -⟩ := id M
  intro n
  induction n with
  | zero =>
    intro k hk0 hall
    refine x_iload_n eX9_firstBreak_2 rfl rfl ?_
    refine x_bipush (v := nI 60) eX9_firstBreak_3 (by decide) ?_
    first | refine x_icmp_gtN (tgt := 36) eX9_firstBreak_5 (by decide) (by with_reducible rfl) (by with_reducible rfl) (by omega) (by omega) (fun cq1 => ?_) (fun cq1 => ?_) | refine x_icmp_gt (tgt := 36) eX9_firstBreak_5 (by decide) (fun cq1 => ?_) (fun cq1 => ?_)
    · refine x_iconst (v := (-1)) eX9_firstBreak_36 (by decide) ?_
      refine x_iret eX9_firstBreak_37 rfl ?_
      exact qi hq (brk_none (fun j hj => hall j (by omega))).symm
    · exact absurd cq1 (by omega)
  | succ n ih =>
    intro k hk0 hall
    refine x_iload_n eX9_firstBreak_2 rfl rfl ?_
    refine x_bipush (v := nI 60) eX9_firstBreak_3 (by decide) ?_
    first | refine x_icmp_gtN (tgt := 36) eX9_firstBreak_5 (by decide) (by with_reducible rfl) (by with_reducible rfl) (by omega) (by omega) (fun cq1 => ?_) (fun cq1 => ?_) | refine x_icmp_gt (tgt := 36) eX9_firstBreak_5 (by decide) (fun cq1 => ?_) (fun cq1 => ?_)
    · exact absurd cq1 (by omega)
    · first | refine x_aload_n eX9_firstBreak_8 rfl rfl ?_ | refine x_aload_nN eX9_firstBreak_8 rfl rfl ?_
      refine x_iload_n eX9_firstBreak_9 rfl rfl ?_
      refine x_callV1 eX9_firstBreak_10 lk_X9_170 (by assumption) (Nat.le_of_ble_eq_true rfl) (Nat.le_of_ble_eq_true rfl) ?_
      refine c_X9_pushAt M W (by omega) hR (fun _ => ?_)
      refine x_ldc2 (v := 4) eX9_firstBreak_13 kk_X9_174 ?_
      first | refine x_aload_n eX9_firstBreak_16 rfl rfl ?_ | refine x_aload_nN eX9_firstBreak_16 rfl rfl ?_
      first | refine x_getR eX9_firstBreak_17 fk_X9_17 rfl (by assumption) (by assumption) ?_ | refine x_getN eX9_firstBreak_17 fk_X9_17 rfl (by assumption) (by assumption) ?_
      refine x_iload_n eX9_firstBreak_20 rfl rfl ?_
      first | refine x_ialdN eX9_firstBreak_21 (by with_reducible rfl) (by assumption) (by assumption) (by omega) (by omega) ?_ | refine x_sldN eX9_firstBreak_21 (by with_reducible rfl) (by assumption) (by assumption) (by omega) (by omega) ?_ | refine x_iald eX9_firstBreak_21 (by assumption) (by assumption) ?_
      refine x_i2l eX9_firstBreak_22 ?_
      refine x_lmul eX9_firstBreak_23 ?_
      refine x_lcmp eX9_firstBreak_24 ?_
      refine x_if_le (tgt := 30) eX9_firstBreak_25 (by decide) (fun cq2 => ?_) (fun cq2 => ?_)
      · have c2 : ¬ 4 * (hi h (x + 3) k).toInt64 < pshV (hi h (x + 1)) (hi h (x + 4)) (hi h (x + 9)) k := (lg_le _ _).mp cq2
        first | refine x_iincN eX9_firstBreak_30 rfl (by with_reducible rfl) (by decide) rfl rfl ?_ | refine x_iinc eX9_firstBreak_30 rfl rfl (by decide) rfl rfl ?_
        refine x_goto (tgt := 2) eX9_firstBreak_33 (by decide) ?_
        refine Rn.weak (ih (k + 1) (by omega) (fun j hj => by by_cases z : j < k; exact hall j z; rw [show j = k by omega]; exact decide_eq_false c2)) (by repeat' first | exact fun _ h => absurd h List.not_mem_nil | refine List.forall_mem_cons.mpr ⟨rfl, ?_⟩)
      · have c2 : 4 * (hi h (x + 3) k).toInt64 < pshV (hi h (x + 1)) (hi h (x + 4)) (hi h (x + 9)) k := Decidable.byContradiction fun z => cq2 ((lg_le _ _).mpr z)
        refine x_iload_n eX9_firstBreak_28 rfl rfl ?_
        refine x_iret eX9_firstBreak_29 rfl ?_
        exact qi hq (brk_some (by omega) c2 hall).symm
set_option maxRecDepth 100000 in
set_option maxHeartbeats 4000000 in
theorem c_X9_firstBreak (M : MD h x) (W : GW (hi h (x + 1))) (hR : ∀ s, s < nt (hi h (x + 1) 1) → isN (hi h (x + 9) s) 0 60) (hq : Q (some (.int (brkV (hi h (x + 1)) (hi h (x + 4)) (hi h (x + 9)) (hi h (x + 3))))) h) : Rn G (d + 5) mX9_firstBreak 0 [(0, .ref x)] [] h Q := by
  refine x_iconst (v := nI 0) eX9_firstBreak_0 (by decide) ?_
  refine x_istore_n eX9_firstBreak_1 rfl (by decide) rfl rfl ?_
  refine Rn.weak (l_X9_firstBreak M W hR hq 61 0 (by omega) (fun j hj => absurd hj (by omega))) (by repeat' first | exact fun _ h => absurd h List.not_mem_nil | refine List.forall_mem_cons.mpr ⟨rfl, ?_⟩)
end REF14

