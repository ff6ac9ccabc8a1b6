/-! ===== push, bears: sums ===== -/
/-- a sail that is open isn't set -/
def OS (g : Nat → Int32) : Prop := ∀ s, s < nt (g 1) → sl g s 0 = 0 → sl g s 11 = 0
def tmV (g wd : Nat → Int32) (s r j : Nat) : Int64 := if sl g s 11 = 0 then 0 else if r ≤ j ∧ j < nt (sl g s 5) then (stp g s j).toInt64 * (wd j).toInt64 else 0
def fcV (g wd rf : Nat → Int32) (j : Nat) : Int64 := sumL (fun s => tmV g wd s (nt (rf s)) j) 0 (nt (g 1))
set_option maxRecDepth 100000 in
set_option maxHeartbeats 4000000 in
theorem sumL_add {f1 f2 : Nat → Int64} {a : Nat} : ∀ {n : Nat}, sumL (fun s => f1 s + f2 s) a n = sumL f1 a n + sumL f2 a n
  | 0 => by
    show (0 : Int64) = 0 + 0
    rw [Int64.add_zero]
  | n + 1 => by
    rw [sumL, sumL, sumL, sumL_add (n := n)]
    ac_rfl
set_option maxRecDepth 100000 in
set_option maxHeartbeats 4000000 in
theorem sumL_eq {f1 f2 : Nat → Int64} {a : Nat} : ∀ {n : Nat}, (∀ s, a ≤ s → s < a + n → f1 s = f2 s) → sumL f1 a n = sumL f2 a n
  | 0, _ => rfl
  | n + 1, h => by rw [sumL, sumL, sumL_eq (n := n) (fun s h1 h2 => h s h1 (by omega)), h (a + n) (by omega) (by omega)]
set_option maxRecDepth 100000 in
set_option maxHeartbeats 4000000 in
theorem sumL_0 {a : Nat} : ∀ {n : Nat}, sumL (fun _ => 0) a n = 0
  | 0 => rfl
  | n + 1 => by rw [sumL, sumL_0 (n := n), Int64.add_zero]
set_option maxRecDepth 100000 in
set_option maxHeartbeats 4000000 in
theorem sumL_up {f1 f2 : Nat → Int64} {k : Nat} {v : Int64} (h : ∀ s, s ≠ k → f1 s = f2 s) (hk : f1 k = f2 k + v) : ∀ {n : Nat}, k < n → sumL f1 0 n = sumL f2 0 n + v
  | 0, hn => by omega
  | n + 1, hn => by
    rw [sumL, sumL, Nat.zero_add]
    by_cases e : k = n
    · subst e
      rw [sumL_eq (f2 := f2) (fun s _ h2 => h s (by omega)), hk]
      ac_rfl
    · rw [sumL_up h hk (n := n) (by omega), h n (by omega)]
      ac_rfl
set_option maxRecDepth 100000 in
set_option maxHeartbeats 4000000 in
theorem p1_eq {g wd rf : Nat → Int32} {s k : Nat} (hH : nt (sl g s 5) ≤ 60) (hk : k ≤ 60) : p1V g wd rf s k = (if k = 0 then 0 else tmV g wd s (nt (rf s)) (k - 1)) + (if k < 60 then tmV g wd s (nt (rf s)) k else 0) := by
  unfold p1V tmV
  by_cases z : sl g s 11 = 0
  · rw [if_pos z, if_pos z, if_pos z]
    by_cases q : k = 0 <;> by_cases q2 : k < 60 <;> simp [q, q2]
  · rw [if_neg z, if_neg z, if_neg z]
    obtain ⟨r, hr⟩ : ∃ r, r = nt (rf s) := ⟨_, rfl⟩
    rw [← hr]
    have py60 : pyV g wd s 60 = 0 := if_neg (by omega)
    have tm : ∀ j, (if r ≤ j ∧ j < nt (sl g s 5) then (stp g s j).toInt64 * (wd j).toInt64 else 0) = if r ≤ j then pyV g wd s j else 0 := fun j => by
      unfold pyV
      by_cases a : r ≤ j
      · by_cases b : j < nt (sl g s 5)
        · rw [if_pos ⟨a, b⟩, if_pos a, if_pos b]
        · rw [if_neg (fun q => b q.2), if_pos a, if_neg b]
      · rw [if_neg (fun q => a q.1), if_neg a]
    rw [tm, tm]
    have last : (if k < 60 then (if r ≤ k then pyV g wd s k else 0) else 0) = if r ≤ k then pyV g wd s k else 0 := by
      by_cases q : k < 60
      · rw [if_pos q]
      · rw [if_neg q, show k = 60 by omega, py60]
        split <;> rfl
    rw [last]
    unfold frV
    by_cases k0 : k = 0
    · subst k0
      by_cases r0 : r = 0
      · subst r0
        rw [if_neg (show ¬ (0 - 1 < 0) by omega), if_pos rfl, if_pos (Nat.le_refl _)]
        show 0 + pyV g wd s (0 - 1 + 0) = _
        rfl
      · rw [if_pos (show 0 - 1 < r by omega), if_pos rfl, if_neg (by omega), show 0 + 1 - r = 0 by omega]
        rfl
    · rw [if_neg k0]
      by_cases a : k - 1 < r
      · rw [if_pos a, if_neg (show ¬ r ≤ k - 1 by omega)]
        by_cases b : r ≤ k
        · rw [if_pos b, show k + 1 - r = 1 by omega]
          show 0 + pyV g wd s (r + 0) = _
          rw [show r + 0 = k by omega]
        · rw [if_neg b, show k + 1 - r = 0 by omega]
          rfl
      · rw [if_neg a, if_pos (show r ≤ k - 1 by omega), if_pos (show r ≤ k by omega), show k + 1 - (k - 1) = 2 by omega]
        show 0 + pyV g wd s (k - 1 + 0) + pyV g wd s (k - 1 + 1) = _
        rw [show k - 1 + 0 = k - 1 by omega, show k - 1 + 1 = k by omega, Int64.zero_add]
set_option maxRecDepth 100000 in
set_option maxHeartbeats 4000000 in
theorem psh_eq {g wd rf : Nat → Int32} {f : Nat → Int64} {k : Nat} (W : GW g) (hk : k ≤ 60) (hf : ∀ j, j < 60 → f j = fcV g wd rf j) : pvV f k = pshV g wd rf k := by
  unfold pvV pshV
  rw [sumL_eq (f2 := fun s => (if k = 0 then 0 else tmV g wd s (nt (rf s)) (k - 1)) + (if k < 60 then tmV g wd s (nt (rf s)) k else 0)) (fun s _ hs => p1_eq (W.2.2.2 s (by omega)).2.1.2.2 hk), sumL_add]
  congr 1
  · by_cases z : k = 0
    · rw [if_pos z]
      rw [sumL_eq (f2 := fun _ => 0) (fun s _ _ => by rw [if_pos z]), sumL_0]
    · rw [if_neg z, hf _ (by omega)]
      unfold fcV
      exact sumL_eq (fun s _ _ => by rw [if_neg z])
  · by_cases z : k < 60
    · rw [if_pos z, hf _ z]
      unfold fcV
      exact sumL_eq (fun s _ _ => by rw [if_pos z])
    · rw [if_neg z]
      rw [sumL_eq (f2 := fun _ => 0) (fun s _ _ => by rw [if_neg z]), sumL_0]
section PUSH
variable {G : GG} {d : Nat} {h h2 : AH} {Q : Option Value → AH → Prop} {ow o2 : Nat → Nat} {y : Nat} {g g2 ld wd : Nat → Int32} {kp nx s a : Nat} {ps : Nat → Nat → Int32} {T : Nat → Prop}
set_option maxRecDepth 100000 in
set_option maxHeartbeats 4000000 in
theorem Core.spk (C : Core ow h y g ld wd) : SpK h (y + 3) (y + 6) ∧ hr h (y + 3) 0 = some (y + 4) ∧ hr h (y + 3) 1 = some (y + 5) ∧ hk h (y + 4) = 20 ∧ hn h (y + 4) = 61 ∧ hk h (y + 5) = 20 ∧ hn h (y + 5) = 60 ∧ hk h (y + 3) = 6 ∧ hr h (y + 3) 2 = some (y + 6) ∧ hk h (y + 6) = 23 ∧ hn h (y + 6) = 60 := by
  obtain ⟨-, ⟨-, -, -, ⟨d1, d2, d3, d4, d5⟩, ⟨e1, e2, e3⟩, ⟨f1, f2, f3⟩, ⟨g1, g2, g3⟩, -⟩, -⟩ := C
  exact ⟨⟨d1, ⟨_, d2, e1, e2⟩, ⟨_, d3, f1, f2⟩, d4, g1, g2⟩, d2, d3, e1, e2, f1, f2, d1, d4, g1, g2⟩
set_option maxRecDepth 100000 in
set_option maxHeartbeats 4000000 in
/-- the class over other forces and tried reefs stands as it was -/
theorem Core.ho {f : Nat → Int64} {t : Nat → Int32} (C : Core ow h y g ld wd) (W : GW g) : Core ow (hoH h (y + 6) f t) y g ld wd ∧ Fr (fun u => u = 8 ∨ (400 ≤ u ∧ u < 410)) ow h ow (hoH h (y + 6) f t) := by
  obtain ⟨C1, C2, C3, C4, C5, C6, ⟨C7, C8⟩, C9⟩ := id C
  obtain ⟨⟨a1, a2, a3, a4, a5, a6⟩, ⟨b1, b2, b3⟩, ⟨c1, c2, c3⟩, ⟨d1, d2, d3, d4, d5⟩, ⟨e1, e2, e3⟩, ⟨f1, f2, f3⟩, ⟨g1, g2, g3⟩, ⟨h1, h2', h3⟩⟩ := id C2
  have h24 := W.1.2.2
  have h10 := W.2.1.2.2
  have F : Fr (fun u => u = 8 ∨ (400 ≤ u ∧ u < 410)) ow h ow (hoH h (y + 6) f t) := fun q q1 q2 => by
    have k4 : hk h q ≠ 4 := fun z => q2 (Or.inr ((C1 q q1).2 z))
    have n6 : q ≠ y + 6 := fun z => q2 (Or.inl (by rw [z]; exact g3))
    exact ⟨rfl, rfl, ho_hi k4, rfl, funext fun j => if_neg n6, rfl⟩
  refine ⟨⟨C1, C2, by rw [ho_k (by decide), ho_k (by decide)]; exact C3, fun i hi => (C4 i hi).fr F (by omega) (by omega) rfl, fun i hi => (C5 i hi).fr F (by omega) (by omega) (by omega) (W.2.2.1 i hi) rfl (fun _ _ => rfl) (fun _ _ => rfl), fun s hs => ?_, ⟨fun k hk => by rw [ho_hi (by rw [e1]; decide)]; exact C7 k hk, fun k hk => by rw [ho_hi (by rw [f1]; decide)]; exact C8 k hk⟩, C9.fr F (fun u h1 h2 z => by omega) rfl⟩, F⟩
  obtain ⟨a, ha, E, Cc, Ll⟩ := C6 s hs
  have w := W.2.2.2 s hs
  have le : LE g g s := ⟨rfl, fun i _ => ⟨⟨fun _ _ _ => rfl, fun _ _ _ => rfl, rfl, rfl, rfl⟩, rfl, rfl⟩⟩
  exact ⟨a, ha, E.fr2 F (by omega) (by omega) (by omega) (by omega) E.1 E.2.1 rfl rfl (ho_k (by decide)) w ⟨fun _ _ _ => rfl, fun _ _ _ => rfl⟩, Cc.mod F (by omega) (by omega) (fun i hi => by omega) w le ⟨fun _ _ _ => rfl, fun _ _ _ => rfl⟩ (fun _ _ => rfl) rfl rfl (by rw [ho_k (by decide)]; exact Cc.1) (by rw [ho_k (by decide)]; exact Cc.2.1) (by rw [ho_k (by decide)]; exact Cc.2.2.1) Iff.rfl, Ll.mod F (by omega) w rfl (by rw [ho_k (by decide)]; exact Ll.1) (by rw [ho_k (by decide)]; exact Ll.2.1) (ho_k (by decide)) (fun _ _ _ => rfl)⟩
/-- forces as the reefs rf have them, of the first k sails -/
def HoI (h : AH) (y : Nat) (g wd rf : Nat → Int32) (k : Nat) (f : Nat → Int64) (t : Nat → Int32) : Prop := (∀ j, j < 60 → f j = sumL (fun s => tmV g wd s (nt (rf s)) j) 0 k) ∧ ∀ s a, s < k → hr h (y + 2) s = some a → ¬ sl g s 11 = 0 → t a = rf s
set_option maxRecDepth 100000 in
set_option maxHeartbeats 4000000 in
theorem l_X8_hoistAll {m : Nat} (C : Core ow h y g ld wd) (I : GI g) (O : OS g) (em : nt (g 1) = m) (hq : ∀ f t, HoI h y g wd (fun s => sl g s 10) m f t → Q none (hoH h (y + 6) f t)) : ∀ n k f t, k + n = m → HoI h y g wd (fun s => sl g s 10) k f t → Rn G (d + 3) mX8_hoistAll 9 [(0, .ref y), (1, .int (nI k))] [] (hoH h (y + 6) f t) Q := by
  have W := I.gw
  have h10 := W.2.1.2.2
  rw [em] at h10
  obtain ⟨C1, C2, C3, C4, C5, C6, ⟨C7, C8⟩, -⟩ := id C
  obtain ⟨⟨s1, s2, s3, s4, s5, s6⟩, -, ⟨b1, b2, b3⟩, -⟩ := id C2
  have e3 : hi h y 3 = nI m := by rw [C3.2, W.2.1.1, em]
  obtain ⟨spk, r0, r1, k4, n4, k5, n5, k3, r2, k6, n6⟩ := C.spk
  intro n
  induction n with
  | zero =>
    intro k f t hk0 N
    rw [show k = m by omega] at N ⊢
    have ky2 : hk (hoH h (y + 6) f t) y = 7 := s1
    have e32 : hi (hoH h (y + 6) f t) y 3 = nI m := by rw [ho_k (by decide)]; exact e3
    refine x_iload_n eX8_hoistAll_9 rfl rfl ?_
    first | refine x_aload_n eX8_hoistAll_10 rfl rfl ?_ | refine x_aload_nN eX8_hoistAll_10 rfl rfl ?_
    first | refine x_getIe eX8_hoistAll_11 fk_X8_25 (by decide) (by assumption) (by assumption) ?_ | refine x_getI eX8_hoistAll_11 fk_X8_25 (by decide) (by assumption) ?_
    first | refine x_icmp_geN (tgt := 48) eX8_hoistAll_14 (by decide) (by with_reducible rfl) (by with_reducible rfl) (by omega) (by omega) (fun cq1 => ?_) (fun cq1 => ?_) | refine x_icmp_ge (tgt := 48) eX8_hoistAll_14 (by decide) (fun cq1 => ?_) (fun cq1 => ?_)
    · refine x_ret (rt := none) eX8_hoistAll_48 rfl ?_
      exact hq f t N
    · exact absurd cq1 (by omega)
  | succ n ih =>
    intro k f t hk0 N
    obtain ⟨N1, N2⟩ := id N
    have ks : k < nt (g 1) := by omega
    obtain ⟨a, ha, S⟩ := C6 k ks
    obtain ⟨sw, sx⟩ := I.2.2.1 k ks
    obtain ⟨E, Cc, Ll⟩ := id S
    have ka := E.2.1
    have oa := E.1
    have hsa : hr (hoH h (y + 6) f t) (y + 2) k = some a := ha
    have ky2 : hk (hoH h (y + 6) f t) y = 7 := s1
    have e32 : hi (hoH h (y + 6) f t) y 3 = nI m := by rw [ho_k (by decide)]; exact e3
    have rs2 : hr (hoH h (y + 6) f t) y 2 = some (y + 2) := s3
    have rs4 : hr (hoH h (y + 6) f t) y 4 = some (y + 3) := s4
    have kb2 : hk (hoH h (y + 6) f t) (y + 2) = 34 := b1
    have nb2 : hn (hoH h (y + 6) f t) (y + 2) = 10 := b2
    have ka2 : hk (hoH h (y + 6) f t) a = 4 := ka
    have k32 : hk (hoH h (y + 6) f t) (y + 3) = 6 := k3
    have e92 : hi (hoH h (y + 6) f t) a 9 = sl g k 11 := by rw [ho_k (by decide)]; exact Ll.2.1
    refine x_iload_n eX8_hoistAll_9 rfl rfl ?_
    first | refine x_aload_n eX8_hoistAll_10 rfl rfl ?_ | refine x_aload_nN eX8_hoistAll_10 rfl rfl ?_
    first | refine x_getIe eX8_hoistAll_11 fk_X8_25 (by decide) (by assumption) (by assumption) ?_ | refine x_getI eX8_hoistAll_11 fk_X8_25 (by decide) (by assumption) ?_
    first | refine x_icmp_geN (tgt := 48) eX8_hoistAll_14 (by decide) (by with_reducible rfl) (by with_reducible rfl) (by omega) (by omega) (fun cq1 => ?_) (fun cq1 => ?_) | refine x_icmp_ge (tgt := 48) eX8_hoistAll_14 (by decide) (fun cq1 => ?_) (fun cq1 => ?_)
    · exact absurd cq1 (by omega)
    · first | refine x_aload_n eX8_hoistAll_17 rfl rfl ?_ | refine x_aload_nN eX8_hoistAll_17 rfl rfl ?_
      refine x_iload_n eX8_hoistAll_18 rfl rfl ?_
      refine x_callV1 eX8_hoistAll_19 lk_X8_149 (by assumption) (Nat.le_of_ble_eq_true rfl) (Nat.le_of_ble_eq_true rfl) ?_
      refine Rn.deep (c_X8_sailNumbered (d := d) (C.ho (f := f) (t := t) W).1 W (fun z _ => absurd (isS_of W ks) (by rw [z]; decide)) (fun j a' ej hj ha' P' _ => ?_)) (by omega)
      obtain rfl : k = j := by
        have q := congrArg nt ej
        rwa [nt_nI (by omega), nt_nI (by omega)] at q
      obtain rfl : a = a' := Option.some.inj (hsa.symm.trans ha')
      first | refine x_astore_n eX8_hoistAll_22 rfl (by decide) rfl rfl ?_ | refine x_astore_nN eX8_hoistAll_22 rfl (by decide) rfl rfl ?_
      first | refine x_aload_n eX8_hoistAll_23 rfl rfl ?_ | refine x_aload_nN eX8_hoistAll_23 rfl rfl ?_
      refine x_ifnullR eX8_hoistAll_24 ?_
      first | refine x_aload_n eX8_hoistAll_27 rfl rfl ?_ | refine x_aload_nN eX8_hoistAll_27 rfl rfl ?_
      first | refine x_getIe eX8_hoistAll_28 fk_X8_195 (by decide) (by assumption) (by assumption) ?_ | refine x_getI eX8_hoistAll_28 fk_X8_195 (by decide) (by assumption) ?_
      first | refine x_if_eqB (tgt := 42) eX8_hoistAll_31 (by decide) (by with_reducible rfl) (fun cq2 => ?_) (fun cq2 => ?_) | refine x_if_eq (tgt := 42) eX8_hoistAll_31 (by decide) (fun cq2 => ?_) (fun cq2 => ?_)
      · have hz11 : sl g k 11 = 0 := cq2
        have iw := ih (k + 1) f t (by omega) ⟨fun j hj => by rw [sumL, Nat.zero_add, N1 j hj]; unfold tmV; rw [if_pos hz11, Int64.add_zero], fun s' a' h1 h2 h3 => by
          by_cases e : s' = k
          · rw [e] at h3
            exact absurd hz11 h3
          · exact N2 s' a' (by omega) h2 h3⟩
        first | refine x_iincN eX8_hoistAll_42 rfl (by with_reducible rfl) (by decide) rfl rfl ?_ | refine x_iinc eX8_hoistAll_42 rfl rfl (by decide) rfl rfl ?_
        refine x_goto (tgt := 9) eX8_hoistAll_45 (by decide) ?_
        refine Rn.weak (iw) (by repeat' first | exact fun _ h => absurd h List.not_mem_nil | refine List.forall_mem_cons.mpr ⟨rfl, ?_⟩)
      · have hn11 : ¬ sl g k 11 = 0 := cq2
        have hn0 : ¬ sl g k 0 = 0 := fun z => hn11 (O k ks z)
        obtain ⟨st, z1, z2, z3, z4, z5⟩ : ∃ st, hr h a 7 = some st ∧ ow st = 460 + k ∧ hk h st = 20 ∧ hn h st = nt (sl g k 5) ∧ ∀ q, q < nt (sl g k 5) → hi h st q = stp g k q := by
          rcases Cc.2.2.2 with ⟨z, -⟩ | ⟨-, -, z⟩
          · exact absurd z hn0
          · exact z
        obtain ⟨w5, w51, w52⟩ := sw.2.1
        obtain ⟨w10, -, w102⟩ := sw.2.2.2.2.2.2.2.2.1
        have e2 : hi h a 2 = nI (nt (sl g k 5)) := E.2.2.2.2.trans w5
        have e8 : hi h a 8 = nI (nt (sl g k 10)) := Ll.1.trans w10
        have N' : HoI h y g wd (fun s => sl g s 10) (k + 1) (adL f (nt (sl g k 10)) (nt (sl g k 5) - nt (sl g k 10)) (fun q => (nI 1).toInt64 * (hi h st q).toInt64 * (hi h (y + 5) q).toInt64)) (upd0 t a (nI (nt (sl g k 10)))) := by
          refine ⟨fun j hj => ?_, fun s' a' h1 h2 h3 => ?_⟩
          · rw [sumL, Nat.zero_add, ← N1 j hj]
            unfold adL tmV
            rw [if_neg hn11]
            by_cases z : nt (sl g k 10) ≤ j ∧ j < nt (sl g k 5)
            · rw [if_pos (by omega), if_pos z]
              show f j + (nI 1).toInt64 * (hi h st j).toInt64 * (hi h (y + 5) j).toInt64 = _
              rw [z5 j z.2, C8 j hj, show (nI 1).toInt64 = 1 from by decide, Int64.one_mul]
            · rw [if_neg (by omega), if_neg z, Int64.add_zero]
          · by_cases e : s' = k
            · subst e
              rw [ha] at h2
              cases h2
              rw [upd0_same]
              exact w10.symm
            · obtain ⟨a2, ha2, S2⟩ := C6 s' (by omega)
              rw [ha2] at h2
              cases h2
              rw [upd0_ne (fun q => by have := S2.1.1; rw [q, oa] at this; omega)]
              exact N2 s' a' (by omega) ha2 h3
        have iw := ih (k + 1) _ _ (by omega) N'
        first | refine x_aload_n eX8_hoistAll_34 rfl rfl ?_ | refine x_aload_nN eX8_hoistAll_34 rfl rfl ?_
        first | refine x_getR eX8_hoistAll_35 fk_X8_31 rfl (by assumption) (by assumption) ?_ | refine x_getN eX8_hoistAll_35 fk_X8_31 rfl (by assumption) (by assumption) ?_
        first | refine x_aload_n eX8_hoistAll_38 rfl rfl ?_ | refine x_aload_nN eX8_hoistAll_38 rfl rfl ?_
        refine x_callV1 eX8_hoistAll_39 lk_X8_396 (by assumption) (Nat.le_of_ble_eq_true rfl) (Nat.le_of_ble_eq_true rfl) ?_
        refine Rn.deep (c_X7_hoist (d := d) spk ka z1 z3 z4 r1 e2 e8 (by omega) w52 (fun _ => ?_)) (by omega)
        first | refine x_iincN eX8_hoistAll_42 rfl (by with_reducible rfl) (by decide) rfl rfl ?_ | refine x_iinc eX8_hoistAll_42 rfl rfl (by decide) rfl rfl ?_
        refine x_goto (tgt := 9) eX8_hoistAll_45 (by decide) ?_
        refine Rn.weak (iw) (by repeat' first | exact fun _ h => absurd h List.not_mem_nil | refine List.forall_mem_cons.mpr ⟨rfl, ?_⟩)
set_option maxRecDepth 100000 in
set_option maxHeartbeats 4000000 in
theorem c_X8_hoistAll (C : Core ow h y g ld wd) (I : GI g) (O : OS g) (hq : ∀ f t, HoI h y g wd (fun s => sl g s 10) (nt (g 1)) f t → Q none (hoH h (y + 6) f t)) : Rn G (d + 3) mX8_hoistAll 0 [(0, .ref y)] [] h Q := by
  obtain ⟨spk, r0, r1, k4, n4, k5, n5, k3, r2, k6, n6⟩ := C.spk
  have s1 := C.2.1.1.1
  have s4 := C.2.1.1.2.2.2.1
  have w := l_X8_hoistAll (G := G) (Q := Q) (d := d) C I O rfl hq (nt (g 1)) 0 (fun j => if j < 60 then 0 else hl h (y + 6) j) (fun q => hi h q 12) (by omega) ⟨fun j hj => if_pos hj, fun s' a' h1 => by omega⟩
  have k7 : Rn G (d + 3) mX8_hoistAll 7 [(0, .ref y)] [] (hoH h (y + 6) (fun j => if j < 60 then 0 else hl h (y + 6) j) (fun q => hi h q 12)) Q := by
    refine x_iconst (v := nI 0) eX8_hoistAll_7 (by decide) ?_
    refine x_istore_n eX8_hoistAll_8 rfl (by decide) rfl rfl ?_
    refine Rn.weak (w) (by repeat' first | exact fun _ h => absurd h List.not_mem_nil | refine List.forall_mem_cons.mpr ⟨rfl, ?_⟩)
  have cl : Rn G (d + 2) mX7_clear 0 [(0, .ref (y + 3))] [] (hoH h (y + 6) (hl h (y + 6)) (fun q => hi h q 12)) (fun r h' => Ext h h' → Rn G (d + 3) mX8_hoistAll 7 [(0, .ref y)] (r.toList ++ []) h' Q) := c_X7_clear spk (fun _ => k7)
  rw [ho_self] at cl
  first | refine x_aload_n eX8_hoistAll_0 rfl rfl ?_ | refine x_aload_nN eX8_hoistAll_0 rfl rfl ?_
  first | refine x_getR eX8_hoistAll_1 fk_X8_31 rfl (by assumption) (by assumption) ?_ | refine x_getN eX8_hoistAll_1 fk_X8_31 rfl (by assumption) (by assumption) ?_
  refine x_callV0 eX8_hoistAll_4 lk_X8_393 (by assumption) (Nat.le_of_ble_eq_true rfl) (Nat.le_of_ble_eq_true rfl) ?_
  refine Rn.weak (cl) (by repeat' first | exact fun _ h => absurd h List.not_mem_nil | refine List.forall_mem_cons.mpr ⟨rfl, ?_⟩)
end PUSH

