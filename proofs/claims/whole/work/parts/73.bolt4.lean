/-! ===== grams of bits; acts: bolt ===== -/
set_option maxRecDepth 100000 in
set_option maxHeartbeats 4000000 in
theorem gr_parts {b : Int32} (h : gOK b = true) : ∃ f e : Nat, f < 2 ^ 23 ∧ e ≤ 136 ∧ b &&& 8388607 = nI f ∧ (b >>> nI 23) &&& nI 255 = nI e ∧ (grF b).toNat = e * 2 ^ 23 + f := by
  unfold gOK at h
  by_cases z : b = -2147483648
  · subst z
    exact ⟨0, 0, by omega, by omega, by decide +kernel, by decide +kernel, by decide +kernel⟩
  · rw [decide_eq_false z, Bool.false_or, Bool.and_eq_true, decide_eq_true_eq, decide_eq_true_eq] at h
    obtain ⟨B, hB, rfl⟩ := nI_of (Int32.not_lt.mpr h.1)
    have h2 : B ≤ 1148846080 := by
      have := Int32.le_iff_toInt_le.mp h.2
      rw [nI_toInt hB] at this
      have e : (1148846080 : Int32).toInt = 1148846080 := by decide
      rw [e] at this
      omega
    refine ⟨B % 2 ^ 23, B / 2 ^ 23, by omega, by omega, ?_, ?_, ?_⟩
    · exact pk_andN (by omega) 23 (by decide +kernel)
    · rw [pk_shrN hB (nI 23) 23 (by decide +kernel), pk_andN (by omega) 8 (by decide +kernel)]
      congr 1
      omega
    · unfold grF
      rw [if_neg z, (fp_u32 (nI B)).1 h.1, nI_toInt hB]
      omega
section GRAMS
variable {G : GG} {d : Nat} {h : AH} {Q : Option Value → AH → Prop}
set_option maxRecDepth 100000 in
set_option maxHeartbeats 4000000 in
theorem l_X2_ofBits {m N : Nat} (hm : m < 2 ^ 24) (hN : N ≤ 149) (hq : ∀ v, FP.Core.val32 v = hvD m N → Q (some (.float v)) h) : ∀ n k v, k + n = N → FP.Core.val32 v = hvD m k → Rn G d mX2_ofBits 42 [(3, .float v), (4, .int (nI N)), (5, .int (nI k))] [] h Q := by
  intro n
  induction n with
  | zero =>
    intro k v hk0 hv
    rw [show k = N by omega] at hv
    refine x_iload eX2_ofBits_42 rfl ?_
    refine x_iload eX2_ofBits_44 rfl ?_
    first | refine x_icmp_geN (tgt := 59) eX2_ofBits_46 (by decide) (by with_reducible rfl) (by with_reducible rfl) (by omega) (by omega) (fun cq1 => ?_) (fun cq1 => ?_) | refine x_icmp_ge (tgt := 59) eX2_ofBits_46 (by decide) (fun cq1 => ?_) (fun cq1 => ?_)
    · refine x_fload_n eX2_ofBits_59 rfl rfl ?_
      refine x_fret eX2_ofBits_60 rfl ?_
      exact hq v hv
    · exact absurd cq1 (by omega)
  | succ n ih =>
    intro k v hk0 hv
    obtain ⟨a1, a2⟩ := fp_half hm (show k < 149 by omega) hv
    refine x_iload eX2_ofBits_42 rfl ?_
    refine x_iload eX2_ofBits_44 rfl ?_
    first | refine x_icmp_geN (tgt := 59) eX2_ofBits_46 (by decide) (by with_reducible rfl) (by with_reducible rfl) (by omega) (by omega) (fun cq1 => ?_) (fun cq1 => ?_) | refine x_icmp_ge (tgt := 59) eX2_ofBits_46 (by decide) (fun cq1 => ?_) (fun cq1 => ?_)
    · exact absurd cq1 (by omega)
    · refine x_fload_n eX2_ofBits_49 rfl rfl ?_
      refine x_fconst2 eX2_ofBits_50 ?_
      refine x_fdiv eX2_ofBits_51 (by assumption) ?_
      refine x_fstore_n eX2_ofBits_52 rfl (by decide) rfl rfl ?_
      first | refine x_iincN eX2_ofBits_53 rfl (by with_reducible rfl) (by decide) rfl rfl ?_ | refine x_iinc eX2_ofBits_53 rfl rfl (by decide) rfl rfl ?_
      refine x_goto (tgt := 42) eX2_ofBits_56 (by decide) ?_
      refine Rn.weak (ih (k + 1) _ (by omega) a1) (by repeat' first | exact fun _ h => absurd h List.not_mem_nil | refine List.forall_mem_cons.mpr ⟨rfl, ?_⟩)
set_option maxRecDepth 100000 in
set_option maxHeartbeats 4000000 in
theorem c_X2_ofBits {b : Int32} (hb : gOK b = true) (hq : Q (some (.float (grF b))) h) : Rn G (d + 1) mX2_ofBits 0 [(0, .int b)] [] h Q := by
  obtain ⟨f, e, hf, he, e1, e2, e3⟩ := gr_parts hb
  obtain ⟨N, hN⟩ : ∃ N, N = 150 - (if e < 1 then 1 else e) := ⟨_, rfl⟩
  have hN1 : N ≤ 149 := by rw [hN]; split <;> omega
  have em : nI 150 - (if nI e < nI 1 then nI 1 else nI e) = nI N := by
    rw [hN]
    by_cases z : e < 1
    · rw [if_pos z, if_pos (nI_lt z (by omega)), pk_sub (by omega)]
    · rw [if_neg z, if_neg (nI_nlt (by omega) (by omega)), pk_sub (by omega)]
  have fin : ∀ v, FP.Core.val32 v = hvD (if e = 0 then f else f + 2 ^ 23) N → Q (some (.float v)) h := fun v hv => by
    rw [fp_back (v := v) (b := grF b) hf (by omega) e3 (by rw [hN] at hv; exact hv) (by omega)]
    exact hq
  have k26 : ∀ x : Int32, x.toInt = ((if e = 0 then f else f + 2 ^ 23 : Nat) : Int) → Rn G (d + 1) mX2_ofBits 26 [(0, .int b), (2, .int (nI e))] [.int x] h Q := by
    intro x hx
    have w := l_X2_ofBits (G := G) (d := d + 1) (Q := Q) (h := h) (m := if e = 0 then f else f + 2 ^ 23) (N := N) (by split <;> omega) hN1 fin N 0 _ (by omega) (fp_whole hx)
    refine x_ci2f eX2_ofBits_26 ?_
    refine x_fstore_n eX2_ofBits_27 rfl (by decide) rfl rfl ?_
    refine x_sipush (v := nI 150) eX2_ofBits_28 (by decide) ?_
    refine x_iload_n eX2_ofBits_31 rfl rfl ?_
    refine x_iconst (v := nI 1) eX2_ofBits_32 (by decide) ?_
    refine x_max eX2_ofBits_33 lk_X2_19 (Nat.le_of_ble_eq_true rfl) ?_
    first | refine x_isubN eX2_ofBits_36 (by with_reducible rfl) (by with_reducible rfl) (by omega) ?_ | refine x_isub eX2_ofBits_36 ?_
    rw [em]
    refine x_istore eX2_ofBits_37 (by decide) rfl rfl ?_
    refine x_iconst (v := nI 0) eX2_ofBits_39 (by decide) ?_
    refine x_istore eX2_ofBits_40 (by decide) rfl rfl ?_
    refine Rn.weak (w) (by repeat' first | exact fun _ h => absurd h List.not_mem_nil | refine List.forall_mem_cons.mpr ⟨rfl, ?_⟩)
  refine x_iload_n eX2_ofBits_0 rfl rfl ?_
  refine x_ldc (v := 8388607) eX2_ofBits_1 kk_X2_17 ?_
  refine x_iand eX2_ofBits_3 ?_
  rw [e1]
  refine x_istore_n eX2_ofBits_4 rfl (by decide) rfl rfl ?_
  refine x_iload_n eX2_ofBits_5 rfl rfl ?_
  refine x_bipush (v := nI 23) eX2_ofBits_6 (by decide) ?_
  refine x_ishr eX2_ofBits_8 ?_
  refine x_sipush (v := nI 255) eX2_ofBits_9 (by decide) ?_
  refine x_iand eX2_ofBits_12 ?_
  rw [show nI 23 &&& 31 = nI 23 from by decide +kernel, e2]
  refine x_istore_n eX2_ofBits_13 rfl (by decide) rfl rfl ?_
  refine x_iload_n eX2_ofBits_14 rfl rfl ?_
  first | refine x_if_neB (tgt := 22) eX2_ofBits_15 (by decide) (by with_reducible rfl) (fun cq1 => ?_) (fun cq1 => ?_) | refine x_if_ne (tgt := 22) eX2_ofBits_15 (by decide) (fun cq1 => ?_) (fun cq1 => ?_)
  · have z : ¬ e = 0 := fun z => cq1 (by rw [z]; rfl)
    have e8 : (8388608 : Int32) = nI 8388608 := by decide +kernel
    have ea : nI f + 8388608 = nI (f + 2 ^ 23) := by rw [e8, nI_add]
    refine x_iload_n eX2_ofBits_22 rfl rfl ?_
    refine x_ldc (v := 8388608) eX2_ofBits_23 kk_X2_18 ?_
    first | refine x_iaddN eX2_ofBits_25 (by with_reducible rfl) (by with_reducible rfl) ?_ | refine x_iadd eX2_ofBits_25 ?_
    rw [ea]
    refine Rn.weak (k26 (nI (f + 2 ^ 23)) (by rw [if_neg z]; exact nI_toInt (by omega))) (by repeat' first | exact fun _ h => absurd h List.not_mem_nil | refine List.forall_mem_cons.mpr ⟨rfl, ?_⟩)
  · have z : e = 0 := (nI_eq (b := 0) (by omega) (by omega)).mp cq1
    refine x_iload_n eX2_ofBits_18 rfl rfl ?_
    refine x_goto (tgt := 26) eX2_ofBits_19 (by decide) ?_
    refine Rn.weak (k26 (nI f) (by rw [if_pos z]; exact nI_toInt (by omega))) (by repeat' first | exact fun _ h => absurd h List.not_mem_nil | refine List.forall_mem_cons.mpr ⟨rfl, ?_⟩)
end GRAMS
section BOLT4
variable {G : GG} {d : Nat} {h h2 : AH} {Q : Option Value → AH → Prop} {ow o2 : Nat → Nat} {y : Nat} {g g2 ld wd : Nat → Int32} {kp nx s a : Nat} {ps : Nat → Nat → Int32} {T : Nat → Prop}
set_option maxRecDepth 100000 in
set_option maxHeartbeats 4000000 in
theorem AdB.fr {n : Nat} (A : AdB G ow h y n g2 ld wd o2 h2) : Fr (nT n) ow h o2 h2 := A.2.1
set_option maxRecDepth 100000 in
set_option maxHeartbeats 4000000 in
/-- the act behind, over a heap that stands for the state behind already -/
theorem Ps.after {hM : AH} {oM : Nat → Nat} {k o i b : Int32} {X : Nat → Prop} (C : Core oM hM y g2 ld wd) (W2 : GW g2) (K : Acts ow h y g kp nx ps) (FM : Fr (oT nx X) ow h oM hM) (hX : ∀ t, X t → t < 2000 ∧ t ≠ 13) (toM : To ow oM) (xM : Ext h hM) (ra7 : hr hM (y + 7) = hr h (y + 7)) (lk : ∀ (A : Nat → Int32) (R : Nat → Option Nat) (o2 : Nat → Nat) (h2 : AH), A 0 = k → A 1 = o → A 2 = i → A 3 = b → A 4 = 0 → Lk A R o2 h2 nx g g2) (hB : gB G ≤ hz hM) (hz2 : hz hM + 1 ≤ hz h + 100) (us2 : us G hM + 8 ≤ us G h + 6000) : Ps G y ow h g2 ld wd (kpS kp) ((nx + 1) % 16) (cns g ps) (raH hM y nx kp k o i b) := by
  obtain ⟨C1, C2, C3, C4, C5, C6, -⟩ := id C
  obtain ⟨F, x, L2, to, r, er, ry, r6, r7, ia, ra, oN, kN, iN, kA⟩ := act_only (nx := nx) (kp := kp) (k := k) (o := o) (i := i) (b := b) (X := fun t => t = 0) C1 C2
  have h24 := W2.1.2.2
  have h10 := W2.2.1.2.2
  have q2 := F.at_ C2.2.1.2.2 (by decide) (fun z => by unfold oT aT at z; omega)
  have q3 := F.at_ C2.2.2.1.2.2 (by decide) (fun z => by unfold oT aT at z; omega)
  have FX := (act_only (nx := nx) (kp := kp) (k := k) (o := o) (i := i) (b := b) (X := X) C1 C2).1
  have m0 := mkA_v hM k o i b
  have F2 := FM.tr FX
  refine ⟨_, C.up F x L2 to r (fun t h1 h2 h3 z => by unfold oT aT at z; omega) ((ry 1 (by decide) (by decide)).trans C3.1) ((ry 3 (by decide) (by decide)).trans C3.2) (fun i hi => (C4 i hi).fr F (fun z => by unfold oT aT at z; omega) (fun z => by unfold oT aT at z; omega) (by rw [q2.2.2.2.2.1])) (fun i hi => (C5 i hi).fr F (fun z => by unfold oT aT at z; omega) (fun z => by unfold oT aT at z; omega) (fun z => by unfold oT aT at z; omega) (W2.2.2.1 i hi) (by rw [q2.2.2.2.2.1]) (fun _ _ => rfl) (fun _ _ => rfl)) (fun t ht => (C6 t ht).fr F (fun u hu z => by unfold oT aT at z; unfold sT at hu; omega) (W2.2.2.2 t ht) (by rw [q3.2.2.2.2.1]) (fun _ _ => rfl)), K.push F2 (fun t ht => (hX t ht).1) (er.trans (by rw [ra7])) r6 r7 ⟨oN, kN, by rw [iN]; exact lk _ _ _ _ m0.1 m0.2.1 m0.2.2.1 m0.2.2.2.1 m0.2.2.2.2⟩, F2.zk (fun z => ?_), hz2, ?_⟩
  · rcases z with z | z | z | z
    · omega
    · omega
    · unfold aT at z; omega
    · exact (hX 13 z).2 rfl
  · show us G (mkA hM k o i b) ≤ _
    rw [mkA_us hB]
    exact us2
set_option maxRecDepth 100000 in
set_option maxHeartbeats 4000000 in
theorem GI_bolt {w l gr f : Int32} (I : GI g) (hn24 : nt (g 0) < 24) (h1 : inR w 2 20 = true) (h2 : inR l 1 200 = true) (h3 : gOK gr = true) : GI (gBolt g (nt (g 0)) w l gr f) := by
  obtain ⟨⟨I0, I1⟩, IB, IS, IP, IN, IZ⟩ := id I
  obtain ⟨wn, w1, w2, rfl⟩ := inR_N (lo := 2) (hi := 20) h1 rfl (by omega) (by omega)
  obtain ⟨ln, l1, l2, rfl⟩ := inR_N (lo := 1) (hi := 200) h2 rfl (by omega) (by omega)
  have g0 := g0_gBolt g (nt (g 0)) (nI wn) (nI ln) gr f
  have g1 := gBolt_1 (g := g) (n := nt (g 0)) (w := nI wn) (l := nI ln) (gr := gr) (f := f)
  have gs := fun s c => sl_gBolt g hn24 (nI wn) (nI ln) gr f s c
  have gsl : ∀ s, sl (gBolt g (nt (g 0)) (nI wn) (nI ln) gr f) s = sl g s := fun s => funext (gs s)
  have gnp : ∀ s, np (gBolt g (nt (g 0)) (nI wn) (nI ln) gr f) s = np g s := fun s => by unfold np; rw [gs, gs]
  have glen : ∀ s i, lenV (gBolt g (nt (g 0)) (nI wn) (nI ln) gr f) s i = lenV g s i := fun s i => lenV_eq (gs s) i
  refine ⟨⟨by rw [g0]; exact isN_nI (by omega) (by omega) (by omega), by rw [g1]; exact I1⟩, fun b hb => ?_, fun s hs => ?_, fun s i hs hi hne => ?_, fun s i t j hs hi ht hj h1 h2 => ?_, fun k hk => ?_⟩
  · rw [g0, nt_nI (by omega)] at hb
    by_cases e : b = nt (g 0)
    · subst e
      have gb := fun c (hc : c < 210) => gBolt_bl (g := g) (w := nI wn) (l := nI ln) (gr := gr) (f := f) hn24 hc
      unfold GB BW
      rw [gb 0 (by omega), gb 1 (by omega), gb 2 (by omega), gb 3 (by omega)]
      exact ⟨⟨isN_nI (by omega) w1 w2, isN_nI (by omega) l1 l2, isN_nI (n := 0) (by omega) (by omega) (by omega)⟩, h3, fun k hk => by rw [show nt (if 3 = 0 then nI wn else if 3 = 1 then nI ln else if 3 = 2 then gr else if 3 = 3 then 0 else if 3 = 4 then f else bl g (nt (g 0)) 3) = 0 from nt_nI (n := 0) (by omega)] at hk; omega⟩
    · obtain ⟨⟨a1, a2, a3⟩, a4, a5⟩ := IB b (by omega)
      have gb := fun c (hc : c < 210) => bl_gBolt g (show b < nt (g 0) by omega) (nI wn) (nI ln) gr f hc
      have u1 := a2.2.2
      have u3 := a3.2.2
      unfold GB BW
      rw [gb 0 (by omega), gb 1 (by omega), gb 2 (by omega), gb 3 (by omega)]
      exact ⟨⟨a1, a2, a3⟩, a4, fun k hk => by rw [gb (6 + k) (by omega)]; exact a5 k hk⟩
  · rw [g1] at hs
    obtain ⟨a1, a2⟩ := IS s hs
    refine ⟨SW_eq (gs s) (by rw [g0, nt_nI (by omega)]; omega) a1, ?_⟩
    unfold SX at a2 ⊢
    simp only [gsl, gnp, glen]
    exact a2
  · rw [g1] at hs
    rw [gnp] at hi
    rw [gs] at hne
    have on := (IS s hs).1.2.2.2.2.2.2.2.2.2.2.2.2.2 i hi
    have hlt : nt (sl g s (300 + i)) < nt (g 0) := by
      rcases on with z | ⟨⟨-, -, z⟩, z2⟩
      · exact absurd z hne
      · omega
    rw [gs, gs, glen, bl_gBolt g hlt (nI wn) (nI ln) gr f (by omega)]
    exact IP s i hs hi hne
  · rw [g1] at hs ht
    rw [gnp] at hi hj
    rw [gs] at h1
    rw [gs, gs] at h2
    rw [gs, gs, glen, glen]
    exact IN s i t j hs hi ht hj h1 h2
  · rw [g1] at hk
    have := IZ k hk
    unfold gBolt
    rw [upd0_ne (by omega), upd0_ne (by omega), upd0_ne (by omega), upd0_ne (by omega), upd0_ne (by omega), upd0_ne (by omega)]
    exact this
set_option maxRecDepth 100000 in
set_option maxHeartbeats 4000000 in
theorem c_X8_bolt {w l gr : Int32} (C : Core ow h y g ld wd) (K : Acts ow h y g kp nx ps) (I : GI g) (rm : Rm G h 100 6000) (hq0 : bltOK g w l gr = false → Q (some (.int (-1))) h) (hq1 : bltOK g w l gr = true → ∀ h2, Ps G y ow h (gBolt g (nt (g 0)) w l gr (-1)) ld wd (kpS kp) ((nx + 1) % 16) (cns g ps) h2 → Q (some (.int (nI (nt (g 0))))) h2) : Rn G (d + 3) mX8_bolt 0 [(0, .ref y), (1, .int w), (2, .int l), (3, .int gr)] [] h Q := by
  obtain ⟨C1, C2, C3, -⟩ := id C
  have W := I.gw
  have h24 := W.1.2.2
  obtain ⟨⟨s1, s2, s3, s4, s5, s6⟩, -, -, -, -, -, -, ⟨t1, t2, t3⟩⟩ := id C2
  obtain ⟨k6, k7, hnx, hkp, -⟩ := id K
  obtain ⟨n, hn⟩ : ∃ n, n = nt (g 0) := ⟨_, rfl⟩
  have e0 : g 0 = nI n := by rw [hn]; exact W.1.1
  rw [← hn] at h24 hq1
  have e1 : hi h y 1 = nI n := C3.1.trans e0
  have d24 : decide (g 0 = 24) = decide (n = 24) := by rw [e0]; exact decide_eq_decide.mpr (nI_eq (b := 24) (by omega) (by omega))
  first | refine x_aload_n eX8_bolt_0 rfl rfl ?_ | refine x_aload_nN eX8_bolt_0 rfl rfl ?_
  first | refine x_getIe eX8_bolt_1 fk_X8_15 (by decide) (by assumption) (by assumption) ?_ | refine x_getI eX8_bolt_1 fk_X8_15 (by decide) (by assumption) ?_
  refine x_bipush (v := nI 24) eX8_bolt_4 (by decide) ?_
  first | refine x_icmp_geN (tgt := 37) eX8_bolt_6 (by decide) (by with_reducible rfl) (by with_reducible rfl) (by omega) (by omega) (fun cq1 => ?_) (fun cq1 => ?_) | refine x_icmp_ge (tgt := 37) eX8_bolt_6 (by decide) (fun cq1 => ?_) (fun cq1 => ?_)
  · refine x_iconst (v := (-1)) eX8_bolt_37 (by decide) ?_
    refine x_iret eX8_bolt_38 rfl ?_
    exact hq0 (by unfold bltOK; rw [d24, decide_eq_true (show n = 24 by omega)]; simp)
  · refine x_iload_n eX8_bolt_9 rfl rfl ?_
    refine x_iconst (v := nI 2) eX8_bolt_10 (by decide) ?_
    refine x_bipush (v := nI 20) eX8_bolt_11 (by decide) ?_
    refine x_callS3 eX8_bolt_13 lk_X8_51 (Nat.le_of_ble_eq_true rfl) (Nat.le_of_ble_eq_true rfl) ?_
    refine Rn.deep (c_X8_isWithin (d := d) (fun _ => ?_)) (by omega)
    first | refine x_if_eqB (tgt := 37) eX8_bolt_16 (by decide) (by with_reducible rfl) (fun cq2 => ?_) (fun cq2 => ?_) | refine x_if_eq (tgt := 37) eX8_bolt_16 (by decide) (fun cq2 => ?_) (fun cq2 => ?_)
    · refine x_iconst (v := (-1)) eX8_bolt_37 (by decide) ?_
      refine x_iret eX8_bolt_38 rfl ?_
      exact hq0 (by unfold bltOK; rw [show inR w 2 20 = false from cq2]; rfl)
    · refine x_iload_n eX8_bolt_19 rfl rfl ?_
      refine x_iconst (v := nI 1) eX8_bolt_20 (by decide) ?_
      refine x_sipush (v := nI 200) eX8_bolt_21 (by decide) ?_
      refine x_callS3 eX8_bolt_24 lk_X8_51 (Nat.le_of_ble_eq_true rfl) (Nat.le_of_ble_eq_true rfl) ?_
      refine Rn.deep (c_X8_isWithin (d := d) (fun _ => ?_)) (by omega)
      first | refine x_if_eqB (tgt := 37) eX8_bolt_27 (by decide) (by with_reducible rfl) (fun cq3 => ?_) (fun cq3 => ?_) | refine x_if_eq (tgt := 37) eX8_bolt_27 (by decide) (fun cq3 => ?_) (fun cq3 => ?_)
      · refine x_iconst (v := (-1)) eX8_bolt_37 (by decide) ?_
        refine x_iret eX8_bolt_38 rfl ?_
        exact hq0 (by unfold bltOK; rw [show inR l 1 200 = false from cq3]; simp)
      · refine x_iload_n eX8_bolt_30 rfl rfl ?_
        refine x_callS1 eX8_bolt_31 lk_X8_55 (Nat.le_of_ble_eq_true rfl) (Nat.le_of_ble_eq_true rfl) ?_
        refine Rn.deep (c_X2_areTold (d := d) (fun _ => ?_)) (by omega)
        first | refine x_if_neB (tgt := 39) eX8_bolt_34 (by decide) (by with_reducible rfl) (fun cq4 => ?_) (fun cq4 => ?_) | refine x_if_ne (tgt := 39) eX8_bolt_34 (by decide) (fun cq4 => ?_) (fun cq4 => ?_)
        · have hok : bltOK g w l gr = true := by
            unfold bltOK
            rw [show inR w 2 20 = true from cq2, show inR l 1 200 = true from cq3, cq4, d24, decide_eq_false (show ¬ n = 24 by omega)]
            rfl
          have I2 := GI_bolt (w := w) (l := l) (gr := gr) (f := -1) I (by omega) cq2 cq3 cq4
          rw [← hn] at I2
          first | refine x_aload_n eX8_bolt_39 rfl rfl ?_ | refine x_aload_nN eX8_bolt_39 rfl rfl ?_
          first | refine x_getIe eX8_bolt_40 fk_X8_15 (by decide) (by assumption) (by assumption) ?_ | refine x_getI eX8_bolt_40 fk_X8_15 (by decide) (by assumption) ?_
          refine x_istore eX8_bolt_43 (by decide) rfl rfl ?_
          first | refine x_aload_n eX8_bolt_45 rfl rfl ?_ | refine x_aload_nN eX8_bolt_45 rfl rfl ?_
          refine x_iload_n eX8_bolt_46 rfl rfl ?_
          refine x_iload_n eX8_bolt_47 rfl rfl ?_
          refine x_iload_n eX8_bolt_48 rfl rfl ?_
          refine x_callS1 eX8_bolt_49 lk_X8_61 (Nat.le_of_ble_eq_true rfl) (Nat.le_of_ble_eq_true rfl) ?_
          refine Rn.deep (c_X2_ofBits (d := d) cq4 (fun _ => ?_)) (by omega)
          refine x_iconst (v := (-1)) eX8_bolt_52 (by decide) ?_
          refine x_callV4 eX8_bolt_53 lk_X8_65 (by assumption) (Nat.le_of_ble_eq_true rfl) (Nat.le_of_ble_eq_true rfl) ?_
          refine Rn.deep (c_X8_addBolt (d := d) C W ⟨rm.1, by have := rm.2.1; omega, by have := rm.2.2; omega⟩ hn (by omega) cq3 (fun oM hM A _ => ?_)) (by omega)
          obtain ⟨a1, a2, a3, a4, a5, a6, a7, a8⟩ := A
          obtain ⟨c1, c2, -⟩ := id a1
          have lz := a4.1
          have ly := (C1 y (by omega)).1
          have kyM : hk hM y = 7 := (a4.k ly).trans s1
          have kyN : hk (nw hM 0 8) y = 7 := by rw [hk_nw (by omega)]; exact kyM
          have knN : hk (nw hM 0 8) (hz hM) = 0 := hk_nw'
          have hroom : hz hM < gB G + 600000 ∧ us G hM + 8 ≤ 7302250 := ⟨by have := rm.2.1; omega, by have := rm.2.2; omega⟩
          first | refine x_aload_n eX8_bolt_56 rfl rfl ?_ | refine x_aload_nN eX8_bolt_56 rfl rfl ?_
          refine x_new (ci := 0) eX8_bolt_57 rfl ck_X8_35 (by first | assumption | omega) ?_
          refine x_dup eX8_bolt_60 rfl ?_
          refine x_iconst (v := nI 0) eX8_bolt_61 (by decide) ?_
          refine x_iload eX8_bolt_62 rfl ?_
          refine x_iconst (v := nI 0) eX8_bolt_64 (by decide) ?_
          refine x_iconst (v := nI 0) eX8_bolt_65 (by decide) ?_
          refine x_callI4 eX8_bolt_66 lk_X8_69 (Nat.le_of_ble_eq_true rfl) (Nat.le_of_ble_eq_true rfl) ?_
          refine Rn.deep (c_X0_init (d := d) knN (fun _ => ?_)) (by omega)
          refine x_callV1 eX8_bolt_69 lk_X8_72 (by assumption) (Nat.le_of_ble_eq_true rfl) (Nat.le_of_ble_eq_true rfl) ?_
          refine Rn.deep (c_remember (d := d) (k := nI 0) (o := nI n) (i := nI 0) (b := nI 0) c1 c2 ((a5 6 (by decide)).trans k6) ((a5 7 (by decide)).trans k7) hnx hkp (fun _ => ?_)) (by omega)
          refine x_iload eX8_bolt_72 rfl ?_
          refine x_iret eX8_bolt_74 rfl ?_
          refine hq1 hok _ (Ps.after (X := nT n) a1 I2.gw K (a2.mono (fun t ht => Or.inr (Or.inr (Or.inr ht)))) (fun t ht => by unfold nT bT at ht; omega) a3 a4 ?_ (fun A R o2 h2 q0 q1 q2 q3 q4 => Or.inl (lk_bolt ⟨q0, w, l, gr, by omega, by rw [← hn]⟩)) (by have := rm.1; omega) (by omega) (by omega))
          exact (a2.at_ t3 (by omega) (fun q => by unfold nT bT at q; omega)).2.2.2.2.1
        · refine x_iconst (v := (-1)) eX8_bolt_37 (by decide) ?_
          refine x_iret eX8_bolt_38 rfl ?_
          exact hq0 (by unfold bltOK; rw [cq4]; simp)
end BOLT4

