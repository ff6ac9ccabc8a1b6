/-! ===== the reference: bolt, weight, told, panel ===== -/
def bltOK (g : Nat → Int32) (w l gr : Int32) : Bool := inR w 2 20 && (inR l 1 200 && (gOK gr && !decide (g 0 = 24)))
def wgtV (g : Nat → Int32) (s i : Nat) : Int32 := if sl g s (300 + i) = -1 then 0 else (if wgF (bl g (nt (sl g s (300 + i))) 2).toUInt32 (areV g s i) < 1000000 then wgF (bl g (nt (sl g s (300 + i))) 2).toUInt32 (areV g s i) else 1000000)
/-- what told tells -/
def tolK (g : Nat → Int32) (s : Nat) : Nat → Int32
  | 0 => sl g s 0
  | 1 => sl g s 8
  | 2 => sl g s 9
  | 3 => sumN (stp g s) 0 (nt (sl g s 5))
  | 4 => sl g s 10
  | 5 => sl g s 11
  | 6 => sumN (wgtV g s) 0 (np g s)
  | 7 => sl g s 12
  | _ => sl g s 5
def tolV (g : Nat → Int32) (s w : Int32) : Int32 := if isS g s && inR w 0 8 then tolK g (nt s) (nt w) else -1
def kndV (g : Nat → Int32) (s i : Nat) : Int32 := if isP g s i then (if !decide (sl g s (300 + i) = -1) && !decide (bl g (nt (sl g s (300 + i))) 4 = -1) then 3 else if 0 < sl g s (140 + i) then 1 else 0) else 2
def panK (g : Nat → Int32) (s i : Nat) : Nat → Int32
  | 0 => kndV g s i
  | 1 => lowV g s i
  | 2 => highV g s i
  | 3 => lenV g s i
  | 4 => broV g s i
  | 5 => areV g s i
  | 6 => sl g s (300 + i)
  | 7 => sl g s (340 + i)
  | 8 => wgtV g s i
  | _ => if isP g s i then sl g s (140 + i) else 0
def panV (g : Nat → Int32) (s i w : Int32) : Int32 := if isS g s && (decide (0 ≤ i) && (decide (i < nI (np g (nt s))) && inR w 0 9)) then panK g (nt s) (nt i) (nt w) else -1
set_option maxRecDepth 100000 in
set_option maxHeartbeats 4000000 in
theorem inR_out {w : Int32} {n : Nat} (hn : n < 2 ^ 31) (h : inR w 0 (nI n) = false) : w.toInt < 0 ∨ (n : Int) < w.toInt := by
  unfold inR at h
  rcases (Bool.and_eq_false_iff.mp h) with z | z
  · left
    have := Int32.lt_iff_toInt_lt.mp (Int32.not_le.mp (of_decide_eq_false z))
    simpa using this
  · right
    have := Int32.lt_iff_toInt_lt.mp (Int32.not_le.mp (of_decide_eq_false z))
    rw [nI_toInt hn] at this
    exact this
section REF13
variable {G : GG} {d : Nat} {h : AH} {Q : Option Value → AH → Prop} {x la kp : Nat}
set_option maxRecDepth 100000 in
set_option maxHeartbeats 4000000 in
theorem c_X9_bolt_ {w l gr : Int32} (M : MD h x) (K : MK h x kp la) (W : GW (hi h (x + 1))) (hq0 : bltOK (hi h (x + 1)) w l gr = false → Q (some (.int (-1))) h) (hq1 : bltOK (hi h (x + 1)) w l gr = true → nt (hi h (x + 1) 0) < 24 → Q (some (.int (nI (nt (hi h (x + 1) 0))))) (acted h x la kp (gBolt (hi h (x + 1)) (nt (hi h (x + 1) 0)) w l gr (-1)))) : Rn G (d + 3) mX9_bolt_ 0 [(0, .ref x), (1, .int w), (2, .int l), (3, .int gr)] [] h Q := by
  obtain ⟨⟨hx, hS, kS, nS⟩, -⟩ := id M
  obtain ⟨w1, w2, w3⟩ := W.1
  suffices kx : ∀ r, fOK r = gOK gr → Rn G (d + 3) mX9_bolt_ 4 [(0, .ref x), (1, .int w), (2, .int l), (3, .int gr)] [.float r] h Q by
    refine x_iload_n eX9_bolt__0 rfl rfl ?_
    refine x_i2f eX9_bolt__1 lk_X9_64 (Nat.le_of_ble_eq_true rfl) (fun hsn => ?_) (fun rr hsn hrr => ?_)
    · exact kx _ (fp_ok gr)
    · exact kx rr (by have z := fp_snan hsn hrr; rw [z.1, z.2])
  intro r hr0
  refine x_fstore eX9_bolt__4 (by decide) rfl rfl ?_
  refine x_iload_n eX9_bolt__6 rfl rfl ?_
  refine x_iconst (v := nI 2) eX9_bolt__7 (by decide) ?_
  refine x_bipush (v := nI 20) eX9_bolt__8 (by decide) ?_
  refine x_callS3 eX9_bolt__10 lk_X9_70 (Nat.le_of_ble_eq_true rfl) (Nat.le_of_ble_eq_true rfl) ?_
  refine Rn.deep (c_X9_isIn (d := d) (fun _ => ?_)) (by omega)
  first | refine x_if_eqB (tgt := 53) eX9_bolt__13 (by decide) (by with_reducible rfl) (fun cq1 => ?_) (fun cq1 => ?_) | refine x_if_eq (tgt := 53) eX9_bolt__13 (by decide) (fun cq1 => ?_) (fun cq1 => ?_)
  · refine x_iconst (v := (-1)) eX9_bolt__53 (by decide) ?_
    refine x_iret eX9_bolt__54 rfl ?_
    exact hq0 (by have c1 : inR w 2 20 = false := cq1; simp [bltOK, c1])
  · have c1 : inR w 2 20 = true := cq1
    refine x_iload_n eX9_bolt__16 rfl rfl ?_
    refine x_iconst (v := nI 1) eX9_bolt__17 (by decide) ?_
    refine x_sipush (v := nI 200) eX9_bolt__18 (by decide) ?_
    refine x_callS3 eX9_bolt__21 lk_X9_70 (Nat.le_of_ble_eq_true rfl) (Nat.le_of_ble_eq_true rfl) ?_
    refine Rn.deep (c_X9_isIn (d := d) (fun _ => ?_)) (by omega)
    first | refine x_if_eqB (tgt := 53) eX9_bolt__24 (by decide) (by with_reducible rfl) (fun cq2 => ?_) (fun cq2 => ?_) | refine x_if_eq (tgt := 53) eX9_bolt__24 (by decide) (fun cq2 => ?_) (fun cq2 => ?_)
    · refine x_iconst (v := (-1)) eX9_bolt__53 (by decide) ?_
      refine x_iret eX9_bolt__54 rfl ?_
      exact hq0 (by have c2 : inR l 1 200 = false := cq2; simp [bltOK, c2])
    · have c2 : inR l 1 200 = true := cq2
      refine x_fload eX9_bolt__27 rfl ?_
      refine x_fconst0 eX9_bolt__29 ?_
      refine x_fcmp eX9_bolt__30 ?_
      refine x_if_lt (tgt := 53) eX9_bolt__31 (by decide) (fun cq3 => ?_) (fun cq3 => ?_)
      · refine x_iconst (v := (-1)) eX9_bolt__53 (by decide) ?_
        refine x_iret eX9_bolt__54 rfl ?_
        exact hq0 (by have c3 : gOK gr = false := by { rw [← hr0, fOK, decide_eq_true cq3]; rfl }
                      simp [bltOK, c3])
      · refine x_fload eX9_bolt__34 rfl ?_
        refine x_ldcf (v := 1148846080) eX9_bolt__36 kk_X9_74 ?_
        refine x_fcmp eX9_bolt__38 ?_
        refine x_if_gt (tgt := 53) eX9_bolt__39 (by decide) (fun cq4 => ?_) (fun cq4 => ?_)
        · refine x_iconst (v := (-1)) eX9_bolt__53 (by decide) ?_
          refine x_iret eX9_bolt__54 rfl ?_
          exact hq0 (by have c3 : gOK gr = false := by { rw [← hr0, fOK, decide_eq_true cq4]; simp }
                        simp [bltOK, c3])
        · have c3 : gOK gr = true := by rw [← hr0, fOK, decide_eq_false cq3, decide_eq_false cq4]; rfl
          first | refine x_aload_n eX9_bolt__42 rfl rfl ?_ | refine x_aload_nN eX9_bolt__42 rfl rfl ?_
          first | refine x_getR eX9_bolt__43 fk_X9_7 rfl (by assumption) (by assumption) ?_ | refine x_getN eX9_bolt__43 fk_X9_7 rfl (by assumption) (by assumption) ?_
          refine x_iconst (v := nI 0) eX9_bolt__46 (by decide) ?_
          first | refine x_ialdN eX9_bolt__47 (by with_reducible rfl) (by assumption) (by assumption) (by omega) (by omega) ?_ | refine x_sldN eX9_bolt__47 (by with_reducible rfl) (by assumption) (by assumption) (by omega) (by omega) ?_ | refine x_iald eX9_bolt__47 (by assumption) (by assumption) ?_
          refine x_bipush (v := nI 24) eX9_bolt__48 (by decide) ?_
          first | refine x_icmp_neN (tgt := 55) eX9_bolt__50 (by decide) (by with_reducible rfl) (by with_reducible rfl) (by omega) (by omega) (fun cq5 => ?_) (fun cq5 => ?_) | refine x_icmp_ne (tgt := 55) eX9_bolt__50 (by decide) (fun cq5 => ?_) (fun cq5 => ?_)
          · have c6 : ¬ hi h (x + 1) 0 = 24 := cq5
            have h24 : nt (hi h (x + 1) 0) < 24 := by
              refine Nat.lt_of_le_of_ne w3 (fun z => c6 ?_)
              rw [w1, z]
              rfl
            have q1 := hq1 (by rw [bltOK, c1, c2, c3, decide_eq_false c6]; rfl) h24
            first | refine x_aload_n eX9_bolt__55 rfl rfl ?_ | refine x_aload_nN eX9_bolt__55 rfl rfl ?_
            refine x_callV0 eX9_bolt__56 lk_X9_75 (by assumption) (Nat.le_of_ble_eq_true rfl) (Nat.le_of_ble_eq_true rfl) ?_
            refine Rn.deep (c_X9_act (d := d) M K (fun _ => ?_)) (by omega)
            have hx2 : hk (acted h x la kp (hi h (x + 1))) x = 8 := hx
            first | refine x_aload_n eX9_bolt__59 rfl rfl ?_ | refine x_aload_nN eX9_bolt__59 rfl rfl ?_
            refine x_iload_n eX9_bolt__60 rfl rfl ?_
            refine x_iload_n eX9_bolt__61 rfl rfl ?_
            refine x_iload_n eX9_bolt__62 rfl rfl ?_
            refine x_iconst (v := (-1)) eX9_bolt__63 (by decide) ?_
            refine x_callV4 eX9_bolt__64 lk_X9_78 (by assumption) (Nat.le_of_ble_eq_true rfl) (Nat.le_of_ble_eq_true rfl) ?_
            refine Rn.deep (c_X9_newBolt (d := d) (b := nt (hi h (x + 1) 0)) M h24 w1 (fun _ => ?_)) (by omega)
            refine x_iret eX9_bolt__67 rfl ?_
            exact q1
          · refine x_iconst (v := (-1)) eX9_bolt__53 (by decide) ?_
            refine x_iret eX9_bolt__54 rfl ?_
            exact hq0 (by have c6 : hi h (x + 1) 0 = 24 := cq5; simp [bltOK, c6])
set_option maxRecDepth 100000 in
set_option maxHeartbeats 4000000 in
theorem c_X9_weight {s i : Nat} (M : MD h x) (W : GW (hi h (x + 1))) (hG : ∀ b, b < nt (hi h (x + 1) 0) → gOK (bl (hi h (x + 1)) b 2) = true) (hs : s < nt (hi h (x + 1) 1)) (him : i < np (hi h (x + 1)) s) (hq : Q (some (.int (wgtV (hi h (x + 1)) s i))) h) : Rn G (d + 6) mX9_weight 0 [(0, .ref x), (1, .int (nI s)), (2, .int (nI i))] [] h Q := by
  obtain ⟨⟨hx, hS, kS, nS⟩, -⟩ := id M
  have h10 := W.2.1.2.2
  have sw := W.2.2.2 s hs
  have h40 : np (hi h (x + 1)) s ≤ 40 := sw.2.2.2.2.1
  have h24 := W.1.2.2
  first | refine x_aload_n eX9_weight_0 rfl rfl ?_ | refine x_aload_nN eX9_weight_0 rfl rfl ?_
  refine x_iload_n eX9_weight_1 rfl rfl ?_
  refine x_sipush (v := nI 300) eX9_weight_2 (by decide) ?_
  refine x_iload_n eX9_weight_5 rfl rfl ?_
  first | refine x_iaddN eX9_weight_6 (by with_reducible rfl) (by with_reducible rfl) ?_ | refine x_iadd eX9_weight_6 ?_
  refine x_callV2 eX9_weight_7 lk_X9_57 (by assumption) (Nat.le_of_ble_eq_true rfl) (Nat.le_of_ble_eq_true rfl) ?_
  refine Rn.deep (c_X9_sail (d := d) M.md (by omega) (fun _ => ?_)) (by omega)
  refine x_istore_n eX9_weight_10 rfl (by decide) rfl rfl ?_
  refine x_iload_n eX9_weight_11 rfl rfl ?_
  refine x_iconst (v := (-1)) eX9_weight_12 (by decide) ?_
  first | refine x_icmp_neN (tgt := 18) eX9_weight_13 (by decide) (by with_reducible rfl) (by with_reducible rfl) (by omega) (by omega) (fun cq1 => ?_) (fun cq1 => ?_) | refine x_icmp_ne (tgt := 18) eX9_weight_13 (by decide) (fun cq1 => ?_) (fun cq1 => ?_)
  · have c1 : ¬ sl (hi h (x + 1)) s (300 + i) = -1 := cq1
    obtain ⟨on, hon, eon⟩ : ∃ on, on < nt (hi h (x + 1) 0) ∧ sl (hi h (x + 1)) s (300 + i) = nI on := by
      rcases sw.2.2.2.2.2.2.2.2.2.2.2.2.2 i (by unfold np at him; omega) with z | ⟨⟨z1, z2, z3⟩, z4⟩
      · exact absurd z c1
      · exact ⟨nt (sl (hi h (x + 1)) s (300 + i)), by omega, z1⟩
    have hgo := hG on hon
    have e2 : wgtV (hi h (x + 1)) s i = if wgF (bl (hi h (x + 1)) on 2).toUInt32 (areV (hi h (x + 1)) s i) < 1000000 then wgF (bl (hi h (x + 1)) on 2).toUInt32 (areV (hi h (x + 1)) s i) else 1000000 := by
      rw [wgtV, if_neg c1, eon, nt_nI (by omega)]
    have nm := fp_mul' hgo (areV (hi h (x + 1)) s i)
    have nd := fp_div' hgo (areV (hi h (x + 1)) s i)
    rw [eon]
    first | refine x_aload_n eX9_weight_18 rfl rfl ?_ | refine x_aload_nN eX9_weight_18 rfl rfl ?_
    refine x_iload_n eX9_weight_19 rfl rfl ?_
    refine x_iconst (v := nI 2) eX9_weight_20 (by decide) ?_
    refine x_callV2 eX9_weight_21 lk_X9_92 (by assumption) (Nat.le_of_ble_eq_true rfl) (Nat.le_of_ble_eq_true rfl) ?_
    refine Rn.deep (c_X9_bolt (d := d) M.md (by omega) (fun _ => ?_)) (by omega)
    refine x_i2f eX9_weight_24 lk_X9_64 (Nat.le_of_ble_eq_true rfl) (fun hsn => ?_) (fun rr hsn hrr => ?_)
    · first | refine x_aload_n eX9_weight_27 rfl rfl ?_ | refine x_aload_nN eX9_weight_27 rfl rfl ?_
      refine x_iload_n eX9_weight_28 rfl rfl ?_
      refine x_iload_n eX9_weight_29 rfl rfl ?_
      refine x_callV2 eX9_weight_30 lk_X9_133 (by assumption) (Nat.le_of_ble_eq_true rfl) (Nat.le_of_ble_eq_true rfl) ?_
      refine c_X9_area M.md (by omega) (by omega) sw (fun _ => ?_)
      refine x_ci2f eX9_weight_33 ?_
      refine x_fmul eX9_weight_34 (by assumption) ?_
      refine x_fconst2 eX9_weight_35 ?_
      refine x_fdiv eX9_weight_36 (by assumption) ?_
      refine x_fstore eX9_weight_37 (by decide) rfl rfl ?_
      refine x_ldc (v := 1000000) eX9_weight_39 kk_X9_136 ?_
      refine x_fload eX9_weight_41 rfl ?_
      refine x_f2i eX9_weight_43 ?_
      refine x_min eX9_weight_44 lk_X9_47 (Nat.le_of_ble_eq_true rfl) ?_
      refine x_iret eX9_weight_47 rfl ?_
      exact qi hq e2.symm
    · have z := fp_snan hsn hrr
      rw [hgo] at z
      cases z.2
  · refine x_iconst (v := nI 0) eX9_weight_16 (by decide) ?_
    refine x_iret eX9_weight_17 rfl ?_
    exact qi hq (by have c1 : sl (hi h (x + 1)) s (300 + i) = -1 := cq1; rw [wgtV, if_pos c1]; rfl)
set_option maxRecDepth 100000 in
set_option maxHeartbeats 4000000 in
theorem l_X9_told {s m : Nat} {w : Int32} (M : MD h x) (W : GW (hi h (x + 1))) (hG : ∀ b, b < nt (hi h (x + 1) 0) → gOK (bl (hi h (x + 1)) b 2) = true) (hs : s < nt (hi h (x + 1) 1)) (hm : np (hi h (x + 1)) s = m) (hq : Q (some (.int (sumN (wgtV (hi h (x + 1)) s) 0 m))) h) : ∀ n k, k + n = m → Rn G (d + 7) mX9_told 117 [(0, .ref x), (1, .int (nI s)), (3, .int (sumN (wgtV (hi h (x + 1)) s) 0 k)), (4, .int (nI k))] [] h Q := by
  obtain ⟨⟨hx, hS, kS, nS⟩, -⟩ := id M
  have h10 := W.2.1.2.2
  have sw := W.2.2.2 s hs
  have h40 : np (hi h (x + 1)) s ≤ 40 := sw.2.2.2.2.1
  intro n
  induction n with
  | zero =>
    intro k hk0
    have e : k = m := by omega
    subst e
    refine x_iload eX9_told_117 rfl ?_
    first | refine x_aload_n eX9_told_119 rfl rfl ?_ | refine x_aload_nN eX9_told_119 rfl rfl ?_
    refine x_iload_n eX9_told_120 rfl rfl ?_
    refine x_callV1 eX9_told_121 lk_X9_82 (by assumption) (Nat.le_of_ble_eq_true rfl) (Nat.le_of_ble_eq_true rfl) ?_
    refine Rn.deep (c_X9_piecesN (d := d) M.md (by omega) sw (fun _ => ?_)) (by omega)
    rw [hm]
    first | refine x_icmp_geN (tgt := 143) eX9_told_124 (by decide) (by with_reducible rfl) (by with_reducible rfl) (by omega) (by omega) (fun cq1 => ?_) (fun cq1 => ?_) | refine x_icmp_ge (tgt := 143) eX9_told_124 (by decide) (fun cq1 => ?_) (fun cq1 => ?_)
    · refine x_iload_n eX9_told_143 rfl rfl ?_
      refine x_iret eX9_told_144 rfl ?_
      exact hq
    · exact absurd cq1 (by omega)
  | succ n ih =>
    intro k hk0
    refine x_iload eX9_told_117 rfl ?_
    first | refine x_aload_n eX9_told_119 rfl rfl ?_ | refine x_aload_nN eX9_told_119 rfl rfl ?_
    refine x_iload_n eX9_told_120 rfl rfl ?_
    refine x_callV1 eX9_told_121 lk_X9_82 (by assumption) (Nat.le_of_ble_eq_true rfl) (Nat.le_of_ble_eq_true rfl) ?_
    refine Rn.deep (c_X9_piecesN (d := d) M.md (by omega) sw (fun _ => ?_)) (by omega)
    rw [hm]
    first | refine x_icmp_geN (tgt := 143) eX9_told_124 (by decide) (by with_reducible rfl) (by with_reducible rfl) (by omega) (by omega) (fun cq1 => ?_) (fun cq1 => ?_) | refine x_icmp_ge (tgt := 143) eX9_told_124 (by decide) (fun cq1 => ?_) (fun cq1 => ?_)
    · exact absurd cq1 (by omega)
    · refine x_iload_n eX9_told_127 rfl rfl ?_
      first | refine x_aload_n eX9_told_128 rfl rfl ?_ | refine x_aload_nN eX9_told_128 rfl rfl ?_
      refine x_iload_n eX9_told_129 rfl rfl ?_
      refine x_iload eX9_told_130 rfl ?_
      refine x_callV2 eX9_told_132 lk_X9_140 (by assumption) (Nat.le_of_ble_eq_true rfl) (Nat.le_of_ble_eq_true rfl) ?_
      refine c_X9_weight M W hG hs (by omega) (fun _ => ?_)
      first | refine x_iaddN eX9_told_135 (by with_reducible rfl) (by with_reducible rfl) ?_ | refine x_iadd eX9_told_135 ?_
      refine x_istore_n eX9_told_136 rfl (by decide) rfl rfl ?_
      first | refine x_iincN eX9_told_137 rfl (by with_reducible rfl) (by decide) rfl rfl ?_ | refine x_iinc eX9_told_137 rfl rfl (by decide) rfl rfl ?_
      refine x_goto (tgt := 117) eX9_told_140 (by decide) ?_
      have iw := ih (k + 1) (by omega)
      rw [sumN, Nat.zero_add] at iw
      refine Rn.weak (iw) (by repeat' first | exact fun _ h => absurd h List.not_mem_nil | refine List.forall_mem_cons.mpr ⟨rfl, ?_⟩)
set_option maxRecDepth 100000 in
set_option maxHeartbeats 4000000 in
theorem c_X9_told {s w : Int32} (M : MD h x) (W : GW (hi h (x + 1))) (hG : ∀ b, b < nt (hi h (x + 1) 0) → gOK (bl (hi h (x + 1)) b 2) = true) (hq : Q (some (.int (tolV (hi h (x + 1)) s w))) h) : Rn G (d + 7) mX9_told 0 [(0, .ref x), (1, .int s), (2, .int w)] [] h Q := by
  obtain ⟨⟨hx, hS, kS, nS⟩, -⟩ := id M
  first | refine x_aload_n eX9_told_0 rfl rfl ?_ | refine x_aload_nN eX9_told_0 rfl rfl ?_
  refine x_iload_n eX9_told_1 rfl rfl ?_
  refine x_callV1 eX9_told_2 lk_X9_53 (by assumption) (Nat.le_of_ble_eq_true rfl) (Nat.le_of_ble_eq_true rfl) ?_
  refine Rn.deep (c_X9_isSail (d := d) M.md (fun _ => ?_)) (by omega)
  first | refine x_if_neB (tgt := 10) eX9_told_5 (by decide) (by with_reducible rfl) (fun cq1 => ?_) (fun cq1 => ?_) | refine x_if_ne (tgt := 10) eX9_told_5 (by decide) (fun cq1 => ?_) (fun cq1 => ?_)
  · obtain ⟨j, hj, rfl⟩ := isS_spec W.2.1 cq1
    have h10 := W.2.1.2.2
    have hnt : nt (nI j) = j := nt_nI (by omega)
    have sw := W.2.2.2 j hj
    obtain ⟨-, ⟨e5, l5, u5⟩, -⟩ := id sw
    by_cases hin : inR w 0 8 = true
    · obtain ⟨m, -, hm, rfl⟩ := inR_N (lo := 0) (hi := 8) hin rfl (by omega) (by omega)
      have hnm : nt (nI m) = m := nt_nI (by omega)
      have eV : tolV (hi h (x + 1)) (nI j) (nI m) = tolK (hi h (x + 1)) j m := by
        rw [tolV, cq1, hin, hnt, hnm]
        rfl
      have hm9 : m = 0 ∨ m = 1 ∨ m = 2 ∨ m = 3 ∨ m = 4 ∨ m = 5 ∨ m = 6 ∨ m = 7 ∨ m = 8 := by omega
      rw [eV] at hq
      rcases hm9 with rfl | rfl | rfl | rfl | rfl | rfl | rfl | rfl | rfl
      · refine x_iload_n eX9_told_10 rfl rfl ?_
        refine x_tabIn (off := 49) (tgt := 60) eX9_told_11 (by decide) (by decide) (by decide) (by decide) ?_
        first | refine x_aload_n eX9_told_60 rfl rfl ?_ | refine x_aload_nN eX9_told_60 rfl rfl ?_
        refine x_iload_n eX9_told_61 rfl rfl ?_
        refine x_iconst (v := nI 0) eX9_told_62 (by decide) ?_
        refine x_callV2 eX9_told_63 lk_X9_57 (by assumption) (Nat.le_of_ble_eq_true rfl) (Nat.le_of_ble_eq_true rfl) ?_
        refine Rn.deep (c_X9_sail (d := d) M.md (by omega) (fun _ => ?_)) (by omega)
        refine x_iret eX9_told_66 rfl ?_
        exact hq
      · refine x_iload_n eX9_told_10 rfl rfl ?_
        refine x_tabIn (off := 56) (tgt := 67) eX9_told_11 (by decide) (by decide) (by decide) (by decide) ?_
        first | refine x_aload_n eX9_told_67 rfl rfl ?_ | refine x_aload_nN eX9_told_67 rfl rfl ?_
        refine x_iload_n eX9_told_68 rfl rfl ?_
        refine x_bipush (v := nI 8) eX9_told_69 (by decide) ?_
        refine x_callV2 eX9_told_71 lk_X9_57 (by assumption) (Nat.le_of_ble_eq_true rfl) (Nat.le_of_ble_eq_true rfl) ?_
        refine Rn.deep (c_X9_sail (d := d) M.md (by omega) (fun _ => ?_)) (by omega)
        refine x_iret eX9_told_74 rfl ?_
        exact hq
      · refine x_iload_n eX9_told_10 rfl rfl ?_
        refine x_tabIn (off := 64) (tgt := 75) eX9_told_11 (by decide) (by decide) (by decide) (by decide) ?_
        first | refine x_aload_n eX9_told_75 rfl rfl ?_ | refine x_aload_nN eX9_told_75 rfl rfl ?_
        refine x_iload_n eX9_told_76 rfl rfl ?_
        refine x_bipush (v := nI 9) eX9_told_77 (by decide) ?_
        refine x_callV2 eX9_told_79 lk_X9_57 (by assumption) (Nat.le_of_ble_eq_true rfl) (Nat.le_of_ble_eq_true rfl) ?_
        refine Rn.deep (c_X9_sail (d := d) M.md (by omega) (fun _ => ?_)) (by omega)
        refine x_iret eX9_told_82 rfl ?_
        exact hq
      · refine x_iload_n eX9_told_10 rfl rfl ?_
        refine x_tabIn (off := 72) (tgt := 83) eX9_told_11 (by decide) (by decide) (by decide) (by decide) ?_
        first | refine x_aload_n eX9_told_83 rfl rfl ?_ | refine x_aload_nN eX9_told_83 rfl rfl ?_
        refine x_iload_n eX9_told_84 rfl rfl ?_
        refine x_iconst (v := nI 0) eX9_told_85 (by decide) ?_
        first | refine x_aload_n eX9_told_86 rfl rfl ?_ | refine x_aload_nN eX9_told_86 rfl rfl ?_
        refine x_iload_n eX9_told_87 rfl rfl ?_
        refine x_iconst (v := nI 5) eX9_told_88 (by decide) ?_
        refine x_callV2 eX9_told_89 lk_X9_57 (by assumption) (Nat.le_of_ble_eq_true rfl) (Nat.le_of_ble_eq_true rfl) ?_
        refine Rn.deep (c_X9_sail (d := d) M.md (by omega) (fun _ => ?_)) (by omega)
        rw [e5]
        refine x_callV3 eX9_told_92 lk_X9_130 (by assumption) (Nat.le_of_ble_eq_true rfl) (Nat.le_of_ble_eq_true rfl) ?_
        refine Rn.deep (c_X9_strips (d := d) (a := 0) M.md (by omega) (by omega) (by omega) sw.h5 (fun _ => ?_)) (by omega)
        refine x_iret eX9_told_95 rfl ?_
        exact hq
      · refine x_iload_n eX9_told_10 rfl rfl ?_
        refine x_tabIn (off := 85) (tgt := 96) eX9_told_11 (by decide) (by decide) (by decide) (by decide) ?_
        first | refine x_aload_n eX9_told_96 rfl rfl ?_ | refine x_aload_nN eX9_told_96 rfl rfl ?_
        refine x_iload_n eX9_told_97 rfl rfl ?_
        refine x_bipush (v := nI 10) eX9_told_98 (by decide) ?_
        refine x_callV2 eX9_told_100 lk_X9_57 (by assumption) (Nat.le_of_ble_eq_true rfl) (Nat.le_of_ble_eq_true rfl) ?_
        refine Rn.deep (c_X9_sail (d := d) M.md (by omega) (fun _ => ?_)) (by omega)
        refine x_iret eX9_told_103 rfl ?_
        exact hq
      · refine x_iload_n eX9_told_10 rfl rfl ?_
        refine x_tabIn (off := 93) (tgt := 104) eX9_told_11 (by decide) (by decide) (by decide) (by decide) ?_
        first | refine x_aload_n eX9_told_104 rfl rfl ?_ | refine x_aload_nN eX9_told_104 rfl rfl ?_
        refine x_iload_n eX9_told_105 rfl rfl ?_
        refine x_bipush (v := nI 11) eX9_told_106 (by decide) ?_
        refine x_callV2 eX9_told_108 lk_X9_57 (by assumption) (Nat.le_of_ble_eq_true rfl) (Nat.le_of_ble_eq_true rfl) ?_
        refine Rn.deep (c_X9_sail (d := d) M.md (by omega) (fun _ => ?_)) (by omega)
        refine x_iret eX9_told_111 rfl ?_
        exact hq
      · refine x_iload_n eX9_told_10 rfl rfl ?_
        refine x_tabIn (off := 101) (tgt := 112) eX9_told_11 (by decide) (by decide) (by decide) (by decide) ?_
        refine x_iconst (v := nI 0) eX9_told_112 (by decide) ?_
        refine x_istore_n eX9_told_113 rfl (by decide) rfl rfl ?_
        refine x_iconst (v := nI 0) eX9_told_114 (by decide) ?_
        refine x_istore eX9_told_115 (by decide) rfl rfl ?_
        refine Rn.weak (l_X9_told (w := nI 6) M W hG hj rfl hq _ 0 (Nat.zero_add _)) (by repeat' first | exact fun _ h => absurd h List.not_mem_nil | refine List.forall_mem_cons.mpr ⟨rfl, ?_⟩)
      · refine x_iload_n eX9_told_10 rfl rfl ?_
        refine x_tabIn (off := 134) (tgt := 145) eX9_told_11 (by decide) (by decide) (by decide) (by decide) ?_
        first | refine x_aload_n eX9_told_145 rfl rfl ?_ | refine x_aload_nN eX9_told_145 rfl rfl ?_
        refine x_iload_n eX9_told_146 rfl rfl ?_
        refine x_bipush (v := nI 12) eX9_told_147 (by decide) ?_
        refine x_callV2 eX9_told_149 lk_X9_57 (by assumption) (Nat.le_of_ble_eq_true rfl) (Nat.le_of_ble_eq_true rfl) ?_
        refine Rn.deep (c_X9_sail (d := d) M.md (by omega) (fun _ => ?_)) (by omega)
        refine x_iret eX9_told_152 rfl ?_
        exact hq
      · refine x_iload_n eX9_told_10 rfl rfl ?_
        refine x_tabIn (off := 142) (tgt := 153) eX9_told_11 (by decide) (by decide) (by decide) (by decide) ?_
        first | refine x_aload_n eX9_told_153 rfl rfl ?_ | refine x_aload_nN eX9_told_153 rfl rfl ?_
        refine x_iload_n eX9_told_154 rfl rfl ?_
        refine x_iconst (v := nI 5) eX9_told_155 (by decide) ?_
        refine x_callV2 eX9_told_156 lk_X9_57 (by assumption) (Nat.le_of_ble_eq_true rfl) (Nat.le_of_ble_eq_true rfl) ?_
        refine Rn.deep (c_X9_sail (d := d) M.md (by omega) (fun _ => ?_)) (by omega)
        refine x_iret eX9_told_159 rfl ?_
        exact hq
    · have hout := inR_out (n := 8) (by omega) (Bool.eq_false_iff.mpr hin)
      refine x_iload_n eX9_told_10 rfl rfl ?_
      refine x_tabOut (tgt := 160) eX9_told_11 (by first | assumption | omega) (by decide) ?_
      refine x_iconst (v := (-1)) eX9_told_160 (by decide) ?_
      refine x_iret eX9_told_161 rfl ?_
      exact qi hq (by rw [tolV, Bool.eq_false_iff.mpr hin]; simp)
  · refine x_iconst (v := (-1)) eX9_told_8 (by decide) ?_
    refine x_iret eX9_told_9 rfl ?_
    exact qi hq (by simp [tolV, cq1])
set_option maxRecDepth 100000 in
set_option maxHeartbeats 4000000 in
theorem c_X9_panel {s i w : Int32} (M : MD h x) (W : GW (hi h (x + 1))) (hG : ∀ b, b < nt (hi h (x + 1) 0) → gOK (bl (hi h (x + 1)) b 2) = true) (hq : Q (some (.int (panV (hi h (x + 1)) s i w))) h) : Rn G (d + 7) mX9_panel 0 [(0, .ref x), (1, .int s), (2, .int i), (3, .int w)] [] h Q := by
  obtain ⟨⟨hx, hS, kS, nS⟩, -⟩ := id M
  first | refine x_aload_n eX9_panel_0 rfl rfl ?_ | refine x_aload_nN eX9_panel_0 rfl rfl ?_
  refine x_iload_n eX9_panel_1 rfl rfl ?_
  refine x_callV1 eX9_panel_2 lk_X9_53 (by assumption) (Nat.le_of_ble_eq_true rfl) (Nat.le_of_ble_eq_true rfl) ?_
  refine Rn.deep (c_X9_isSail (d := d) M.md (fun _ => ?_)) (by omega)
  first | refine x_if_eqB (tgt := 21) eX9_panel_5 (by decide) (by with_reducible rfl) (fun cq1 => ?_) (fun cq1 => ?_) | refine x_if_eq (tgt := 21) eX9_panel_5 (by decide) (fun cq1 => ?_) (fun cq1 => ?_)
  · refine x_iconst (v := (-1)) eX9_panel_21 (by decide) ?_
    refine x_iret eX9_panel_22 rfl ?_
    exact qi hq (by simp [panV, cq1])
  · obtain ⟨j, hj, rfl⟩ := isS_spec W.2.1 cq1
    have h10 := W.2.1.2.2
    have hnt : nt (nI j) = j := nt_nI (by omega)
    have sw := W.2.2.2 j hj
    have h40 : np (hi h (x + 1)) j ≤ 40 := sw.2.2.2.2.1
    refine x_iload_n eX9_panel_8 rfl rfl ?_
    refine x_if_lt (tgt := 21) eX9_panel_9 (by decide) (fun cq2 => ?_) (fun cq2 => ?_)
    · refine x_iconst (v := (-1)) eX9_panel_21 (by decide) ?_
      refine x_iret eX9_panel_22 rfl ?_
      exact qi hq (by have c2 : ¬ 0 ≤ i := Int32.not_le.mpr cq2; rw [panV, decide_eq_false c2]; simp)
    · have c2 : 0 ≤ i := Int32.not_lt.mp cq2
      obtain ⟨k, k1, rfl⟩ := nI_of (Int32.not_lt.mpr c2)
      have hntk : nt (nI k) = k := nt_nI k1
      refine x_iload_n eX9_panel_12 rfl rfl ?_
      first | refine x_aload_n eX9_panel_13 rfl rfl ?_ | refine x_aload_nN eX9_panel_13 rfl rfl ?_
      refine x_iload_n eX9_panel_14 rfl rfl ?_
      refine x_callV1 eX9_panel_15 lk_X9_82 (by assumption) (Nat.le_of_ble_eq_true rfl) (Nat.le_of_ble_eq_true rfl) ?_
      refine Rn.deep (c_X9_piecesN (d := d) M.md (by omega) sw (fun _ => ?_)) (by omega)
      first | refine x_icmp_ltN (tgt := 23) eX9_panel_18 (by decide) (by with_reducible rfl) (by with_reducible rfl) (by omega) (by omega) (fun cq3 => ?_) (fun cq3 => ?_) | refine x_icmp_lt (tgt := 23) eX9_panel_18 (by decide) (fun cq3 => ?_) (fun cq3 => ?_)
      · have c3 : nI k < nI (np (hi h (x + 1)) j) := (nI_ltI k1 (by omega)).mpr cq3
        have hkn : k < np (hi h (x + 1)) j := cq3
        have eV : panV (hi h (x + 1)) (nI j) (nI k) w = if inR w 0 9 then panK (hi h (x + 1)) j k (nt w) else -1 := by
          rw [panV, cq1, hnt, hntk, decide_eq_true c2, decide_eq_true c3]
          rfl
        rw [eV] at hq
        clear eV
        first | refine x_aload_n eX9_panel_23 rfl rfl ?_ | refine x_aload_nN eX9_panel_23 rfl rfl ?_
        refine x_iload_n eX9_panel_24 rfl rfl ?_
        refine x_iload_n eX9_panel_25 rfl rfl ?_
        refine x_callV2 eX9_panel_26 lk_X9_117 (by assumption) (Nat.le_of_ble_eq_true rfl) (Nat.le_of_ble_eq_true rfl) ?_
        refine Rn.deep (c_X9_isPanel (d := d) M.md (by omega) (by omega) sw (fun _ => ?_)) (by omega)
        refine x_istore eX9_panel_29 (by decide) rfl rfl ?_
        first | refine x_aload_n eX9_panel_31 rfl rfl ?_ | refine x_aload_nN eX9_panel_31 rfl rfl ?_
        refine x_iload_n eX9_panel_32 rfl rfl ?_
        refine x_sipush (v := nI 300) eX9_panel_33 (by decide) ?_
        refine x_iload_n eX9_panel_36 rfl rfl ?_
        first | refine x_iaddN eX9_panel_37 (by with_reducible rfl) (by with_reducible rfl) ?_ | refine x_iadd eX9_panel_37 ?_
        refine x_callV2 eX9_panel_38 lk_X9_57 (by assumption) (Nat.le_of_ble_eq_true rfl) (Nat.le_of_ble_eq_true rfl) ?_
        refine Rn.deep (c_X9_sail (d := d) M.md (by omega) (fun _ => ?_)) (by omega)
        by_cases hin : inR w 0 9 = true
        · obtain ⟨m, -, hm, rfl⟩ := inR_N (lo := 0) (hi := 9) hin rfl (by omega) (by omega)
          have hnm : nt (nI m) = m := nt_nI (by omega)
          rw [if_pos hin, hnm] at hq
          have hm9 : m = 0 ∨ m = 1 ∨ m = 2 ∨ m = 3 ∨ m = 4 ∨ m = 5 ∨ m = 6 ∨ m = 7 ∨ m = 8 ∨ m = 9 := by omega
          rcases hm9 with rfl | rfl | rfl | rfl | rfl | rfl | rfl | rfl | rfl | rfl
          · have hq : Q (some (.int (kndV (hi h (x + 1)) j k))) h := hq
            have tail : (!decide (sl (hi h (x + 1)) j (300 + k) = -1) && !decide (bl (hi h (x + 1)) (nt (sl (hi h (x + 1)) j (300 + k))) 4 = -1)) = false → isP (hi h (x + 1)) j k = true → Rn G (d + 7) mX9_panel 130 [(0, .ref x), (1, .int (nI j)), (2, .int (nI k))] [] h Q := by
              intro hz hp
              have e1 : kndV (hi h (x + 1)) j k = if 0 < sl (hi h (x + 1)) j (140 + k) then 1 else 0 := by
                rw [kndV, hp, hz]
                rfl
              rw [e1] at hq
              first | refine x_aload_n eX9_panel_130 rfl rfl ?_ | refine x_aload_nN eX9_panel_130 rfl rfl ?_
              refine x_iload_n eX9_panel_131 rfl rfl ?_
              refine x_sipush (v := nI 140) eX9_panel_132 (by decide) ?_
              refine x_iload_n eX9_panel_135 rfl rfl ?_
              first | refine x_iaddN eX9_panel_136 (by with_reducible rfl) (by with_reducible rfl) ?_ | refine x_iadd eX9_panel_136 ?_
              refine x_callV2 eX9_panel_137 lk_X9_57 (by assumption) (Nat.le_of_ble_eq_true rfl) (Nat.le_of_ble_eq_true rfl) ?_
              refine Rn.deep (c_X9_sail (d := d) M.md (by omega) (fun _ => ?_)) (by omega)
              refine x_if_le (tgt := 147) eX9_panel_140 (by decide) (fun cq1 => ?_) (fun cq1 => ?_)
              · refine x_iconst (v := nI 0) eX9_panel_147 (by decide) ?_
                refine x_iret eX9_panel_148 rfl ?_
                exact qi hq (by rw [if_neg (Int32.not_lt.mpr cq1)]; rfl)
              · refine x_iconst (v := nI 1) eX9_panel_143 (by decide) ?_
                refine x_goto (tgt := 148) eX9_panel_144 (by decide) ?_
                refine x_iret eX9_panel_148 rfl ?_
                exact qi hq (by rw [if_pos (Int32.not_le.mp cq1)]; rfl)
            refine x_istore eX9_panel_41 (by decide) rfl rfl ?_
            refine x_iload_n eX9_panel_43 rfl rfl ?_
            refine x_tabIn (off := 56) (tgt := 100) eX9_panel_44 (by decide) (by decide) (by decide) (by decide) ?_
            refine x_iload eX9_panel_100 rfl ?_
            first | refine x_if_neB (tgt := 109) eX9_panel_102 (by decide) (by with_reducible rfl) (fun cq1 => ?_) (fun cq1 => ?_) | refine x_if_ne (tgt := 109) eX9_panel_102 (by decide) (fun cq1 => ?_) (fun cq1 => ?_)
            · have hp : isP (hi h (x + 1)) j k = true := cq1
              refine x_iload eX9_panel_109 rfl ?_
              refine x_iconst (v := (-1)) eX9_panel_111 (by decide) ?_
              first | refine x_icmp_eqN (tgt := 130) eX9_panel_112 (by decide) (by with_reducible rfl) (by with_reducible rfl) (by omega) (by omega) (fun cq2 => ?_) (fun cq2 => ?_) | refine x_icmp_eq (tgt := 130) eX9_panel_112 (by decide) (fun cq2 => ?_) (fun cq2 => ?_)
              · have c1 : sl (hi h (x + 1)) j (300 + k) = -1 := cq2
                refine Rn.weak (tail (by rw [decide_eq_true c1]; rfl) hp) (by repeat' first | exact fun _ h => absurd h List.not_mem_nil | refine List.forall_mem_cons.mpr ⟨rfl, ?_⟩)
              · have c1 : ¬ sl (hi h (x + 1)) j (300 + k) = -1 := cq2
                obtain ⟨on, hon, eon⟩ : ∃ on, on < nt (hi h (x + 1) 0) ∧ sl (hi h (x + 1)) j (300 + k) = nI on := by
                  rcases sw.2.2.2.2.2.2.2.2.2.2.2.2.2 k (by unfold np at hkn; omega) with z | ⟨⟨z1, z2, z3⟩, z4⟩
                  · exact absurd z c1
                  · exact ⟨nt (sl (hi h (x + 1)) j (300 + k)), by omega, z1⟩
                have h24 := W.1.2.2
                have hnon : nt (sl (hi h (x + 1)) j (300 + k)) = on := by rw [eon, nt_nI (by omega)]
                rw [eon]
                first | refine x_aload_n eX9_panel_115 rfl rfl ?_ | refine x_aload_nN eX9_panel_115 rfl rfl ?_
                refine x_iload eX9_panel_116 rfl ?_
                refine x_iconst (v := nI 4) eX9_panel_118 (by decide) ?_
                refine x_callV2 eX9_panel_119 lk_X9_92 (by assumption) (Nat.le_of_ble_eq_true rfl) (Nat.le_of_ble_eq_true rfl) ?_
                refine Rn.deep (c_X9_bolt (d := d) M.md (by omega) (fun _ => ?_)) (by omega)
                refine x_iconst (v := (-1)) eX9_panel_122 (by decide) ?_
                first | refine x_icmp_eqN (tgt := 130) eX9_panel_123 (by decide) (by with_reducible rfl) (by with_reducible rfl) (by omega) (by omega) (fun cq3 => ?_) (fun cq3 => ?_) | refine x_icmp_eq (tgt := 130) eX9_panel_123 (by decide) (fun cq3 => ?_) (fun cq3 => ?_)
                · have c5 : bl (hi h (x + 1)) on 4 = -1 := cq3
                  refine Rn.weak (tail (by rw [hnon, decide_eq_true c5]; simp) hp) (by repeat' first | exact fun _ h => absurd h List.not_mem_nil | refine List.forall_mem_cons.mpr ⟨rfl, ?_⟩)
                · have c5 : ¬ bl (hi h (x + 1)) on 4 = -1 := cq3
                  refine x_iconst (v := nI 3) eX9_panel_126 (by decide) ?_
                  refine x_goto (tgt := 148) eX9_panel_127 (by decide) ?_
                  refine x_iret eX9_panel_148 rfl ?_
                  exact qi hq (by rw [kndV, hp, hnon, decide_eq_false c1, decide_eq_false c5]; rfl)
            · refine x_iconst (v := nI 2) eX9_panel_105 (by decide) ?_
              refine x_goto (tgt := 148) eX9_panel_106 (by decide) ?_
              refine x_iret eX9_panel_148 rfl ?_
              exact qi hq (by have hp : isP (hi h (x + 1)) j k = false := cq1; rw [kndV, hp]; rfl)
          · skip
            refine x_istore eX9_panel_41 (by decide) rfl rfl ?_
            refine x_iload_n eX9_panel_43 rfl rfl ?_
            refine x_tabIn (off := 105) (tgt := 149) eX9_panel_44 (by decide) (by decide) (by decide) (by decide) ?_
            first | refine x_aload_n eX9_panel_149 rfl rfl ?_ | refine x_aload_nN eX9_panel_149 rfl rfl ?_
            refine x_iload_n eX9_panel_150 rfl rfl ?_
            refine x_iload_n eX9_panel_151 rfl rfl ?_
            refine x_callV2 eX9_panel_152 lk_X9_124 (by assumption) (Nat.le_of_ble_eq_true rfl) (Nat.le_of_ble_eq_true rfl) ?_
            refine Rn.deep (c_X9_low (d := d) M.md (by omega) (by omega) sw (fun _ => ?_)) (by omega)
            refine x_iret eX9_panel_155 rfl ?_
            exact hq
          · skip
            refine x_istore eX9_panel_41 (by decide) rfl rfl ?_
            refine x_iload_n eX9_panel_43 rfl rfl ?_
            refine x_tabIn (off := 112) (tgt := 156) eX9_panel_44 (by decide) (by decide) (by decide) (by decide) ?_
            first | refine x_aload_n eX9_panel_156 rfl rfl ?_ | refine x_aload_nN eX9_panel_156 rfl rfl ?_
            refine x_iload_n eX9_panel_157 rfl rfl ?_
            refine x_iload_n eX9_panel_158 rfl rfl ?_
            refine x_callV2 eX9_panel_159 lk_X9_121 (by assumption) (Nat.le_of_ble_eq_true rfl) (Nat.le_of_ble_eq_true rfl) ?_
            refine Rn.deep (c_X9_high (d := d) M.md (by omega) (by omega) sw (fun _ => ?_)) (by omega)
            refine x_iret eX9_panel_162 rfl ?_
            exact hq
          · skip
            refine x_istore eX9_panel_41 (by decide) rfl rfl ?_
            refine x_iload_n eX9_panel_43 rfl rfl ?_
            refine x_tabIn (off := 119) (tgt := 163) eX9_panel_44 (by decide) (by decide) (by decide) (by decide) ?_
            first | refine x_aload_n eX9_panel_163 rfl rfl ?_ | refine x_aload_nN eX9_panel_163 rfl rfl ?_
            refine x_iload_n eX9_panel_164 rfl rfl ?_
            refine x_iload_n eX9_panel_165 rfl rfl ?_
            refine x_callV2 eX9_panel_166 lk_X9_86 (by assumption) (Nat.le_of_ble_eq_true rfl) (Nat.le_of_ble_eq_true rfl) ?_
            refine Rn.deep (c_X9_length (d := d) M.md (by omega) (by omega) sw (fun _ => ?_)) (by omega)
            refine x_iret eX9_panel_169 rfl ?_
            exact hq
          · skip
            refine x_istore eX9_panel_41 (by decide) rfl rfl ?_
            refine x_iload_n eX9_panel_43 rfl rfl ?_
            refine x_tabIn (off := 126) (tgt := 170) eX9_panel_44 (by decide) (by decide) (by decide) (by decide) ?_
            first | refine x_aload_n eX9_panel_170 rfl rfl ?_ | refine x_aload_nN eX9_panel_170 rfl rfl ?_
            refine x_iload_n eX9_panel_171 rfl rfl ?_
            refine x_iload_n eX9_panel_172 rfl rfl ?_
            refine x_callV2 eX9_panel_173 lk_X9_143 (by assumption) (Nat.le_of_ble_eq_true rfl) (Nat.le_of_ble_eq_true rfl) ?_
            refine Rn.deep (c_X9_breadth (d := d) M.md (by omega) (by omega) sw (fun _ => ?_)) (by omega)
            refine x_iret eX9_panel_176 rfl ?_
            exact hq
          · skip
            refine x_istore eX9_panel_41 (by decide) rfl rfl ?_
            refine x_iload_n eX9_panel_43 rfl rfl ?_
            refine x_tabIn (off := 133) (tgt := 177) eX9_panel_44 (by decide) (by decide) (by decide) (by decide) ?_
            first | refine x_aload_n eX9_panel_177 rfl rfl ?_ | refine x_aload_nN eX9_panel_177 rfl rfl ?_
            refine x_iload_n eX9_panel_178 rfl rfl ?_
            refine x_iload_n eX9_panel_179 rfl rfl ?_
            refine x_callV2 eX9_panel_180 lk_X9_133 (by assumption) (Nat.le_of_ble_eq_true rfl) (Nat.le_of_ble_eq_true rfl) ?_
            refine Rn.deep (c_X9_area (d := d) M.md (by omega) (by omega) sw (fun _ => ?_)) (by omega)
            refine x_iret eX9_panel_183 rfl ?_
            exact hq
          · skip
            refine x_istore eX9_panel_41 (by decide) rfl rfl ?_
            refine x_iload_n eX9_panel_43 rfl rfl ?_
            refine x_tabIn (off := 140) (tgt := 184) eX9_panel_44 (by decide) (by decide) (by decide) (by decide) ?_
            refine x_iload eX9_panel_184 rfl ?_
            refine x_iret eX9_panel_186 rfl ?_
            exact hq
          · skip
            refine x_istore eX9_panel_41 (by decide) rfl rfl ?_
            refine x_iload_n eX9_panel_43 rfl rfl ?_
            refine x_tabIn (off := 143) (tgt := 187) eX9_panel_44 (by decide) (by decide) (by decide) (by decide) ?_
            first | refine x_aload_n eX9_panel_187 rfl rfl ?_ | refine x_aload_nN eX9_panel_187 rfl rfl ?_
            refine x_iload_n eX9_panel_188 rfl rfl ?_
            refine x_sipush (v := nI 340) eX9_panel_189 (by decide) ?_
            refine x_iload_n eX9_panel_192 rfl rfl ?_
            first | refine x_iaddN eX9_panel_193 (by with_reducible rfl) (by with_reducible rfl) ?_ | refine x_iadd eX9_panel_193 ?_
            refine x_callV2 eX9_panel_194 lk_X9_57 (by assumption) (Nat.le_of_ble_eq_true rfl) (Nat.le_of_ble_eq_true rfl) ?_
            refine Rn.deep (c_X9_sail (d := d) M.md (by omega) (fun _ => ?_)) (by omega)
            refine x_iret eX9_panel_197 rfl ?_
            exact hq
          · skip
            refine x_istore eX9_panel_41 (by decide) rfl rfl ?_
            refine x_iload_n eX9_panel_43 rfl rfl ?_
            refine x_tabIn (off := 154) (tgt := 198) eX9_panel_44 (by decide) (by decide) (by decide) (by decide) ?_
            first | refine x_aload_n eX9_panel_198 rfl rfl ?_ | refine x_aload_nN eX9_panel_198 rfl rfl ?_
            refine x_iload_n eX9_panel_199 rfl rfl ?_
            refine x_iload_n eX9_panel_200 rfl rfl ?_
            refine x_callV2 eX9_panel_201 lk_X9_140 (by assumption) (Nat.le_of_ble_eq_true rfl) (Nat.le_of_ble_eq_true rfl) ?_
            refine c_X9_weight M W hG hj (by omega) (fun _ => ?_)
            refine x_iret eX9_panel_204 rfl ?_
            exact hq
          · skip
            refine x_istore eX9_panel_41 (by decide) rfl rfl ?_
            refine x_iload_n eX9_panel_43 rfl rfl ?_
            refine x_tabIn (off := 161) (tgt := 205) eX9_panel_44 (by decide) (by decide) (by decide) (by decide) ?_
            refine x_iload eX9_panel_205 rfl ?_
            first | refine x_if_eqB (tgt := 223) eX9_panel_207 (by decide) (by with_reducible rfl) (fun cq1 => ?_) (fun cq1 => ?_) | refine x_if_eq (tgt := 223) eX9_panel_207 (by decide) (fun cq1 => ?_) (fun cq1 => ?_)
            · refine x_iconst (v := nI 0) eX9_panel_223 (by decide) ?_
              refine x_iret eX9_panel_224 rfl ?_
              exact qi hq (by have hp : isP (hi h (x + 1)) j k = false := cq1; show _ = (if isP (hi h (x + 1)) j k then sl (hi h (x + 1)) j (140 + k) else 0); rw [hp]; rfl)
            · have hp : isP (hi h (x + 1)) j k = true := cq1
              first | refine x_aload_n eX9_panel_210 rfl rfl ?_ | refine x_aload_nN eX9_panel_210 rfl rfl ?_
              refine x_iload_n eX9_panel_211 rfl rfl ?_
              refine x_sipush (v := nI 140) eX9_panel_212 (by decide) ?_
              refine x_iload_n eX9_panel_215 rfl rfl ?_
              first | refine x_iaddN eX9_panel_216 (by with_reducible rfl) (by with_reducible rfl) ?_ | refine x_iadd eX9_panel_216 ?_
              refine x_callV2 eX9_panel_217 lk_X9_57 (by assumption) (Nat.le_of_ble_eq_true rfl) (Nat.le_of_ble_eq_true rfl) ?_
              refine Rn.deep (c_X9_sail (d := d) M.md (by omega) (fun _ => ?_)) (by omega)
              refine x_goto (tgt := 224) eX9_panel_220 (by decide) ?_
              refine x_iret eX9_panel_224 rfl ?_
              exact qi hq (by show _ = (if isP (hi h (x + 1)) j k then sl (hi h (x + 1)) j (140 + k) else 0); rw [hp]; rfl)
        · have hout := inR_out (n := 9) (by omega) (Bool.eq_false_iff.mpr hin)
          refine x_istore eX9_panel_41 (by decide) rfl rfl ?_
          refine x_iload_n eX9_panel_43 rfl rfl ?_
          refine x_tabOut (tgt := 225) eX9_panel_44 (by first | assumption | omega) (by decide) ?_
          refine x_iconst (v := (-1)) eX9_panel_225 (by decide) ?_
          refine x_iret eX9_panel_226 rfl ?_
          exact qi hq (by rw [Bool.eq_false_iff.mpr hin]; rfl)
      · refine x_iconst (v := (-1)) eX9_panel_21 (by decide) ?_
        refine x_iret eX9_panel_22 rfl ?_
        exact qi hq (by have c3 : ¬ nI k < nI (np (hi h (x + 1)) j) := fun z => absurd ((nI_ltI k1 (by omega)).mp z) (by omega)
                        rw [panV, hnt, decide_eq_false c3]; simp)
end REF13

