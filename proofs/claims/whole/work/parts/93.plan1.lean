/-! ===== plan: the first place, what is loose ===== -/
set_option maxRecDepth 100000 in
set_option maxHeartbeats 4000000 in
theorem run_cnt (P : Nat → Bool) : ∀ k, runN P k ≤ cntN P k
  | 0 => Nat.le_refl _
  | k + 1 => by
    have := run_cnt P k
    unfold runN cntN
    split <;> omega
set_option maxRecDepth 100000 in
set_option maxHeartbeats 4000000 in
theorem cnt_grow (P : Nat → Bool) (k : Nat) : ∀ n, cntN P k ≤ cntN P (k + n)
  | 0 => Nat.le_refl _
  | n + 1 => Nat.le_trans (cnt_grow P k n) (by show cntN P (k + n) ≤ cntN P (k + n) + _; omega)
set_option maxRecDepth 100000 in
set_option maxHeartbeats 4000000 in
theorem cnt_disj {P R : Nat → Bool} : ∀ {n : Nat}, (∀ j, j < n → P j = true → R j = false) → cntN P n + cntN R n ≤ n
  | 0, _ => Nat.le_refl _
  | n + 1, h => by
    have := cnt_disj (n := n) (fun j hj => h j (by omega))
    have z := h n (by omega)
    unfold cntN
    cases e : P n with
    | false => cases R n <;> simp <;> omega
    | true => rw [z e]; simp; omega
set_option maxRecDepth 100000 in
set_option maxHeartbeats 4000000 in
theorem run_all {P : Nat → Bool} : ∀ {k : Nat} {j : Nat}, k - runN P k ≤ j → j < k → P j = true
  | 0, j, _, h => absurd h (by omega)
  | k + 1, j, h1, h2 => by
    unfold runN at h1
    cases e : P k with
    | false =>
      rw [e] at h1
      exact absurd h1 (by simp; omega)
    | true =>
      rw [e, if_pos rfl] at h1
      by_cases z : j = k
      · rw [z]; exact e
      · exact run_all (k := k) (by have := runN_le P k; omega) (by omega)
set_option maxRecDepth 100000 in
set_option maxHeartbeats 4000000 in
theorem runN_eq {P R : Nat → Bool} : ∀ {k : Nat}, (∀ j, j < k → P j = R j) → runN P k = runN R k
  | 0, _ => rfl
  | k + 1, h => by
    unfold runN
    rw [h k (by omega), runN_eq (fun j hj => h j (by omega))]
section PLAN1
variable {G : GG} {d : Nat} {h h2 : AH} {Q : Option Value → AH → Prop} {ow o2 : Nat → Nat} {y kp nx : Nat} {g gp ld wd : Nat → Int32} {ps : Nat → Nat → Int32} {s i b : Nat} {w : Int32}
set_option maxRecDepth 100000 in
set_option maxHeartbeats 4000000 in
/-- the class's search and the document's -/
theorem fq_eq {F : Nat → Int32} (I : GI g) (hb : b < nt (g 0)) (hs : s < nt (g 1)) (hi4 : i < np g s) (eF : ∀ k, k < nt (bl g b 1) → F k = liesV g (nI b) (nI k)) : fqV (bl g b) (fun k => liesV g (nI b) (nI k)) (cvN F (nt (bl g b 1))) (nt (lenV g s i)) (broV g s i) w = fpV g b s i w := by
  obtain ⟨w0, w1, w3⟩ := (I.2.1 b hb).1
  have u1 := w1.2.2
  have lw := (I.2.2.1 s hs).2.2.2.2.2.2.2.2.2.2 i hi4
  have ul := lw.2.2
  have fe : ∀ j, j < nt (bl g b 1) → frP (bl g b) (fun k => liesV g (nI b) (nI k)) (nI j) w = freV g b w j := fun j hj => by
    unfold frP freV
    rw [w1.1, hpV_nI (by omega) (by omega), decide_eq_true hj, nt_nI (by omega), wn_eq (w3.mono (Nat.le_refl _) u1) (by omega), Bool.true_and, Bool.and_comm]
  have en : fqN (bl g b) (fun k => liesV g (nI b) (nI k)) (nt (lenV g s i)) w = fpN g b s i w := by
    unfold fqN fpN
    refine fstN_eq (fun k hk => ?_)
    rw [runN_eq (fun j hj => fe j (by omega))]
  have ci : lenV g s i ≤ bl g b 1 ↔ nt (lenV g s i) ≤ nt (bl g b 1) := by
    conv => lhs; rw [lw.1, w1.1]
    exact nI_leI (by omega) (by omega)
  unfold fqV fpV
  rw [en]
  by_cases z : broV g s i ≤ bl g b 0
  · by_cases z2 : nt (lenV g s i) + cvN F (nt (bl g b 1)) ≤ nt (bl g b 1)
    · rw [if_pos ⟨z, z2⟩, if_pos ⟨z, ci.mpr (by omega)⟩]
      cases fpN g b s i w <;> rfl
    · rw [if_neg (fun q => z2 q.2)]
      by_cases z3 : lenV g s i ≤ bl g b 1
      · rw [if_pos ⟨z, z3⟩]
        rcases fstN_spec (P := fun k => decide (runN (freV g b w) (k + 1) = nt (lenV g s i))) (n := nt (bl g b 1)) with ⟨e, -⟩ | ⟨k, e, h1, h2, -⟩
        · rw [show fpN g b s i w = none from e]
        · have h3 := of_decide_eq_true h2
          have h4 := run_cnt (freV g b w) (k + 1)
          have h5 := cnt_grow (freV g b w) (k + 1) (nt (bl g b 1) - (k + 1))
          rw [show k + 1 + (nt (bl g b 1) - (k + 1)) = nt (bl g b 1) by omega] at h5
          have h6 := cnt_disj (P := freV g b w) (R := fun k => !decide (F k = -1)) (n := nt (bl g b 1)) (fun j hj q => by
            unfold freV at q
            rw [Bool.and_eq_true] at q
            rw [eF j hj, q.2]
            rfl)
          unfold cvN at z2
          omega
      · rw [if_neg (fun q => z3 q.2)]
  · rw [if_neg (fun q => z q.1), if_neg (fun q => z q.1)]
set_option maxRecDepth 100000 in
set_option maxHeartbeats 4000000 in
theorem fp_free {p : Nat} (I : GI g) (hb : b < nt (g 0)) (hs : s < nt (g 1)) (hi4 : i < np g s) (e : fpV g b s i w = nI p) (hp : p < 2 ^ 31) : p + nt (lenV g s i) ≤ nt (bl g b 1) ∧ ∀ k, p ≤ k → k < p + nt (lenV g s i) → liesV g (nI b) (nI k) = -1 := by
  obtain ⟨w0, w1, w3⟩ := (I.2.1 b hb).1
  have u1 := w1.2.2
  unfold fpV at e
  by_cases z : broV g s i ≤ bl g b 0 ∧ lenV g s i ≤ bl g b 1
  · rw [if_pos z] at e
    rcases fstN_spec (P := fun k => decide (runN (freV g b w) (k + 1) = nt (lenV g s i))) (n := nt (bl g b 1)) with ⟨e2, -⟩ | ⟨k, e2, h1, h2, -⟩
    · rw [show fpN g b s i w = none from e2] at e
      exact absurd e.symm (nI_m1 hp)
    · rw [show fpN g b s i w = some k from e2] at e
      have h3 := of_decide_eq_true h2
      have h4 := runN_le (freV g b w) (k + 1)
      have e3 := (nI_eq (by omega) hp).mp e
      refine ⟨by omega, fun j j1 j2 => ?_⟩
      have := run_all (P := freV g b w) (k := k + 1) (j := j) (by omega) (by omega)
      unfold freV at this
      rw [Bool.and_eq_true] at this
      exact of_decide_eq_true this.2
  · rw [if_neg z] at e
    exact absurd e.symm (nI_m1 hp)
set_option maxRecDepth 100000 in
set_option maxHeartbeats 4000000 in
theorem c_X8_piecesToLay (C : Core ow h y g ld wd) (I : GI g) (hs : s < nt (g 1)) (hq : Q (some (.int (nI (if isC g (nI s) then np g s else 0)))) h) : Rn G (d + 3) mX8_piecesToLay 0 [(0, .ref y), (1, .int (nI s))] [] h Q := by
  have W := I.gw
  have h10 := W.2.1.2.2
  have ky := C.2.1.1.1
  have ec : isC g (nI s) = decide (sl g s 0 = 1) := by
    unfold isC
    rw [isS_of W hs, nt_nI (by omega)]
    rfl
  first | refine x_aload_n eX8_piecesToLay_0 rfl rfl ?_ | refine x_aload_nN eX8_piecesToLay_0 rfl rfl ?_
  refine x_iload_n eX8_piecesToLay_1 rfl rfl ?_
  refine x_iconst (v := nI 1) eX8_piecesToLay_2 (by decide) ?_
  first | refine x_callV2 eX8_piecesToLay_3 lk_X8_120 (by assumption) (Nat.le_of_ble_eq_true rfl) (Nat.le_of_ble_eq_true rfl) ?_ | refine x_callVw2 eX8_piecesToLay_3 lk_X8_120 (by assumption) (Nat.le_of_ble_eq_true rfl) (Nat.le_of_ble_eq_true rfl) (Nat.le_of_ble_eq_true rfl) ?_
  refine Rn.deep (c_X8_sailInState (d := d) C W (fun z _ => ?_) (fun s' sa es hs' h1 hsa S _ => ?_)) (by omega)
  · first | refine x_astore_n eX8_piecesToLay_6 rfl (by decide) rfl rfl ?_ | refine x_astore_nN eX8_piecesToLay_6 rfl (by decide) rfl rfl ?_
    first | refine x_aload_n eX8_piecesToLay_7 rfl rfl ?_ | refine x_aload_nN eX8_piecesToLay_7 rfl rfl ?_
    refine x_ifnonnullN eX8_piecesToLay_8 ?_
    refine x_iconst (v := nI 0) eX8_piecesToLay_11 (by decide) ?_
    refine x_goto (tgt := 19) eX8_piecesToLay_12 (by decide) ?_
    refine x_iret eX8_piecesToLay_19 rfl ?_
    exact qi hq (by rw [show isC g (nI s) = false from z]; rfl)
  · have ess : s = s' := (nI_eq (by omega) (by omega)).mp es
    subst ess
    have ka := S.1.2.1
    have e6 := S.2.1.2.2.1
    first | refine x_astore_n eX8_piecesToLay_6 rfl (by decide) rfl rfl ?_ | refine x_astore_nN eX8_piecesToLay_6 rfl (by decide) rfl rfl ?_
    first | refine x_aload_n eX8_piecesToLay_7 rfl rfl ?_ | refine x_aload_nN eX8_piecesToLay_7 rfl rfl ?_
    refine x_ifnonnullR (tgt := 15) eX8_piecesToLay_8 (by decide) ?_
    first | refine x_aload_n eX8_piecesToLay_15 rfl rfl ?_ | refine x_aload_nN eX8_piecesToLay_15 rfl rfl ?_
    first | refine x_getIe eX8_piecesToLay_16 fk_X8_179 (by decide) (by assumption) (by assumption) ?_ | refine x_getI eX8_piecesToLay_16 fk_X8_179 (by decide) (by assumption) ?_
    refine x_iret eX8_piecesToLay_19 rfl ?_
    exact qi hq (by rw [ec, decide_eq_true (show sl g s 0 = 1 from h1)]; rfl)
set_option maxRecDepth 100000 in
set_option maxHeartbeats 4000000 in
theorem c_X8_isLoose (C : Core ow h y g ld wd) (I : GI g) (hs : s < nt (g 1)) (h1 : sl g s 0 = 1) (hi4 : i < np g s) (hq : Q (some (.int (bI (decide (sl g s (300 + i) = -1))))) h) : Rn G (d + 3) mX8_isLoose 0 [(0, .ref y), (1, .int (nI s)), (2, .int (nI i))] [] h Q := by
  have W := I.gw
  have h10 := W.2.1.2.2
  have ky := C.2.1.1.1
  obtain ⟨sw, sx⟩ := I.2.2.1 s hs
  have h40 : np g s ≤ 40 := sw.2.2.2.2.1
  first | refine x_aload_n eX8_isLoose_0 rfl rfl ?_ | refine x_aload_nN eX8_isLoose_0 rfl rfl ?_
  refine x_iload_n eX8_isLoose_1 rfl rfl ?_
  refine x_iconst (v := nI 1) eX8_isLoose_2 (by decide) ?_
  first | refine x_callV2 eX8_isLoose_3 lk_X8_120 (by assumption) (Nat.le_of_ble_eq_true rfl) (Nat.le_of_ble_eq_true rfl) ?_ | refine x_callVw2 eX8_isLoose_3 lk_X8_120 (by assumption) (Nat.le_of_ble_eq_true rfl) (Nat.le_of_ble_eq_true rfl) (Nat.le_of_ble_eq_true rfl) ?_
  refine Rn.deep (c_X8_sailInState (d := d) C W (fun z _ => ?_) (fun s' sa es hs' h1 hsa S _ => ?_)) (by omega)
  · rw [isS_of W hs, nt_nI (by omega), h1] at z
    cases z
  · have ess : s = s' := (nI_eq (by omega) (by omega)).mp es
    subst ess
    refine x_iload_n eX8_isLoose_6 rfl rfl ?_
    refine x_callS2 eX8_isLoose_7 lk_X8_206 (Nat.le_of_ble_eq_true rfl) (Nat.le_of_ble_eq_true rfl) ?_
    refine Rn.deep (c_X8_pieceOf2 (d := d) S sw sx (fun z _ => ?_) (fun i' p ei hi' hpa P _ => ?_)) (by omega)
    · rw [hpV_nI (by omega) (by omega), decide_eq_true hi4] at z
      cases z
    · have eii : i = i' := (nI_eq (by omega) (by omega)).mp ei
      subst eii
      obtain ⟨op, kpp, p0, p1, p2, p3, p4, p5, p6, p7, p8⟩ := id P
      first | refine x_astore_n eX8_isLoose_10 rfl (by decide) rfl rfl ?_ | refine x_astore_nN eX8_isLoose_10 rfl (by decide) rfl rfl ?_
      first | refine x_aload_n eX8_isLoose_11 rfl rfl ?_ | refine x_aload_nN eX8_isLoose_11 rfl rfl ?_
      refine x_ifnullR eX8_isLoose_12 ?_
      first | refine x_aload_n eX8_isLoose_15 rfl rfl ?_ | refine x_aload_nN eX8_isLoose_15 rfl rfl ?_
      first | refine x_getIe eX8_isLoose_16 fk_X8_227 (by decide) (by assumption) (by assumption) ?_ | refine x_getI eX8_isLoose_16 fk_X8_227 (by decide) (by assumption) ?_
      refine x_iconst (v := (-1)) eX8_isLoose_19 (by decide) ?_
      first | refine x_icmp_neN (tgt := 27) eX8_isLoose_20 (by decide) (by with_reducible rfl) (by with_reducible rfl) (by omega) (by omega) (fun cq1 => ?_) (fun cq1 => ?_) | refine x_icmp_ne (tgt := 27) eX8_isLoose_20 (by decide) (fun cq1 => ?_) (fun cq1 => ?_)
      · refine x_iconst (v := nI 0) eX8_isLoose_27 (by decide) ?_
        refine x_zret eX8_isLoose_28 rfl (by first | exact Or.inl rfl | exact Or.inr rfl | exact bI_or _ | assumption) ?_
        exact qi hq (bIf (decide_eq_false cq1)).symm
      · refine x_iconst (v := nI 1) eX8_isLoose_23 (by decide) ?_
        refine x_goto (tgt := 28) eX8_isLoose_24 (by decide) ?_
        refine x_zret eX8_isLoose_28 rfl (by first | exact Or.inl rfl | exact Or.inr rfl | exact bI_or _ | assumption) ?_
        exact qi hq (bIt (decide_eq_true cq1)).symm
/-- how many pieces of the sails below n are loose -/
def loN2 (g : Nat → Int32) : Nat → Nat
  | 0 => 0
  | s + 1 => loN2 g s + (if sl g s 0 = 1 then cntN (lsP g s) (np g s) else 0)
set_option maxRecDepth 100000 in
set_option maxHeartbeats 4000000 in
theorem c_X8_countLoose (C : Core ow h y g ld wd) (I : GI g) (hq : Q (some (.int (nI (loN2 g (nt (g 1)))))) h) : Rn G (d + 3) mX8_countLoose 0 [(0, .ref y)] [] h Q := by
  have W := I.gw
  have h10 := W.2.1.2.2
  have ky := C.2.1.1.1
  obtain ⟨n, hn⟩ : ∃ n, n = nt (g 1) := ⟨_, rfl⟩
  rw [← hn] at hq h10
  have e3 : hi h y 3 = nI n := by rw [C.2.2.1.2, hn]; exact W.2.1.1
  have bnd : ∀ k, k ≤ n → loN2 g k ≤ 40 * k := by
    intro k
    induction k with
    | zero => intro _; exact Nat.le_refl _
    | succ k ih =>
      intro hk
      have z := ih (by omega)
      have z2 := cntN_le (lsP g k) (np g k)
      have z3 := (W.2.2.2 k (by omega)).2.2.2.2.1
      unfold loN2
      have z4 : np g k ≤ 40 := z3
      split <;> omega
  have loop : ∀ m k, n - k = m → k ≤ n → Rn G (d + 3) mX8_countLoose 4 [(0, .ref y), (1, .int (nI (loN2 g k))), (2, .int (nI k))] [] h Q := by
    intro m
    induction m with
    | zero =>
      intro k hm0 hkn
      have ekn : k = n := by omega
      subst ekn
      refine x_iload_n eX8_countLoose_4 rfl rfl ?_
      first | refine x_aload_n eX8_countLoose_5 rfl rfl ?_ | refine x_aload_nN eX8_countLoose_5 rfl rfl ?_
      first | refine x_getIe eX8_countLoose_6 fk_X8_25 (by decide) (by assumption) (by assumption) ?_ | refine x_getI eX8_countLoose_6 fk_X8_25 (by decide) (by assumption) ?_
      first | refine x_icmp_geN (tgt := 36) eX8_countLoose_9 (by decide) (by with_reducible rfl) (by with_reducible rfl) (by omega) (by omega) (fun cq1 => ?_) (fun cq1 => ?_) | refine x_icmp_ge (tgt := 36) eX8_countLoose_9 (by decide) (fun cq1 => ?_) (fun cq1 => ?_)
      · refine x_iload_n eX8_countLoose_36 rfl rfl ?_
        refine x_iret eX8_countLoose_37 rfl ?_
        exact hq
      · omega
    | succ m ih =>
      intro k hm0 hkn
      have iw := ih (k + 1) (by omega) (by omega)
      have bk := bnd k hkn
      obtain ⟨sw, sx⟩ := I.2.2.1 k (by omega)
      have h40 : np g k ≤ 40 := sw.2.2.2.2.1
      have z2 := cntN_le (lsP g k) (np g k)
      unfold loN2 at iw
      refine x_iload_n eX8_countLoose_4 rfl rfl ?_
      first | refine x_aload_n eX8_countLoose_5 rfl rfl ?_ | refine x_aload_nN eX8_countLoose_5 rfl rfl ?_
      first | refine x_getIe eX8_countLoose_6 fk_X8_25 (by decide) (by assumption) (by assumption) ?_ | refine x_getI eX8_countLoose_6 fk_X8_25 (by decide) (by assumption) ?_
      first | refine x_icmp_geN (tgt := 36) eX8_countLoose_9 (by decide) (by with_reducible rfl) (by with_reducible rfl) (by omega) (by omega) (fun cq1 => ?_) (fun cq1 => ?_) | refine x_icmp_ge (tgt := 36) eX8_countLoose_9 (by decide) (fun cq1 => ?_) (fun cq1 => ?_)
      · omega
      · first | refine x_aload_n eX8_countLoose_12 rfl rfl ?_ | refine x_aload_nN eX8_countLoose_12 rfl rfl ?_
        refine x_iload_n eX8_countLoose_13 rfl rfl ?_
        refine x_iconst (v := nI 1) eX8_countLoose_14 (by decide) ?_
        first | refine x_callV2 eX8_countLoose_15 lk_X8_120 (by assumption) (Nat.le_of_ble_eq_true rfl) (Nat.le_of_ble_eq_true rfl) ?_ | refine x_callVw2 eX8_countLoose_15 lk_X8_120 (by assumption) (Nat.le_of_ble_eq_true rfl) (Nat.le_of_ble_eq_true rfl) (Nat.le_of_ble_eq_true rfl) ?_
        refine Rn.deep (c_X8_sailInState (d := d) C W (fun z _ => ?_) (fun s' sa es hs' h1 hsa S _ => ?_)) (by omega)
        · rw [isS_of W (by omega), nt_nI (by omega)] at z
          rw [if_neg (show ¬ sl g k 0 = 1 from of_decide_eq_false z), Nat.add_zero] at iw
          first | refine x_astore_n eX8_countLoose_18 rfl (by decide) rfl rfl ?_ | refine x_astore_nN eX8_countLoose_18 rfl (by decide) rfl rfl ?_
          first | refine x_aload_n eX8_countLoose_19 rfl rfl ?_ | refine x_aload_nN eX8_countLoose_19 rfl rfl ?_
          refine x_ifnullN (tgt := 30) eX8_countLoose_20 (by decide) ?_
          first | refine x_iincN eX8_countLoose_30 rfl (by with_reducible rfl) (by decide) rfl rfl ?_ | refine x_iinc eX8_countLoose_30 rfl rfl (by decide) rfl rfl ?_
          refine x_goto (tgt := 4) eX8_countLoose_33 (by decide) ?_
          refine Rn.weak (iw) (by repeat' first | exact fun _ h => absurd h List.not_mem_nil | refine List.forall_mem_cons.mpr ⟨rfl, ?_⟩)
        · have ess : k = s' := (nI_eq (by omega) (by omega)).mp es
          subst ess
          rw [if_pos (show sl g k 0 = 1 from h1)] at iw
          have ka := S.1.2.1
          first | refine x_astore_n eX8_countLoose_18 rfl (by decide) rfl rfl ?_ | refine x_astore_nN eX8_countLoose_18 rfl (by decide) rfl rfl ?_
          first | refine x_aload_n eX8_countLoose_19 rfl rfl ?_ | refine x_aload_nN eX8_countLoose_19 rfl rfl ?_
          refine x_ifnullR eX8_countLoose_20 ?_
          refine x_iload_n eX8_countLoose_23 rfl rfl ?_
          first | refine x_aload_n eX8_countLoose_24 rfl rfl ?_ | refine x_aload_nN eX8_countLoose_24 rfl rfl ?_
          refine x_callV0 eX8_countLoose_25 lk_X8_268 (by assumption) (Nat.le_of_ble_eq_true rfl) (Nat.le_of_ble_eq_true rfl) ?_
          refine Rn.deep (c_X5_countLoose (d := d) ka S.2.1 h40 (fun z => sx.np0 z) (fun _ => ?_)) (by omega)
          first | refine x_iaddN eX8_countLoose_28 (by with_reducible rfl) (by with_reducible rfl) ?_ | refine x_iadd eX8_countLoose_28 ?_
          refine x_istore_n eX8_countLoose_29 rfl (by decide) rfl rfl ?_
          first | refine x_iincN eX8_countLoose_30 rfl (by with_reducible rfl) (by decide) rfl rfl ?_ | refine x_iinc eX8_countLoose_30 rfl rfl (by decide) rfl rfl ?_
          refine x_goto (tgt := 4) eX8_countLoose_33 (by decide) ?_
          refine Rn.weak (iw) (by repeat' first | exact fun _ h => absurd h List.not_mem_nil | refine List.forall_mem_cons.mpr ⟨rfl, ?_⟩)
  have w0 := loop n 0 rfl (Nat.zero_le _)
  refine x_iconst (v := nI 0) eX8_countLoose_0 (by decide) ?_
  refine x_istore_n eX8_countLoose_1 rfl (by decide) rfl rfl ?_
  refine x_iconst (v := nI 0) eX8_countLoose_2 (by decide) ?_
  refine x_istore_n eX8_countLoose_3 rfl (by decide) rfl rfl ?_
  refine Rn.weak (w0) (by repeat' first | exact fun _ h => absurd h List.not_mem_nil | refine List.forall_mem_cons.mpr ⟨rfl, ?_⟩)
end PLAN1

