/-! ===== the reference: pieces of a sail ===== -/
/-- what the walks of the reference need of the state -/
def BW (g : Nat → Int32) (b : Nat) : Prop := isN (bl g b 0) 2 20 ∧ isN (bl g b 1) 1 200 ∧ isN (bl g b 3) 0 (nt (bl g b 1))
def SW (g : Nat → Int32) (s : Nat) : Prop := isN (sl g s 0) 0 2 ∧ isN (sl g s 5) 1 60 ∧ isN (sl g s 8) 0 40 ∧ isN (sl g s 9) 0 40 ∧ nt (sl g s 8) + nt (sl g s 9) ≤ 40 ∧ isN (sl g s 6) 0 19 ∧ isN (sl g s 7) 0 19 ∧
  (∀ i, i < nt (sl g s 8) → 1 ≤ nt (sl g s 6) ∧ i * nt (sl g s 6) < nt (sl g s 5)) ∧ isN (sl g s 10) 0 60 ∧ isN (sl g s 11) 0 1 ∧ isN (sl g s 12) 0 3 ∧ isN (sl g s 16) 0 61 ∧ isN (sl g s 17) 0 61 ∧
  (∀ i, i < nt (sl g s 8) + nt (sl g s 9) → sl g s (300 + i) = -1 ∨ isN (sl g s (300 + i)) 0 (nt (g 0) - 1) ∧ 0 < nt (g 0))
def GW (g : Nat → Int32) : Prop := isN (g 0) 0 24 ∧ isN (g 1) 0 10 ∧ (∀ b, b < nt (g 0) → BW g b) ∧ ∀ s, s < nt (g 1) → SW g s
def np (g : Nat → Int32) (s : Nat) : Nat := nt (sl g s 8) + nt (sl g s 9)
def isP (g : Nat → Int32) (s i : Nat) : Bool := decide (i < nt (sl g s 8))
def loN (g : Nat → Int32) (s i : Nat) : Nat := i * nt (sl g s 6)
def hiN (g : Nat → Int32) (s i : Nat) : Nat := if (i + 1) * nt (sl g s 6) < nt (sl g s 5) then (i + 1) * nt (sl g s 6) else nt (sl g s 5)
def lowV (g : Nat → Int32) (s i : Nat) : Int32 := if isP g s i then nI (loN g s i) else sl g s (180 + i)
def highV (g : Nat → Int32) (s i : Nat) : Int32 := if isP g s i then nI (hiN g s i) else sl g s (180 + i) + 1
def broV (g : Nat → Int32) (s i : Nat) : Int32 := if isP g s i then nI (hiN g s i - loN g s i) + sl g s 7 else sl g s (220 + i)
def lenV (g : Nat → Int32) (s i : Nat) : Int32 := if isP g s i then mxF (edg g s 1) (loN g s i) (hiN g s i - loN g s i) - mnF (edg g s 0) (loN g s i) (hiN g s i - loN g s i) else sl g s (260 + i)
def areV (g : Nat → Int32) (s i : Nat) : Int32 := if isP g s i then sumN (stp g s) (loN g s i) (hiN g s i - loN g s i) else 2 * sl g s (220 + i) * sl g s (260 + i)
set_option maxRecDepth 100000 in
set_option maxHeartbeats 4000000 in
theorem SW.h5 {g : Nat → Int32} {s : Nat} (w : SW g s) : ¬ sl g s 5 = 0 := by
  obtain ⟨-, ⟨e, l, u⟩, -⟩ := w
  rw [e]
  exact nI_ne0 (by omega) (by omega)
set_option maxRecDepth 100000 in
set_option maxHeartbeats 4000000 in
theorem lohi {g : Nat → Int32} {s i : Nat} (w : SW g s) (hi : i < nt (sl g s 8)) : loN g s i < hiN g s i ∧ hiN g s i ≤ nt (sl g s 5) ∧ nt (sl g s 5) ≤ 60 ∧ nt (sl g s 6) ≤ 19 ∧ (i + 1) * nt (sl g s 6) ≤ 760 := by
  obtain ⟨-, ⟨-, -, u5⟩, ⟨-, -, u8⟩, -, -, ⟨-, -, u6⟩, -, h, -⟩ := w
  obtain ⟨h1, h2⟩ := h i hi
  have e : (i + 1) * nt (sl g s 6) = i * nt (sl g s 6) + nt (sl g s 6) := Nat.succ_mul _ _
  have b : (i + 1) * nt (sl g s 6) ≤ 40 * 19 := Nat.mul_le_mul (by omega) u6
  refine ⟨?_, ?_, u5, u6, by omega⟩
  · unfold loN hiN
    split <;> omega
  · unfold hiN
    split <;> omega
section REF3
variable {G : GG} {d : Nat} {h : AH} {Q : Option Value → AH → Prop} {x S : Nat}
set_option maxRecDepth 100000 in
set_option maxHeartbeats 4000000 in
theorem c_X9_piecesN {s : Nat} (M : Md h x S) (hs : s < 10) (w : SW (hi h S) s) (hq : Q (some (.int (nI (np (hi h S) s)))) h) : Rn G (d + 1) mX9_pieces 0 [(0, .ref x), (1, .int (nI s))] [] h Q := by
  refine c_X9_pieces M (by omega) (qi hq ?_)
  obtain ⟨-, -, ⟨e8, -⟩, ⟨e9, -⟩, -⟩ := w
  unfold np
  rw [← nI_add, ← e8, ← e9]
set_option maxRecDepth 100000 in
set_option maxHeartbeats 4000000 in
theorem c_X9_isPanel {s i : Nat} (M : Md h x S) (hs : s < 10) (hi4 : i < 40) (w : SW (hi h S) s) (hq : Q (some (.int (bI (isP (hi h S) s i)))) h) : Rn G (d + 1) mX9_isPanel 0 [(0, .ref x), (1, .int (nI s)), (2, .int (nI i))] [] h Q := by
  obtain ⟨hx, hS, kS, nS⟩ := id M
  obtain ⟨-, -, ⟨e8, l8, u8⟩, -⟩ := id w
  refine x_iload_n eX9_isPanel_0 rfl rfl ?_
  first | refine x_aload_n eX9_isPanel_1 rfl rfl ?_ | refine x_aload_nN eX9_isPanel_1 rfl rfl ?_
  refine x_iload_n eX9_isPanel_2 rfl rfl ?_
  refine x_bipush (v := nI 8) eX9_isPanel_3 (by decide) ?_
  refine x_callV2 eX9_isPanel_5 lk_X9_57 (by assumption) (Nat.le_of_ble_eq_true rfl) (Nat.le_of_ble_eq_true rfl) ?_
  refine c_X9_sail M (by omega) (fun _ => ?_)
  rw [e8]
  first | refine x_icmp_geN (tgt := 15) eX9_isPanel_8 (by decide) (by with_reducible rfl) (by with_reducible rfl) (by omega) (by omega) (fun cq1 => ?_) (fun cq1 => ?_) | refine x_icmp_ge (tgt := 15) eX9_isPanel_8 (by decide) (fun cq1 => ?_) (fun cq1 => ?_)
  · refine x_iconst (v := nI 0) eX9_isPanel_15 (by decide) ?_
    refine x_zret eX9_isPanel_16 rfl (by first | exact Or.inl rfl | exact Or.inr rfl | exact bI_or _ | assumption) ?_
    exact qi hq (by unfold isP; rw [decide_eq_false (by omega)]; rfl)
  · refine x_iconst (v := nI 1) eX9_isPanel_11 (by decide) ?_
    refine x_goto (tgt := 16) eX9_isPanel_12 (by decide) ?_
    refine x_zret eX9_isPanel_16 rfl (by first | exact Or.inl rfl | exact Or.inr rfl | exact bI_or _ | assumption) ?_
    exact qi hq (by unfold isP; rw [decide_eq_true (by omega)]; rfl)
set_option maxRecDepth 100000 in
set_option maxHeartbeats 4000000 in
theorem c_X9_low {s i : Nat} (M : Md h x S) (hs : s < 10) (hi4 : i < 40) (w : SW (hi h S) s) (hq : Q (some (.int (lowV (hi h S) s i))) h) : Rn G (d + 2) mX9_low 0 [(0, .ref x), (1, .int (nI s)), (2, .int (nI i))] [] h Q := by
  obtain ⟨hx, hS, kS, nS⟩ := id M
  obtain ⟨-, -, -, -, -, ⟨e6, -⟩, -⟩ := id w
  first | refine x_aload_n eX9_low_0 rfl rfl ?_ | refine x_aload_nN eX9_low_0 rfl rfl ?_
  refine x_iload_n eX9_low_1 rfl rfl ?_
  refine x_iload_n eX9_low_2 rfl rfl ?_
  refine x_callV2 eX9_low_3 lk_X9_117 (by assumption) (Nat.le_of_ble_eq_true rfl) (Nat.le_of_ble_eq_true rfl) ?_
  refine c_X9_isPanel M hs hi4 w (fun _ => ?_)
  first | refine x_if_eqB (tgt := 21) eX9_low_6 (by decide) (by with_reducible rfl) (fun cq1 => ?_) (fun cq1 => ?_) | refine x_if_eq (tgt := 21) eX9_low_6 (by decide) (fun cq1 => ?_) (fun cq1 => ?_)
  · first | refine x_aload_n eX9_low_21 rfl rfl ?_ | refine x_aload_nN eX9_low_21 rfl rfl ?_
    refine x_iload_n eX9_low_22 rfl rfl ?_
    refine x_sipush (v := nI 180) eX9_low_23 (by decide) ?_
    refine x_iload_n eX9_low_26 rfl rfl ?_
    first | refine x_iaddN eX9_low_27 (by with_reducible rfl) (by with_reducible rfl) ?_ | refine x_iadd eX9_low_27 ?_
    refine x_callV2 eX9_low_28 lk_X9_57 (by assumption) (Nat.le_of_ble_eq_true rfl) (Nat.le_of_ble_eq_true rfl) ?_
    refine c_X9_sail M (by omega) (fun _ => ?_)
    refine x_iret eX9_low_31 rfl ?_
    exact qi hq (by unfold lowV; rw [cq1]; rfl)
  · refine x_iload_n eX9_low_9 rfl rfl ?_
    first | refine x_aload_n eX9_low_10 rfl rfl ?_ | refine x_aload_nN eX9_low_10 rfl rfl ?_
    refine x_iload_n eX9_low_11 rfl rfl ?_
    refine x_bipush (v := nI 6) eX9_low_12 (by decide) ?_
    refine x_callV2 eX9_low_14 lk_X9_57 (by assumption) (Nat.le_of_ble_eq_true rfl) (Nat.le_of_ble_eq_true rfl) ?_
    refine c_X9_sail M (by omega) (fun _ => ?_)
    rw [e6]
    first | refine x_imulN eX9_low_17 (by with_reducible rfl) (by with_reducible rfl) ?_ | refine x_imul eX9_low_17 ?_
    refine x_goto (tgt := 31) eX9_low_18 (by decide) ?_
    refine x_iret eX9_low_31 rfl ?_
    exact qi hq (by unfold lowV; rw [cq1]; rfl)
set_option maxRecDepth 100000 in
set_option maxHeartbeats 4000000 in
theorem c_X9_high {s i : Nat} (M : Md h x S) (hs : s < 10) (hi4 : i < 40) (w : SW (hi h S) s) (hq : Q (some (.int (highV (hi h S) s i))) h) : Rn G (d + 2) mX9_high 0 [(0, .ref x), (1, .int (nI s)), (2, .int (nI i))] [] h Q := by
  obtain ⟨hx, hS, kS, nS⟩ := id M
  obtain ⟨-, ⟨e5, l5, u5⟩, ⟨-, -, u8⟩, -, -, ⟨e6, l6, u6⟩, -⟩ := id w
  first | refine x_aload_n eX9_high_0 rfl rfl ?_ | refine x_aload_nN eX9_high_0 rfl rfl ?_
  refine x_iload_n eX9_high_1 rfl rfl ?_
  refine x_iload_n eX9_high_2 rfl rfl ?_
  refine x_callV2 eX9_high_3 lk_X9_117 (by assumption) (Nat.le_of_ble_eq_true rfl) (Nat.le_of_ble_eq_true rfl) ?_
  refine c_X9_isPanel M hs hi4 w (fun _ => ?_)
  first | refine x_if_eqB (tgt := 32) eX9_high_6 (by decide) (by with_reducible rfl) (fun cq1 => ?_) (fun cq1 => ?_) | refine x_if_eq (tgt := 32) eX9_high_6 (by decide) (fun cq1 => ?_) (fun cq1 => ?_)
  · first | refine x_aload_n eX9_high_32 rfl rfl ?_ | refine x_aload_nN eX9_high_32 rfl rfl ?_
    refine x_iload_n eX9_high_33 rfl rfl ?_
    refine x_sipush (v := nI 180) eX9_high_34 (by decide) ?_
    refine x_iload_n eX9_high_37 rfl rfl ?_
    first | refine x_iaddN eX9_high_38 (by with_reducible rfl) (by with_reducible rfl) ?_ | refine x_iadd eX9_high_38 ?_
    refine x_callV2 eX9_high_39 lk_X9_57 (by assumption) (Nat.le_of_ble_eq_true rfl) (Nat.le_of_ble_eq_true rfl) ?_
    refine c_X9_sail M (by omega) (fun _ => ?_)
    refine x_iconst (v := nI 1) eX9_high_42 (by decide) ?_
    first | refine x_iaddN eX9_high_43 (by with_reducible rfl) (by with_reducible rfl) ?_ | refine x_iadd eX9_high_43 ?_
    refine x_iret eX9_high_44 rfl ?_
    exact qi hq (by unfold highV; rw [cq1]; rfl)
  · first | refine x_aload_n eX9_high_9 rfl rfl ?_ | refine x_aload_nN eX9_high_9 rfl rfl ?_
    refine x_iload_n eX9_high_10 rfl rfl ?_
    refine x_iconst (v := nI 5) eX9_high_11 (by decide) ?_
    refine x_callV2 eX9_high_12 lk_X9_57 (by assumption) (Nat.le_of_ble_eq_true rfl) (Nat.le_of_ble_eq_true rfl) ?_
    refine c_X9_sail M (by omega) (fun _ => ?_)
    rw [e5]
    refine x_iload_n eX9_high_15 rfl rfl ?_
    refine x_iconst (v := nI 1) eX9_high_16 (by decide) ?_
    first | refine x_iaddN eX9_high_17 (by with_reducible rfl) (by with_reducible rfl) ?_ | refine x_iadd eX9_high_17 ?_
    first | refine x_aload_n eX9_high_18 rfl rfl ?_ | refine x_aload_nN eX9_high_18 rfl rfl ?_
    refine x_iload_n eX9_high_19 rfl rfl ?_
    refine x_bipush (v := nI 6) eX9_high_20 (by decide) ?_
    refine x_callV2 eX9_high_22 lk_X9_57 (by assumption) (Nat.le_of_ble_eq_true rfl) (Nat.le_of_ble_eq_true rfl) ?_
    refine c_X9_sail M (by omega) (fun _ => ?_)
    rw [e6]
    first | refine x_imulN eX9_high_25 (by with_reducible rfl) (by with_reducible rfl) ?_ | refine x_imul eX9_high_25 ?_
    refine x_min eX9_high_26 lk_X9_47 (Nat.le_of_ble_eq_true rfl) ?_
    refine x_goto (tgt := 44) eX9_high_29 (by decide) ?_
    refine x_iret eX9_high_44 rfl ?_
    have hb : (i + 1) * nt (sl (hi h S) s 6) ≤ 40 * 19 := Nat.mul_le_mul (by omega) u6
    refine qi hq ?_
    unfold highV hiN
    rw [cq1]
    by_cases hc : (i + 1) * nt (sl (hi h S) s 6) < nt (sl (hi h S) s 5)
    · rw [if_pos ((nI_ltI (by omega) (by omega)).mpr hc), if_pos hc]; rfl
    · rw [if_neg (fun z => hc ((nI_ltI (by omega) (by omega)).mp z)), if_neg hc]; rfl
set_option maxRecDepth 100000 in
set_option maxHeartbeats 4000000 in
theorem c_X9_breadth {s i : Nat} (M : Md h x S) (hs : s < 10) (hi4 : i < 40) (w : SW (hi h S) s) (hq : Q (some (.int (broV (hi h S) s i))) h) : Rn G (d + 3) mX9_breadth 0 [(0, .ref x), (1, .int (nI s)), (2, .int (nI i))] [] h Q := by
  obtain ⟨hx, hS, kS, nS⟩ := id M
  first | refine x_aload_n eX9_breadth_0 rfl rfl ?_ | refine x_aload_nN eX9_breadth_0 rfl rfl ?_
  refine x_iload_n eX9_breadth_1 rfl rfl ?_
  refine x_iload_n eX9_breadth_2 rfl rfl ?_
  refine x_callV2 eX9_breadth_3 lk_X9_117 (by assumption) (Nat.le_of_ble_eq_true rfl) (Nat.le_of_ble_eq_true rfl) ?_
  refine Rn.deep (c_X9_isPanel (d := d) M hs hi4 w (fun _ => ?_)) (by omega)
  first | refine x_if_eqB (tgt := 33) eX9_breadth_6 (by decide) (by with_reducible rfl) (fun cq1 => ?_) (fun cq1 => ?_) | refine x_if_eq (tgt := 33) eX9_breadth_6 (by decide) (fun cq1 => ?_) (fun cq1 => ?_)
  · first | refine x_aload_n eX9_breadth_33 rfl rfl ?_ | refine x_aload_nN eX9_breadth_33 rfl rfl ?_
    refine x_iload_n eX9_breadth_34 rfl rfl ?_
    refine x_sipush (v := nI 220) eX9_breadth_35 (by decide) ?_
    refine x_iload_n eX9_breadth_38 rfl rfl ?_
    first | refine x_iaddN eX9_breadth_39 (by with_reducible rfl) (by with_reducible rfl) ?_ | refine x_iadd eX9_breadth_39 ?_
    refine x_callV2 eX9_breadth_40 lk_X9_57 (by assumption) (Nat.le_of_ble_eq_true rfl) (Nat.le_of_ble_eq_true rfl) ?_
    refine Rn.deep (c_X9_sail (d := d) M (by omega) (fun _ => ?_)) (by omega)
    refine x_iret eX9_breadth_43 rfl ?_
    exact qi hq (by unfold broV; rw [cq1]; rfl)
  · have hp : isP (hi h S) s i = true := cq1
    have hip : i < nt (sl (hi h S) s 8) := of_decide_eq_true cq1
    have lh := lohi w hip
    first | refine x_aload_n eX9_breadth_9 rfl rfl ?_ | refine x_aload_nN eX9_breadth_9 rfl rfl ?_
    refine x_iload_n eX9_breadth_10 rfl rfl ?_
    refine x_iload_n eX9_breadth_11 rfl rfl ?_
    refine x_callV2 eX9_breadth_12 lk_X9_121 (by assumption) (Nat.le_of_ble_eq_true rfl) (Nat.le_of_ble_eq_true rfl) ?_
    refine c_X9_high M hs hi4 w (fun _ => ?_)
    rw [show highV (hi h S) s i = nI (hiN (hi h S) s i) by unfold highV; rw [hp]; rfl]
    first | refine x_aload_n eX9_breadth_15 rfl rfl ?_ | refine x_aload_nN eX9_breadth_15 rfl rfl ?_
    refine x_iload_n eX9_breadth_16 rfl rfl ?_
    refine x_iload_n eX9_breadth_17 rfl rfl ?_
    refine x_callV2 eX9_breadth_18 lk_X9_124 (by assumption) (Nat.le_of_ble_eq_true rfl) (Nat.le_of_ble_eq_true rfl) ?_
    refine c_X9_low M hs hi4 w (fun _ => ?_)
    rw [show lowV (hi h S) s i = nI (loN (hi h S) s i) by unfold lowV; rw [hp]; rfl]
    first | refine x_isubN eX9_breadth_21 (by with_reducible rfl) (by with_reducible rfl) (by omega) ?_ | refine x_isub eX9_breadth_21 ?_
    first | refine x_aload_n eX9_breadth_22 rfl rfl ?_ | refine x_aload_nN eX9_breadth_22 rfl rfl ?_
    refine x_iload_n eX9_breadth_23 rfl rfl ?_
    refine x_bipush (v := nI 7) eX9_breadth_24 (by decide) ?_
    refine x_callV2 eX9_breadth_26 lk_X9_57 (by assumption) (Nat.le_of_ble_eq_true rfl) (Nat.le_of_ble_eq_true rfl) ?_
    refine Rn.deep (c_X9_sail (d := d) M (by omega) (fun _ => ?_)) (by omega)
    first | refine x_iaddN eX9_breadth_29 (by with_reducible rfl) (by with_reducible rfl) ?_ | refine x_iadd eX9_breadth_29 ?_
    refine x_goto (tgt := 43) eX9_breadth_30 (by decide) ?_
    refine x_iret eX9_breadth_43 rfl ?_
    exact qi hq (by unfold broV; rw [cq1]; rfl)
set_option maxRecDepth 100000 in
set_option maxHeartbeats 4000000 in
theorem l_X9_length {s i : Nat} (M : Md h x S) (hs : s < 10) (w : SW (hi h S) s) (hip : i < nt (sl (hi h S) s 8)) (hq : Q (some (.int (lenV (hi h S) s i))) h) : ∀ (n k : Nat), loN (hi h S) s i + k + n = hiN (hi h S) s i → Rn G (d + 3) mX9_length 57 [(0, .ref x), (1, .int (nI s)), (2, .int (nI i)), (3, .int (mnF (edg (hi h S) s 0) (loN (hi h S) s i) k)), (4, .int (mxF (edg (hi h S) s 1) (loN (hi h S) s i) k)), (5, .int (nI (loN (hi h S) s i + 1 + k)))] [] h Q := by
  have hp : isP (hi h S) s i = true := decide_eq_true hip
  have lh := lohi w hip
  have hi4 : i < 40 := by have := w.2.2.1.2.2; omega
  have eh : highV (hi h S) s i = nI (hiN (hi h S) s i) := by unfold highV; rw [hp]; rfl
  intro n
  induction n with
  | zero =>
    intro k hk
    obtain ⟨hx, hS, kS, nS⟩ := id M
    refine x_iload eX9_length_57 rfl ?_
    first | refine x_aload_n eX9_length_59 rfl rfl ?_ | refine x_aload_nN eX9_length_59 rfl rfl ?_
    refine x_iload_n eX9_length_60 rfl rfl ?_
    refine x_iload_n eX9_length_61 rfl rfl ?_
    refine x_callV2 eX9_length_62 lk_X9_121 (by assumption) (Nat.le_of_ble_eq_true rfl) (Nat.le_of_ble_eq_true rfl) ?_
    refine c_X9_high M hs hi4 w (fun _ => ?_)
    rw [eh]
    first | refine x_icmp_gtN (tgt := 102) eX9_length_65 (by decide) (by with_reducible rfl) (by with_reducible rfl) (by omega) (by omega) (fun cq1 => ?_) (fun cq1 => ?_) | refine x_icmp_gt (tgt := 102) eX9_length_65 (by decide) (fun cq1 => ?_) (fun cq1 => ?_)
    · refine x_iload eX9_length_102 rfl ?_
      refine x_iload_n eX9_length_104 rfl rfl ?_
      first | refine x_isubN eX9_length_105 (by with_reducible rfl) (by with_reducible rfl) (by omega) ?_ | refine x_isub eX9_length_105 ?_
      refine x_iret eX9_length_106 rfl ?_
      refine qi hq ?_
      unfold lenV
      rw [hp, show hiN (hi h S) s i - loN (hi h S) s i = k by omega]
      rfl
    · exact absurd cq1 (by omega)
  | succ n ih =>
    intro k hk
    obtain ⟨hx, hS, kS, nS⟩ := id M
    refine x_iload eX9_length_57 rfl ?_
    first | refine x_aload_n eX9_length_59 rfl rfl ?_ | refine x_aload_nN eX9_length_59 rfl rfl ?_
    refine x_iload_n eX9_length_60 rfl rfl ?_
    refine x_iload_n eX9_length_61 rfl rfl ?_
    refine x_callV2 eX9_length_62 lk_X9_121 (by assumption) (Nat.le_of_ble_eq_true rfl) (Nat.le_of_ble_eq_true rfl) ?_
    refine c_X9_high M hs hi4 w (fun _ => ?_)
    rw [eh]
    first | refine x_icmp_gtN (tgt := 102) eX9_length_65 (by decide) (by with_reducible rfl) (by with_reducible rfl) (by omega) (by omega) (fun cq1 => ?_) (fun cq1 => ?_) | refine x_icmp_gt (tgt := 102) eX9_length_65 (by decide) (fun cq1 => ?_) (fun cq1 => ?_)
    · exact absurd cq1 (by omega)
    · refine x_iload_n eX9_length_68 rfl rfl ?_
      first | refine x_aload_n eX9_length_69 rfl rfl ?_ | refine x_aload_nN eX9_length_69 rfl rfl ?_
      refine x_iload_n eX9_length_70 rfl rfl ?_
      refine x_iconst (v := nI 0) eX9_length_71 (by decide) ?_
      refine x_iload eX9_length_72 rfl ?_
      refine x_callV3 eX9_length_74 lk_X9_107 (by assumption) (Nat.le_of_ble_eq_true rfl) (Nat.le_of_ble_eq_true rfl) ?_
      refine Rn.deep (c_X9_edgeAt (d := d) M hs (by omega) (by omega) w.h5 (fun _ => ?_)) (by omega)
      refine x_min eX9_length_77 lk_X9_47 (Nat.le_of_ble_eq_true rfl) ?_
      refine x_istore_n eX9_length_80 rfl (by decide) rfl rfl ?_
      refine x_iload eX9_length_81 rfl ?_
      first | refine x_aload_n eX9_length_83 rfl rfl ?_ | refine x_aload_nN eX9_length_83 rfl rfl ?_
      refine x_iload_n eX9_length_84 rfl rfl ?_
      refine x_iconst (v := nI 1) eX9_length_85 (by decide) ?_
      refine x_iload eX9_length_86 rfl ?_
      refine x_callV3 eX9_length_88 lk_X9_107 (by assumption) (Nat.le_of_ble_eq_true rfl) (Nat.le_of_ble_eq_true rfl) ?_
      refine Rn.deep (c_X9_edgeAt (d := d) M hs (by omega) (by omega) w.h5 (fun _ => ?_)) (by omega)
      refine x_max eX9_length_91 lk_X9_127 (Nat.le_of_ble_eq_true rfl) ?_
      refine x_istore eX9_length_94 (by decide) rfl rfl ?_
      first | refine x_iincN eX9_length_96 rfl (by with_reducible rfl) (by decide) rfl rfl ?_ | refine x_iinc eX9_length_96 rfl rfl (by decide) rfl rfl ?_
      refine x_goto (tgt := 57) eX9_length_99 (by decide) ?_
      refine Rn.weak (ih (k + 1) (by omega)) (by repeat' first | exact fun _ h => absurd h List.not_mem_nil | refine List.forall_mem_cons.mpr ⟨rfl, ?_⟩)
set_option maxRecDepth 100000 in
set_option maxHeartbeats 4000000 in
theorem c_X9_length {s i : Nat} (M : Md h x S) (hs : s < 10) (hi4 : i < 40) (w : SW (hi h S) s) (hq : Q (some (.int (lenV (hi h S) s i))) h) : Rn G (d + 3) mX9_length 0 [(0, .ref x), (1, .int (nI s)), (2, .int (nI i))] [] h Q := by
  obtain ⟨hx, hS, kS, nS⟩ := id M
  first | refine x_aload_n eX9_length_0 rfl rfl ?_ | refine x_aload_nN eX9_length_0 rfl rfl ?_
  refine x_iload_n eX9_length_1 rfl rfl ?_
  refine x_iload_n eX9_length_2 rfl rfl ?_
  refine x_callV2 eX9_length_3 lk_X9_117 (by assumption) (Nat.le_of_ble_eq_true rfl) (Nat.le_of_ble_eq_true rfl) ?_
  refine Rn.deep (c_X9_isPanel (d := d) M hs hi4 w (fun _ => ?_)) (by omega)
  first | refine x_if_neB (tgt := 20) eX9_length_6 (by decide) (by with_reducible rfl) (fun cq1 => ?_) (fun cq1 => ?_) | refine x_if_ne (tgt := 20) eX9_length_6 (by decide) (fun cq1 => ?_) (fun cq1 => ?_)
  · have hp : isP (hi h S) s i = true := cq1
    have hip : i < nt (sl (hi h S) s 8) := of_decide_eq_true cq1
    have lh := lohi w hip
    have el : lowV (hi h S) s i = nI (loN (hi h S) s i) := by unfold lowV; rw [hp]; rfl
    first | refine x_aload_n eX9_length_20 rfl rfl ?_ | refine x_aload_nN eX9_length_20 rfl rfl ?_
    refine x_iload_n eX9_length_21 rfl rfl ?_
    refine x_iconst (v := nI 0) eX9_length_22 (by decide) ?_
    first | refine x_aload_n eX9_length_23 rfl rfl ?_ | refine x_aload_nN eX9_length_23 rfl rfl ?_
    refine x_iload_n eX9_length_24 rfl rfl ?_
    refine x_iload_n eX9_length_25 rfl rfl ?_
    refine x_callV2 eX9_length_26 lk_X9_124 (by assumption) (Nat.le_of_ble_eq_true rfl) (Nat.le_of_ble_eq_true rfl) ?_
    refine c_X9_low M hs hi4 w (fun _ => ?_)
    rw [el]
    refine x_callV3 eX9_length_29 lk_X9_107 (by assumption) (Nat.le_of_ble_eq_true rfl) (Nat.le_of_ble_eq_true rfl) ?_
    refine Rn.deep (c_X9_edgeAt (d := d) M hs (by omega) (by omega) w.h5 (fun _ => ?_)) (by omega)
    refine x_istore_n eX9_length_32 rfl (by decide) rfl rfl ?_
    first | refine x_aload_n eX9_length_33 rfl rfl ?_ | refine x_aload_nN eX9_length_33 rfl rfl ?_
    refine x_iload_n eX9_length_34 rfl rfl ?_
    refine x_iconst (v := nI 1) eX9_length_35 (by decide) ?_
    first | refine x_aload_n eX9_length_36 rfl rfl ?_ | refine x_aload_nN eX9_length_36 rfl rfl ?_
    refine x_iload_n eX9_length_37 rfl rfl ?_
    refine x_iload_n eX9_length_38 rfl rfl ?_
    refine x_callV2 eX9_length_39 lk_X9_124 (by assumption) (Nat.le_of_ble_eq_true rfl) (Nat.le_of_ble_eq_true rfl) ?_
    refine c_X9_low M hs hi4 w (fun _ => ?_)
    rw [el]
    refine x_callV3 eX9_length_42 lk_X9_107 (by assumption) (Nat.le_of_ble_eq_true rfl) (Nat.le_of_ble_eq_true rfl) ?_
    refine Rn.deep (c_X9_edgeAt (d := d) M hs (by omega) (by omega) w.h5 (fun _ => ?_)) (by omega)
    refine x_istore eX9_length_45 (by decide) rfl rfl ?_
    first | refine x_aload_n eX9_length_47 rfl rfl ?_ | refine x_aload_nN eX9_length_47 rfl rfl ?_
    refine x_iload_n eX9_length_48 rfl rfl ?_
    refine x_iload_n eX9_length_49 rfl rfl ?_
    refine x_callV2 eX9_length_50 lk_X9_124 (by assumption) (Nat.le_of_ble_eq_true rfl) (Nat.le_of_ble_eq_true rfl) ?_
    refine c_X9_low M hs hi4 w (fun _ => ?_)
    rw [el]
    refine x_iconst (v := nI 1) eX9_length_53 (by decide) ?_
    first | refine x_iaddN eX9_length_54 (by with_reducible rfl) (by with_reducible rfl) ?_ | refine x_iadd eX9_length_54 ?_
    refine x_istore eX9_length_55 (by decide) rfl rfl ?_
    refine Rn.weak (l_X9_length M hs w hip hq (hiN (hi h S) s i - loN (hi h S) s i) 0 (by omega)) (by repeat' first | exact fun _ h => absurd h List.not_mem_nil | refine List.forall_mem_cons.mpr ⟨rfl, ?_⟩)
  · first | refine x_aload_n eX9_length_9 rfl rfl ?_ | refine x_aload_nN eX9_length_9 rfl rfl ?_
    refine x_iload_n eX9_length_10 rfl rfl ?_
    refine x_sipush (v := nI 260) eX9_length_11 (by decide) ?_
    refine x_iload_n eX9_length_14 rfl rfl ?_
    first | refine x_iaddN eX9_length_15 (by with_reducible rfl) (by with_reducible rfl) ?_ | refine x_iadd eX9_length_15 ?_
    refine x_callV2 eX9_length_16 lk_X9_57 (by assumption) (Nat.le_of_ble_eq_true rfl) (Nat.le_of_ble_eq_true rfl) ?_
    refine Rn.deep (c_X9_sail (d := d) M (by omega) (fun _ => ?_)) (by omega)
    refine x_iret eX9_length_19 rfl ?_
    exact qi hq (by unfold lenV; rw [cq1]; rfl)
set_option maxRecDepth 100000 in
set_option maxHeartbeats 4000000 in
theorem c_X9_area {s i : Nat} (M : Md h x S) (hs : s < 10) (hi4 : i < 40) (w : SW (hi h S) s) (hq : Q (some (.int (areV (hi h S) s i))) h) : Rn G (d + 5) mX9_area 0 [(0, .ref x), (1, .int (nI s)), (2, .int (nI i))] [] h Q := by
  obtain ⟨hx, hS, kS, nS⟩ := id M
  first | refine x_aload_n eX9_area_0 rfl rfl ?_ | refine x_aload_nN eX9_area_0 rfl rfl ?_
  refine x_iload_n eX9_area_1 rfl rfl ?_
  refine x_iload_n eX9_area_2 rfl rfl ?_
  refine x_callV2 eX9_area_3 lk_X9_117 (by assumption) (Nat.le_of_ble_eq_true rfl) (Nat.le_of_ble_eq_true rfl) ?_
  refine Rn.deep (c_X9_isPanel (d := d) M hs hi4 w (fun _ => ?_)) (by omega)
  first | refine x_if_eqB (tgt := 29) eX9_area_6 (by decide) (by with_reducible rfl) (fun cq1 => ?_) (fun cq1 => ?_) | refine x_if_eq (tgt := 29) eX9_area_6 (by decide) (fun cq1 => ?_) (fun cq1 => ?_)
  · refine x_iconst (v := nI 2) eX9_area_29 (by decide) ?_
    first | refine x_aload_n eX9_area_30 rfl rfl ?_ | refine x_aload_nN eX9_area_30 rfl rfl ?_
    refine x_iload_n eX9_area_31 rfl rfl ?_
    refine x_sipush (v := nI 220) eX9_area_32 (by decide) ?_
    refine x_iload_n eX9_area_35 rfl rfl ?_
    first | refine x_iaddN eX9_area_36 (by with_reducible rfl) (by with_reducible rfl) ?_ | refine x_iadd eX9_area_36 ?_
    refine x_callV2 eX9_area_37 lk_X9_57 (by assumption) (Nat.le_of_ble_eq_true rfl) (Nat.le_of_ble_eq_true rfl) ?_
    refine Rn.deep (c_X9_sail (d := d) M (by omega) (fun _ => ?_)) (by omega)
    first | refine x_imulN eX9_area_40 (by with_reducible rfl) (by with_reducible rfl) ?_ | refine x_imul eX9_area_40 ?_
    first | refine x_aload_n eX9_area_41 rfl rfl ?_ | refine x_aload_nN eX9_area_41 rfl rfl ?_
    refine x_iload_n eX9_area_42 rfl rfl ?_
    refine x_sipush (v := nI 260) eX9_area_43 (by decide) ?_
    refine x_iload_n eX9_area_46 rfl rfl ?_
    first | refine x_iaddN eX9_area_47 (by with_reducible rfl) (by with_reducible rfl) ?_ | refine x_iadd eX9_area_47 ?_
    refine x_callV2 eX9_area_48 lk_X9_57 (by assumption) (Nat.le_of_ble_eq_true rfl) (Nat.le_of_ble_eq_true rfl) ?_
    refine Rn.deep (c_X9_sail (d := d) M (by omega) (fun _ => ?_)) (by omega)
    first | refine x_imulN eX9_area_51 (by with_reducible rfl) (by with_reducible rfl) ?_ | refine x_imul eX9_area_51 ?_
    refine x_iret eX9_area_52 rfl ?_
    exact qi hq (by unfold areV; rw [cq1]; rfl)
  · have hp : isP (hi h S) s i = true := cq1
    have hip : i < nt (sl (hi h S) s 8) := of_decide_eq_true cq1
    have lh := lohi w hip
    first | refine x_aload_n eX9_area_9 rfl rfl ?_ | refine x_aload_nN eX9_area_9 rfl rfl ?_
    refine x_iload_n eX9_area_10 rfl rfl ?_
    first | refine x_aload_n eX9_area_11 rfl rfl ?_ | refine x_aload_nN eX9_area_11 rfl rfl ?_
    refine x_iload_n eX9_area_12 rfl rfl ?_
    refine x_iload_n eX9_area_13 rfl rfl ?_
    refine x_callV2 eX9_area_14 lk_X9_124 (by assumption) (Nat.le_of_ble_eq_true rfl) (Nat.le_of_ble_eq_true rfl) ?_
    refine Rn.deep (c_X9_low (d := d) M hs hi4 w (fun _ => ?_)) (by omega)
    rw [show lowV (hi h S) s i = nI (loN (hi h S) s i) by unfold lowV; rw [hp]; rfl]
    first | refine x_aload_n eX9_area_17 rfl rfl ?_ | refine x_aload_nN eX9_area_17 rfl rfl ?_
    refine x_iload_n eX9_area_18 rfl rfl ?_
    refine x_iload_n eX9_area_19 rfl rfl ?_
    refine x_callV2 eX9_area_20 lk_X9_121 (by assumption) (Nat.le_of_ble_eq_true rfl) (Nat.le_of_ble_eq_true rfl) ?_
    refine Rn.deep (c_X9_high (d := d) M hs hi4 w (fun _ => ?_)) (by omega)
    rw [show highV (hi h S) s i = nI (hiN (hi h S) s i) by unfold highV; rw [hp]; rfl]
    refine x_callV3 eX9_area_23 lk_X9_130 (by assumption) (Nat.le_of_ble_eq_true rfl) (Nat.le_of_ble_eq_true rfl) ?_
    refine c_X9_strips M hs (by omega) (by omega) w.h5 (fun _ => ?_)
    refine x_goto (tgt := 52) eX9_area_26 (by decide) ?_
    refine x_iret eX9_area_52 rfl ?_
    exact qi hq (by unfold areV; rw [cq1]; rfl)
end REF3

