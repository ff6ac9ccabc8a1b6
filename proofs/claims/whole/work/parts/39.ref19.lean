/-! ===== the reference: what fits on a bolt ===== -/
set_option maxRecDepth 100000 in
set_option maxHeartbeats 4000000 in
theorem bit_N : ∀ S : Fin 256, ∀ k : Fin 8, (nI S.1 >>> (nI k.1 &&& 31)) &&& nI 1 = bI (S.1.testBit k.1) := by decide +kernel
set_option maxRecDepth 100000 in
set_option maxHeartbeats 4000000 in
theorem bit_n {S k : Nat} (hS : S < 256) (hk : k < 8) : (nI S >>> (nI k &&& 31)) &&& nI 1 = bI (S.testBit k) := bit_N ⟨S, hS⟩ ⟨k, hk⟩
set_option maxRecDepth 100000 in
set_option maxHeartbeats 4000000 in
theorem shl_N : ∀ k : Fin 9, nI 1 <<< (nI k.1 &&& 31) = nI (2 ^ k.1) := by decide +kernel
set_option maxRecDepth 100000 in
set_option maxHeartbeats 4000000 in
theorem shl_n {k : Nat} (hk : k < 9) : nI 1 <<< (nI k &&& 31) = nI (2 ^ k) := shl_N ⟨k, hk⟩
set_option maxRecDepth 100000 in
set_option maxHeartbeats 4000000 in
theorem and_x {a b : Nat} (ha : a < 256) : a &&& (b ^^^ 4294967295) = a &&& (255 ^^^ b) := by
  have h8 : ∀ i : Fin 8, Nat.testBit 4294967295 i.1 = Nat.testBit 255 i.1 := by decide
  refine Nat.eq_of_testBit_eq fun i => ?_
  rw [Nat.testBit_and, Nat.testBit_and, Nat.testBit_xor, Nat.testBit_xor]
  by_cases z : i < 8
  · rw [h8 ⟨i, z⟩, Bool.xor_comm]
  · have : a.testBit i = false := Nat.testBit_lt_two_pow (Nat.lt_of_lt_of_le ha (Nat.pow_le_pow_right (n := 2) (i := 8) (j := i) (by decide) (by omega)))
    rw [this, Bool.false_and, Bool.false_and]
set_option maxRecDepth 100000 in
set_option maxHeartbeats 4000000 in
theorem and_n {a b : Nat} (ha : a < 256) (hb : b < 256) : nI a &&& nI b = nI (a &&& b) ∧ nI a &&& (nI b ^^^ -1) = nI (a &&& (255 ^^^ b)) := by
  have ea : (nI a).toBitVec.toNat = a := by
    show a % 2 ^ 32 = a
    omega
  have eb : (nI b).toBitVec.toNat = b := by
    show b % 2 ^ 32 = b
    omega
  have l1 : a &&& b < 256 := Nat.lt_of_le_of_lt Nat.and_le_left ha
  have l2 : a &&& (255 ^^^ b) < 256 := Nat.lt_of_le_of_lt Nat.and_le_left ha
  constructor
  · apply Int32.toBitVec_inj.mp
    apply BitVec.eq_of_toNat_eq
    rw [Int32.toBitVec_and, BitVec.toNat_and, ea, eb]
    show _ = (a &&& b) % 2 ^ 32
    omega
  · apply Int32.toBitVec_inj.mp
    apply BitVec.eq_of_toNat_eq
    rw [Int32.toBitVec_and, BitVec.toNat_and, Int32.toBitVec_xor, BitVec.toNat_xor, ea, eb, show (-1 : Int32).toBitVec.toNat = 4294967295 from rfl, and_x ha]
    show _ = (a &&& (255 ^^^ b)) % 2 ^ 32
    omega
/-- the length of a set of loose pieces -/
def lsV (g : Nat → Int32) (s : Nat) (lo : Nat → Nat) (S : Nat) : Nat → Int32
  | 0 => 0
  | j + 1 => if S.testBit j then lsV g s lo S j + lenV g s (lo j) else lsV g s lo S j
/-- whether each of them is narrow enough -/
def brN (g : Nat → Int32) (b s : Nat) (lo : Nat → Nat) (S : Nat) : Nat → Bool
  | 0 => true
  | j + 1 => if S.testBit j then brN g b s lo S j && decide (broV g s (lo j) ≤ bl g b 0) else brN g b s lo S j
def fitV (g : Nat → Int32) (b s : Nat) (lo : Nat → Nat) (S c : Nat) : Bool := brN g b s lo S c && decide (lsV g s lo S c ≤ bl g b 1)
section REF19
variable {G : GG} {d : Nat} {h : AH} {Q : Option Value → AH → Prop} {x la kp : Nat}
set_option maxRecDepth 100000 in
set_option maxHeartbeats 4000000 in
theorem l_X9_fits {b s S c : Nat} {lo : Nat → Nat} (M : MD h x) (hb : b < 24) (hs : s < 10) (sw : SW (hi h (x + 1)) s) (hS : S < 256) (hc : c ≤ 8) (hlo : ∀ j, j < c → hi h (x + 6) j = nI (lo j) ∧ lo j < 40) (hq : Q (some (.int (bI (fitV (hi h (x + 1)) b s lo S c)))) h) : ∀ n k, k + n = c → Rn G (d + 4) mX9_fits 9 [(0, .ref x), (1, .int (nI b)), (2, .int (nI s)), (3, .int (nI S)), (4, .int (nI c)), (5, .int (lsV (hi h (x + 1)) s lo S k)), (6, .int (bI (brN (hi h (x + 1)) b s lo S k))), (7, .int (nI k))] [] h Q := by
  obtain ⟨⟨hx, hS0, kS, nS⟩, -, -, -, -, ⟨h7, k7, n7⟩, -⟩ := id M
  intro n
  induction n with
  | zero =>
    intro k hk0
    have e : k = c := by omega
    subst e
    refine x_iload eX9_fits_9 rfl ?_
    refine x_iload eX9_fits_11 rfl ?_
    first | refine x_icmp_geN (tgt := 84) eX9_fits_13 (by decide) (by with_reducible rfl) (by with_reducible rfl) (by omega) (by omega) (fun cq1 => ?_) (fun cq1 => ?_) | refine x_icmp_ge (tgt := 84) eX9_fits_13 (by decide) (fun cq1 => ?_) (fun cq1 => ?_)
    · refine x_iload eX9_fits_84 rfl ?_
      first | refine x_if_eqB (tgt := 104) eX9_fits_86 (by decide) (by with_reducible rfl) (fun cq2 => ?_) (fun cq2 => ?_) | refine x_if_eq (tgt := 104) eX9_fits_86 (by decide) (fun cq2 => ?_) (fun cq2 => ?_)
      · have c2 : brN (hi h (x + 1)) b s lo S k = false := cq2
        refine x_iconst (v := nI 0) eX9_fits_104 (by decide) ?_
        refine x_zret eX9_fits_105 rfl (by first | exact Or.inl rfl | exact Or.inr rfl | exact bI_or _ | assumption) ?_
        exact qi hq (by rw [fitV, c2]; rfl)
      · have c2 : brN (hi h (x + 1)) b s lo S k = true := cq2
        refine x_iload eX9_fits_89 rfl ?_
        first | refine x_aload_n eX9_fits_91 rfl rfl ?_ | refine x_aload_nN eX9_fits_91 rfl rfl ?_
        refine x_iload_n eX9_fits_92 rfl rfl ?_
        refine x_iconst (v := nI 1) eX9_fits_93 (by decide) ?_
        refine x_callV2 eX9_fits_94 lk_X9_92 (by assumption) (Nat.le_of_ble_eq_true rfl) (Nat.le_of_ble_eq_true rfl) ?_
        refine Rn.deep (c_X9_bolt (d := d) M.md (by omega) (fun _ => ?_)) (by omega)
        first | refine x_icmp_gtN (tgt := 104) eX9_fits_97 (by decide) (by with_reducible rfl) (by with_reducible rfl) (by omega) (by omega) (fun cq3 => ?_) (fun cq3 => ?_) | refine x_icmp_gt (tgt := 104) eX9_fits_97 (by decide) (fun cq3 => ?_) (fun cq3 => ?_)
        · refine x_iconst (v := nI 0) eX9_fits_104 (by decide) ?_
          refine x_zret eX9_fits_105 rfl (by first | exact Or.inl rfl | exact Or.inr rfl | exact bI_or _ | assumption) ?_
          exact qi hq (by rw [fitV, c2, decide_eq_false (Int32.not_le.mpr cq3)]; rfl)
        · refine x_iconst (v := nI 1) eX9_fits_100 (by decide) ?_
          refine x_goto (tgt := 105) eX9_fits_101 (by decide) ?_
          refine x_zret eX9_fits_105 rfl (by first | exact Or.inl rfl | exact Or.inr rfl | exact bI_or _ | assumption) ?_
          exact qi hq (by rw [fitV, c2, decide_eq_true (Int32.not_lt.mp cq3)]; rfl)
    · exact absurd cq1 (by omega)
  | succ n ih =>
    intro k hk0
    obtain ⟨el, ul⟩ := hlo k (by omega)
    have iw := ih (k + 1) (by omega)
    rw [lsV, brN] at iw
    refine x_iload eX9_fits_9 rfl ?_
    refine x_iload eX9_fits_11 rfl ?_
    first | refine x_icmp_geN (tgt := 84) eX9_fits_13 (by decide) (by with_reducible rfl) (by with_reducible rfl) (by omega) (by omega) (fun cq1 => ?_) (fun cq1 => ?_) | refine x_icmp_ge (tgt := 84) eX9_fits_13 (by decide) (fun cq1 => ?_) (fun cq1 => ?_)
    · exact absurd cq1 (by omega)
    · refine x_iload_n eX9_fits_16 rfl rfl ?_
      refine x_iload eX9_fits_17 rfl ?_
      refine x_ishr eX9_fits_19 ?_
      refine x_iconst (v := nI 1) eX9_fits_20 (by decide) ?_
      refine x_iand eX9_fits_21 ?_
      rw [bit_n hS (by omega)]
      first | refine x_if_neB (tgt := 28) eX9_fits_22 (by decide) (by with_reducible rfl) (fun cq2 => ?_) (fun cq2 => ?_) | refine x_if_ne (tgt := 28) eX9_fits_22 (by decide) (fun cq2 => ?_) (fun cq2 => ?_)
      · have c2 : S.testBit k = true := cq2
        rw [if_pos c2, if_pos c2] at iw
        refine x_iload eX9_fits_28 rfl ?_
        first | refine x_aload_n eX9_fits_30 rfl rfl ?_ | refine x_aload_nN eX9_fits_30 rfl rfl ?_
        refine x_iload_n eX9_fits_31 rfl rfl ?_
        first | refine x_aload_n eX9_fits_32 rfl rfl ?_ | refine x_aload_nN eX9_fits_32 rfl rfl ?_
        first | refine x_getR eX9_fits_33 fk_X9_27 rfl (by assumption) (by assumption) ?_ | refine x_getN eX9_fits_33 fk_X9_27 rfl (by assumption) (by assumption) ?_
        refine x_iload eX9_fits_36 rfl ?_
        first | refine x_ialdN eX9_fits_38 (by with_reducible rfl) (by assumption) (by assumption) (by omega) (by omega) ?_ | refine x_sldN eX9_fits_38 (by with_reducible rfl) (by assumption) (by assumption) (by omega) (by omega) ?_ | refine x_iald eX9_fits_38 (by assumption) (by assumption) ?_
        rw [el]
        refine x_callV2 eX9_fits_39 lk_X9_86 (by assumption) (Nat.le_of_ble_eq_true rfl) (Nat.le_of_ble_eq_true rfl) ?_
        refine c_X9_length M.md hs ul sw (fun _ => ?_)
        first | refine x_iaddN eX9_fits_42 (by with_reducible rfl) (by with_reducible rfl) ?_ | refine x_iadd eX9_fits_42 ?_
        refine x_istore eX9_fits_43 (by decide) rfl rfl ?_
        refine x_iload eX9_fits_45 rfl ?_
        first | refine x_if_eqB (tgt := 75) eX9_fits_47 (by decide) (by with_reducible rfl) (fun cq3 => ?_) (fun cq3 => ?_) | refine x_if_eq (tgt := 75) eX9_fits_47 (by decide) (fun cq3 => ?_) (fun cq3 => ?_)
        · have c3 : brN (hi h (x + 1)) b s lo S k = false := cq3
          rw [c3, Bool.false_and] at iw
          refine x_iconst (v := nI 0) eX9_fits_75 (by decide) ?_
          refine x_istore eX9_fits_76 (by decide) rfl rfl ?_
          first | refine x_iincN eX9_fits_78 rfl (by with_reducible rfl) (by decide) rfl rfl ?_ | refine x_iinc eX9_fits_78 rfl rfl (by decide) rfl rfl ?_
          refine x_goto (tgt := 9) eX9_fits_81 (by decide) ?_
          refine Rn.weak (iw) (by repeat' first | exact fun _ h => absurd h List.not_mem_nil | refine List.forall_mem_cons.mpr ⟨rfl, ?_⟩)
        · have c3 : brN (hi h (x + 1)) b s lo S k = true := cq3
          rw [c3, Bool.true_and] at iw
          first | refine x_aload_n eX9_fits_50 rfl rfl ?_ | refine x_aload_nN eX9_fits_50 rfl rfl ?_
          refine x_iload_n eX9_fits_51 rfl rfl ?_
          first | refine x_aload_n eX9_fits_52 rfl rfl ?_ | refine x_aload_nN eX9_fits_52 rfl rfl ?_
          first | refine x_getR eX9_fits_53 fk_X9_27 rfl (by assumption) (by assumption) ?_ | refine x_getN eX9_fits_53 fk_X9_27 rfl (by assumption) (by assumption) ?_
          refine x_iload eX9_fits_56 rfl ?_
          first | refine x_ialdN eX9_fits_58 (by with_reducible rfl) (by assumption) (by assumption) (by omega) (by omega) ?_ | refine x_sldN eX9_fits_58 (by with_reducible rfl) (by assumption) (by assumption) (by omega) (by omega) ?_ | refine x_iald eX9_fits_58 (by assumption) (by assumption) ?_
          rw [el]
          refine x_callV2 eX9_fits_59 lk_X9_143 (by assumption) (Nat.le_of_ble_eq_true rfl) (Nat.le_of_ble_eq_true rfl) ?_
          refine c_X9_breadth M.md hs ul sw (fun _ => ?_)
          first | refine x_aload_n eX9_fits_62 rfl rfl ?_ | refine x_aload_nN eX9_fits_62 rfl rfl ?_
          refine x_iload_n eX9_fits_63 rfl rfl ?_
          refine x_iconst (v := nI 0) eX9_fits_64 (by decide) ?_
          refine x_callV2 eX9_fits_65 lk_X9_92 (by assumption) (Nat.le_of_ble_eq_true rfl) (Nat.le_of_ble_eq_true rfl) ?_
          refine Rn.deep (c_X9_bolt (d := d) M.md (by omega) (fun _ => ?_)) (by omega)
          first | refine x_icmp_gtN (tgt := 75) eX9_fits_68 (by decide) (by with_reducible rfl) (by with_reducible rfl) (by omega) (by omega) (fun cq4 => ?_) (fun cq4 => ?_) | refine x_icmp_gt (tgt := 75) eX9_fits_68 (by decide) (fun cq4 => ?_) (fun cq4 => ?_)
          · have c4 : ¬ broV (hi h (x + 1)) s (lo k) ≤ bl (hi h (x + 1)) b 0 := Int32.not_le.mpr cq4
            rw [decide_eq_false c4] at iw
            refine x_iconst (v := nI 0) eX9_fits_75 (by decide) ?_
            refine x_istore eX9_fits_76 (by decide) rfl rfl ?_
            first | refine x_iincN eX9_fits_78 rfl (by with_reducible rfl) (by decide) rfl rfl ?_ | refine x_iinc eX9_fits_78 rfl rfl (by decide) rfl rfl ?_
            refine x_goto (tgt := 9) eX9_fits_81 (by decide) ?_
            refine Rn.weak (iw) (by repeat' first | exact fun _ h => absurd h List.not_mem_nil | refine List.forall_mem_cons.mpr ⟨rfl, ?_⟩)
          · have c4 : broV (hi h (x + 1)) s (lo k) ≤ bl (hi h (x + 1)) b 0 := Int32.not_lt.mp cq4
            rw [decide_eq_true c4] at iw
            refine x_iconst (v := nI 1) eX9_fits_71 (by decide) ?_
            refine x_goto (tgt := 76) eX9_fits_72 (by decide) ?_
            refine x_istore eX9_fits_76 (by decide) rfl rfl ?_
            first | refine x_iincN eX9_fits_78 rfl (by with_reducible rfl) (by decide) rfl rfl ?_ | refine x_iinc eX9_fits_78 rfl rfl (by decide) rfl rfl ?_
            refine x_goto (tgt := 9) eX9_fits_81 (by decide) ?_
            refine Rn.weak (iw) (by repeat' first | exact fun _ h => absurd h List.not_mem_nil | refine List.forall_mem_cons.mpr ⟨rfl, ?_⟩)
      · have c2 : S.testBit k = false := cq2
        rw [c2] at iw
        refine x_goto (tgt := 78) eX9_fits_25 (by decide) ?_
        first | refine x_iincN eX9_fits_78 rfl (by with_reducible rfl) (by decide) rfl rfl ?_ | refine x_iinc eX9_fits_78 rfl rfl (by decide) rfl rfl ?_
        refine x_goto (tgt := 9) eX9_fits_81 (by decide) ?_
        refine Rn.weak (iw) (by repeat' first | exact fun _ h => absurd h List.not_mem_nil | refine List.forall_mem_cons.mpr ⟨rfl, ?_⟩)
set_option maxRecDepth 100000 in
set_option maxHeartbeats 4000000 in
theorem c_X9_fits {b s S c : Nat} {lo : Nat → Nat} (M : MD h x) (hb : b < 24) (hs : s < 10) (sw : SW (hi h (x + 1)) s) (hS : S < 256) (hc : c ≤ 8) (hlo : ∀ j, j < c → hi h (x + 6) j = nI (lo j) ∧ lo j < 40) (hq : Q (some (.int (bI (fitV (hi h (x + 1)) b s lo S c)))) h) : Rn G (d + 4) mX9_fits 0 [(0, .ref x), (1, .int (nI b)), (2, .int (nI s)), (3, .int (nI S)), (4, .int (nI c))] [] h Q := by
  refine x_iconst (v := nI 0) eX9_fits_0 (by decide) ?_
  refine x_istore eX9_fits_1 (by decide) rfl rfl ?_
  refine x_iconst (v := nI 1) eX9_fits_3 (by decide) ?_
  refine x_istore eX9_fits_4 (by decide) rfl rfl ?_
  refine x_iconst (v := nI 0) eX9_fits_6 (by decide) ?_
  refine x_istore eX9_fits_7 (by decide) rfl rfl ?_
  refine Rn.weak (l_X9_fits M hb hs sw hS hc hlo hq c 0 (Nat.zero_add _)) (by repeat' first | exact fun _ h => absurd h List.not_mem_nil | refine List.forall_mem_cons.mpr ⟨rfl, ?_⟩)
end REF19

