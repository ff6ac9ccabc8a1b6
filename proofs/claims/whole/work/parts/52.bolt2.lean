/-! ===== the class: a bolt, what it takes; what writes it ===== -/
set_option maxRecDepth 100000 in
set_option maxHeartbeats 4000000 in
theorem i16_ok {v : Int32} (h1 : -32768 ≤ v.toInt) (h2 : v.toInt ≤ 32767) : v.toInt16.toInt32 = v := by
  refine Int32.toInt_inj.mp ?_
  rw [Int16.toInt_toInt32, Int32.toInt_toInt16]
  rw [Int.bmod_eq_of_le (by omega) (by omega)]
set_option maxRecDepth 100000 in
set_option maxHeartbeats 4000000 in
theorem i8_ok {v : Int32} (h1 : -128 ≤ v.toInt) (h2 : v.toInt ≤ 127) : v.toInt8.toInt32 = v := by
  refine Int32.toInt_inj.mp ?_
  rw [Int8.toInt_toInt32, Int32.toInt_toInt8]
  rw [Int.bmod_eq_of_le (by omega) (by omega)]
set_option maxRecDepth 100000 in
set_option maxHeartbeats 4000000 in
theorem i16_nI {n : Nat} (h : n < 32768) : (nI n).toInt16.toInt32 = nI n := i16_ok (by rw [nI_toInt (by omega)]; omega) (by rw [nI_toInt (by omega)]; omega)
set_option maxRecDepth 100000 in
set_option maxHeartbeats 4000000 in
theorem i16_m1 : (-1 : Int32).toInt16.toInt32 = -1 := by decide +kernel
set_option maxRecDepth 100000 in
set_option maxHeartbeats 4000000 in
theorem i8_nI {n : Nat} (h : n < 128) : (nI n).toInt8.toInt32 = nI n := i8_ok (by rw [nI_toInt (by omega)]; omega) (by rw [nI_toInt (by omega)]; omega)
/-- whether a bolt takes a piece -/
def tkP (f L : Nat → Int32) (br ln p w : Int32) : Bool := decide (br ≤ f 0) && (decide (0 ≤ p) && (decide (p ≤ f 1 - ln) && allN (fun j => frP f L (nI (nt p + j)) w) (nt ln)))
/-- the first place for it -/
def fqN (f L : Nat → Int32) (ln : Nat) (w : Int32) : Option Nat := fstN (fun k => decide (runN (fun j => frP f L (nI j) w) (k + 1) = ln)) (nt (f 1))
def fqV (f L : Nat → Int32) (cv ln : Nat) (br w : Int32) : Int32 := if br ≤ f 0 ∧ ln + cv ≤ nt (f 1) then (match fqN f L ln w with
  | none => -1
  | some k => nI (k + 1 - ln)) else -1
section BOLT2
variable {G : GG} {d : Nat} {h : AH} {Q : Option Value → AH → Prop} {ow : Nat → Nat} {a i pa : Nat} {f L : Nat → Int32}
set_option maxRecDepth 100000 in
set_option maxHeartbeats 4000000 in
theorem l_X1_takes {w : Int32} {pn n : Nat} (B : BoltP ow h a i f L) (w1 : isN (f 1) 1 200) (w3 : isN (f 3) 0 200) (kp : hk h pa = 3) (e3 : hi h pa 3 = nI n) (hpn : pn + n ≤ 200) (hq0 : allN (fun j => frP f L (nI (pn + j)) w) n = false → Q (some (.int 0)) h) (hq1 : allN (fun j => frP f L (nI (pn + j)) w) n = true → Q (some (.int 1)) h) : ∀ m k, k + m = n → (∀ j, j < k → frP f L (nI (pn + j)) w = true) → Rn G (d + 3) mX1_takes 33 [(0, .ref a), (1, .ref pa), (2, .int (nI pn)), (3, .int w), (4, .int (nI (pn + k)))] [] h Q := by
  obtain ⟨-, ka, -⟩ := id B
  intro m
  induction m with
  | zero =>
    intro k hk0 hall
    refine x_iload eX1_takes_33 rfl ?_
    refine x_iload_n eX1_takes_35 rfl rfl ?_
    first | refine x_aload_n eX1_takes_36 rfl rfl ?_ | refine x_aload_nN eX1_takes_36 rfl rfl ?_
    first | refine x_getIe eX1_takes_37 fk_X1_58 (by decide) (by assumption) (by assumption) ?_ | refine x_getI eX1_takes_37 fk_X1_58 (by decide) (by assumption) ?_
    first | refine x_iaddN eX1_takes_40 (by with_reducible rfl) (by with_reducible rfl) ?_ | refine x_iadd eX1_takes_40 ?_
    first | refine x_icmp_geN (tgt := 62) eX1_takes_41 (by decide) (by with_reducible rfl) (by with_reducible rfl) (by omega) (by omega) (fun cq1 => ?_) (fun cq1 => ?_) | refine x_icmp_ge (tgt := 62) eX1_takes_41 (by decide) (fun cq1 => ?_) (fun cq1 => ?_)
    · refine x_iconst (v := nI 1) eX1_takes_62 (by decide) ?_
      refine x_zret eX1_takes_63 rfl (by first | exact Or.inl rfl | exact Or.inr rfl | exact bI_or _ | assumption) ?_
      exact hq1 (allN_iff.mpr fun j hj => hall j (by omega))
    · exact absurd cq1 (by omega)
  | succ m ih =>
    intro k hk0 hall
    refine x_iload eX1_takes_33 rfl ?_
    refine x_iload_n eX1_takes_35 rfl rfl ?_
    first | refine x_aload_n eX1_takes_36 rfl rfl ?_ | refine x_aload_nN eX1_takes_36 rfl rfl ?_
    first | refine x_getIe eX1_takes_37 fk_X1_58 (by decide) (by assumption) (by assumption) ?_ | refine x_getI eX1_takes_37 fk_X1_58 (by decide) (by assumption) ?_
    first | refine x_iaddN eX1_takes_40 (by with_reducible rfl) (by with_reducible rfl) ?_ | refine x_iadd eX1_takes_40 ?_
    first | refine x_icmp_geN (tgt := 62) eX1_takes_41 (by decide) (by with_reducible rfl) (by with_reducible rfl) (by omega) (by omega) (fun cq1 => ?_) (fun cq1 => ?_) | refine x_icmp_ge (tgt := 62) eX1_takes_41 (by decide) (fun cq1 => ?_) (fun cq1 => ?_)
    · exact absurd cq1 (by omega)
    · first | refine x_aload_n eX1_takes_44 rfl rfl ?_ | refine x_aload_nN eX1_takes_44 rfl rfl ?_
      refine x_iload eX1_takes_45 rfl ?_
      refine x_iload_n eX1_takes_47 rfl rfl ?_
      refine x_callV2 eX1_takes_48 lk_X1_59 (by assumption) (Nat.le_of_ble_eq_true rfl) (Nat.le_of_ble_eq_true rfl) ?_
      refine c_X1_isFree B w1 w3 (fun _ => ?_)
      first | refine x_if_neB (tgt := 56) eX1_takes_51 (by decide) (by with_reducible rfl) (fun cq2 => ?_) (fun cq2 => ?_) | refine x_if_ne (tgt := 56) eX1_takes_51 (by decide) (fun cq2 => ?_) (fun cq2 => ?_)
      · first | refine x_iincN eX1_takes_56 rfl (by with_reducible rfl) (by decide) rfl rfl ?_ | refine x_iinc eX1_takes_56 rfl rfl (by decide) rfl rfl ?_
        refine x_goto (tgt := 33) eX1_takes_59 (by decide) ?_
        refine Rn.weak (ih (k + 1) (by omega) (fun j hj => by by_cases z : j < k; exact hall j z; rw [show j = k by omega]; exact cq2)) (by repeat' first | exact fun _ h => absurd h List.not_mem_nil | refine List.forall_mem_cons.mpr ⟨rfl, ?_⟩)
      · refine x_iconst (v := nI 0) eX1_takes_54 (by decide) ?_
        refine x_zret eX1_takes_55 rfl (by first | exact Or.inl rfl | exact Or.inr rfl | exact bI_or _ | assumption) ?_
        exact hq0 (allN_f (i := k) (by omega) cq2)
set_option maxRecDepth 100000 in
set_option maxHeartbeats 4000000 in
theorem c_X1_takes {br ln p w : Int32} (B : BoltP ow h a i f L) (w1 : isN (f 1) 1 200) (w3 : isN (f 3) 0 200) (kp : hk h pa = 3) (e3 : hi h pa 3 = ln) (e4 : hi h pa 4 = br) (hlen : isN ln 0 200000) (hq : Q (some (.int (bI (tkP f L br ln p w)))) h) : Rn G (d + 3) mX1_takes 0 [(0, .ref a), (1, .ref pa), (2, .int p), (3, .int w)] [] h Q := by
  obtain ⟨-, ka, b0, b1, -⟩ := id B
  obtain ⟨q1, l1, u1⟩ := id w1
  obtain ⟨el, ll, ul⟩ := hlen
  first | refine x_aload_n eX1_takes_0 rfl rfl ?_ | refine x_aload_nN eX1_takes_0 rfl rfl ?_
  first | refine x_getIe eX1_takes_1 fk_X1_53 (by decide) (by assumption) (by assumption) ?_ | refine x_getI eX1_takes_1 fk_X1_53 (by decide) (by assumption) ?_
  first | refine x_aload_n eX1_takes_4 rfl rfl ?_ | refine x_aload_nN eX1_takes_4 rfl rfl ?_
  first | refine x_getIe eX1_takes_5 fk_X1_9 (by decide) (by assumption) (by assumption) ?_ | refine x_getI eX1_takes_5 fk_X1_9 (by decide) (by assumption) ?_
  first | refine x_icmp_gtN (tgt := 28) eX1_takes_8 (by decide) (by with_reducible rfl) (by with_reducible rfl) (by omega) (by omega) (fun cq1 => ?_) (fun cq1 => ?_) | refine x_icmp_gt (tgt := 28) eX1_takes_8 (by decide) (fun cq1 => ?_) (fun cq1 => ?_)
  · refine x_iconst (v := nI 0) eX1_takes_28 (by decide) ?_
    refine x_zret eX1_takes_29 rfl (by first | exact Or.inl rfl | exact Or.inr rfl | exact bI_or _ | assumption) ?_
    exact qi hq (by unfold tkP; rw [decide_eq_false (Int32.not_le.mpr cq1)]; rfl)
  · have c1 : br ≤ f 0 := Int32.not_lt.mp cq1
    refine x_iload_n eX1_takes_11 rfl rfl ?_
    refine x_if_lt (tgt := 28) eX1_takes_12 (by decide) (fun cq2 => ?_) (fun cq2 => ?_)
    · refine x_iconst (v := nI 0) eX1_takes_28 (by decide) ?_
      refine x_zret eX1_takes_29 rfl (by first | exact Or.inl rfl | exact Or.inr rfl | exact bI_or _ | assumption) ?_
      exact qi hq (by unfold tkP; rw [decide_eq_false (Int32.not_le.mpr cq2), Bool.false_and, Bool.and_false]; rfl)
    · have c2 : 0 ≤ p := Int32.not_lt.mp cq2
      refine x_iload_n eX1_takes_15 rfl rfl ?_
      first | refine x_aload_n eX1_takes_16 rfl rfl ?_ | refine x_aload_nN eX1_takes_16 rfl rfl ?_
      first | refine x_getIe eX1_takes_17 fk_X1_15 (by decide) (by assumption) (by assumption) ?_ | refine x_getI eX1_takes_17 fk_X1_15 (by decide) (by assumption) ?_
      first | refine x_aload_n eX1_takes_20 rfl rfl ?_ | refine x_aload_nN eX1_takes_20 rfl rfl ?_
      first | refine x_getIe eX1_takes_21 fk_X1_58 (by decide) (by assumption) (by assumption) ?_ | refine x_getI eX1_takes_21 fk_X1_58 (by decide) (by assumption) ?_
      first | refine x_isubN eX1_takes_24 (by with_reducible rfl) (by with_reducible rfl) (by omega) ?_ | refine x_isub eX1_takes_24 ?_
      first | refine x_icmp_leN (tgt := 30) eX1_takes_25 (by decide) (by with_reducible rfl) (by with_reducible rfl) (by omega) (by omega) (fun cq3 => ?_) (fun cq3 => ?_) | refine x_icmp_le (tgt := 30) eX1_takes_25 (by decide) (fun cq3 => ?_) (fun cq3 => ?_)
      · have c3 : p ≤ f 1 - ln := cq3
        obtain ⟨pn, p1, rfl⟩ := nI_of (Int32.not_lt.mpr c2)
        have hpn : pn + nt ln ≤ nt (f 1) := by
          by_cases z : nt ln ≤ nt (f 1)
          · have c4 := c3
            rw [q1, el, pk_sub z, nI_leI p1 (by omega)] at c4
            omega
          · exfalso
            have c4 := Int32.le_trans c2 c3
            rw [q1, el] at c4
            have := pk_sneg (a := nt (f 1)) (b := nt ln) (by omega) (by omega)
            exact absurd this (Int32.not_lt.mpr c4)
        have hntp : nt (nI pn) = pn := nt_nI p1
        have ev : tkP f L br ln (nI pn) w = allN (fun j => frP f L (nI (pn + j)) w) (nt ln) := by
          rw [tkP, decide_eq_true c1, decide_eq_true c2, decide_eq_true c3, hntp]
          rfl
        refine x_iload_n eX1_takes_30 rfl rfl ?_
        refine x_istore eX1_takes_31 (by decide) rfl rfl ?_
        refine Rn.weak (l_X1_takes (pn := pn) B w1 w3 kp (e3.trans el) (by omega) (fun z => qi hq (by rw [ev, z]; rfl)) (fun z => qi hq (by rw [ev, z]; rfl)) (nt ln) 0 (by omega) (fun j hj => absurd hj (by omega))) (by repeat' first | exact fun _ h => absurd h List.not_mem_nil | refine List.forall_mem_cons.mpr ⟨rfl, ?_⟩)
      · refine x_iconst (v := nI 0) eX1_takes_28 (by decide) ?_
        refine x_zret eX1_takes_29 rfl (by first | exact Or.inl rfl | exact Or.inr rfl | exact bI_or _ | assumption) ?_
        exact qi hq (by unfold tkP; rw [decide_eq_false cq3, Bool.false_and, Bool.and_false, Bool.and_false]; rfl)
set_option maxRecDepth 100000 in
set_option maxHeartbeats 4000000 in
theorem l_X1_first {w : Int32} {ln m : Nat} (B : BoltP ow h a i f L) (w1 : isN (f 1) 1 200) (w3 : isN (f 3) 0 200) (em : nt (f 1) = m) (kp : hk h pa = 3) (e3 : hi h pa 3 = nI ln) (hln : ln ≤ 200) (hq0 : fqN f L ln w = none → Q (some (.int (-1))) h) (hq1 : ∀ k, fqN f L ln w = some k → Q (some (.int (nI (k + 1 - ln)))) h) : ∀ n k, k + n = m → (∀ j, j < k → decide (runN (fun j => frP f L (nI j) w) (j + 1) = ln) = false) → Rn G (d + 3) mX1_firstPlaceFor 34 [(0, .ref a), (1, .ref pa), (2, .int w), (3, .int (nI (runN (fun j => frP f L (nI j) w) k))), (4, .int (nI k))] [] h Q := by
  obtain ⟨-, ka, -, b1, -⟩ := id B
  have u := w1.2.2
  have b1 : hi h a 1 = nI m := by rw [b1, w1.1, em]
  unfold fqN at hq0 hq1
  rw [em] at hq0 hq1
  intro n
  induction n with
  | zero =>
    intro k hk0 hall
    refine x_iload eX1_firstPlaceFor_34 rfl ?_
    first | refine x_aload_n eX1_firstPlaceFor_36 rfl rfl ?_ | refine x_aload_nN eX1_firstPlaceFor_36 rfl rfl ?_
    first | refine x_getIe eX1_firstPlaceFor_37 fk_X1_15 (by decide) (by assumption) (by assumption) ?_ | refine x_getI eX1_firstPlaceFor_37 fk_X1_15 (by decide) (by assumption) ?_
    first | refine x_icmp_geN (tgt := 82) eX1_firstPlaceFor_40 (by decide) (by with_reducible rfl) (by with_reducible rfl) (by omega) (by omega) (fun cq1 => ?_) (fun cq1 => ?_) | refine x_icmp_ge (tgt := 82) eX1_firstPlaceFor_40 (by decide) (fun cq1 => ?_) (fun cq1 => ?_)
    · refine x_iconst (v := (-1)) eX1_firstPlaceFor_82 (by decide) ?_
      refine x_iret eX1_firstPlaceFor_83 rfl ?_
      exact hq0 (fstN_none (fun j hj => hall j (by omega)))
    · exact absurd cq1 (by omega)
  | succ n ih =>
    intro k hk0 hall
    have hrl := runN_le (fun j => frP f L (nI j) w) k
    have hrl2 := runN_le (fun j => frP f L (nI j) w) (k + 1)
    have k60 : Rn G (d + 3) mX1_firstPlaceFor 60 [(0, .ref a), (1, .ref pa), (2, .int w), (4, .int (nI k))] [.int (nI (runN (fun j => frP f L (nI j) w) (k + 1)))] h Q := by
      have iw := ih (k + 1) (by omega)
      refine x_istore_n eX1_firstPlaceFor_60 rfl (by decide) rfl rfl ?_
      refine x_iload_n eX1_firstPlaceFor_61 rfl rfl ?_
      first | refine x_aload_n eX1_firstPlaceFor_62 rfl rfl ?_ | refine x_aload_nN eX1_firstPlaceFor_62 rfl rfl ?_
      first | refine x_getIe eX1_firstPlaceFor_63 fk_X1_58 (by decide) (by assumption) (by assumption) ?_ | refine x_getI eX1_firstPlaceFor_63 fk_X1_58 (by decide) (by assumption) ?_
      first | refine x_icmp_neN (tgt := 76) eX1_firstPlaceFor_66 (by decide) (by with_reducible rfl) (by with_reducible rfl) (by omega) (by omega) (fun cq1 => ?_) (fun cq1 => ?_) | refine x_icmp_ne (tgt := 76) eX1_firstPlaceFor_66 (by decide) (fun cq1 => ?_) (fun cq1 => ?_)
      · first | refine x_iincN eX1_firstPlaceFor_76 rfl (by with_reducible rfl) (by decide) rfl rfl ?_ | refine x_iinc eX1_firstPlaceFor_76 rfl rfl (by decide) rfl rfl ?_
        refine x_goto (tgt := 34) eX1_firstPlaceFor_79 (by decide) ?_
        refine Rn.weak (iw (fun j hj => by by_cases z : j < k; exact hall j z; rw [show j = k by omega]; exact decide_eq_false cq1)) (by repeat' first | exact fun _ h => absurd h List.not_mem_nil | refine List.forall_mem_cons.mpr ⟨rfl, ?_⟩)
      · have hs := fstN_some (P := fun k => decide (runN (fun j => frP f L (nI j) w) (k + 1) = ln)) (i := k) (decide_eq_true cq1) hall (show k < m by omega)
        have q1 := hq1 k hs
        rw [← nI_run (show ln ≤ k + 1 by omega), ← cq1] at q1
        refine x_iload eX1_firstPlaceFor_69 rfl ?_
        refine x_iload_n eX1_firstPlaceFor_71 rfl rfl ?_
        first | refine x_isubN eX1_firstPlaceFor_72 (by with_reducible rfl) (by with_reducible rfl) (by omega) ?_ | refine x_isub eX1_firstPlaceFor_72 ?_
        refine x_iconst (v := nI 1) eX1_firstPlaceFor_73 (by decide) ?_
        first | refine x_iaddN eX1_firstPlaceFor_74 (by with_reducible rfl) (by with_reducible rfl) ?_ | refine x_iadd eX1_firstPlaceFor_74 ?_
        refine x_iret eX1_firstPlaceFor_75 rfl ?_
        exact q1
    refine x_iload eX1_firstPlaceFor_34 rfl ?_
    first | refine x_aload_n eX1_firstPlaceFor_36 rfl rfl ?_ | refine x_aload_nN eX1_firstPlaceFor_36 rfl rfl ?_
    first | refine x_getIe eX1_firstPlaceFor_37 fk_X1_15 (by decide) (by assumption) (by assumption) ?_ | refine x_getI eX1_firstPlaceFor_37 fk_X1_15 (by decide) (by assumption) ?_
    first | refine x_icmp_geN (tgt := 82) eX1_firstPlaceFor_40 (by decide) (by with_reducible rfl) (by with_reducible rfl) (by omega) (by omega) (fun cq1 => ?_) (fun cq1 => ?_) | refine x_icmp_ge (tgt := 82) eX1_firstPlaceFor_40 (by decide) (fun cq1 => ?_) (fun cq1 => ?_)
    · exact absurd cq1 (by omega)
    · first | refine x_aload_n eX1_firstPlaceFor_43 rfl rfl ?_ | refine x_aload_nN eX1_firstPlaceFor_43 rfl rfl ?_
      refine x_iload eX1_firstPlaceFor_44 rfl ?_
      refine x_iload_n eX1_firstPlaceFor_46 rfl rfl ?_
      refine x_callV2 eX1_firstPlaceFor_47 lk_X1_59 (by assumption) (Nat.le_of_ble_eq_true rfl) (Nat.le_of_ble_eq_true rfl) ?_
      refine c_X1_isFree B w1 w3 (fun _ => ?_)
      first | refine x_if_eqB (tgt := 59) eX1_firstPlaceFor_50 (by decide) (by with_reducible rfl) (fun cq2 => ?_) (fun cq2 => ?_) | refine x_if_eq (tgt := 59) eX1_firstPlaceFor_50 (by decide) (fun cq2 => ?_) (fun cq2 => ?_)
      · rw [show runN (fun j => frP f L (nI j) w) (k + 1) = 0 by rw [runN, if_neg (by rw [cq2]; decide)]] at k60
        refine x_iconst (v := nI 0) eX1_firstPlaceFor_59 (by decide) ?_
        refine Rn.weak (k60) (by repeat' first | exact fun _ h => absurd h List.not_mem_nil | refine List.forall_mem_cons.mpr ⟨rfl, ?_⟩)
      · rw [show runN (fun j => frP f L (nI j) w) (k + 1) = runN (fun j => frP f L (nI j) w) k + 1 by rw [runN, if_pos cq2]] at k60
        refine x_iload_n eX1_firstPlaceFor_53 rfl rfl ?_
        refine x_iconst (v := nI 1) eX1_firstPlaceFor_54 (by decide) ?_
        first | refine x_iaddN eX1_firstPlaceFor_55 (by with_reducible rfl) (by with_reducible rfl) ?_ | refine x_iadd eX1_firstPlaceFor_55 ?_
        refine x_goto (tgt := 60) eX1_firstPlaceFor_56 (by decide) ?_
        refine Rn.weak (k60) (by repeat' first | exact fun _ h => absurd h List.not_mem_nil | refine List.forall_mem_cons.mpr ⟨rfl, ?_⟩)
set_option maxRecDepth 100000 in
set_option maxHeartbeats 4000000 in
theorem c_X1_firstPlaceFor {br ln w : Int32} {cv : Nat} (B : BoltP ow h a i f L) (w1 : isN (f 1) 1 200) (w3 : isN (f 3) 0 200) (kp : hk h pa = 3) (e3 : hi h pa 3 = ln) (e4 : hi h pa 4 = br) (hlen : isN ln 0 200000) (e5 : hi h a 5 = nI cv) (hcv : cv ≤ nt (f 1)) (hq : Q (some (.int (fqV f L cv (nt ln) br w))) h) : Rn G (d + 3) mX1_firstPlaceFor 0 [(0, .ref a), (1, .ref pa), (2, .int w)] [] h Q := by
  obtain ⟨-, ka, b0, b1, -⟩ := id B
  have u := w1.2.2
  obtain ⟨n, hn⟩ : ∃ n, n = nt ln := ⟨_, rfl⟩
  obtain ⟨m, hm⟩ : ∃ m, m = nt (f 1) := ⟨_, rfl⟩
  have b1 : hi h a 1 = nI m := by rw [b1, hm]; exact w1.1
  have e3 : hi h pa 3 = nI n := by rw [e3, hn]; exact hlen.1
  have ul := hlen.2.2
  rw [← hn] at hq ul
  first | refine x_aload_n eX1_firstPlaceFor_0 rfl rfl ?_ | refine x_aload_nN eX1_firstPlaceFor_0 rfl rfl ?_
  first | refine x_getIe eX1_firstPlaceFor_1 fk_X1_53 (by decide) (by assumption) (by assumption) ?_ | refine x_getI eX1_firstPlaceFor_1 fk_X1_53 (by decide) (by assumption) ?_
  first | refine x_aload_n eX1_firstPlaceFor_4 rfl rfl ?_ | refine x_aload_nN eX1_firstPlaceFor_4 rfl rfl ?_
  first | refine x_getIe eX1_firstPlaceFor_5 fk_X1_9 (by decide) (by assumption) (by assumption) ?_ | refine x_getI eX1_firstPlaceFor_5 fk_X1_9 (by decide) (by assumption) ?_
  first | refine x_icmp_gtN (tgt := 27) eX1_firstPlaceFor_8 (by decide) (by with_reducible rfl) (by with_reducible rfl) (by omega) (by omega) (fun cq1 => ?_) (fun cq1 => ?_) | refine x_icmp_gt (tgt := 27) eX1_firstPlaceFor_8 (by decide) (fun cq1 => ?_) (fun cq1 => ?_)
  · refine x_iconst (v := (-1)) eX1_firstPlaceFor_27 (by decide) ?_
    refine x_iret eX1_firstPlaceFor_28 rfl ?_
    exact qi hq (by rw [fqV, if_neg (fun z => absurd z.1 (Int32.not_le.mpr cq1))])
  · have c1 : br ≤ f 0 := Int32.not_lt.mp cq1
    first | refine x_aload_n eX1_firstPlaceFor_11 rfl rfl ?_ | refine x_aload_nN eX1_firstPlaceFor_11 rfl rfl ?_
    first | refine x_getIe eX1_firstPlaceFor_12 fk_X1_58 (by decide) (by assumption) (by assumption) ?_ | refine x_getI eX1_firstPlaceFor_12 fk_X1_58 (by decide) (by assumption) ?_
    first | refine x_aload_n eX1_firstPlaceFor_15 rfl rfl ?_ | refine x_aload_nN eX1_firstPlaceFor_15 rfl rfl ?_
    first | refine x_getIe eX1_firstPlaceFor_16 fk_X1_15 (by decide) (by assumption) (by assumption) ?_ | refine x_getI eX1_firstPlaceFor_16 fk_X1_15 (by decide) (by assumption) ?_
    first | refine x_aload_n eX1_firstPlaceFor_19 rfl rfl ?_ | refine x_aload_nN eX1_firstPlaceFor_19 rfl rfl ?_
    first | refine x_getIe eX1_firstPlaceFor_20 fk_X1_29 (by decide) (by assumption) (by assumption) ?_ | refine x_getI eX1_firstPlaceFor_20 fk_X1_29 (by decide) (by assumption) ?_
    first | refine x_isubN eX1_firstPlaceFor_23 (by with_reducible rfl) (by with_reducible rfl) (by omega) ?_ | refine x_isub eX1_firstPlaceFor_23 ?_
    first | refine x_icmp_leN (tgt := 29) eX1_firstPlaceFor_24 (by decide) (by with_reducible rfl) (by with_reducible rfl) (by omega) (by omega) (fun cq2 => ?_) (fun cq2 => ?_) | refine x_icmp_le (tgt := 29) eX1_firstPlaceFor_24 (by decide) (fun cq2 => ?_) (fun cq2 => ?_)
    · have ev : fqV f L cv n br w = match fqN f L n w with
        | none => -1
        | some k => nI (k + 1 - n) := by rw [fqV, if_pos ⟨c1, by omega⟩]
      refine x_iconst (v := nI 0) eX1_firstPlaceFor_29 (by decide) ?_
      refine x_istore_n eX1_firstPlaceFor_30 rfl (by decide) rfl rfl ?_
      refine x_iconst (v := nI 0) eX1_firstPlaceFor_31 (by decide) ?_
      refine x_istore eX1_firstPlaceFor_32 (by decide) rfl rfl ?_
      refine Rn.weak (l_X1_first B w1 w3 hm.symm kp e3 (by omega) (fun z => qi hq (by rw [ev, z])) (fun k z => qi hq (by rw [ev, z])) m 0 (by omega) (fun j hj => absurd hj (by omega))) (by repeat' first | exact fun _ h => absurd h List.not_mem_nil | refine List.forall_mem_cons.mpr ⟨rfl, ?_⟩)
    · refine x_iconst (v := (-1)) eX1_firstPlaceFor_27 (by decide) ?_
      refine x_iret eX1_firstPlaceFor_28 rfl ?_
      exact qi hq (by rw [fqV, if_neg (fun z => by omega)])
set_option maxRecDepth 100000 in
set_option maxHeartbeats 4000000 in
theorem l_X1_fill {lo n m c : Nat} {v : Int32} (ka : hk h a = 1) (e1 : hi h a 1 = nI m) (ec : hr h a 6 = some c) (kc : hk h c = 22) (nc : hn h c = 200) (hm : m ≤ 200) (hln : lo + n ≤ m) (hv : v.toInt16.toInt32 = v) (hq : Q none (setI h (filF (hi h) c lo n v))) : ∀ j k, k + j = n → Rn G (d + 1) mX1_fill 3 [(0, .ref a), (1, .int (nI lo)), (2, .int (nI n)), (3, .int v), (4, .int (nI (lo + k)))] [] (setI h (filF (hi h) c lo k v)) Q := by
  intro j
  induction j with
  | zero =>
    intro k hk0
    rw [show k = n by omega]
    refine x_iload eX1_fill_3 rfl ?_
    refine x_iload_n eX1_fill_5 rfl rfl ?_
    refine x_iload_n eX1_fill_6 rfl rfl ?_
    first | refine x_iaddN eX1_fill_7 (by with_reducible rfl) (by with_reducible rfl) ?_ | refine x_iadd eX1_fill_7 ?_
    first | refine x_icmp_geN (tgt := 35) eX1_fill_8 (by decide) (by with_reducible rfl) (by with_reducible rfl) (by omega) (by omega) (fun cq1 => ?_) (fun cq1 => ?_) | refine x_icmp_ge (tgt := 35) eX1_fill_8 (by decide) (fun cq1 => ?_) (fun cq1 => ?_)
    · refine x_ret (rt := none) eX1_fill_35 rfl ?_
      exact hq
    · exact absurd cq1 (by omega)
  | succ j ih =>
    intro k hk0
    have hac : a ≠ c := fun z => by rw [z, kc] at ka; cases ka
    have ka2 : hk (setI h (filF (hi h) c lo k v)) a = 1 := ka
    have kc2 : hk (setI h (filF (hi h) c lo k v)) c = 22 := kc
    have nc2 : hn (setI h (filF (hi h) c lo k v)) c = 200 := nc
    have ec2 : hr (setI h (filF (hi h) c lo k v)) a 6 = some c := ec
    have e2 : hi (setI h (filF (hi h) c lo k v)) a 1 = nI m := by
      show filF (hi h) c lo k v a 1 = _
      unfold filF
      rw [if_neg (fun z => hac z.1)]
      exact e1
    refine x_iload eX1_fill_3 rfl ?_
    refine x_iload_n eX1_fill_5 rfl rfl ?_
    refine x_iload_n eX1_fill_6 rfl rfl ?_
    first | refine x_iaddN eX1_fill_7 (by with_reducible rfl) (by with_reducible rfl) ?_ | refine x_iadd eX1_fill_7 ?_
    first | refine x_icmp_geN (tgt := 35) eX1_fill_8 (by decide) (by with_reducible rfl) (by with_reducible rfl) (by omega) (by omega) (fun cq1 => ?_) (fun cq1 => ?_) | refine x_icmp_ge (tgt := 35) eX1_fill_8 (by decide) (fun cq1 => ?_) (fun cq1 => ?_)
    · exact absurd cq1 (by omega)
    · first | refine x_aload_n eX1_fill_11 rfl rfl ?_ | refine x_aload_nN eX1_fill_11 rfl rfl ?_
      refine x_iload eX1_fill_12 rfl ?_
      refine x_callV1 eX1_fill_14 lk_X1_46 (by assumption) (Nat.le_of_ble_eq_true rfl) (Nat.le_of_ble_eq_true rfl) ?_
      refine c_X1_hasPlace0 ka2 e2 ec2 kc2 nc2 hm (fun _ => ?_)
      rw [hpV_nI (by omega) (by omega), decide_eq_true (show lo + k < m by omega)]
      first | refine x_if_eqB (tgt := 29) eX1_fill_17 (by decide) (by with_reducible rfl) (fun cq2 => ?_) (fun cq2 => ?_) | refine x_if_eq (tgt := 29) eX1_fill_17 (by decide) (fun cq2 => ?_) (fun cq2 => ?_)
      · cases cq2
      · first | refine x_aload_n eX1_fill_20 rfl rfl ?_ | refine x_aload_nN eX1_fill_20 rfl rfl ?_
        first | refine x_getR eX1_fill_21 fk_X1_32 rfl (by assumption) (by assumption) ?_ | refine x_getN eX1_fill_21 fk_X1_32 rfl (by assumption) (by assumption) ?_
        refine x_iload eX1_fill_24 rfl ?_
        refine x_iload_n eX1_fill_26 rfl rfl ?_
        refine x_i2s eX1_fill_27 ?_
        first | refine x_sastN eX1_fill_28 (by with_reducible rfl) (by assumption) (by assumption) (by omega) (by omega) ?_ | refine x_sast eX1_fill_28 (by assumption) (by assumption) ?_
        first | refine x_iincN eX1_fill_29 rfl (by with_reducible rfl) (by decide) rfl rfl ?_ | refine x_iinc eX1_fill_29 rfl rfl (by decide) rfl rfl ?_
        refine x_goto (tgt := 3) eX1_fill_32 (by decide) ?_
        rw [hv, hv, setI_wi, filF_s]
        refine Rn.weak (ih (k + 1) (by omega)) (by repeat' first | exact fun _ h => absurd h List.not_mem_nil | refine List.forall_mem_cons.mpr ⟨rfl, ?_⟩)
set_option maxRecDepth 100000 in
set_option maxHeartbeats 4000000 in
theorem c_X1_fill {lo n m c : Nat} {v : Int32} (ka : hk h a = 1) (e1 : hi h a 1 = nI m) (ec : hr h a 6 = some c) (kc : hk h c = 22) (nc : hn h c = 200) (hm : m ≤ 200) (hln : lo + n ≤ m) (hv : v.toInt16.toInt32 = v) (hq : Q none (setI h (filF (hi h) c lo n v))) : Rn G (d + 1) mX1_fill 0 [(0, .ref a), (1, .int (nI lo)), (2, .int (nI n)), (3, .int v)] [] h Q := by
  have k0 := l_X1_fill (G := G) (d := d) ka e1 ec kc nc hm hln hv hq n 0 (by omega)
  rw [filF_0, setI_self] at k0
  refine x_iload_n eX1_fill_0 rfl rfl ?_
  refine x_istore eX1_fill_1 (by decide) rfl rfl ?_
  refine Rn.weak (k0) (by repeat' first | exact fun _ h => absurd h List.not_mem_nil | refine List.forall_mem_cons.mpr ⟨rfl, ?_⟩)
set_option maxRecDepth 100000 in
set_option maxHeartbeats 4000000 in
theorem c_X1_cover {lo n m c cv : Nat} {v : Int32} (ka : hk h a = 1) (e1 : hi h a 1 = nI m) (ec : hr h a 6 = some c) (kc : hk h c = 22) (nc : hn h c = 200) (e5 : hi h a 5 = nI cv) (hm : m ≤ 200) (hln : lo + n ≤ m) (hv : v.toInt16.toInt32 = v) (hq : Q none (wi (setI h (filF (hi h) c lo n v)) a 5 (nI (cv + n)))) : Rn G (d + 2) mX1_cover 0 [(0, .ref a), (1, .int (nI lo)), (2, .int (nI n)), (3, .int v)] [] h Q := by
  have hac : a ≠ c := fun z => by rw [z, kc] at ka; cases ka
  have e6 : hi (setI h (filF (hi h) c lo n v)) a 5 = nI cv := by
    show filF (hi h) c lo n v a 5 = _
    unfold filF
    rw [if_neg (fun z => hac z.1)]
    exact e5
  first | refine x_aload_n eX1_cover_0 rfl rfl ?_ | refine x_aload_nN eX1_cover_0 rfl rfl ?_
  refine x_iload_n eX1_cover_1 rfl rfl ?_
  refine x_iload_n eX1_cover_2 rfl rfl ?_
  refine x_iload_n eX1_cover_3 rfl rfl ?_
  refine x_callV3 eX1_cover_4 lk_X1_63 (by assumption) (Nat.le_of_ble_eq_true rfl) (Nat.le_of_ble_eq_true rfl) ?_
  refine c_X1_fill ka e1 ec kc nc hm hln hv (fun _ => ?_)
  first | refine x_aload_n eX1_cover_7 rfl rfl ?_ | refine x_aload_nN eX1_cover_7 rfl rfl ?_
  refine x_dup eX1_cover_8 rfl ?_
  first | refine x_getIe eX1_cover_9 fk_X1_29 (by decide) (by assumption) (by assumption) ?_ | refine x_getI eX1_cover_9 fk_X1_29 (by decide) (by assumption) ?_
  refine x_iload_n eX1_cover_12 rfl rfl ?_
  first | refine x_iaddN eX1_cover_13 (by with_reducible rfl) (by with_reducible rfl) ?_ | refine x_iadd eX1_cover_13 ?_
  refine x_putI eX1_cover_14 fk_X1_29 (by decide) rfl ⟨_, rfl, Or.inl rfl⟩ (by assumption) ?_
  refine x_ret (rt := none) eX1_cover_17 rfl ?_
  exact hq
set_option maxRecDepth 100000 in
set_option maxHeartbeats 4000000 in
theorem c_X1_uncover {lo n m c cv : Nat} (ka : hk h a = 1) (e1 : hi h a 1 = nI m) (ec : hr h a 6 = some c) (kc : hk h c = 22) (nc : hn h c = 200) (e5 : hi h a 5 = nI cv) (hm : m ≤ 200) (hln : lo + n ≤ m) (hcv : n ≤ cv) (hq : Q none (wi (setI h (filF (hi h) c lo n (-1))) a 5 (nI (cv - n)))) : Rn G (d + 2) mX1_uncover 0 [(0, .ref a), (1, .int (nI lo)), (2, .int (nI n))] [] h Q := by
  have hac : a ≠ c := fun z => by rw [z, kc] at ka; cases ka
  have e6 : hi (setI h (filF (hi h) c lo n (-1))) a 5 = nI cv := by
    show filF (hi h) c lo n (-1) a 5 = _
    unfold filF
    rw [if_neg (fun z => hac z.1)]
    exact e5
  first | refine x_aload_n eX1_uncover_0 rfl rfl ?_ | refine x_aload_nN eX1_uncover_0 rfl rfl ?_
  refine x_iload_n eX1_uncover_1 rfl rfl ?_
  refine x_iload_n eX1_uncover_2 rfl rfl ?_
  refine x_iconst (v := (-1)) eX1_uncover_3 (by decide) ?_
  refine x_callV3 eX1_uncover_4 lk_X1_63 (by assumption) (Nat.le_of_ble_eq_true rfl) (Nat.le_of_ble_eq_true rfl) ?_
  refine c_X1_fill ka e1 ec kc nc hm hln i16_m1 (fun _ => ?_)
  first | refine x_aload_n eX1_uncover_7 rfl rfl ?_ | refine x_aload_nN eX1_uncover_7 rfl rfl ?_
  refine x_dup eX1_uncover_8 rfl ?_
  first | refine x_getIe eX1_uncover_9 fk_X1_29 (by decide) (by assumption) (by assumption) ?_ | refine x_getI eX1_uncover_9 fk_X1_29 (by decide) (by assumption) ?_
  refine x_iload_n eX1_uncover_12 rfl rfl ?_
  first | refine x_isubN eX1_uncover_13 (by with_reducible rfl) (by with_reducible rfl) (by omega) ?_ | refine x_isub eX1_uncover_13 ?_
  refine x_putI eX1_uncover_14 fk_X1_29 (by decide) rfl ⟨_, rfl, Or.inl rfl⟩ (by assumption) ?_
  refine x_ret (rt := none) eX1_uncover_17 rfl ?_
  exact hq
set_option maxRecDepth 100000 in
set_option maxHeartbeats 4000000 in
theorem c_X1_putWorn {j : Nat} {v : Int32} (B : BoltP ow h a i f L) (w3 : isN (f 3) 0 200) (hj : j < nt (f 3)) (hv : v.toInt8.toInt32 = v) (hq : ∀ r, hr h a 4 = some r → ow r = 300 + i → Q none (wi h r j v)) : Rn G (d + 1) mX1_putWorn 0 [(0, .ref a), (1, .int (nI j)), (2, .int v)] [] h Q := by
  obtain ⟨-, ka, -, -, -, -, hrow, -⟩ := id B
  have u := w3.2.2
  rcases hrow with ⟨er, en⟩ | ⟨r, er, tr, kr, nr, n0, ev⟩
  · omega
  · skip
    first | refine x_aload_n eX1_putWorn_0 rfl rfl ?_ | refine x_aload_nN eX1_putWorn_0 rfl rfl ?_
    refine x_iload_n eX1_putWorn_1 rfl rfl ?_
    refine x_callV1 eX1_putWorn_2 lk_X1_42 (by assumption) (Nat.le_of_ble_eq_true rfl) (Nat.le_of_ble_eq_true rfl) ?_
    refine c_X1_tellsPlace B w3 (fun _ => ?_)
    have ht : hpV (f 3) (nI j) = true := by rw [w3.1, hpV_nI (by omega) (by omega)]; exact decide_eq_true hj
    rw [ht]
    first | refine x_if_eqB (tgt := 16) eX1_putWorn_5 (by decide) (by with_reducible rfl) (fun cq1 => ?_) (fun cq1 => ?_) | refine x_if_eq (tgt := 16) eX1_putWorn_5 (by decide) (fun cq1 => ?_) (fun cq1 => ?_)
    · cases cq1
    · first | refine x_aload_n eX1_putWorn_8 rfl rfl ?_ | refine x_aload_nN eX1_putWorn_8 rfl rfl ?_
      first | refine x_getR eX1_putWorn_9 fk_X1_25 rfl (by assumption) (by assumption) ?_ | refine x_getN eX1_putWorn_9 fk_X1_25 rfl (by assumption) (by assumption) ?_
      refine x_iload_n eX1_putWorn_12 rfl rfl ?_
      refine x_iload_n eX1_putWorn_13 rfl rfl ?_
      refine x_i2b eX1_putWorn_14 ?_
      first | refine x_bastN eX1_putWorn_15 (by with_reducible rfl) (by assumption) (by assumption) (by omega) (by omega) ?_ | refine x_zastN eX1_putWorn_15 (by with_reducible rfl) (by assumption) (by assumption) (by omega) (by omega) ?_ | refine x_bast eX1_putWorn_15 (by assumption) (by assumption) ?_
      refine x_ret (rt := none) eX1_putWorn_16 rfl ?_
      rw [hv, hv]
      exact hq r er tr
set_option maxRecDepth 100000 in
set_option maxHeartbeats 4000000 in
theorem l_J7_fillS {c n : Nat} {v : Int32} (kc : hk h c = 22) (nc : hn h c = n) (hn31 : n < 2 ^ 31) (hv : v.toInt16.toInt32 = v) (hq : Q none (setI h (filF (hi h) c 0 n v))) : ∀ j k, k + j = n → Rn G d mJ7_fill_fb410 5 [(0, .ref c), (1, .int v), (2, .int (nI k)), (3, .int (nI n))] [] (setI h (filF (hi h) c 0 k v)) Q := by
  intro j
  induction j with
  | zero =>
    intro k hk0
    rw [show k = n by omega]
    refine x_iload_n eJ7_fill_fb410_5 rfl rfl ?_
    refine x_iload_n eJ7_fill_fb410_6 rfl rfl ?_
    first | refine x_icmp_geN (tgt := 20) eJ7_fill_fb410_7 (by decide) (by with_reducible rfl) (by with_reducible rfl) (by omega) (by omega) (fun cq1 => ?_) (fun cq1 => ?_) | refine x_icmp_ge (tgt := 20) eJ7_fill_fb410_7 (by decide) (fun cq1 => ?_) (fun cq1 => ?_)
    · refine x_ret (rt := none) eJ7_fill_fb410_20 rfl ?_
      exact hq
    · exact absurd cq1 (by omega)
  | succ j ih =>
    intro k hk0
    have kc2 : hk (setI h (filF (hi h) c 0 k v)) c = 22 := kc
    have nc2 : hn (setI h (filF (hi h) c 0 k v)) c = n := nc
    have iw := ih (k + 1) (by omega)
    rw [← filF_s, Nat.zero_add] at iw
    refine x_iload_n eJ7_fill_fb410_5 rfl rfl ?_
    refine x_iload_n eJ7_fill_fb410_6 rfl rfl ?_
    first | refine x_icmp_geN (tgt := 20) eJ7_fill_fb410_7 (by decide) (by with_reducible rfl) (by with_reducible rfl) (by omega) (by omega) (fun cq1 => ?_) (fun cq1 => ?_) | refine x_icmp_ge (tgt := 20) eJ7_fill_fb410_7 (by decide) (fun cq1 => ?_) (fun cq1 => ?_)
    · exact absurd cq1 (by omega)
    · first | refine x_aload_n eJ7_fill_fb410_10 rfl rfl ?_ | refine x_aload_nN eJ7_fill_fb410_10 rfl rfl ?_
      refine x_iload_n eJ7_fill_fb410_11 rfl rfl ?_
      refine x_iload_n eJ7_fill_fb410_12 rfl rfl ?_
      first | refine x_sastN eJ7_fill_fb410_13 (by with_reducible rfl) (by assumption) (by assumption) (by omega) (by omega) ?_ | refine x_sast eJ7_fill_fb410_13 (by assumption) (by assumption) ?_
      first | refine x_iincN eJ7_fill_fb410_14 rfl (by with_reducible rfl) (by decide) rfl rfl ?_ | refine x_iinc eJ7_fill_fb410_14 rfl rfl (by decide) rfl rfl ?_
      refine x_goto (tgt := 5) eJ7_fill_fb410_17 (by decide) ?_
      rw [hv, setI_wi]
      refine Rn.weak (iw) (by repeat' first | exact fun _ h => absurd h List.not_mem_nil | refine List.forall_mem_cons.mpr ⟨rfl, ?_⟩)
set_option maxRecDepth 100000 in
set_option maxHeartbeats 4000000 in
theorem c_J7_fillS {c n : Nat} {v : Int32} (kc : hk h c = 22) (nc : hn h c = n) (hn31 : n < 2 ^ 31) (hv : v.toInt16.toInt32 = v) (hq : Q none (setI h (filF (hi h) c 0 n v))) : Rn G d mJ7_fill_fb410 0 [(0, .ref c), (1, .int v)] [] h Q := by
  have k0 := l_J7_fillS (G := G) (d := d) kc nc hn31 hv hq n 0 (by omega)
  rw [filF_0, setI_self] at k0
  refine x_iconst (v := nI 0) eJ7_fill_fb410_0 (by decide) ?_
  refine x_istore_n eJ7_fill_fb410_1 rfl (by decide) rfl rfl ?_
  first | refine x_aload_n eJ7_fill_fb410_2 rfl rfl ?_ | refine x_aload_nN eJ7_fill_fb410_2 rfl rfl ?_
  first | refine x_alenN eJ7_fill_fb410_3 (by assumption) (by decide) (by assumption) ?_ | refine x_slenN eJ7_fill_fb410_3 (by assumption) (by assumption) ?_ | refine x_alen eJ7_fill_fb410_3 (by assumption) (by decide) ?_
  refine x_istore_n eJ7_fill_fb410_4 rfl (by decide) rfl rfl ?_
  refine Rn.weak (k0) (by repeat' first | exact fun _ h => absurd h List.not_mem_nil | refine List.forall_mem_cons.mpr ⟨rfl, ?_⟩)
/-- a bolt begun at a, its codes at c -/
def bg0 (h : AH) (a : Nat) (w ln : Int32) (gr : UInt32) (fr : Int32) : AH := wi (wq (wi (wf (wi (wi h a 0 w) a 1 ln) a 2 gr) a 3 fr) a 4 none) a 5 0
def bgH (h : AH) (a c : Nat) (w ln : Int32) (gr : UInt32) (fr : Int32) : AH := setI (bg0 h a w ln gr fr) (filF (hi (bg0 h a w ln gr fr)) c 0 200 (-1))
set_option maxRecDepth 100000 in
set_option maxHeartbeats 4000000 in
theorem c_X1_begin {c : Nat} {w ln fr : Int32} {gr : UInt32} (ka : hk h a = 1) (ec : hr h a 6 = some c) (kc : hk h c = 22) (nc : hn h c = 200) (hq : Q none (bgH h a c w ln gr fr)) : Rn G (d + 1) mX1_begin 0 [(0, .ref a), (1, .int w), (2, .int ln), (3, .float gr), (4, .int fr)] [] h Q := by
  have ec2 : hr (bg0 h a w ln gr fr) a 6 = some c := by
    show up2 (hr h) a 4 none a 6 = _
    rw [up2_k (by omega)]
    exact ec
  first | refine x_aload_n eX1_begin_0 rfl rfl ?_ | refine x_aload_nN eX1_begin_0 rfl rfl ?_
  refine x_iload_n eX1_begin_1 rfl rfl ?_
  refine x_putI eX1_begin_2 fk_X1_9 (by decide) rfl ⟨_, rfl, Or.inl rfl⟩ (by assumption) ?_
  first | refine x_aload_n eX1_begin_5 rfl rfl ?_ | refine x_aload_nN eX1_begin_5 rfl rfl ?_
  refine x_iload_n eX1_begin_6 rfl rfl ?_
  refine x_putI eX1_begin_7 fk_X1_15 (by decide) rfl ⟨_, rfl, Or.inl rfl⟩ (by assumption) ?_
  first | refine x_aload_n eX1_begin_10 rfl rfl ?_ | refine x_aload_nN eX1_begin_10 rfl rfl ?_
  refine x_fload_n eX1_begin_11 rfl rfl ?_
  refine x_putF eX1_begin_12 fk_X1_18 (by decide) rfl ⟨_, rfl, Or.inl rfl⟩ (by assumption) ?_
  first | refine x_aload_n eX1_begin_15 rfl rfl ?_ | refine x_aload_nN eX1_begin_15 rfl rfl ?_
  refine x_iload eX1_begin_16 rfl ?_
  refine x_putI eX1_begin_18 fk_X1_22 (by decide) rfl ⟨_, rfl, Or.inl rfl⟩ (by assumption) ?_
  first | refine x_aload_n eX1_begin_21 rfl rfl ?_ | refine x_aload_nN eX1_begin_21 rfl rfl ?_
  refine x_null eX1_begin_22 ?_
  first | refine x_putR eX1_begin_23 fk_X1_25 (by decide) rfl ⟨_, rfl, Or.inl rfl⟩ (by assumption) ?_ | refine x_putN eX1_begin_23 fk_X1_25 (by decide) rfl ⟨_, rfl, Or.inl rfl⟩ (by assumption) ?_
  first | refine x_aload_n eX1_begin_26 rfl rfl ?_ | refine x_aload_nN eX1_begin_26 rfl rfl ?_
  refine x_iconst (v := nI 0) eX1_begin_27 (by decide) ?_
  refine x_putI eX1_begin_28 fk_X1_29 (by decide) rfl ⟨_, rfl, Or.inl rfl⟩ (by assumption) ?_
  first | refine x_aload_n eX1_begin_31 rfl rfl ?_ | refine x_aload_nN eX1_begin_31 rfl rfl ?_
  first | refine x_getR eX1_begin_32 fk_X1_32 rfl (by assumption) (by assumption) ?_ | refine x_getN eX1_begin_32 fk_X1_32 rfl (by assumption) (by assumption) ?_
  refine x_iconst (v := (-1)) eX1_begin_35 (by decide) ?_
  refine x_callS2 eX1_begin_36 lk_X1_36 (Nat.le_of_ble_eq_true rfl) (Nat.le_of_ble_eq_true rfl) ?_
  refine c_J7_fillS (h := bg0 h a w ln gr fr) kc nc (by omega) i16_m1 (fun _ => ?_)
  refine x_ret (rt := none) eX1_begin_39 rfl ?_
  exact hq
/-- a new bolt -/
def inB (h : AH) (a : Nat) : AH := wq (nw (wi (wq (wi (wf (wi (wi h a 0 0) a 1 0) a 2 0) a 3 (-1)) a 4 none) a 5 0) 22 200) a 6 (some (hz h))
set_option maxRecDepth 100000 in
set_option maxHeartbeats 4000000 in
theorem c_X1_init (ka : hk h a = 1) (hlt : a < hz h) (hroom : hz h < gB G + 600000 ∧ us G h + 200 ≤ 7302250) (hq : Q none (inB h a)) : Rn G (d + 1) mX1_init 0 [(0, .ref a)] [] h Q := by
  have ka2 : hk (nw (wi (wq (wi (wf (wi (wi h a 0 0) a 1 0) a 2 0) a 3 (-1)) a 4 none) a 5 0) 22 200) a = 1 := by
    rw [hk_nw (by show a ≠ hz h; omega)]
    exact ka
  first | refine x_aload_n eX1_init_0 rfl rfl ?_ | refine x_aload_nN eX1_init_0 rfl rfl ?_
  refine x_obj eX1_init_1 lk_X1_3 (Nat.le_of_ble_eq_true rfl) ?_
  first | refine x_aload_n eX1_init_4 rfl rfl ?_ | refine x_aload_nN eX1_init_4 rfl rfl ?_
  refine x_iconst (v := nI 0) eX1_init_5 (by decide) ?_
  refine x_putI eX1_init_6 fk_X1_9 (by decide) rfl ⟨_, rfl, Or.inl rfl⟩ (by assumption) ?_
  first | refine x_aload_n eX1_init_9 rfl rfl ?_ | refine x_aload_nN eX1_init_9 rfl rfl ?_
  refine x_iconst (v := nI 0) eX1_init_10 (by decide) ?_
  refine x_putI eX1_init_11 fk_X1_15 (by decide) rfl ⟨_, rfl, Or.inl rfl⟩ (by assumption) ?_
  first | refine x_aload_n eX1_init_14 rfl rfl ?_ | refine x_aload_nN eX1_init_14 rfl rfl ?_
  refine x_fconst0 eX1_init_15 ?_
  refine x_putF eX1_init_16 fk_X1_18 (by decide) rfl ⟨_, rfl, Or.inl rfl⟩ (by assumption) ?_
  first | refine x_aload_n eX1_init_19 rfl rfl ?_ | refine x_aload_nN eX1_init_19 rfl rfl ?_
  refine x_iconst (v := (-1)) eX1_init_20 (by decide) ?_
  refine x_putI eX1_init_21 fk_X1_22 (by decide) rfl ⟨_, rfl, Or.inl rfl⟩ (by assumption) ?_
  first | refine x_aload_n eX1_init_24 rfl rfl ?_ | refine x_aload_nN eX1_init_24 rfl rfl ?_
  refine x_null eX1_init_25 ?_
  first | refine x_putR eX1_init_26 fk_X1_25 (by decide) rfl ⟨_, rfl, Or.inl rfl⟩ (by assumption) ?_ | refine x_putN eX1_init_26 fk_X1_25 (by decide) rfl ⟨_, rfl, Or.inl rfl⟩ (by assumption) ?_
  first | refine x_aload_n eX1_init_29 rfl rfl ?_ | refine x_aload_nN eX1_init_29 rfl rfl ?_
  refine x_iconst (v := nI 0) eX1_init_30 (by decide) ?_
  refine x_putI eX1_init_31 fk_X1_29 (by decide) rfl ⟨_, rfl, Or.inl rfl⟩ (by assumption) ?_
  first | refine x_aload_n eX1_init_34 rfl rfl ?_ | refine x_aload_nN eX1_init_34 rfl rfl ?_
  refine x_sipush (v := nI 200) eX1_init_35 (by decide) ?_
  refine x_newaN (kd := 22) eX1_init_38 (by decide) rfl ak_22 (by with_reducible rfl) (by omega) (by first | assumption | omega) ?_
  first | refine x_putR eX1_init_40 fk_X1_32 (by decide) rfl ⟨_, rfl, Or.inr ⟨rfl, rfl, rfl⟩⟩ (by assumption) ?_ | refine x_putN eX1_init_40 fk_X1_32 (by decide) rfl ⟨_, rfl, Or.inr ⟨rfl, rfl, rfl⟩⟩ (by assumption) ?_
  refine x_ret (rt := none) eX1_init_43 rfl ?_
  exact hq
end BOLT2

