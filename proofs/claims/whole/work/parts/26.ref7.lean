/-! ===== the reference: its acts, one by one ===== -/
set_option maxRecDepth 100000 in
set_option maxHeartbeats 4000000 in
theorem inR_N {v y : Int32} {lo hi : Nat} (h : inR v (nI lo) y = true) (ey : y = nI hi) (hh : hi < 2 ^ 31) (hlo : lo < 2 ^ 31) : ∃ m, lo ≤ m ∧ m ≤ hi ∧ v = nI m := by
  simp only [inR, Bool.and_eq_true, decide_eq_true_eq] at h
  have h0 : ¬ v < 0 := Int32.not_lt.mpr (Int32.le_trans (nI_pos' hlo) h.1)
  obtain ⟨m, m1, m2⟩ := nI_of h0
  subst m2
  exact ⟨m, (nI_leI hlo m1).mp h.1, (nI_leI m1 hh).mp (ey ▸ h.2), rfl⟩
set_option maxRecDepth 100000 in
set_option maxHeartbeats 4000000 in
theorem inR_nI {m lo hi : Nat} (h1 : lo ≤ m) (h2 : m ≤ hi) (hh : hi < 2 ^ 31) : inR (nI m) (nI lo) (nI hi) = true := by
  simp only [inR, Bool.and_eq_true, decide_eq_true_eq]
  exact ⟨(nI_leI (by omega) (by omega)).mpr h1, (nI_leI (by omega) (by omega)).mpr h2⟩
def rowOK (g : Nat → Int32) (b n : Int32) : Bool := isB g b && (inR n 0 (bl g (nt b) 1) && bareV g b)
def gRow (g : Nat → Int32) (b n : Nat) : Nat → Int32 := filG (upd0 g (10 + 210 * b + 3) (nI n)) (10 + 210 * b + 6) n 0
def wearOK (g : Nat → Int32) (b k v : Int32) : Bool := isB g b && (decide (0 ≤ k) && (decide (k < bl g (nt b) 3) && (inR v 0 100 && bareV g b)))
def gWear (g : Nat → Int32) (b k : Nat) (v : Int32) : Nat → Int32 := upd0 g (10 + 210 * b + (6 + k)) v
def edgeOK (g : Nat → Int32) (s a n : Int32) : Bool := isO g s && (inR a 0 1 && inR n 0 (sl g (nt s) 5 + 1))
def gEdge (g : Nat → Int32) (s a n : Nat) : Nat → Int32 := filG (upd0 g (5050 + 390 * s + (16 + a)) (nI n)) (5050 + 390 * s + (18 + 61 * a)) n 0
def standOK (g : Nat → Int32) (s a y v : Int32) : Bool := isO g s && (inR a 0 1 && (decide (0 ≤ y) && (decide (y < sl g (nt s) (16 + nt a)) && inR v (-200) 200)))
def gStand (g : Nat → Int32) (s a y : Nat) (v : Int32) : Nat → Int32 := upd0 g (5050 + 390 * s + (18 + 61 * a + y)) v
def narOK (g : Nat → Int32) (s i v : Int32) : Bool := isC g s && (inR i 0 (sl g (nt s) 8 - 2) && inR v 0 50)
def gNar (g : Nat → Int32) (s i : Nat) (v : Int32) : Nat → Int32 := upd0 g (5050 + 390 * s + (140 + i)) v
def patOK (g : Nat → Int32) (s y b l : Int32) : Bool := isC g s && (inR y 0 (sl g (nt s) 5 - 1) && (inR b 1 20 && (inR l 1 100 && !decide (np g (nt s) = 40))))
def gPat (g : Nat → Int32) (s : Nat) (y b l : Int32) : Nat → Int32 := upd0 (upd0 (upd0 (upd0 g (5050 + 390 * s + (180 + np g s)) y) (5050 + 390 * s + (220 + np g s)) b) (5050 + 390 * s + (260 + np g s)) l) (5050 + 390 * s + 9) (sl g s 9 + 1)
def gPut (g : Nat → Int32) (s i : Nat) (b p : Int32) : Nat → Int32 := upd0 (upd0 g (5050 + 390 * s + (300 + i)) b) (5050 + 390 * s + (340 + i)) p
def layOK (g : Nat → Int32) (s i b p w : Int32) : Bool := isPc g s i && (isB g b && (inR w 0 100 && (decide (sl g (nt s) (300 + nt i) = -1) && takesV g (nt b) p (nt s) (nt i) w)))
def liftOK (g : Nat → Int32) (s i : Int32) : Bool := isPc g s i && !decide (sl g (nt s) (300 + nt i) = -1)
def setOK (g : Nat → Int32) (s z : Int32) : Bool := isC g s && !decide (sl g (nt s) 11 = (if z = 0 then 0 else 1))
def gSet (g : Nat → Int32) (s : Nat) (z : Int32) : Nat → Int32 := upd0 g (5050 + 390 * s + 11) (if z = 0 then 0 else 1)
def reefOK (g : Nat → Int32) (s y : Int32) : Bool := isC g s && (inR y 0 (sl g (nt s) 5) && !decide (sl g (nt s) 10 = y))
def gReef (g : Nat → Int32) (s : Nat) (y : Int32) : Nat → Int32 := upd0 g (5050 + 390 * s + 10) y
def lineOK (g : Nat → Int32) (s y : Int32) : Bool := isS g s && (!decide (sl g (nt s) 0 = 2) && (inR y 1 (sl g (nt s) 5) && (!decide (sl g (nt s) 12 = 3) && (decide (sl g (nt s) 12 ≤ 0) || decide (sl g (nt s) (13 + nt (sl g (nt s) 12) - 1) < y)))))
def gLine (g : Nat → Int32) (s : Nat) (y : Int32) : Nat → Int32 := upd0 (upd0 g (5050 + 390 * s + (13 + nt (sl g s 12))) y) (5050 + 390 * s + 12) (nI (nt (sl g s 12) + 1))
def gBolt (g : Nat → Int32) (b : Nat) (w l gr f : Int32) : Nat → Int32 := upd0 (upd0 (upd0 (upd0 (upd0 (upd0 g 0 (nI (b + 1))) (10 + 210 * b + 0) w) (10 + 210 * b + 1) l) (10 + 210 * b + 2) gr) (10 + 210 * b + 3) 0) (10 + 210 * b + 4) f
section REF7
variable {G : GG} {d : Nat} {h : AH} {Q : Option Value → AH → Prop} {x la kp : Nat}
set_option maxRecDepth 100000 in
set_option maxHeartbeats 4000000 in
theorem l_X9_row {g : Nat → Int32} {j m : Nat} (M : MD h x) (hj : j < 24) (hm : m ≤ 200) (hq : Q (some (.int 1)) (acted h x la kp (filG g (10 + 210 * j + 6) m 0))) : ∀ n k, k + n = m → Rn G (d + 5) mX9_row 45 [(0, .ref x), (1, .int (nI j)), (2, .int (nI m)), (3, .int (nI k))] [] (acted h x la kp (filG g (10 + 210 * j + 6) k 0)) Q := by
  intro n
  induction n with
  | zero =>
    intro k hk0
    have e : k = m := by omega
    subst e
    refine x_iload_n eX9_row_45 rfl rfl ?_
    refine x_iload_n eX9_row_46 rfl rfl ?_
    first | refine x_icmp_geN (tgt := 66) eX9_row_47 (by decide) (by with_reducible rfl) (by with_reducible rfl) (by omega) (by omega) (fun cq1 => ?_) (fun cq1 => ?_) | refine x_icmp_ge (tgt := 66) eX9_row_47 (by decide) (fun cq1 => ?_) (fun cq1 => ?_)
    · refine x_iconst (v := nI 1) eX9_row_66 (by decide) ?_
      refine x_zret eX9_row_67 rfl (by first | exact Or.inl rfl | exact Or.inr rfl | exact bI_or _ | assumption) ?_
      exact hq
    · exact absurd cq1 (by omega)
  | succ n ih =>
    intro k hk0
    have M2 := M.acted la kp (filG g (10 + 210 * j + 6) k 0)
    obtain ⟨⟨hx, -⟩, -⟩ := id M2
    refine x_iload_n eX9_row_45 rfl rfl ?_
    refine x_iload_n eX9_row_46 rfl rfl ?_
    first | refine x_icmp_geN (tgt := 66) eX9_row_47 (by decide) (by with_reducible rfl) (by with_reducible rfl) (by omega) (by omega) (fun cq1 => ?_) (fun cq1 => ?_) | refine x_icmp_ge (tgt := 66) eX9_row_47 (by decide) (fun cq1 => ?_) (fun cq1 => ?_)
    · exact absurd cq1 (by omega)
    · first | refine x_aload_n eX9_row_50 rfl rfl ?_ | refine x_aload_nN eX9_row_50 rfl rfl ?_
      refine x_iload_n eX9_row_51 rfl rfl ?_
      refine x_bipush (v := nI 6) eX9_row_52 (by decide) ?_
      refine x_iload_n eX9_row_54 rfl rfl ?_
      first | refine x_iaddN eX9_row_55 (by with_reducible rfl) (by with_reducible rfl) ?_ | refine x_iadd eX9_row_55 ?_
      refine x_iconst (v := nI 0) eX9_row_56 (by decide) ?_
      refine x_callV3 eX9_row_57 lk_X9_60 (by assumption) (Nat.le_of_ble_eq_true rfl) (Nat.le_of_ble_eq_true rfl) ?_
      refine c_X9_putBolt M2.md (by omega) (fun _ => ?_)
      rw [acted_wi, show 10 + 210 * j + (6 + k) = 10 + 210 * j + 6 + k by omega, show (nI 0) = 0 from rfl, filG_s]
      first | refine x_iincN eX9_row_60 rfl (by with_reducible rfl) (by decide) rfl rfl ?_ | refine x_iinc eX9_row_60 rfl rfl (by decide) rfl rfl ?_
      refine x_goto (tgt := 45) eX9_row_63 (by decide) ?_
      refine Rn.weak (ih (k + 1) (by omega)) (by repeat' first | exact fun _ h => absurd h List.not_mem_nil | refine List.forall_mem_cons.mpr ⟨rfl, ?_⟩)
set_option maxRecDepth 100000 in
set_option maxHeartbeats 4000000 in
theorem c_X9_row {b n : Int32} (M : MD h x) (K : MK h x kp la) (W : GW (hi h (x + 1))) (hq0 : rowOK (hi h (x + 1)) b n = false → Q (some (.int 0)) h) (hq1 : rowOK (hi h (x + 1)) b n = true → Q (some (.int 1)) (acted h x la kp (gRow (hi h (x + 1)) (nt b) (nt n)))) : Rn G (d + 5) mX9_row 0 [(0, .ref x), (1, .int b), (2, .int n)] [] h Q := by
  obtain ⟨⟨hx, hS, kS, nS⟩, -⟩ := id M
  first | refine x_aload_n eX9_row_0 rfl rfl ?_ | refine x_aload_nN eX9_row_0 rfl rfl ?_
  refine x_iload_n eX9_row_1 rfl rfl ?_
  refine x_callV1 eX9_row_2 lk_X9_89 (by assumption) (Nat.le_of_ble_eq_true rfl) (Nat.le_of_ble_eq_true rfl) ?_
  refine Rn.deep (c_X9_isBolt (d := d) M.md (fun _ => ?_)) (by omega)
  first | refine x_if_eqB (tgt := 30) eX9_row_5 (by decide) (by with_reducible rfl) (fun cq1 => ?_) (fun cq1 => ?_) | refine x_if_eq (tgt := 30) eX9_row_5 (by decide) (fun cq1 => ?_) (fun cq1 => ?_)
  · refine x_iconst (v := nI 0) eX9_row_30 (by decide) ?_
    refine x_zret eX9_row_31 rfl (by first | exact Or.inl rfl | exact Or.inr rfl | exact bI_or _ | assumption) ?_
    exact hq0 (by simp [rowOK, cq1])
  · obtain ⟨j, hj, rfl⟩ := isB_spec W.1 cq1
    have h24 := W.1.2.2
    have hnt : nt (nI j) = j := nt_nI (by omega)
    obtain ⟨-, ⟨e1, l1, u1⟩, -⟩ := W.2.2.1 j hj
    refine x_iload_n eX9_row_8 rfl rfl ?_
    refine x_iconst (v := nI 0) eX9_row_9 (by decide) ?_
    first | refine x_aload_n eX9_row_10 rfl rfl ?_ | refine x_aload_nN eX9_row_10 rfl rfl ?_
    refine x_iload_n eX9_row_11 rfl rfl ?_
    refine x_iconst (v := nI 1) eX9_row_12 (by decide) ?_
    refine x_callV2 eX9_row_13 lk_X9_92 (by assumption) (Nat.le_of_ble_eq_true rfl) (Nat.le_of_ble_eq_true rfl) ?_
    refine Rn.deep (c_X9_bolt (d := d) M.md (by omega) (fun _ => ?_)) (by omega)
    refine x_callS3 eX9_row_16 lk_X9_70 (Nat.le_of_ble_eq_true rfl) (Nat.le_of_ble_eq_true rfl) ?_
    refine Rn.deep (c_X9_isIn (d := d) (fun _ => ?_)) (by omega)
    first | refine x_if_eqB (tgt := 30) eX9_row_19 (by decide) (by with_reducible rfl) (fun cq2 => ?_) (fun cq2 => ?_) | refine x_if_eq (tgt := 30) eX9_row_19 (by decide) (fun cq2 => ?_) (fun cq2 => ?_)
    · refine x_iconst (v := nI 0) eX9_row_30 (by decide) ?_
      refine x_zret eX9_row_31 rfl (by first | exact Or.inl rfl | exact Or.inr rfl | exact bI_or _ | assumption) ?_
      exact hq0 (by have c2 : inR n 0 (bl (hi h (x + 1)) j 1) = false := cq2; simp [rowOK, hnt, c2])
    · have c2 : inR n 0 (bl (hi h (x + 1)) j 1) = true := cq2
      obtain ⟨m, -, hm, rfl⟩ := inR_N (lo := 0) c2 e1 (by omega) (by omega)
      have hntm : nt (nI m) = m := nt_nI (by omega)
      first | refine x_aload_n eX9_row_22 rfl rfl ?_ | refine x_aload_nN eX9_row_22 rfl rfl ?_
      refine x_iload_n eX9_row_23 rfl rfl ?_
      refine x_callV1 eX9_row_24 lk_X9_95 (by assumption) (Nat.le_of_ble_eq_true rfl) (Nat.le_of_ble_eq_true rfl) ?_
      refine c_X9_isBare M.md W (fun _ => ?_)
      first | refine x_if_neB (tgt := 32) eX9_row_27 (by decide) (by with_reducible rfl) (fun cq3 => ?_) (fun cq3 => ?_) | refine x_if_ne (tgt := 32) eX9_row_27 (by decide) (fun cq3 => ?_) (fun cq3 => ?_)
      · first | refine x_aload_n eX9_row_32 rfl rfl ?_ | refine x_aload_nN eX9_row_32 rfl rfl ?_
        refine x_callV0 eX9_row_33 lk_X9_75 (by assumption) (Nat.le_of_ble_eq_true rfl) (Nat.le_of_ble_eq_true rfl) ?_
        refine Rn.deep (c_X9_act (d := d) M K (fun _ => ?_)) (by omega)
        have M2 := M.acted la kp (hi h (x + 1))
        have hx2 : hk (acted h x la kp (hi h (x + 1))) x = 8 := hx
        first | refine x_aload_n eX9_row_36 rfl rfl ?_ | refine x_aload_nN eX9_row_36 rfl rfl ?_
        refine x_iload_n eX9_row_37 rfl rfl ?_
        refine x_iconst (v := nI 3) eX9_row_38 (by decide) ?_
        refine x_iload_n eX9_row_39 rfl rfl ?_
        refine x_callV3 eX9_row_40 lk_X9_60 (by assumption) (Nat.le_of_ble_eq_true rfl) (Nat.le_of_ble_eq_true rfl) ?_
        refine Rn.deep (c_X9_putBolt (d := d) M2.md (by omega) (fun _ => ?_)) (by omega)
        rw [acted_wi]
        refine x_iconst (v := nI 0) eX9_row_43 (by decide) ?_
        refine x_istore_n eX9_row_44 rfl (by decide) rfl rfl ?_
        have hok : rowOK (hi h (x + 1)) (nI j) (nI m) = true := by rw [rowOK, cq1, hnt, c2, cq3]; rfl
        have q1 := hq1 hok
        rw [hnt, hntm] at q1
        have w := l_X9_row (G := G) (d := d) (Q := Q) (la := la) (kp := kp) (g := upd0 (hi h (x + 1)) (10 + 210 * j + 3) (nI m)) (j := j) (m := m) M (by omega) (by omega) q1 m 0 (by omega)
        rw [filG_0] at w
        refine Rn.weak (w) (by repeat' first | exact fun _ h => absurd h List.not_mem_nil | refine List.forall_mem_cons.mpr ⟨rfl, ?_⟩)
      · refine x_iconst (v := nI 0) eX9_row_30 (by decide) ?_
        refine x_zret eX9_row_31 rfl (by first | exact Or.inl rfl | exact Or.inr rfl | exact bI_or _ | assumption) ?_
        exact hq0 (by rw [rowOK, cq3]; simp)
set_option maxRecDepth 100000 in
set_option maxHeartbeats 4000000 in
theorem c_X9_wear {b k v : Int32} (M : MD h x) (K : MK h x kp la) (W : GW (hi h (x + 1))) (hq0 : wearOK (hi h (x + 1)) b k v = false → Q (some (.int 0)) h) (hq1 : wearOK (hi h (x + 1)) b k v = true → Q (some (.int 1)) (acted h x la kp (gWear (hi h (x + 1)) (nt b) (nt k) v))) : Rn G (d + 5) mX9_wear 0 [(0, .ref x), (1, .int b), (2, .int k), (3, .int v)] [] h Q := by
  obtain ⟨⟨hx, hS, kS, nS⟩, -⟩ := id M
  first | refine x_aload_n eX9_wear_0 rfl rfl ?_ | refine x_aload_nN eX9_wear_0 rfl rfl ?_
  refine x_iload_n eX9_wear_1 rfl rfl ?_
  refine x_callV1 eX9_wear_2 lk_X9_89 (by assumption) (Nat.le_of_ble_eq_true rfl) (Nat.le_of_ble_eq_true rfl) ?_
  refine Rn.deep (c_X9_isBolt (d := d) M.md (fun _ => ?_)) (by omega)
  first | refine x_if_eqB (tgt := 40) eX9_wear_5 (by decide) (by with_reducible rfl) (fun cq1 => ?_) (fun cq1 => ?_) | refine x_if_eq (tgt := 40) eX9_wear_5 (by decide) (fun cq1 => ?_) (fun cq1 => ?_)
  · refine x_iconst (v := nI 0) eX9_wear_40 (by decide) ?_
    refine x_zret eX9_wear_41 rfl (by first | exact Or.inl rfl | exact Or.inr rfl | exact bI_or _ | assumption) ?_
    exact hq0 (by simp [wearOK, cq1])
  · obtain ⟨j, hj, rfl⟩ := isB_spec W.1 cq1
    have h24 := W.1.2.2
    have hnt : nt (nI j) = j := nt_nI (by omega)
    obtain ⟨-, ⟨e1, l1, u1⟩, ⟨e3, l3, u3⟩⟩ := W.2.2.1 j hj
    refine x_iload_n eX9_wear_8 rfl rfl ?_
    refine x_if_lt (tgt := 40) eX9_wear_9 (by decide) (fun cq2 => ?_) (fun cq2 => ?_)
    · refine x_iconst (v := nI 0) eX9_wear_40 (by decide) ?_
      refine x_zret eX9_wear_41 rfl (by first | exact Or.inl rfl | exact Or.inr rfl | exact bI_or _ | assumption) ?_
      exact hq0 (by have : ¬ 0 ≤ k := Int32.not_le.mpr cq2; simp [wearOK, this])
    · have c2 : 0 ≤ k := Int32.not_lt.mp cq2
      refine x_iload_n eX9_wear_12 rfl rfl ?_
      first | refine x_aload_n eX9_wear_13 rfl rfl ?_ | refine x_aload_nN eX9_wear_13 rfl rfl ?_
      refine x_iload_n eX9_wear_14 rfl rfl ?_
      refine x_iconst (v := nI 3) eX9_wear_15 (by decide) ?_
      refine x_callV2 eX9_wear_16 lk_X9_92 (by assumption) (Nat.le_of_ble_eq_true rfl) (Nat.le_of_ble_eq_true rfl) ?_
      refine Rn.deep (c_X9_bolt (d := d) M.md (by omega) (fun _ => ?_)) (by omega)
      first | refine x_icmp_geN (tgt := 40) eX9_wear_19 (by decide) (by with_reducible rfl) (by with_reducible rfl) (by omega) (by omega) (fun cq3 => ?_) (fun cq3 => ?_) | refine x_icmp_ge (tgt := 40) eX9_wear_19 (by decide) (fun cq3 => ?_) (fun cq3 => ?_)
      · refine x_iconst (v := nI 0) eX9_wear_40 (by decide) ?_
        refine x_zret eX9_wear_41 rfl (by first | exact Or.inl rfl | exact Or.inr rfl | exact bI_or _ | assumption) ?_
        exact hq0 (by have c3 : ¬ k < bl (hi h (x + 1)) j 3 := Int32.not_lt.mpr cq3; simp [wearOK, hnt, c3])
      · have c3 : k < bl (hi h (x + 1)) j 3 := Int32.not_le.mp cq3
        obtain ⟨m, hm, rfl⟩ := lt_nI c2 c3 ⟨e3, Nat.zero_le _, u3⟩ (by omega)
        have hntm : nt (nI m) = m := nt_nI (by omega)
        refine x_iload_n eX9_wear_22 rfl rfl ?_
        refine x_iconst (v := nI 0) eX9_wear_23 (by decide) ?_
        refine x_bipush (v := nI 100) eX9_wear_24 (by decide) ?_
        refine x_callS3 eX9_wear_26 lk_X9_70 (Nat.le_of_ble_eq_true rfl) (Nat.le_of_ble_eq_true rfl) ?_
        refine Rn.deep (c_X9_isIn (d := d) (fun _ => ?_)) (by omega)
        first | refine x_if_eqB (tgt := 40) eX9_wear_29 (by decide) (by with_reducible rfl) (fun cq4 => ?_) (fun cq4 => ?_) | refine x_if_eq (tgt := 40) eX9_wear_29 (by decide) (fun cq4 => ?_) (fun cq4 => ?_)
        · refine x_iconst (v := nI 0) eX9_wear_40 (by decide) ?_
          refine x_zret eX9_wear_41 rfl (by first | exact Or.inl rfl | exact Or.inr rfl | exact bI_or _ | assumption) ?_
          exact hq0 (by have c4 : inR v 0 100 = false := cq4; simp [wearOK, c4])
        · have c4 : inR v 0 100 = true := cq4
          first | refine x_aload_n eX9_wear_32 rfl rfl ?_ | refine x_aload_nN eX9_wear_32 rfl rfl ?_
          refine x_iload_n eX9_wear_33 rfl rfl ?_
          refine x_callV1 eX9_wear_34 lk_X9_95 (by assumption) (Nat.le_of_ble_eq_true rfl) (Nat.le_of_ble_eq_true rfl) ?_
          refine c_X9_isBare M.md W (fun _ => ?_)
          first | refine x_if_neB (tgt := 42) eX9_wear_37 (by decide) (by with_reducible rfl) (fun cq5 => ?_) (fun cq5 => ?_) | refine x_if_ne (tgt := 42) eX9_wear_37 (by decide) (fun cq5 => ?_) (fun cq5 => ?_)
          · first | refine x_aload_n eX9_wear_42 rfl rfl ?_ | refine x_aload_nN eX9_wear_42 rfl rfl ?_
            refine x_callV0 eX9_wear_43 lk_X9_75 (by assumption) (Nat.le_of_ble_eq_true rfl) (Nat.le_of_ble_eq_true rfl) ?_
            refine Rn.deep (c_X9_act (d := d) M K (fun _ => ?_)) (by omega)
            have M2 := M.acted la kp (hi h (x + 1))
            have hx2 : hk (acted h x la kp (hi h (x + 1))) x = 8 := hx
            first | refine x_aload_n eX9_wear_46 rfl rfl ?_ | refine x_aload_nN eX9_wear_46 rfl rfl ?_
            refine x_iload_n eX9_wear_47 rfl rfl ?_
            refine x_bipush (v := nI 6) eX9_wear_48 (by decide) ?_
            refine x_iload_n eX9_wear_50 rfl rfl ?_
            first | refine x_iaddN eX9_wear_51 (by with_reducible rfl) (by with_reducible rfl) ?_ | refine x_iadd eX9_wear_51 ?_
            refine x_iload_n eX9_wear_52 rfl rfl ?_
            refine x_callV3 eX9_wear_53 lk_X9_60 (by assumption) (Nat.le_of_ble_eq_true rfl) (Nat.le_of_ble_eq_true rfl) ?_
            refine Rn.deep (c_X9_putBolt (d := d) M2.md (by omega) (fun _ => ?_)) (by omega)
            rw [acted_wi]
            refine x_iconst (v := nI 1) eX9_wear_56 (by decide) ?_
            refine x_zret eX9_wear_57 rfl (by first | exact Or.inl rfl | exact Or.inr rfl | exact bI_or _ | assumption) ?_
            have q1 := hq1 (by rw [wearOK, cq1, hnt, decide_eq_true c2, decide_eq_true c3, c4, cq5]; rfl)
            rw [hnt, hntm] at q1
            exact q1
          · refine x_iconst (v := nI 0) eX9_wear_40 (by decide) ?_
            refine x_zret eX9_wear_41 rfl (by first | exact Or.inl rfl | exact Or.inr rfl | exact bI_or _ | assumption) ?_
            exact hq0 (by rw [wearOK, cq5]; simp)
end REF7

