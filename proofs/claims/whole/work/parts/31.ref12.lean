/-! ===== the reference: take, bolt ===== -/
set_option maxRecDepth 100000 in
set_option maxHeartbeats 4000000 in
theorem broV_eq {g g2 : Nat → Int32} {s : Nat} (e : ∀ c, sl g2 s c = sl g s c) (i : Nat) : broV g2 s i = broV g s i := by
  have e2 : sl g2 s = sl g s := funext e
  unfold broV isP hiN loN
  rw [e2]
set_option maxRecDepth 100000 in
set_option maxHeartbeats 4000000 in
theorem edg_eq {g g2 : Nat → Int32} {s : Nat} (e : ∀ c, sl g2 s c = sl g s c) (a : Nat) : edg g2 s a = edg g s a := by
  funext y
  simp only [edg, e]
set_option maxRecDepth 100000 in
set_option maxHeartbeats 4000000 in
theorem lenV_eq {g g2 : Nat → Int32} {s : Nat} (e : ∀ c, sl g2 s c = sl g s c) (i : Nat) : lenV g2 s i = lenV g s i := by
  have e2 : sl g2 s = sl g s := funext e
  unfold lenV isP hiN loN
  rw [e2, edg_eq e, edg_eq e]
set_option maxRecDepth 100000 in
set_option maxHeartbeats 4000000 in
theorem SW_eq {g g2 : Nat → Int32} {s : Nat} (e : ∀ c, sl g2 s c = sl g s c) (h0 : nt (g 0) ≤ nt (g2 0)) (w : SW g s) : SW g2 s := by
  unfold SW at w ⊢
  simp only [e]
  obtain ⟨a1, a2, a3, a4, a5, a6, a7, a8, a9, a10, a11, a12, a13, a14⟩ := w
  refine ⟨a1, a2, a3, a4, a5, a6, a7, a8, a9, a10, a11, a12, a13, fun i hi => ?_⟩
  rcases a14 i hi with z | ⟨⟨z1, z2, z3⟩, z4⟩
  · exact Or.inl z
  · exact Or.inr ⟨⟨z1, z2, by omega⟩, by omega⟩
set_option maxRecDepth 100000 in
set_option maxHeartbeats 4000000 in
theorem sl_gBolt (g : Nat → Int32) {b : Nat} (hb : b < 24) (w l gr f : Int32) (s c : Nat) : sl (gBolt g b w l gr f) s c = sl g s c := by
  unfold sl gBolt
  simp only [upd0]
  rw [if_neg (by omega), if_neg (by omega), if_neg (by omega), if_neg (by omega), if_neg (by omega), if_neg (by omega)]
set_option maxRecDepth 100000 in
set_option maxHeartbeats 4000000 in
theorem bl_gBolt (g : Nat → Int32) {b a : Nat} (hb : a < b) (w l gr f : Int32) {c : Nat} (hc : c < 210) : bl (gBolt g b w l gr f) a c = bl g a c := by
  unfold bl gBolt
  simp only [upd0]
  rw [if_neg (by omega), if_neg (by omega), if_neg (by omega), if_neg (by omega), if_neg (by omega), if_neg (by omega)]
set_option maxRecDepth 100000 in
set_option maxHeartbeats 4000000 in
theorem g0_gBolt (g : Nat → Int32) (b : Nat) (w l gr f : Int32) : gBolt g b w l gr f 0 = nI (b + 1) := by
  unfold gBolt
  simp only [upd0]
  rw [if_neg (by omega), if_neg (by omega), if_neg (by omega), if_neg (by omega), if_neg (by omega), if_pos trivial]
/-- the bolts that come of the first k pieces of sail s -/
def gTk (g : Nat → Int32) (s b0 : Nat) : Nat → Nat → Int32
  | 0 => g
  | k + 1 => gBolt (gTk g s b0 k) (b0 + k) (if 2 < broV g s k then broV g s k else 2) (if lenV g s k < 200 then lenV g s k else 200) (bl g (nt (sl g s (300 + k))) 2) (nI s)
set_option maxRecDepth 100000 in
set_option maxHeartbeats 4000000 in
theorem sl_gTk (g : Nat → Int32) {b0 : Nat} (s : Nat) : ∀ {k : Nat}, b0 + k ≤ 24 → ∀ t c, sl (gTk g s b0 k) t c = sl g t c
  | 0, _, _, _ => rfl
  | k + 1, hb, t, c => by
    show sl (gBolt _ _ _ _ _ _) t c = _
    rw [sl_gBolt _ (by omega), sl_gTk g s (k := k) (by omega)]
set_option maxRecDepth 100000 in
set_option maxHeartbeats 4000000 in
theorem bl_gTk (g : Nat → Int32) {b0 a c : Nat} (s : Nat) (ha : a < b0) (hc : c < 210) : ∀ {k : Nat}, bl (gTk g s b0 k) a c = bl g a c
  | 0 => rfl
  | k + 1 => by
    show bl (gBolt _ _ _ _ _ _) a c = _
    rw [bl_gBolt _ (by omega) _ _ _ _ hc, bl_gTk g s ha hc (k := k)]
set_option maxRecDepth 100000 in
set_option maxHeartbeats 4000000 in
theorem g0_gTk (g : Nat → Int32) {b0 : Nat} (s : Nat) (h0 : g 0 = nI b0) : ∀ {k : Nat}, gTk g s b0 k 0 = nI (b0 + k)
  | 0 => h0
  | k + 1 => g0_gBolt _ _ _ _ _ _
def takOK (g : Nat → Int32) (s : Int32) : Bool := isC g s && (allN (fun i => !decide (sl g (nt s) (300 + i) = -1)) (np g (nt s)) && decide (nt (g 0) + np g (nt s) ≤ 24))
def gTake (g : Nat → Int32) (s : Nat) : Nat → Int32 := upd0 (upd0 (gTk g s (nt (g 0)) (np g s)) (5050 + 390 * s + 0) 2) (5050 + 390 * s + 11) 0
section REF12
variable {G : GG} {d : Nat} {h : AH} {Q : Option Value → AH → Prop} {x la kp : Nat}
set_option maxRecDepth 100000 in
set_option maxHeartbeats 4000000 in
theorem l_X9_take0 {s m : Nat} (M : MD h x) (hs : s < 10) (hm : m ≤ 40) (hq0 : allN (fun i => !decide (sl (hi h (x + 1)) s (300 + i) = -1)) m = false → Q (some (.int (-1))) h) (kx : allN (fun i => !decide (sl (hi h (x + 1)) s (300 + i) = -1)) m = true → Rn G (d + 4) mX9_take 45 [(0, .ref x), (1, .int (nI s)), (2, .int (nI m))] [] h Q) : ∀ n k, k + n = m → (∀ j, j < k → (!decide (sl (hi h (x + 1)) s (300 + j) = -1)) = true) → Rn G (d + 4) mX9_take 18 [(0, .ref x), (1, .int (nI s)), (2, .int (nI m)), (3, .int (nI k))] [] h Q := by
  obtain ⟨⟨hx, hS, kS, nS⟩, -⟩ := id M
  intro n
  induction n with
  | zero =>
    intro k hk0 hall
    refine x_iload_n eX9_take_18 rfl rfl ?_
    refine x_iload_n eX9_take_19 rfl rfl ?_
    first | refine x_icmp_geN (tgt := 45) eX9_take_20 (by decide) (by with_reducible rfl) (by with_reducible rfl) (by omega) (by omega) (fun cq1 => ?_) (fun cq1 => ?_) | refine x_icmp_ge (tgt := 45) eX9_take_20 (by decide) (fun cq1 => ?_) (fun cq1 => ?_)
    · refine Rn.weak (kx (allN_iff.mpr fun j hj => hall j (by omega))) (by repeat' first | exact fun _ h => absurd h List.not_mem_nil | refine List.forall_mem_cons.mpr ⟨rfl, ?_⟩)
    · exact absurd cq1 (by omega)
  | succ n ih =>
    intro k hk0 hall
    refine x_iload_n eX9_take_18 rfl rfl ?_
    refine x_iload_n eX9_take_19 rfl rfl ?_
    first | refine x_icmp_geN (tgt := 45) eX9_take_20 (by decide) (by with_reducible rfl) (by with_reducible rfl) (by omega) (by omega) (fun cq1 => ?_) (fun cq1 => ?_) | refine x_icmp_ge (tgt := 45) eX9_take_20 (by decide) (fun cq1 => ?_) (fun cq1 => ?_)
    · exact absurd cq1 (by omega)
    · first | refine x_aload_n eX9_take_23 rfl rfl ?_ | refine x_aload_nN eX9_take_23 rfl rfl ?_
      refine x_iload_n eX9_take_24 rfl rfl ?_
      refine x_sipush (v := nI 300) eX9_take_25 (by decide) ?_
      refine x_iload_n eX9_take_28 rfl rfl ?_
      first | refine x_iaddN eX9_take_29 (by with_reducible rfl) (by with_reducible rfl) ?_ | refine x_iadd eX9_take_29 ?_
      refine x_callV2 eX9_take_30 lk_X9_57 (by assumption) (Nat.le_of_ble_eq_true rfl) (Nat.le_of_ble_eq_true rfl) ?_
      refine Rn.deep (c_X9_sail (d := d) M.md (by omega) (fun _ => ?_)) (by omega)
      refine x_iconst (v := (-1)) eX9_take_33 (by decide) ?_
      first | refine x_icmp_neN (tgt := 39) eX9_take_34 (by decide) (by with_reducible rfl) (by with_reducible rfl) (by omega) (by omega) (fun cq2 => ?_) (fun cq2 => ?_) | refine x_icmp_ne (tgt := 39) eX9_take_34 (by decide) (fun cq2 => ?_) (fun cq2 => ?_)
      · have c2 : ¬ sl (hi h (x + 1)) s (300 + k) = -1 := cq2
        first | refine x_iincN eX9_take_39 rfl (by with_reducible rfl) (by decide) rfl rfl ?_ | refine x_iinc eX9_take_39 rfl rfl (by decide) rfl rfl ?_
        refine x_goto (tgt := 18) eX9_take_42 (by decide) ?_
        refine Rn.weak (ih (k + 1) (by omega) (fun j hj => by by_cases z : j < k; exact hall j z; rw [show j = k by omega, decide_eq_false c2]; rfl)) (by repeat' first | exact fun _ h => absurd h List.not_mem_nil | refine List.forall_mem_cons.mpr ⟨rfl, ?_⟩)
      · refine x_iconst (v := (-1)) eX9_take_37 (by decide) ?_
        refine x_iret eX9_take_38 rfl ?_
        exact hq0 (allN_f (i := k) (by omega) (by have c2 : sl (hi h (x + 1)) s (300 + k) = -1 := cq2; rw [decide_eq_true c2]; rfl))
set_option maxRecDepth 100000 in
set_option maxHeartbeats 4000000 in
theorem l_X9_take1 {g : Nat → Int32} {s m b0 : Nat} (M : MD h x) (hs : s < 10) (hm : m ≤ 40) (hb : b0 + m ≤ 24) (hg0 : g 0 = nI b0) (W : SW g s) (hnp : np g s = m) (hall : ∀ j, j < m → ¬ sl g s (300 + j) = -1) (hq : Q (some (.int (nI m))) (acted h x la kp (upd0 (upd0 (gTk g s b0 m) (5050 + 390 * s + 0) 2) (5050 + 390 * s + 11) 0))) : ∀ n k, k + n = m → Rn G (d + 4) mX9_take 66 [(0, .ref x), (1, .int (nI s)), (2, .int (nI m)), (3, .int (nI k))] [] (acted h x la kp (gTk g s b0 k)) Q := by
  intro n
  induction n with
  | zero =>
    intro k hk0
    have e : k = m := by omega
    subst e
    have M2 := M.acted la kp (gTk g s b0 k)
    obtain ⟨⟨hx, -⟩, -⟩ := id M2
    refine x_iload_n eX9_take_66 rfl rfl ?_
    refine x_iload_n eX9_take_67 rfl rfl ?_
    first | refine x_icmp_geN (tgt := 121) eX9_take_68 (by decide) (by with_reducible rfl) (by with_reducible rfl) (by omega) (by omega) (fun cq1 => ?_) (fun cq1 => ?_) | refine x_icmp_ge (tgt := 121) eX9_take_68 (by decide) (fun cq1 => ?_) (fun cq1 => ?_)
    · first | refine x_aload_n eX9_take_121 rfl rfl ?_ | refine x_aload_nN eX9_take_121 rfl rfl ?_
      refine x_iload_n eX9_take_122 rfl rfl ?_
      refine x_iconst (v := nI 0) eX9_take_123 (by decide) ?_
      refine x_iconst (v := nI 2) eX9_take_124 (by decide) ?_
      refine x_callV3 eX9_take_125 lk_X9_101 (by assumption) (Nat.le_of_ble_eq_true rfl) (Nat.le_of_ble_eq_true rfl) ?_
      refine Rn.deep (c_X9_putSail (d := d) M2.md (by omega) (fun _ => ?_)) (by omega)
      rw [acted_wi]
      have hx : hk (acted h x la kp (upd0 (gTk g s b0 k) (5050 + 390 * s + 0) (nI 2))) x = 8 := hx
      first | refine x_aload_n eX9_take_128 rfl rfl ?_ | refine x_aload_nN eX9_take_128 rfl rfl ?_
      refine x_iload_n eX9_take_129 rfl rfl ?_
      refine x_bipush (v := nI 11) eX9_take_130 (by decide) ?_
      refine x_iconst (v := nI 0) eX9_take_132 (by decide) ?_
      refine x_callV3 eX9_take_133 lk_X9_101 (by assumption) (Nat.le_of_ble_eq_true rfl) (Nat.le_of_ble_eq_true rfl) ?_
      refine Rn.deep (c_X9_putSail (d := d) (M.acted la kp _).md (by omega) (fun _ => ?_)) (by omega)
      rw [acted_wi]
      refine x_iload_n eX9_take_136 rfl rfl ?_
      refine x_iret eX9_take_137 rfl ?_
      exact hq
    · exact absurd cq1 (by omega)
  | succ n ih =>
    intro k hk0
    have M2 := M.acted la kp (gTk g s b0 k)
    obtain ⟨⟨hx, -⟩, -⟩ := id M2
    have es : ∀ c, sl (gTk g s b0 k) s c = sl g s c := fun c => sl_gTk g s (k := k) (by omega) s c
    have e0 : gTk g s b0 k 0 = nI (b0 + k) := g0_gTk g s hg0
    have W2 : SW (hi (acted h x la kp (gTk g s b0 k)) (x + 1)) s := by
      rw [hi_acted]
      refine SW_eq es ?_ W
      rw [e0, hg0, nt_nI (by omega), nt_nI (by omega)]
      omega
    have ha := hall k (by omega)
    obtain ⟨on, hon, eon⟩ : ∃ on, on < b0 ∧ sl g s (300 + k) = nI on := by
      rcases W.2.2.2.2.2.2.2.2.2.2.2.2.2 k (by unfold np at hnp; omega) with z | ⟨⟨z1, z2, z3⟩, z4⟩
      · exact absurd z ha
      · rw [hg0, nt_nI (by omega)] at z3 z4
        exact ⟨nt (sl g s (300 + k)), by omega, z1⟩
    refine x_iload_n eX9_take_66 rfl rfl ?_
    refine x_iload_n eX9_take_67 rfl rfl ?_
    first | refine x_icmp_geN (tgt := 121) eX9_take_68 (by decide) (by with_reducible rfl) (by with_reducible rfl) (by omega) (by omega) (fun cq1 => ?_) (fun cq1 => ?_) | refine x_icmp_ge (tgt := 121) eX9_take_68 (by decide) (fun cq1 => ?_) (fun cq1 => ?_)
    · exact absurd cq1 (by omega)
    · first | refine x_aload_n eX9_take_71 rfl rfl ?_ | refine x_aload_nN eX9_take_71 rfl rfl ?_
      refine x_iconst (v := nI 2) eX9_take_72 (by decide) ?_
      first | refine x_aload_n eX9_take_73 rfl rfl ?_ | refine x_aload_nN eX9_take_73 rfl rfl ?_
      refine x_iload_n eX9_take_74 rfl rfl ?_
      refine x_iload_n eX9_take_75 rfl rfl ?_
      refine x_callV2 eX9_take_76 lk_X9_143 (by assumption) (Nat.le_of_ble_eq_true rfl) (Nat.le_of_ble_eq_true rfl) ?_
      refine Rn.deep (c_X9_breadth (d := d) M2.md hs (by omega) W2 (fun _ => ?_)) (by omega)
      rw [hi_acted, broV_eq es]
      refine x_max eX9_take_79 lk_X9_127 (Nat.le_of_ble_eq_true rfl) ?_
      refine x_sipush (v := nI 200) eX9_take_82 (by decide) ?_
      first | refine x_aload_n eX9_take_85 rfl rfl ?_ | refine x_aload_nN eX9_take_85 rfl rfl ?_
      refine x_iload_n eX9_take_86 rfl rfl ?_
      refine x_iload_n eX9_take_87 rfl rfl ?_
      refine x_callV2 eX9_take_88 lk_X9_86 (by assumption) (Nat.le_of_ble_eq_true rfl) (Nat.le_of_ble_eq_true rfl) ?_
      refine Rn.deep (c_X9_length (d := d) M2.md hs (by omega) W2 (fun _ => ?_)) (by omega)
      rw [hi_acted, lenV_eq es]
      refine x_min eX9_take_91 lk_X9_47 (Nat.le_of_ble_eq_true rfl) ?_
      first | refine x_aload_n eX9_take_94 rfl rfl ?_ | refine x_aload_nN eX9_take_94 rfl rfl ?_
      first | refine x_aload_n eX9_take_95 rfl rfl ?_ | refine x_aload_nN eX9_take_95 rfl rfl ?_
      refine x_iload_n eX9_take_96 rfl rfl ?_
      refine x_sipush (v := nI 300) eX9_take_97 (by decide) ?_
      refine x_iload_n eX9_take_100 rfl rfl ?_
      first | refine x_iaddN eX9_take_101 (by with_reducible rfl) (by with_reducible rfl) ?_ | refine x_iadd eX9_take_101 ?_
      refine x_callV2 eX9_take_102 lk_X9_57 (by assumption) (Nat.le_of_ble_eq_true rfl) (Nat.le_of_ble_eq_true rfl) ?_
      refine Rn.deep (c_X9_sail (d := d) M2.md (by omega) (fun _ => ?_)) (by omega)
      rw [hi_acted, es, eon]
      refine x_iconst (v := nI 2) eX9_take_105 (by decide) ?_
      refine x_callV2 eX9_take_106 lk_X9_92 (by assumption) (Nat.le_of_ble_eq_true rfl) (Nat.le_of_ble_eq_true rfl) ?_
      refine Rn.deep (c_X9_bolt (d := d) M2.md (by omega) (fun _ => ?_)) (by omega)
      rw [hi_acted, bl_gTk g s hon (by omega)]
      refine x_iload_n eX9_take_109 rfl rfl ?_
      refine x_callV4 eX9_take_110 lk_X9_78 (by assumption) (Nat.le_of_ble_eq_true rfl) (Nat.le_of_ble_eq_true rfl) ?_
      refine Rn.deep (c_X9_newBolt (d := d) (b := b0 + k) M (by omega) e0 (fun _ => ?_)) (by omega)
      have iw := ih (k + 1) (by omega)
      rw [gTk, eon, nt_nI (by omega)] at iw
      refine x_istore eX9_take_113 (by decide) rfl rfl ?_
      first | refine x_iincN eX9_take_115 rfl (by with_reducible rfl) (by decide) rfl rfl ?_ | refine x_iinc eX9_take_115 rfl rfl (by decide) rfl rfl ?_
      refine x_goto (tgt := 66) eX9_take_118 (by decide) ?_
      refine Rn.weak (iw) (by repeat' first | exact fun _ h => absurd h List.not_mem_nil | refine List.forall_mem_cons.mpr ⟨rfl, ?_⟩)
set_option maxRecDepth 100000 in
set_option maxHeartbeats 4000000 in
theorem c_X9_take {s : Int32} (M : MD h x) (K : MK h x kp la) (W : GW (hi h (x + 1))) (hq0 : takOK (hi h (x + 1)) s = false → Q (some (.int (-1))) h) (hq1 : takOK (hi h (x + 1)) s = true → Q (some (.int (nI (np (hi h (x + 1)) (nt s))))) (acted h x la kp (gTake (hi h (x + 1)) (nt s)))) : Rn G (d + 4) mX9_take 0 [(0, .ref x), (1, .int s)] [] h Q := by
  obtain ⟨⟨hx, hS, kS, nS⟩, -⟩ := id M
  first | refine x_aload_n eX9_take_0 rfl rfl ?_ | refine x_aload_nN eX9_take_0 rfl rfl ?_
  refine x_iload_n eX9_take_1 rfl rfl ?_
  refine x_callV1 eX9_take_2 lk_X9_137 (by assumption) (Nat.le_of_ble_eq_true rfl) (Nat.le_of_ble_eq_true rfl) ?_
  refine Rn.deep (c_X9_isCut (d := d) M.md W.2.1 (fun _ => ?_)) (by omega)
  first | refine x_if_neB (tgt := 10) eX9_take_5 (by decide) (by with_reducible rfl) (fun cq1 => ?_) (fun cq1 => ?_) | refine x_if_ne (tgt := 10) eX9_take_5 (by decide) (fun cq1 => ?_) (fun cq1 => ?_)
  · obtain ⟨j, hj, rfl⟩ := isS_spec W.2.1 (isC_S cq1)
    have h10 := W.2.1.2.2
    have hnt : nt (nI j) = j := nt_nI (by omega)
    have sw := W.2.2.2 j hj
    have hnp : np (hi h (x + 1)) j ≤ 40 := sw.2.2.2.2.1
    obtain ⟨w1, w2, w3⟩ := W.1
    first | refine x_aload_n eX9_take_10 rfl rfl ?_ | refine x_aload_nN eX9_take_10 rfl rfl ?_
    refine x_iload_n eX9_take_11 rfl rfl ?_
    refine x_callV1 eX9_take_12 lk_X9_82 (by assumption) (Nat.le_of_ble_eq_true rfl) (Nat.le_of_ble_eq_true rfl) ?_
    refine Rn.deep (c_X9_piecesN (d := d) M.md (by omega) sw (fun _ => ?_)) (by omega)
    suffices kx : allN (fun i => !decide (sl (hi h (x + 1)) j (300 + i) = -1)) (np (hi h (x + 1)) j) = true → Rn G (d + 4) mX9_take 45 [(0, .ref x), (1, .int (nI j)), (2, .int (nI (np (hi h (x + 1)) j)))] [] h Q by
      refine x_istore_n eX9_take_15 rfl (by decide) rfl rfl ?_
      refine x_iconst (v := nI 0) eX9_take_16 (by decide) ?_
      refine x_istore_n eX9_take_17 rfl (by decide) rfl rfl ?_
      refine Rn.weak (l_X9_take0 M (by omega) hnp (fun z => hq0 (by simp [takOK, hnt, z])) kx _ 0 (Nat.zero_add _) (fun j hj => absurd hj (by omega))) (by repeat' first | exact fun _ h => absurd h List.not_mem_nil | refine List.forall_mem_cons.mpr ⟨rfl, ?_⟩)
    intro hall
    have hall2 : ∀ i, i < np (hi h (x + 1)) j → ¬ sl (hi h (x + 1)) j (300 + i) = -1 := fun i hi0 => by
      have := allN_iff.mp hall i hi0
      simpa using this
    first | refine x_aload_n eX9_take_45 rfl rfl ?_ | refine x_aload_nN eX9_take_45 rfl rfl ?_
    first | refine x_getR eX9_take_46 fk_X9_7 rfl (by assumption) (by assumption) ?_ | refine x_getN eX9_take_46 fk_X9_7 rfl (by assumption) (by assumption) ?_
    refine x_iconst (v := nI 0) eX9_take_49 (by decide) ?_
    first | refine x_ialdN eX9_take_50 (by with_reducible rfl) (by assumption) (by assumption) (by omega) (by omega) ?_ | refine x_sldN eX9_take_50 (by with_reducible rfl) (by assumption) (by assumption) (by omega) (by omega) ?_ | refine x_iald eX9_take_50 (by assumption) (by assumption) ?_
    rw [w1]
    refine x_iload_n eX9_take_51 rfl rfl ?_
    first | refine x_iaddN eX9_take_52 (by with_reducible rfl) (by with_reducible rfl) ?_ | refine x_iadd eX9_take_52 ?_
    refine x_bipush (v := nI 24) eX9_take_53 (by decide) ?_
    first | refine x_icmp_leN (tgt := 60) eX9_take_55 (by decide) (by with_reducible rfl) (by with_reducible rfl) (by omega) (by omega) (fun cq2 => ?_) (fun cq2 => ?_) | refine x_icmp_le (tgt := 60) eX9_take_55 (by decide) (fun cq2 => ?_) (fun cq2 => ?_)
    · have q1 := hq1 (by rw [takOK, hnt, cq1, hall, decide_eq_true cq2]; rfl)
      rw [hnt] at q1
      first | refine x_aload_n eX9_take_60 rfl rfl ?_ | refine x_aload_nN eX9_take_60 rfl rfl ?_
      refine x_callV0 eX9_take_61 lk_X9_75 (by assumption) (Nat.le_of_ble_eq_true rfl) (Nat.le_of_ble_eq_true rfl) ?_
      refine Rn.deep (c_X9_act (d := d) M K (fun _ => ?_)) (by omega)
      refine x_iconst (v := nI 0) eX9_take_64 (by decide) ?_
      refine x_istore_n eX9_take_65 rfl (by decide) rfl rfl ?_
      refine Rn.weak (l_X9_take1 (g := hi h (x + 1)) M (by omega) hnp cq2 w1 sw rfl hall2 q1 _ 0 (Nat.zero_add _)) (by repeat' first | exact fun _ h => absurd h List.not_mem_nil | refine List.forall_mem_cons.mpr ⟨rfl, ?_⟩)
    · refine x_iconst (v := (-1)) eX9_take_58 (by decide) ?_
      refine x_iret eX9_take_59 rfl ?_
      exact hq0 (by rw [takOK, hnt, decide_eq_false (Nat.not_le.mpr cq2)]; simp)
  · refine x_iconst (v := (-1)) eX9_take_8 (by decide) ?_
    refine x_iret eX9_take_9 rfl ?_
    exact hq0 (by simp [takOK, cq1])
end REF12

