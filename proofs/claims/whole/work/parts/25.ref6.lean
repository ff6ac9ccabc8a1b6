/-! ===== the reference: acts ===== -/
/-- the reference's object, its arrays just behind it -/
def MD (h : AH) (x : Nat) : Prop := (hk h x = 8 ∧ hr h x 0 = some (x + 1) ∧ hk h (x + 1) = 20 ∧ hn h (x + 1) = 9000) ∧ (hr h x 1 = some (x + 2) ∧ hk h (x + 2) = 20 ∧ hn h (x + 2) = 144000) ∧ (hr h x 4 = some (x + 3) ∧ hk h (x + 3) = 20 ∧ hn h (x + 3) = 61) ∧ (hr h x 5 = some (x + 4) ∧ hk h (x + 4) = 20 ∧ hn h (x + 4) = 60) ∧ (hr h x 6 = some (x + 5) ∧ hk h (x + 5) = 24 ∧ hn h (x + 5) = 200) ∧ (hr h x 7 = some (x + 6) ∧ hk h (x + 6) = 20 ∧ hn h (x + 6) = 8) ∧ (hr h x 8 = some (x + 7) ∧ hk h (x + 7) = 20 ∧ hn h (x + 7) = 256) ∧ (hr h x 9 = some (x + 8) ∧ hk h (x + 8) = 20 ∧ hn h (x + 8) = 256) ∧ (hr h x 10 = some (x + 9) ∧ hk h (x + 9) = 20 ∧ hn h (x + 9) = 10)
set_option maxRecDepth 100000 in
set_option maxHeartbeats 4000000 in
theorem MD.md {h : AH} {x : Nat} (M : MD h x) : Md h x (x + 1) := M.1
/-- the record of acts, in the reference: how many are kept, which is the latest -/
def MK (h : AH) (x kp la : Nat) : Prop := hi h x 2 = nI kp ∧ hi h x 3 = nI la ∧ kp ≤ 16 ∧ la < 16
def ST (F : Nat → Nat → Int32) (x : Nat) (g : Nat → Int32) : Nat → Nat → Int32 := fun a j => if a = x + 1 then g j else F a j
def actF (F : Nat → Nat → Int32) (x la kp : Nat) : Nat → Nat → Int32 := up2 (cpyF (up2 F x 3 (nI ((la + 1) % 16))) (x + 1) 0 (x + 2) (9000 * ((la + 1) % 16)) 9000) x 2 (nI (if kp + 1 < 16 then kp + 1 else 16))
/-- the heap behind an act that makes the state g -/
def acted (h : AH) (x la kp : Nat) (g : Nat → Int32) : AH := setI h (ST (actF (hi h) x la kp) x g)
set_option maxRecDepth 100000 in
set_option maxHeartbeats 4000000 in
theorem hi_acted (h : AH) (x la kp : Nat) (g : Nat → Int32) : hi (acted h x la kp g) (x + 1) = g := funext fun j => if_pos rfl
set_option maxRecDepth 100000 in
set_option maxHeartbeats 4000000 in
theorem acted_wi (h : AH) (x la kp k : Nat) (g : Nat → Int32) (v : Int32) : wi (acted h x la kp g) (x + 1) k v = acted h x la kp (upd0 g k v) := by
  show setI h (up2 (ST (actF (hi h) x la kp) x g) (x + 1) k v) = setI h _
  congr 1
  funext a j
  unfold up2 ST upd0
  by_cases z : a = x + 1
  · by_cases y : j = k <;> simp [z, y]
  · simp [z]
set_option maxRecDepth 100000 in
set_option maxHeartbeats 4000000 in
theorem acted_0 (h : AH) (x la kp : Nat) : setI h (actF (hi h) x la kp) = acted h x la kp (hi h (x + 1)) := by
  unfold acted
  congr 1
  funext a j
  unfold ST
  by_cases z : a = x + 1
  · subst z
    rw [if_pos rfl]
    unfold actF
    rw [up2_ne (by omega)]
    unfold cpyF
    rw [if_neg (by omega), up2_ne (by omega)]
  · rw [if_neg z]
set_option maxRecDepth 100000 in
set_option maxHeartbeats 4000000 in
theorem MD.acted {h : AH} {x : Nat} (M : MD h x) (la kp : Nat) (g : Nat → Int32) : MD (acted h x la kp g) x := M
def filG (g : Nat → Int32) (lo n : Nat) (v : Int32) : Nat → Int32 := fun j => if lo ≤ j ∧ j < lo + n then v else g j
set_option maxRecDepth 100000 in
set_option maxHeartbeats 4000000 in
theorem filG_0 (g : Nat → Int32) (lo : Nat) (v : Int32) : filG g lo 0 v = g := funext fun j => if_neg (by omega)
set_option maxRecDepth 100000 in
set_option maxHeartbeats 4000000 in
theorem filG_s (g : Nat → Int32) (lo n : Nat) (v : Int32) : upd0 (filG g lo n v) (lo + n) v = filG g lo (n + 1) v := by
  funext j
  unfold upd0 filG
  by_cases z : j = lo + n
  · rw [if_pos z, if_pos (by omega)]
  · rw [if_neg z]
    by_cases y : lo ≤ j ∧ j < lo + n
    · rw [if_pos y, if_pos (by omega)]
    · rw [if_neg y, if_neg (by omega)]
section REF6
variable {G : GG} {d : Nat} {h : AH} {Q : Option Value → AH → Prop} {x la kp : Nat}
set_option maxRecDepth 100000 in
set_option maxHeartbeats 4000000 in
theorem l_X9_act {F : Nat → Nat → Int32} {lo : Nat} (M : MD h x) (hlo : lo < 16) (hF3 : F x 3 = nI lo) (kx : Rn G (d + 1) mX9_act 49 [(0, .ref x)] [] (setI h (cpyF F (x + 1) 0 (x + 2) (9000 * lo) 9000)) Q) : ∀ n k, k + n = 9000 → Rn G (d + 1) mX9_act 15 [(0, .ref x), (1, .int (nI k))] [] (setI h (cpyF F (x + 1) 0 (x + 2) (9000 * lo) k)) Q := by
  intro n
  induction n with
  | zero =>
    intro k hk0
    have e : k = 9000 := by omega
    subst e
    refine x_iload_n eX9_act_15 rfl rfl ?_
    refine x_sipush (v := nI 9000) eX9_act_16 (by decide) ?_
    first | refine x_icmp_geN (tgt := 49) eX9_act_19 (by decide) (by with_reducible rfl) (by with_reducible rfl) (by omega) (by omega) (fun cq1 => ?_) (fun cq1 => ?_) | refine x_icmp_ge (tgt := 49) eX9_act_19 (by decide) (fun cq1 => ?_) (fun cq1 => ?_)
    · refine Rn.weak (kx) (by repeat' first | exact fun _ h => absurd h List.not_mem_nil | refine List.forall_mem_cons.mpr ⟨rfl, ?_⟩)
    · exact absurd cq1 (by omega)
  | succ n ih =>
    intro k hk0
    obtain ⟨⟨hx, hS, kS, nS⟩, ⟨hP, kP, nP⟩, -⟩ := id M
    have e3 : hi (setI h (cpyF F (x + 1) 0 (x + 2) (9000 * lo) k)) x 3 = nI lo := by
      show cpyF F (x + 1) 0 (x + 2) (9000 * lo) k x 3 = nI lo
      unfold cpyF
      rw [if_neg (by omega), hF3]
    refine x_iload_n eX9_act_15 rfl rfl ?_
    refine x_sipush (v := nI 9000) eX9_act_16 (by decide) ?_
    first | refine x_icmp_geN (tgt := 49) eX9_act_19 (by decide) (by with_reducible rfl) (by with_reducible rfl) (by omega) (by omega) (fun cq1 => ?_) (fun cq1 => ?_) | refine x_icmp_ge (tgt := 49) eX9_act_19 (by decide) (fun cq1 => ?_) (fun cq1 => ?_)
    · exact absurd cq1 (by omega)
    · first | refine x_aload_n eX9_act_22 rfl rfl ?_ | refine x_aload_nN eX9_act_22 rfl rfl ?_
      first | refine x_getR eX9_act_23 fk_X9_14 rfl (by assumption) (by assumption) ?_ | refine x_getN eX9_act_23 fk_X9_14 rfl (by assumption) (by assumption) ?_
      refine x_sipush (v := nI 9000) eX9_act_26 (by decide) ?_
      first | refine x_aload_n eX9_act_29 rfl rfl ?_ | refine x_aload_nN eX9_act_29 rfl rfl ?_
      refine x_getI eX9_act_30 fk_X9_40 (by decide) (by assumption) ?_
      rw [e3]
      first | refine x_imulN eX9_act_33 (by with_reducible rfl) (by with_reducible rfl) ?_ | refine x_imul eX9_act_33 ?_
      refine x_iload_n eX9_act_34 rfl rfl ?_
      first | refine x_iaddN eX9_act_35 (by with_reducible rfl) (by with_reducible rfl) ?_ | refine x_iadd eX9_act_35 ?_
      first | refine x_aload_n eX9_act_36 rfl rfl ?_ | refine x_aload_nN eX9_act_36 rfl rfl ?_
      first | refine x_getR eX9_act_37 fk_X9_7 rfl (by assumption) (by assumption) ?_ | refine x_getN eX9_act_37 fk_X9_7 rfl (by assumption) (by assumption) ?_
      refine x_iload_n eX9_act_40 rfl rfl ?_
      first | refine x_ialdN eX9_act_41 (by with_reducible rfl) (by assumption) (by assumption) (by omega) (by omega) ?_ | refine x_sldN eX9_act_41 (by with_reducible rfl) (by assumption) (by assumption) (by omega) (by omega) ?_ | refine x_iald eX9_act_41 (by assumption) (by assumption) ?_
      first | refine x_iastN eX9_act_42 (by with_reducible rfl) (by assumption) (by assumption) (by omega) (by omega) ?_ | refine x_iast eX9_act_42 (by assumption) (by assumption) ?_
      first | refine x_iincN eX9_act_43 rfl (by with_reducible rfl) (by decide) rfl rfl ?_ | refine x_iinc eX9_act_43 rfl rfl (by decide) rfl rfl ?_
      refine x_goto (tgt := 15) eX9_act_46 (by decide) ?_
      rw [setI_wi, hi_setI, show (cpyF F (x + 1) 0 (x + 2) (9000 * lo) k (x + 1) k) = cpyF F (x + 1) 0 (x + 2) (9000 * lo) k (x + 1) (0 + k) by rw [Nat.zero_add], cpyF_s F (by omega)]
      refine Rn.weak (ih (k + 1) (by omega)) (by repeat' first | exact fun _ h => absurd h List.not_mem_nil | refine List.forall_mem_cons.mpr ⟨rfl, ?_⟩)
set_option maxRecDepth 100000 in
set_option maxHeartbeats 4000000 in
theorem c_X9_act (M : MD h x) (K : MK h x kp la) (hq : Q none (acted h x la kp (hi h (x + 1)))) : Rn G (d + 1) mX9_act 0 [(0, .ref x)] [] h Q := by
  obtain ⟨⟨hx, hS, kS, nS⟩, ⟨hP, kP, nP⟩, -⟩ := id M
  obtain ⟨k2, k3, hkp, hla⟩ := K
  have hmod : (la + 1) % 16 < 16 := Nat.mod_lt _ (by omega)
  first | refine x_aload_n eX9_act_0 rfl rfl ?_ | refine x_aload_nN eX9_act_0 rfl rfl ?_
  first | refine x_aload_n eX9_act_1 rfl rfl ?_ | refine x_aload_nN eX9_act_1 rfl rfl ?_
  refine x_getI eX9_act_2 fk_X9_40 (by decide) (by assumption) ?_
  rw [k3]
  refine x_iconst (v := nI 1) eX9_act_5 (by decide) ?_
  first | refine x_iaddN eX9_act_6 (by with_reducible rfl) (by with_reducible rfl) ?_ | refine x_iadd eX9_act_6 ?_
  refine x_bipush (v := nI 16) eX9_act_7 (by decide) ?_
  first | refine x_iremN eX9_act_9 (by with_reducible rfl) (by with_reducible rfl) (by omega) (by omega) (by omega) ?_ | refine x_irem eX9_act_9 (by first | assumption | decide) ?_
  refine x_putI eX9_act_10 fk_X9_40 (by decide) rfl ⟨_, rfl, Or.inl rfl⟩ (by assumption) ?_
  refine x_iconst (v := nI 0) eX9_act_13 (by decide) ?_
  refine x_istore_n eX9_act_14 rfl (by decide) rfl rfl ?_
  suffices kx : Rn G (d + 1) mX9_act 49 [(0, .ref x)] [] (setI h (cpyF (up2 (hi h) x 3 (nI ((la + 1) % 16))) (x + 1) 0 (x + 2) (9000 * ((la + 1) % 16)) 9000)) Q by
    have w := l_X9_act (F := up2 (hi h) x 3 (nI ((la + 1) % 16))) (lo := (la + 1) % 16) M hmod (up2_same _ _ _ _) kx 9000 0 (by omega)
    rw [cpyF_0] at w
    exact Rn.weak w (by repeat' first | exact fun _ h => absurd h List.not_mem_nil | refine List.forall_mem_cons.mpr ⟨rfl, ?_⟩)
  have e2 : hi (setI h (cpyF (up2 (hi h) x 3 (nI ((la + 1) % 16))) (x + 1) 0 (x + 2) (9000 * ((la + 1) % 16)) 9000)) x 2 = nI kp := by
    show cpyF _ _ _ _ _ _ x 2 = nI kp
    unfold cpyF
    rw [if_neg (by omega), up2_ne (by omega), k2]
  first | refine x_aload_n eX9_act_49 rfl rfl ?_ | refine x_aload_nN eX9_act_49 rfl rfl ?_
  refine x_bipush (v := nI 16) eX9_act_50 (by decide) ?_
  first | refine x_aload_n eX9_act_52 rfl rfl ?_ | refine x_aload_nN eX9_act_52 rfl rfl ?_
  refine x_getI eX9_act_53 fk_X9_44 (by decide) (by assumption) ?_
  rw [e2]
  refine x_iconst (v := nI 1) eX9_act_56 (by decide) ?_
  first | refine x_iaddN eX9_act_57 (by with_reducible rfl) (by with_reducible rfl) ?_ | refine x_iadd eX9_act_57 ?_
  refine x_min eX9_act_58 lk_X9_47 (Nat.le_of_ble_eq_true rfl) ?_
  refine x_putI eX9_act_61 fk_X9_44 (by decide) rfl ⟨_, rfl, Or.inl rfl⟩ (by assumption) ?_
  refine x_ret (rt := none) eX9_act_64 rfl ?_
  rw [← acted_0] at hq
  have e4 : (if nI (kp + 1) < nI 16 then nI (kp + 1) else nI 16) = nI (if kp + 1 < 16 then kp + 1 else 16) := by
    by_cases z : kp + 1 < 16
    · rw [if_pos ((nI_ltI (by omega) (by omega)).mpr z), if_pos z]
    · rw [if_neg (fun y => z ((nI_ltI (by omega) (by omega)).mp y)), if_neg z]
  rw [e4]
  exact hq
/-- the heap behind undo -/
def undoF (F : Nat → Nat → Int32) (x la kp : Nat) : Nat → Nat → Int32 := up2 (up2 (cpyF F (x + 2) (9000 * la) (x + 1) 0 9000) x 3 (nI ((la + 15) % 16))) x 2 (nI (kp - 1))
set_option maxRecDepth 100000 in
set_option maxHeartbeats 4000000 in
theorem l_X9_undo {F : Nat → Nat → Int32} {lo : Nat} (M : MD h x) (hlo : lo < 16) (hF3 : F x 3 = nI lo) (kx : Rn G (d + 1) mX9_undo 45 [(0, .ref x)] [] (setI h (cpyF F (x + 2) (9000 * lo) (x + 1) 0 9000)) Q) : ∀ n k, k + n = 9000 → Rn G (d + 1) mX9_undo 11 [(0, .ref x), (1, .int (nI k))] [] (setI h (cpyF F (x + 2) (9000 * lo) (x + 1) 0 k)) Q := by
  intro n
  induction n with
  | zero =>
    intro k hk0
    have e : k = 9000 := by omega
    subst e
    refine x_iload_n eX9_undo_11 rfl rfl ?_
    refine x_sipush (v := nI 9000) eX9_undo_12 (by decide) ?_
    first | refine x_icmp_geN (tgt := 45) eX9_undo_15 (by decide) (by with_reducible rfl) (by with_reducible rfl) (by omega) (by omega) (fun cq1 => ?_) (fun cq1 => ?_) | refine x_icmp_ge (tgt := 45) eX9_undo_15 (by decide) (fun cq1 => ?_) (fun cq1 => ?_)
    · refine Rn.weak (kx) (by repeat' first | exact fun _ h => absurd h List.not_mem_nil | refine List.forall_mem_cons.mpr ⟨rfl, ?_⟩)
    · exact absurd cq1 (by omega)
  | succ n ih =>
    intro k hk0
    obtain ⟨⟨hx, hS, kS, nS⟩, ⟨hP, kP, nP⟩, -⟩ := id M
    have e3 : hi (setI h (cpyF F (x + 2) (9000 * lo) (x + 1) 0 k)) x 3 = nI lo := by
      show cpyF F (x + 2) (9000 * lo) (x + 1) 0 k x 3 = nI lo
      unfold cpyF
      rw [if_neg (by omega), hF3]
    refine x_iload_n eX9_undo_11 rfl rfl ?_
    refine x_sipush (v := nI 9000) eX9_undo_12 (by decide) ?_
    first | refine x_icmp_geN (tgt := 45) eX9_undo_15 (by decide) (by with_reducible rfl) (by with_reducible rfl) (by omega) (by omega) (fun cq1 => ?_) (fun cq1 => ?_) | refine x_icmp_ge (tgt := 45) eX9_undo_15 (by decide) (fun cq1 => ?_) (fun cq1 => ?_)
    · exact absurd cq1 (by omega)
    · first | refine x_aload_n eX9_undo_18 rfl rfl ?_ | refine x_aload_nN eX9_undo_18 rfl rfl ?_
      first | refine x_getR eX9_undo_19 fk_X9_7 rfl (by assumption) (by assumption) ?_ | refine x_getN eX9_undo_19 fk_X9_7 rfl (by assumption) (by assumption) ?_
      refine x_iload_n eX9_undo_22 rfl rfl ?_
      first | refine x_aload_n eX9_undo_23 rfl rfl ?_ | refine x_aload_nN eX9_undo_23 rfl rfl ?_
      first | refine x_getR eX9_undo_24 fk_X9_14 rfl (by assumption) (by assumption) ?_ | refine x_getN eX9_undo_24 fk_X9_14 rfl (by assumption) (by assumption) ?_
      refine x_sipush (v := nI 9000) eX9_undo_27 (by decide) ?_
      first | refine x_aload_n eX9_undo_30 rfl rfl ?_ | refine x_aload_nN eX9_undo_30 rfl rfl ?_
      refine x_getI eX9_undo_31 fk_X9_40 (by decide) (by assumption) ?_
      rw [e3]
      first | refine x_imulN eX9_undo_34 (by with_reducible rfl) (by with_reducible rfl) ?_ | refine x_imul eX9_undo_34 ?_
      refine x_iload_n eX9_undo_35 rfl rfl ?_
      first | refine x_iaddN eX9_undo_36 (by with_reducible rfl) (by with_reducible rfl) ?_ | refine x_iadd eX9_undo_36 ?_
      first | refine x_ialdN eX9_undo_37 (by with_reducible rfl) (by assumption) (by assumption) (by omega) (by omega) ?_ | refine x_sldN eX9_undo_37 (by with_reducible rfl) (by assumption) (by assumption) (by omega) (by omega) ?_ | refine x_iald eX9_undo_37 (by assumption) (by assumption) ?_
      first | refine x_iastN eX9_undo_38 (by with_reducible rfl) (by assumption) (by assumption) (by omega) (by omega) ?_ | refine x_iast eX9_undo_38 (by assumption) (by assumption) ?_
      first | refine x_iincN eX9_undo_39 rfl (by with_reducible rfl) (by decide) rfl rfl ?_ | refine x_iinc eX9_undo_39 rfl rfl (by decide) rfl rfl ?_
      refine x_goto (tgt := 11) eX9_undo_42 (by decide) ?_
      rw [setI_wi, hi_setI]
      have := cpyF_s F (a := x + 2) (as := 9000 * lo) (b := x + 1) (lo := 0) (n := k) (by omega)
      rw [Nat.zero_add] at this
      rw [this]
      refine Rn.weak (ih (k + 1) (by omega)) (by repeat' first | exact fun _ h => absurd h List.not_mem_nil | refine List.forall_mem_cons.mpr ⟨rfl, ?_⟩)
set_option maxRecDepth 100000 in
set_option maxHeartbeats 4000000 in
theorem c_X9_undo (M : MD h x) (K : MK h x kp la) (hq0 : kp = 0 → Q (some (.int 0)) h) (hq1 : 0 < kp → Q (some (.int 1)) (setI h (undoF (hi h) x la kp))) : Rn G (d + 1) mX9_undo 0 [(0, .ref x)] [] h Q := by
  obtain ⟨⟨hx, hS, kS, nS⟩, ⟨hP, kP, nP⟩, -⟩ := id M
  obtain ⟨k2, k3, hkp, hla⟩ := K
  first | refine x_aload_n eX9_undo_0 rfl rfl ?_ | refine x_aload_nN eX9_undo_0 rfl rfl ?_
  refine x_getI eX9_undo_1 fk_X9_44 (by decide) (by assumption) ?_
  rw [k2]
  first | refine x_if_neB (tgt := 9) eX9_undo_4 (by decide) (by with_reducible rfl) (fun cq1 => ?_) (fun cq1 => ?_) | refine x_if_ne (tgt := 9) eX9_undo_4 (by decide) (fun cq1 => ?_) (fun cq1 => ?_)
  · have hpos : 0 < kp := Nat.pos_of_ne_zero (fun z => cq1 (by rw [z]; rfl))
    refine x_iconst (v := nI 0) eX9_undo_9 (by decide) ?_
    refine x_istore_n eX9_undo_10 rfl (by decide) rfl rfl ?_
    suffices kx : Rn G (d + 1) mX9_undo 45 [(0, .ref x)] [] (setI h (cpyF (hi h) (x + 2) (9000 * la) (x + 1) 0 9000)) Q by
      have w := l_X9_undo (F := hi h) (lo := la) M hla k3 kx 9000 0 (by omega)
      rw [cpyF_0] at w
      exact Rn.weak w (by repeat' first | exact fun _ h => absurd h List.not_mem_nil | refine List.forall_mem_cons.mpr ⟨rfl, ?_⟩)
    have e3 : hi (setI h (cpyF (hi h) (x + 2) (9000 * la) (x + 1) 0 9000)) x 3 = nI la := by
      show cpyF _ _ _ _ _ _ x 3 = nI la
      unfold cpyF
      rw [if_neg (by omega), k3]
    have e2 : hi (wi (setI h (cpyF (hi h) (x + 2) (9000 * la) (x + 1) 0 9000)) x 3 (nI ((la + 15) % 16))) x 2 = nI kp := by
      show up2 (cpyF _ _ _ _ _ _) x 3 _ x 2 = nI kp
      rw [up2_ne (by omega)]
      unfold cpyF
      rw [if_neg (by omega), k2]
    first | refine x_aload_n eX9_undo_45 rfl rfl ?_ | refine x_aload_nN eX9_undo_45 rfl rfl ?_
    first | refine x_aload_n eX9_undo_46 rfl rfl ?_ | refine x_aload_nN eX9_undo_46 rfl rfl ?_
    refine x_getI eX9_undo_47 fk_X9_40 (by decide) (by assumption) ?_
    rw [e3]
    refine x_bipush (v := nI 16) eX9_undo_50 (by decide) ?_
    first | refine x_iaddN eX9_undo_52 (by with_reducible rfl) (by with_reducible rfl) ?_ | refine x_iadd eX9_undo_52 ?_
    refine x_iconst (v := nI 1) eX9_undo_53 (by decide) ?_
    first | refine x_isubN eX9_undo_54 (by with_reducible rfl) (by with_reducible rfl) (by omega) ?_ | refine x_isub eX9_undo_54 ?_
    rw [show la + 16 - 1 = la + 15 by omega]
    refine x_bipush (v := nI 16) eX9_undo_55 (by decide) ?_
    first | refine x_iremN eX9_undo_57 (by with_reducible rfl) (by with_reducible rfl) (by omega) (by omega) (by omega) ?_ | refine x_irem eX9_undo_57 (by first | assumption | decide) ?_
    refine x_putI eX9_undo_58 fk_X9_40 (by decide) rfl ⟨_, rfl, Or.inl rfl⟩ (by assumption) ?_
    first | refine x_aload_n eX9_undo_61 rfl rfl ?_ | refine x_aload_nN eX9_undo_61 rfl rfl ?_
    refine x_dup eX9_undo_62 rfl ?_
    refine x_getI eX9_undo_63 fk_X9_44 (by decide) (by assumption) ?_
    rw [e2]
    refine x_iconst (v := nI 1) eX9_undo_66 (by decide) ?_
    first | refine x_isubN eX9_undo_67 (by with_reducible rfl) (by with_reducible rfl) (by omega) ?_ | refine x_isub eX9_undo_67 ?_
    refine x_putI eX9_undo_68 fk_X9_44 (by decide) rfl ⟨_, rfl, Or.inl rfl⟩ (by assumption) ?_
    refine x_iconst (v := nI 1) eX9_undo_71 (by decide) ?_
    refine x_zret eX9_undo_72 rfl (by first | exact Or.inl rfl | exact Or.inr rfl | exact bI_or _ | assumption) ?_
    exact hq1 hpos
  · refine x_iconst (v := nI 0) eX9_undo_7 (by decide) ?_
    refine x_zret eX9_undo_8 rfl (by first | exact Or.inl rfl | exact Or.inr rfl | exact bI_or _ | assumption) ?_
    refine hq0 ?_
    by_cases z : kp = 0
    · exact z
    · exact absurd cq1 (nI_ne0 (by omega) (by omega))
set_option maxRecDepth 100000 in
set_option maxHeartbeats 4000000 in
theorem c_X9_count {w : Int32} (M : MD h x) (hq : Q (some (.int (if w = 0 then hi h (x + 1) 0 else if w = 1 then hi h (x + 1) 1 else if w = 2 then hi h x 2 else -1))) h) : Rn G d mX9_count 0 [(0, .ref x), (1, .int w)] [] h Q := by
  obtain ⟨⟨hx, hS, kS, nS⟩, -⟩ := id M
  refine x_iload_n eX9_count_0 rfl rfl ?_
  first | refine x_if_neB (tgt := 13) eX9_count_1 (by decide) (by with_reducible rfl) (fun cq1 => ?_) (fun cq1 => ?_) | refine x_if_ne (tgt := 13) eX9_count_1 (by decide) (fun cq1 => ?_) (fun cq1 => ?_)
  · refine x_iload_n eX9_count_13 rfl rfl ?_
    refine x_iconst (v := nI 1) eX9_count_14 (by decide) ?_
    first | refine x_icmp_neN (tgt := 27) eX9_count_15 (by decide) (by with_reducible rfl) (by with_reducible rfl) (by omega) (by omega) (fun cq2 => ?_) (fun cq2 => ?_) | refine x_icmp_ne (tgt := 27) eX9_count_15 (by decide) (fun cq2 => ?_) (fun cq2 => ?_)
    · refine x_iload_n eX9_count_27 rfl rfl ?_
      refine x_iconst (v := nI 2) eX9_count_28 (by decide) ?_
      first | refine x_icmp_neN (tgt := 39) eX9_count_29 (by decide) (by with_reducible rfl) (by with_reducible rfl) (by omega) (by omega) (fun cq3 => ?_) (fun cq3 => ?_) | refine x_icmp_ne (tgt := 39) eX9_count_29 (by decide) (fun cq3 => ?_) (fun cq3 => ?_)
      · refine x_iconst (v := (-1)) eX9_count_39 (by decide) ?_
        refine x_iret eX9_count_40 rfl ?_
        exact qi hq (by have c1 : ¬ w = 0 := cq1; have c2 : ¬ w = 1 := cq2; have c3 : ¬ w = 2 := cq3; rw [if_neg c1, if_neg c2, if_neg c3])
      · first | refine x_aload_n eX9_count_32 rfl rfl ?_ | refine x_aload_nN eX9_count_32 rfl rfl ?_
        refine x_getI eX9_count_33 fk_X9_44 (by decide) (by assumption) ?_
        refine x_goto (tgt := 40) eX9_count_36 (by decide) ?_
        refine x_iret eX9_count_40 rfl ?_
        exact qi hq (by have c1 : ¬ w = 0 := cq1; have c2 : ¬ w = 1 := cq2; have c3 : w = 2 := cq3; rw [if_neg c1, if_neg c2, if_pos c3])
    · first | refine x_aload_n eX9_count_18 rfl rfl ?_ | refine x_aload_nN eX9_count_18 rfl rfl ?_
      first | refine x_getR eX9_count_19 fk_X9_7 rfl (by assumption) (by assumption) ?_ | refine x_getN eX9_count_19 fk_X9_7 rfl (by assumption) (by assumption) ?_
      refine x_iconst (v := nI 1) eX9_count_22 (by decide) ?_
      first | refine x_ialdN eX9_count_23 (by with_reducible rfl) (by assumption) (by assumption) (by omega) (by omega) ?_ | refine x_sldN eX9_count_23 (by with_reducible rfl) (by assumption) (by assumption) (by omega) (by omega) ?_ | refine x_iald eX9_count_23 (by assumption) (by assumption) ?_
      refine x_goto (tgt := 40) eX9_count_24 (by decide) ?_
      refine x_iret eX9_count_40 rfl ?_
      exact qi hq (by have c1 : ¬ w = 0 := cq1; have c2 : w = 1 := cq2; rw [if_neg c1, if_pos c2])
  · first | refine x_aload_n eX9_count_4 rfl rfl ?_ | refine x_aload_nN eX9_count_4 rfl rfl ?_
    first | refine x_getR eX9_count_5 fk_X9_7 rfl (by assumption) (by assumption) ?_ | refine x_getN eX9_count_5 fk_X9_7 rfl (by assumption) (by assumption) ?_
    refine x_iconst (v := nI 0) eX9_count_8 (by decide) ?_
    first | refine x_ialdN eX9_count_9 (by with_reducible rfl) (by assumption) (by assumption) (by omega) (by omega) ?_ | refine x_sldN eX9_count_9 (by with_reducible rfl) (by assumption) (by assumption) (by omega) (by omega) ?_ | refine x_iald eX9_count_9 (by assumption) (by assumption) ?_
    refine x_goto (tgt := 40) eX9_count_10 (by decide) ?_
    refine x_iret eX9_count_40 rfl ?_
    exact qi hq (by have c1 : w = 0 := cq1; rw [if_pos c1])
end REF6

