/-! ===== the reference: the first place on a bolt ===== -/
/-- one int array overwritten -/
def ovF (F : Nat → Nat → Int32) (b : Nat) (v : Nat → Int32) : Nat → Nat → Int32 := fun a j => if a = b then v j else F a j
def ovH (h : AH) (b : Nat) (v : Nat → Int32) : AH := setI h (ovF (hi h) b v)
set_option maxRecDepth 100000 in
set_option maxHeartbeats 4000000 in
theorem ovH_b (h : AH) (b : Nat) (v : Nat → Int32) : hi (ovH h b v) b = v := funext fun j => if_pos rfl
set_option maxRecDepth 100000 in
set_option maxHeartbeats 4000000 in
theorem ovH_ne (h : AH) {a b : Nat} (v : Nat → Int32) (hne : a ≠ b) : hi (ovH h b v) a = hi h a := funext fun j => if_neg hne
set_option maxRecDepth 100000 in
set_option maxHeartbeats 4000000 in
theorem ovH_self (h : AH) (b : Nat) : ovH h b (hi h b) = h := by
  have e : ovF (hi h) b (hi h b) = hi h := by
    funext a j
    unfold ovF
    by_cases z : a = b
    · rw [if_pos z, z]
    · rw [if_neg z]
  unfold ovH
  rw [e, setI_self]
set_option maxRecDepth 100000 in
set_option maxHeartbeats 4000000 in
theorem ovH_wi (h : AH) (b s : Nat) (v : Nat → Int32) (y : Int32) : wi (ovH h b v) b s y = ovH h b (upd0 v s y) := by
  show setI h (up2 (ovF (hi h) b v) b s y) = setI h _
  congr 1
  funext a j
  unfold up2 ovF upd0
  by_cases z : a = b
  · by_cases y : j = s <;> simp [z, y]
  · simp [z]
set_option maxRecDepth 100000 in
set_option maxHeartbeats 4000000 in
theorem fstN_succ (P : Nat → Bool) (n : Nat) : (fstN P (n + 1)).isSome = ((fstN P n).isSome || P n) := by
  rw [show fstN P (n + 1) = (match fstN P n with | some i => some i | none => if P n then some n else none) from rfl]
  cases fstN P n with
  | some i => rfl
  | none => cases P n <;> rfl
/-- how long a run of P ends before k -/
def runN (P : Nat → Bool) : Nat → Nat
  | 0 => 0
  | k + 1 => if P k then runN P k + 1 else 0
set_option maxRecDepth 100000 in
set_option maxHeartbeats 4000000 in
theorem runN_le (P : Nat → Bool) : ∀ k, runN P k ≤ k
  | 0 => Nat.le_refl _
  | k + 1 => by
    have := runN_le P k
    unfold runN
    split <;> omega
def freV (g : Nat → Int32) (b : Nat) (w : Int32) (k : Nat) : Bool := decide (wornN g b k ≤ w) && decide (liesV g (nI b) (nI k) = -1)
def fpN (g : Nat → Int32) (b s i : Nat) (w : Int32) : Option Nat := fstN (fun k => decide (runN (freV g b w) (k + 1) = nt (lenV g s i))) (nt (bl g b 1))
def fpV (g : Nat → Int32) (b s i : Nat) (w : Int32) : Int32 := if broV g s i ≤ bl g b 0 ∧ lenV g s i ≤ bl g b 1 then (match fpN g b s i w with
  | none => -1
  | some k => nI (k + 1 - nt (lenV g s i))) else -1
set_option maxRecDepth 100000 in
set_option maxHeartbeats 4000000 in
theorem liesV_iff (g : Nat → Int32) (b k : Int32) (h10 : nt (g 1) ≤ 10) (h40 : ∀ s, s < nt (g 1) → np g s ≤ 40) : decide (liesV g b k = -1) = !(fstN (fun s => (fstN (onB g b k s) (np g s)).isSome) (nt (g 1))).isSome := by
  unfold liesV
  rcases fstN_spec (P := fun s => (fstN (onB g b k s) (np g s)).isSome) (n := nt (g 1)) with ⟨e, -⟩ | ⟨s, e, h1, h2, -⟩
  · rw [e]
    rfl
  · rw [e]
    rcases fstN_spec (P := onB g b k s) (n := np g s) with ⟨e2, -⟩ | ⟨i, e2, h3, -, -⟩
    · rw [e2] at h2
      cases h2
    · show decide (nI (100 * s + (fstN (onB g b k s) (np g s)).getD 0) = -1) = false
      rw [e2]
      have := h40 s h1
      refine decide_eq_false (fun z => ?_)
      have y : ¬ nI (100 * s + i) < 0 := nI_pos (by omega)
      rw [show nI (100 * s + i) = -1 from z] at y
      exact y (by decide)
set_option maxRecDepth 100000 in
set_option maxHeartbeats 4000000 in
theorem nI_run {k l : Nat} (h : l ≤ k + 1) : nI k - nI l + nI 1 = nI (k + 1 - l) := by
  rw [← pk_sub h, ← nI_add, Int32.sub_eq_add_neg, Int32.sub_eq_add_neg, Int32.add_assoc, Int32.add_assoc, Int32.add_comm (-nI l)]
set_option maxRecDepth 100000 in
set_option maxHeartbeats 4000000 in
theorem bI_and1 (b : Bool) : bI b &&& 1 = bI b := by cases b <;> decide
/-- the free places, as far as they are crossed out -/
def FC (g : Nat → Int32) (b : Nat) (w : Int32) (fr : Nat → Int32) (C : Nat → Bool) : Prop := ∀ k, k < nt (bl g b 1) → fr k = bI (decide (wornN g b k ≤ w) && !C k)
/-- a piece that lies on a bolt lies within it -/
def PB (g : Nat → Int32) : Prop := ∀ s i, s < nt (g 1) → i < np g s → ¬ sl g s (300 + i) = -1 → isN (sl g s (340 + i)) 0 200 ∧ isN (lenV g s i) 0 200 ∧ nt (sl g s (340 + i)) + nt (lenV g s i) ≤ nt (bl g (nt (sl g s (300 + i))) 1)
section REF16
variable {G : GG} {d : Nat} {h : AH} {Q : Option Value → AH → Prop} {x la kp : Nat}
set_option maxRecDepth 100000 in
set_option maxHeartbeats 4000000 in
theorem l_X9_fp0 {b s i L ln : Nat} {w : Int32} (M : MD h x) (W : GW (hi h (x + 1))) (hb : b < nt (hi h (x + 1) 0)) (hL : nt (bl (hi h (x + 1)) b 1) = L) (kx : ∀ fr, FC (hi h (x + 1)) b w fr (fun _ => false) → Rn G (d + 4) mX9_firstPlace 80 [(0, .ref x), (1, .int (nI b)), (2, .int (nI s)), (3, .int (nI i)), (4, .int w), (5, .int (nI ln)), (6, .int (nI L))] [] (ovH h (x + 5) fr) Q) : ∀ n k fr, k + n = L → (∀ j, j < k → fr j = bI (decide (wornN (hi h (x + 1)) b j ≤ w))) → Rn G (d + 4) mX9_firstPlace 43 [(0, .ref x), (1, .int (nI b)), (2, .int (nI s)), (3, .int (nI i)), (4, .int w), (5, .int (nI ln)), (6, .int (nI L)), (7, .int (nI k))] [] (ovH h (x + 5) fr) Q := by
  have u1 := (W.2.2.1 b hb).2.1.2.2
  intro n
  induction n with
  | zero =>
    intro k fr hk0 hall
    refine x_iload eX9_firstPlace_43 rfl ?_
    refine x_iload eX9_firstPlace_45 rfl ?_
    first | refine x_icmp_geN (tgt := 80) eX9_firstPlace_47 (by decide) (by with_reducible rfl) (by with_reducible rfl) (by omega) (by omega) (fun cq1 => ?_) (fun cq1 => ?_) | refine x_icmp_ge (tgt := 80) eX9_firstPlace_47 (by decide) (fun cq1 => ?_) (fun cq1 => ?_)
    · refine Rn.weak (kx fr (fun j hj => by rw [hall j (by omega)]; simp)) (by repeat' first | exact fun _ h => absurd h List.not_mem_nil | refine List.forall_mem_cons.mpr ⟨rfl, ?_⟩)
    · exact absurd cq1 (by omega)
  | succ n ih =>
    intro k fr hk0 hall
    have M2 : MD (ovH h (x + 5) fr) x := M
    have e1 := ovH_ne h fr (show x + 1 ≠ x + 5 by omega)
    obtain ⟨⟨hx, hS, kS, nS⟩, -, -, -, ⟨h6, k6, n6⟩, -⟩ := id M2
    have nxt : ∀ v : Bool, decide (wornN (hi h (x + 1)) b k ≤ w) = v → ∀ j, j < k + 1 → upd0 fr k (bI v) j = bI (decide (wornN (hi h (x + 1)) b j ≤ w)) := by
      intro v hv j hj
      by_cases z : j = k
      · rw [z, upd0_same, hv]
      · rw [upd0_ne z]
        exact hall j (by omega)
    refine x_iload eX9_firstPlace_43 rfl ?_
    refine x_iload eX9_firstPlace_45 rfl ?_
    first | refine x_icmp_geN (tgt := 80) eX9_firstPlace_47 (by decide) (by with_reducible rfl) (by with_reducible rfl) (by omega) (by omega) (fun cq1 => ?_) (fun cq1 => ?_) | refine x_icmp_ge (tgt := 80) eX9_firstPlace_47 (by decide) (fun cq1 => ?_) (fun cq1 => ?_)
    · exact absurd cq1 (by omega)
    · first | refine x_aload_n eX9_firstPlace_50 rfl rfl ?_ | refine x_aload_nN eX9_firstPlace_50 rfl rfl ?_
      first | refine x_getR eX9_firstPlace_51 fk_X9_23 rfl (by assumption) (by assumption) ?_ | refine x_getN eX9_firstPlace_51 fk_X9_23 rfl (by assumption) (by assumption) ?_
      refine x_iload eX9_firstPlace_54 rfl ?_
      first | refine x_aload_n eX9_firstPlace_56 rfl rfl ?_ | refine x_aload_nN eX9_firstPlace_56 rfl rfl ?_
      refine x_iload_n eX9_firstPlace_57 rfl rfl ?_
      refine x_iload eX9_firstPlace_58 rfl ?_
      refine x_callV2 eX9_firstPlace_60 lk_X9_146 (by assumption) (Nat.le_of_ble_eq_true rfl) (Nat.le_of_ble_eq_true rfl) ?_
      refine Rn.deep (c_X9_wornN (d := d) M2.md (by rw [e1]; exact W) (by rw [e1]; exact hb) (by rw [e1]; omega) (fun _ => ?_)) (by omega)
      rw [e1]
      refine x_iload eX9_firstPlace_63 rfl ?_
      first | refine x_icmp_gtN (tgt := 72) eX9_firstPlace_65 (by decide) (by with_reducible rfl) (by with_reducible rfl) (by omega) (by omega) (fun cq2 => ?_) (fun cq2 => ?_) | refine x_icmp_gt (tgt := 72) eX9_firstPlace_65 (by decide) (fun cq2 => ?_) (fun cq2 => ?_)
      · have c2 : ¬ wornN (hi h (x + 1)) b k ≤ w := Int32.not_le.mpr cq2
        refine x_iconst (v := nI 0) eX9_firstPlace_72 (by decide) ?_
        first | refine x_bastN eX9_firstPlace_73 (by with_reducible rfl) (by assumption) (by assumption) (by omega) (by omega) ?_ | refine x_zastN eX9_firstPlace_73 (by with_reducible rfl) (by assumption) (by assumption) (by omega) (by omega) ?_ | refine x_bast eX9_firstPlace_73 (by assumption) (by assumption) ?_
        first | refine x_iincN eX9_firstPlace_74 rfl (by with_reducible rfl) (by decide) rfl rfl ?_ | refine x_iinc eX9_firstPlace_74 rfl rfl (by decide) rfl rfl ?_
        refine x_goto (tgt := 43) eX9_firstPlace_77 (by decide) ?_
        rw [ovH_wi]
        refine Rn.weak (ih (k + 1) _ (by omega) (nxt false (decide_eq_false c2))) (by repeat' first | exact fun _ h => absurd h List.not_mem_nil | refine List.forall_mem_cons.mpr ⟨rfl, ?_⟩)
      · have c2 : wornN (hi h (x + 1)) b k ≤ w := Int32.not_lt.mp cq2
        refine x_iconst (v := nI 1) eX9_firstPlace_68 (by decide) ?_
        refine x_goto (tgt := 73) eX9_firstPlace_69 (by decide) ?_
        first | refine x_bastN eX9_firstPlace_73 (by with_reducible rfl) (by assumption) (by assumption) (by omega) (by omega) ?_ | refine x_zastN eX9_firstPlace_73 (by with_reducible rfl) (by assumption) (by assumption) (by omega) (by omega) ?_ | refine x_bast eX9_firstPlace_73 (by assumption) (by assumption) ?_
        first | refine x_iincN eX9_firstPlace_74 rfl (by with_reducible rfl) (by decide) rfl rfl ?_ | refine x_iinc eX9_firstPlace_74 rfl rfl (by decide) rfl rfl ?_
        refine x_goto (tgt := 43) eX9_firstPlace_77 (by decide) ?_
        rw [ovH_wi]
        refine Rn.weak (ih (k + 1) _ (by omega) (nxt true (decide_eq_true c2))) (by repeat' first | exact fun _ h => absurd h List.not_mem_nil | refine List.forall_mem_cons.mpr ⟨rfl, ?_⟩)
set_option maxRecDepth 100000 in
set_option maxHeartbeats 4000000 in
theorem l_X9_fp3 {b s p n0 : Nat} {l1 l2 : Value} {i : Nat} {fr : Nat → Int32} (M : MD h x) (hp : p + n0 ≤ 200) (kx : Rn G (d + 4) mX9_firstPlace 185 [(0, .ref x), (1, .int (nI b)), (5, l1), (6, l2), (7, .int (nI s)), (8, .int (nI i))] [] (ovH h (x + 5) (filG fr p n0 0)) Q) : ∀ n j, j + n = n0 → Rn G (d + 4) mX9_firstPlace 164 [(0, .ref x), (1, .int (nI b)), (5, l1), (6, l2), (7, .int (nI s)), (8, .int (nI i)), (9, .int (nI (p + n0))), (10, .int (nI (p + j)))] [] (ovH h (x + 5) (filG fr p j 0)) Q := by
  intro n
  induction n with
  | zero =>
    intro j hj
    have e : j = n0 := by omega
    subst e
    refine x_iload eX9_firstPlace_164 rfl ?_
    refine x_iload eX9_firstPlace_166 rfl ?_
    first | refine x_icmp_geN (tgt := 185) eX9_firstPlace_168 (by decide) (by with_reducible rfl) (by with_reducible rfl) (by omega) (by omega) (fun cq1 => ?_) (fun cq1 => ?_) | refine x_icmp_ge (tgt := 185) eX9_firstPlace_168 (by decide) (fun cq1 => ?_) (fun cq1 => ?_)
    · refine Rn.weak (kx) (by repeat' first | exact fun _ h => absurd h List.not_mem_nil | refine List.forall_mem_cons.mpr ⟨rfl, ?_⟩)
    · exact absurd cq1 (by omega)
  | succ n ih =>
    intro j hj
    have M2 : MD (ovH h (x + 5) (filG fr p j 0)) x := M
    obtain ⟨⟨hx, hS, kS, nS⟩, -, -, -, ⟨h6, k6, n6⟩, -⟩ := id M2
    refine x_iload eX9_firstPlace_164 rfl ?_
    refine x_iload eX9_firstPlace_166 rfl ?_
    first | refine x_icmp_geN (tgt := 185) eX9_firstPlace_168 (by decide) (by with_reducible rfl) (by with_reducible rfl) (by omega) (by omega) (fun cq1 => ?_) (fun cq1 => ?_) | refine x_icmp_ge (tgt := 185) eX9_firstPlace_168 (by decide) (fun cq1 => ?_) (fun cq1 => ?_)
    · exact absurd cq1 (by omega)
    · first | refine x_aload_n eX9_firstPlace_171 rfl rfl ?_ | refine x_aload_nN eX9_firstPlace_171 rfl rfl ?_
      first | refine x_getR eX9_firstPlace_172 fk_X9_23 rfl (by assumption) (by assumption) ?_ | refine x_getN eX9_firstPlace_172 fk_X9_23 rfl (by assumption) (by assumption) ?_
      refine x_iload eX9_firstPlace_175 rfl ?_
      refine x_iconst (v := nI 0) eX9_firstPlace_177 (by decide) ?_
      first | refine x_bastN eX9_firstPlace_178 (by with_reducible rfl) (by assumption) (by assumption) (by omega) (by omega) ?_ | refine x_zastN eX9_firstPlace_178 (by with_reducible rfl) (by assumption) (by assumption) (by omega) (by omega) ?_ | refine x_bast eX9_firstPlace_178 (by assumption) (by assumption) ?_
      first | refine x_iincN eX9_firstPlace_179 rfl (by with_reducible rfl) (by decide) rfl rfl ?_ | refine x_iinc eX9_firstPlace_179 rfl rfl (by decide) rfl rfl ?_
      refine x_goto (tgt := 164) eX9_firstPlace_182 (by decide) ?_
      rw [ovH_wi, show (nI 0 &&& 1) = 0 by decide, filG_s]
      refine Rn.weak (ih (j + 1) (by omega)) (by repeat' first | exact fun _ h => absurd h List.not_mem_nil | refine List.forall_mem_cons.mpr ⟨rfl, ?_⟩)
set_option maxRecDepth 100000 in
set_option maxHeartbeats 4000000 in
theorem l_X9_fp2 {b s L ln : Nat} {w : Int32} {C : Nat → Bool} (M : MD h x) (W : GW (hi h (x + 1))) (B : PB (hi h (x + 1))) (hb : b < nt (hi h (x + 1) 0)) (hL : nt (bl (hi h (x + 1)) b 1) = L) (hs : s < nt (hi h (x + 1) 1)) (kx : ∀ fr, FC (hi h (x + 1)) b w fr (fun k => C k || (fstN (onB (hi h (x + 1)) (nI b) (nI k) s) (np (hi h (x + 1)) s)).isSome) → Rn G (d + 4) mX9_firstPlace 191 [(0, .ref x), (1, .int (nI b)), (5, .int (nI ln)), (6, .int (nI L)), (7, .int (nI s))] [] (ovH h (x + 5) fr) Q) : ∀ n i fr, i + n = np (hi h (x + 1)) s → FC (hi h (x + 1)) b w fr (fun k => C k || (fstN (onB (hi h (x + 1)) (nI b) (nI k) s) i).isSome) → Rn G (d + 4) mX9_firstPlace 97 [(0, .ref x), (1, .int (nI b)), (5, .int (nI ln)), (6, .int (nI L)), (7, .int (nI s)), (8, .int (nI i))] [] (ovH h (x + 5) fr) Q := by
  have h10 := W.2.1.2.2
  have h24 := W.1.2.2
  have sw := W.2.2.2 s hs
  have h40 : np (hi h (x + 1)) s ≤ 40 := sw.2.2.2.2.1
  have u1 := (W.2.2.1 b hb).2.1.2.2
  intro n
  induction n with
  | zero =>
    intro i fr hi0 F
    have e : i = np (hi h (x + 1)) s := by omega
    have M2 : MD (ovH h (x + 5) fr) x := M
    have e1 := ovH_ne h fr (show x + 1 ≠ x + 5 by omega)
    obtain ⟨⟨hx, hS, kS, nS⟩, -⟩ := id M2
    rw [e] at F
    refine x_iload eX9_firstPlace_97 rfl ?_
    first | refine x_aload_n eX9_firstPlace_99 rfl rfl ?_ | refine x_aload_nN eX9_firstPlace_99 rfl rfl ?_
    refine x_iload eX9_firstPlace_100 rfl ?_
    refine x_callV1 eX9_firstPlace_102 lk_X9_82 (by assumption) (Nat.le_of_ble_eq_true rfl) (Nat.le_of_ble_eq_true rfl) ?_
    refine Rn.deep (c_X9_piecesN (d := d) M2.md (by omega) (by rw [e1]; exact sw) (fun _ => ?_)) (by omega)
    rw [e1]
    first | refine x_icmp_geN (tgt := 191) eX9_firstPlace_105 (by decide) (by with_reducible rfl) (by with_reducible rfl) (by omega) (by omega) (fun cq1 => ?_) (fun cq1 => ?_) | refine x_icmp_ge (tgt := 191) eX9_firstPlace_105 (by decide) (fun cq1 => ?_) (fun cq1 => ?_)
    · refine Rn.weak (kx fr F) (by repeat' first | exact fun _ h => absurd h List.not_mem_nil | refine List.forall_mem_cons.mpr ⟨rfl, ?_⟩)
    · exact absurd cq1 (by omega)
  | succ n ih =>
    intro i fr hi0 F
    have M2 : MD (ovH h (x + 5) fr) x := M
    have e1 := ovH_ne h fr (show x + 1 ≠ x + 5 by omega)
    obtain ⟨⟨hx, hS, kS, nS⟩, -⟩ := id M2
    have him : i < np (hi h (x + 1)) s := by omega
    -- what comes behind this piece
    have nx : ∀ fr2, FC (hi h (x + 1)) b w fr2 (fun k => C k || (fstN (onB (hi h (x + 1)) (nI b) (nI k) s) (i + 1)).isSome) → Rn G (d + 4) mX9_firstPlace 185 [(0, .ref x), (1, .int (nI b)), (5, .int (nI ln)), (6, .int (nI L)), (7, .int (nI s)), (8, .int (nI i))] [] (ovH h (x + 5) fr2) Q := by
      intro fr2 F2
      have iw := ih (i + 1) fr2 (by omega) F2
      first | refine x_iincN eX9_firstPlace_185 rfl (by with_reducible rfl) (by decide) rfl rfl ?_ | refine x_iinc eX9_firstPlace_185 rfl rfl (by decide) rfl rfl ?_
      refine x_goto (tgt := 97) eX9_firstPlace_188 (by decide) ?_
      refine Rn.weak (iw) (by repeat' first | exact fun _ h => absurd h List.not_mem_nil | refine List.forall_mem_cons.mpr ⟨rfl, ?_⟩)
    refine x_iload eX9_firstPlace_97 rfl ?_
    first | refine x_aload_n eX9_firstPlace_99 rfl rfl ?_ | refine x_aload_nN eX9_firstPlace_99 rfl rfl ?_
    refine x_iload eX9_firstPlace_100 rfl ?_
    refine x_callV1 eX9_firstPlace_102 lk_X9_82 (by assumption) (Nat.le_of_ble_eq_true rfl) (Nat.le_of_ble_eq_true rfl) ?_
    refine Rn.deep (c_X9_piecesN (d := d) M2.md (by omega) (by rw [e1]; exact sw) (fun _ => ?_)) (by omega)
    rw [e1]
    first | refine x_icmp_geN (tgt := 191) eX9_firstPlace_105 (by decide) (by with_reducible rfl) (by with_reducible rfl) (by omega) (by omega) (fun cq1 => ?_) (fun cq1 => ?_) | refine x_icmp_ge (tgt := 191) eX9_firstPlace_105 (by decide) (fun cq1 => ?_) (fun cq1 => ?_)
    · exact absurd cq1 (by omega)
    · first | refine x_aload_n eX9_firstPlace_108 rfl rfl ?_ | refine x_aload_nN eX9_firstPlace_108 rfl rfl ?_
      refine x_iload eX9_firstPlace_109 rfl ?_
      refine x_sipush (v := nI 300) eX9_firstPlace_111 (by decide) ?_
      refine x_iload eX9_firstPlace_114 rfl ?_
      first | refine x_iaddN eX9_firstPlace_116 (by with_reducible rfl) (by with_reducible rfl) ?_ | refine x_iadd eX9_firstPlace_116 ?_
      refine x_callV2 eX9_firstPlace_117 lk_X9_57 (by assumption) (Nat.le_of_ble_eq_true rfl) (Nat.le_of_ble_eq_true rfl) ?_
      refine Rn.deep (c_X9_sail (d := d) M2.md (by omega) (fun _ => ?_)) (by omega)
      rw [e1]
      refine x_iload_n eX9_firstPlace_120 rfl rfl ?_
      first | refine x_icmp_eqN (tgt := 127) eX9_firstPlace_121 (by decide) (by with_reducible rfl) (by with_reducible rfl) (by omega) (by omega) (fun cq2 => ?_) (fun cq2 => ?_) | refine x_icmp_eq (tgt := 127) eX9_firstPlace_121 (by decide) (fun cq2 => ?_) (fun cq2 => ?_)
      · have c2 : sl (hi h (x + 1)) s (300 + i) = nI b := cq2
        have cn : ¬ sl (hi h (x + 1)) s (300 + i) = -1 := by
          rw [c2]
          intro z
          have := nI_pos (n := b) (by omega)
          rw [z] at this
          exact this (by decide)
        obtain ⟨⟨ep, -, up⟩, ⟨el, -, ul⟩, hin⟩ := B s i hs him cn
        rw [c2, nt_nI (by omega)] at hin
        obtain ⟨p, hp⟩ : ∃ p, p = nt (sl (hi h (x + 1)) s (340 + i)) := ⟨_, rfl⟩
        obtain ⟨q, hq5⟩ : ∃ q, q = nt (lenV (hi h (x + 1)) s i) := ⟨_, rfl⟩
        rw [← hp] at ep up hin
        rw [← hq5] at el ul hin
        first | refine x_aload_n eX9_firstPlace_127 rfl rfl ?_ | refine x_aload_nN eX9_firstPlace_127 rfl rfl ?_
        refine x_iload eX9_firstPlace_128 rfl ?_
        refine x_sipush (v := nI 340) eX9_firstPlace_130 (by decide) ?_
        refine x_iload eX9_firstPlace_133 rfl ?_
        first | refine x_iaddN eX9_firstPlace_135 (by with_reducible rfl) (by with_reducible rfl) ?_ | refine x_iadd eX9_firstPlace_135 ?_
        refine x_callV2 eX9_firstPlace_136 lk_X9_57 (by assumption) (Nat.le_of_ble_eq_true rfl) (Nat.le_of_ble_eq_true rfl) ?_
        refine Rn.deep (c_X9_sail (d := d) M2.md (by omega) (fun _ => ?_)) (by omega)
        rw [e1, ep]
        first | refine x_aload_n eX9_firstPlace_139 rfl rfl ?_ | refine x_aload_nN eX9_firstPlace_139 rfl rfl ?_
        refine x_iload eX9_firstPlace_140 rfl ?_
        refine x_iload eX9_firstPlace_142 rfl ?_
        refine x_callV2 eX9_firstPlace_144 lk_X9_86 (by assumption) (Nat.le_of_ble_eq_true rfl) (Nat.le_of_ble_eq_true rfl) ?_
        refine c_X9_length M2.md (by omega) (by omega) (by rw [e1]; exact sw) (fun _ => ?_)
        rw [e1, el]
        first | refine x_iaddN eX9_firstPlace_147 (by with_reducible rfl) (by with_reducible rfl) ?_ | refine x_iadd eX9_firstPlace_147 ?_
        refine x_istore eX9_firstPlace_148 (by decide) rfl rfl ?_
        first | refine x_aload_n eX9_firstPlace_150 rfl rfl ?_ | refine x_aload_nN eX9_firstPlace_150 rfl rfl ?_
        refine x_iload eX9_firstPlace_151 rfl ?_
        refine x_sipush (v := nI 340) eX9_firstPlace_153 (by decide) ?_
        refine x_iload eX9_firstPlace_156 rfl ?_
        first | refine x_iaddN eX9_firstPlace_158 (by with_reducible rfl) (by with_reducible rfl) ?_ | refine x_iadd eX9_firstPlace_158 ?_
        refine x_callV2 eX9_firstPlace_159 lk_X9_57 (by assumption) (Nat.le_of_ble_eq_true rfl) (Nat.le_of_ble_eq_true rfl) ?_
        refine Rn.deep (c_X9_sail (d := d) M2.md (by omega) (fun _ => ?_)) (by omega)
        rw [e1, ep]
        have w3 := l_X9_fp3 (G := G) (d := d) (Q := Q) (fr := fr) (i := i) (s := s) (b := b) (l1 := .int (nI ln)) (l2 := .int (nI L)) M (show p + q ≤ 200 by omega) (nx _ (by
          intro k hk
          have ho : onB (hi h (x + 1)) (nI b) (nI k) s i = decide (p ≤ k ∧ k < p + q) := by
            rw [onB, decide_eq_true c2, ep, el, nI_add, Bool.true_and]
            have a1 := nI_leI (a := p) (b := k) (by omega) (by omega)
            have a2 := nI_ltI (a := k) (b := p + q) (by omega) (by omega)
            rw [Bool.eq_iff_iff]
            simp only [Bool.and_eq_true, decide_eq_true_eq]
            rw [a1, a2]
          dsimp only
          rw [fstN_succ, ho]
          unfold filG
          by_cases z : p ≤ k ∧ k < p + q
          · rw [if_pos z, decide_eq_true z]
            simp
            rfl
          · rw [if_neg z, decide_eq_false z, Bool.or_false]
            exact F k hk)) (q) 0 (by omega)
        rw [filG_0] at w3
        refine x_istore eX9_firstPlace_162 (by decide) rfl rfl ?_
        refine Rn.weak (w3) (by repeat' first | exact fun _ h => absurd h List.not_mem_nil | refine List.forall_mem_cons.mpr ⟨rfl, ?_⟩)
      · have c2 : ¬ sl (hi h (x + 1)) s (300 + i) = nI b := cq2
        refine x_goto (tgt := 185) eX9_firstPlace_124 (by decide) ?_
        refine Rn.weak (nx fr (fun k hk => by dsimp only; rw [fstN_succ, show onB (hi h (x + 1)) (nI b) (nI k) s i = false by rw [onB, decide_eq_false c2, Bool.false_and], Bool.or_false]; exact F k hk)) (by repeat' first | exact fun _ h => absurd h List.not_mem_nil | refine List.forall_mem_cons.mpr ⟨rfl, ?_⟩)
set_option maxRecDepth 100000 in
set_option maxHeartbeats 4000000 in
theorem l_X9_fp1 {b L ln : Nat} {w : Int32} (M : MD h x) (W : GW (hi h (x + 1))) (B : PB (hi h (x + 1))) (hb : b < nt (hi h (x + 1) 0)) (hL : nt (bl (hi h (x + 1)) b 1) = L) (kx : ∀ fr, FC (hi h (x + 1)) b w fr (fun k => (fstN (fun s => (fstN (onB (hi h (x + 1)) (nI b) (nI k) s) (np (hi h (x + 1)) s)).isSome) (nt (hi h (x + 1) 1))).isSome) → Rn G (d + 4) mX9_firstPlace 197 [(0, .ref x), (1, .int (nI b)), (5, .int (nI ln)), (6, .int (nI L))] [] (ovH h (x + 5) fr) Q) : ∀ n s fr, s + n = nt (hi h (x + 1) 1) → FC (hi h (x + 1)) b w fr (fun k => (fstN (fun s => (fstN (onB (hi h (x + 1)) (nI b) (nI k) s) (np (hi h (x + 1)) s)).isSome) s).isSome) → Rn G (d + 4) mX9_firstPlace 83 [(0, .ref x), (1, .int (nI b)), (5, .int (nI ln)), (6, .int (nI L)), (7, .int (nI s))] [] (ovH h (x + 5) fr) Q := by
  obtain ⟨w1, -, h10⟩ := W.2.1
  intro n
  induction n with
  | zero =>
    intro s fr hs0 F
    have e : s = nt (hi h (x + 1) 1) := by omega
    have M2 : MD (ovH h (x + 5) fr) x := M
    have e1 := ovH_ne h fr (show x + 1 ≠ x + 5 by omega)
    obtain ⟨⟨hx, hS, kS, nS⟩, -⟩ := id M2
    rw [e] at F
    refine x_iload eX9_firstPlace_83 rfl ?_
    first | refine x_aload_n eX9_firstPlace_85 rfl rfl ?_ | refine x_aload_nN eX9_firstPlace_85 rfl rfl ?_
    first | refine x_getR eX9_firstPlace_86 fk_X9_7 rfl (by assumption) (by assumption) ?_ | refine x_getN eX9_firstPlace_86 fk_X9_7 rfl (by assumption) (by assumption) ?_
    refine x_iconst (v := nI 1) eX9_firstPlace_89 (by decide) ?_
    first | refine x_ialdN eX9_firstPlace_90 (by with_reducible rfl) (by assumption) (by assumption) (by omega) (by omega) ?_ | refine x_sldN eX9_firstPlace_90 (by with_reducible rfl) (by assumption) (by assumption) (by omega) (by omega) ?_ | refine x_iald eX9_firstPlace_90 (by assumption) (by assumption) ?_
    rw [e1, w1]
    first | refine x_icmp_geN (tgt := 197) eX9_firstPlace_91 (by decide) (by with_reducible rfl) (by with_reducible rfl) (by omega) (by omega) (fun cq1 => ?_) (fun cq1 => ?_) | refine x_icmp_ge (tgt := 197) eX9_firstPlace_91 (by decide) (fun cq1 => ?_) (fun cq1 => ?_)
    · refine Rn.weak (kx fr F) (by repeat' first | exact fun _ h => absurd h List.not_mem_nil | refine List.forall_mem_cons.mpr ⟨rfl, ?_⟩)
    · exact absurd cq1 (by omega)
  | succ n ih =>
    intro s fr hs0 F
    have M2 : MD (ovH h (x + 5) fr) x := M
    have e1 := ovH_ne h fr (show x + 1 ≠ x + 5 by omega)
    obtain ⟨⟨hx, hS, kS, nS⟩, -⟩ := id M2
    have nx : ∀ fr2, FC (hi h (x + 1)) b w fr2 (fun k => (fstN (fun s => (fstN (onB (hi h (x + 1)) (nI b) (nI k) s) (np (hi h (x + 1)) s)).isSome) s).isSome || (fstN (onB (hi h (x + 1)) (nI b) (nI k) s) (np (hi h (x + 1)) s)).isSome) → Rn G (d + 4) mX9_firstPlace 191 [(0, .ref x), (1, .int (nI b)), (5, .int (nI ln)), (6, .int (nI L)), (7, .int (nI s))] [] (ovH h (x + 5) fr2) Q := by
      intro fr2 F2
      have iw := ih (s + 1) fr2 (by omega) (fun k hk => by dsimp only; rw [fstN_succ]; exact F2 k hk)
      first | refine x_iincN eX9_firstPlace_191 rfl (by with_reducible rfl) (by decide) rfl rfl ?_ | refine x_iinc eX9_firstPlace_191 rfl rfl (by decide) rfl rfl ?_
      refine x_goto (tgt := 83) eX9_firstPlace_194 (by decide) ?_
      refine Rn.weak (iw) (by repeat' first | exact fun _ h => absurd h List.not_mem_nil | refine List.forall_mem_cons.mpr ⟨rfl, ?_⟩)
    refine x_iload eX9_firstPlace_83 rfl ?_
    first | refine x_aload_n eX9_firstPlace_85 rfl rfl ?_ | refine x_aload_nN eX9_firstPlace_85 rfl rfl ?_
    first | refine x_getR eX9_firstPlace_86 fk_X9_7 rfl (by assumption) (by assumption) ?_ | refine x_getN eX9_firstPlace_86 fk_X9_7 rfl (by assumption) (by assumption) ?_
    refine x_iconst (v := nI 1) eX9_firstPlace_89 (by decide) ?_
    first | refine x_ialdN eX9_firstPlace_90 (by with_reducible rfl) (by assumption) (by assumption) (by omega) (by omega) ?_ | refine x_sldN eX9_firstPlace_90 (by with_reducible rfl) (by assumption) (by assumption) (by omega) (by omega) ?_ | refine x_iald eX9_firstPlace_90 (by assumption) (by assumption) ?_
    rw [e1, w1]
    first | refine x_icmp_geN (tgt := 197) eX9_firstPlace_91 (by decide) (by with_reducible rfl) (by with_reducible rfl) (by omega) (by omega) (fun cq1 => ?_) (fun cq1 => ?_) | refine x_icmp_ge (tgt := 197) eX9_firstPlace_91 (by decide) (fun cq1 => ?_) (fun cq1 => ?_)
    · exact absurd cq1 (by omega)
    · refine x_iconst (v := nI 0) eX9_firstPlace_94 (by decide) ?_
      refine x_istore eX9_firstPlace_95 (by decide) rfl rfl ?_
      refine Rn.weak (l_X9_fp2 M W B hb hL (by omega) nx (np (hi h (x + 1)) s) 0 fr (Nat.zero_add _) (fun k hk => by dsimp only; rw [F k hk, show (fstN (onB (hi h (x + 1)) (nI b) (nI k) s) 0).isSome = false from rfl, Bool.or_false])) (by repeat' first | exact fun _ h => absurd h List.not_mem_nil | refine List.forall_mem_cons.mpr ⟨rfl, ?_⟩)
set_option maxRecDepth 100000 in
set_option maxHeartbeats 4000000 in
theorem l_X9_fp4 {L ln : Nat} {P : Nat → Bool} {fr : Nat → Int32} (M : MD h x) (hL : L ≤ 200) (hln : ln ≤ 200) (F : ∀ k, k < L → fr k = bI (P k)) (hq0 : fstN (fun k => decide (runN P (k + 1) = ln)) L = none → Q (some (.int (-1))) (ovH h (x + 5) fr)) (hq1 : ∀ k, fstN (fun k => decide (runN P (k + 1) = ln)) L = some k → Q (some (.int (nI (k + 1 - ln)))) (ovH h (x + 5) fr)) : ∀ n k, k + n = L → (∀ j, j < k → decide (runN P (j + 1) = ln) = false) → Rn G (d + 4) mX9_firstPlace 203 [(0, .ref x), (5, .int (nI ln)), (6, .int (nI L)), (7, .int (nI (runN P k))), (8, .int (nI k))] [] (ovH h (x + 5) fr) Q := by
  have M2 : MD (ovH h (x + 5) fr) x := M
  obtain ⟨⟨hx, hS, kS, nS⟩, -, -, -, ⟨h6, k6, n6⟩, -⟩ := id M2
  intro n
  induction n with
  | zero =>
    intro k hk0 hall
    refine x_iload eX9_firstPlace_203 rfl ?_
    refine x_iload eX9_firstPlace_205 rfl ?_
    first | refine x_icmp_geN (tgt := 251) eX9_firstPlace_207 (by decide) (by with_reducible rfl) (by with_reducible rfl) (by omega) (by omega) (fun cq1 => ?_) (fun cq1 => ?_) | refine x_icmp_ge (tgt := 251) eX9_firstPlace_207 (by decide) (fun cq1 => ?_) (fun cq1 => ?_)
    · refine x_iconst (v := (-1)) eX9_firstPlace_251 (by decide) ?_
      refine x_iret eX9_firstPlace_252 rfl ?_
      exact hq0 (fstN_none (fun j hj => hall j (by omega)))
    · exact absurd cq1 (by omega)
  | succ n ih =>
    intro k hk0 hall
    have hrl := runN_le P k
    have hrl2 := runN_le P (k + 1)
    have k228 : Rn G (d + 4) mX9_firstPlace 228 [(0, .ref x), (5, .int (nI ln)), (6, .int (nI L)), (8, .int (nI k))] [.int (nI (runN P (k + 1)))] (ovH h (x + 5) fr) Q := by
      have iw := ih (k + 1) (by omega)
      refine x_istore eX9_firstPlace_228 (by decide) rfl rfl ?_
      refine x_iload eX9_firstPlace_230 rfl ?_
      refine x_iload eX9_firstPlace_232 rfl ?_
      first | refine x_icmp_neN (tgt := 245) eX9_firstPlace_234 (by decide) (by with_reducible rfl) (by with_reducible rfl) (by omega) (by omega) (fun cq1 => ?_) (fun cq1 => ?_) | refine x_icmp_ne (tgt := 245) eX9_firstPlace_234 (by decide) (fun cq1 => ?_) (fun cq1 => ?_)
      · first | refine x_iincN eX9_firstPlace_245 rfl (by with_reducible rfl) (by decide) rfl rfl ?_ | refine x_iinc eX9_firstPlace_245 rfl rfl (by decide) rfl rfl ?_
        refine x_goto (tgt := 203) eX9_firstPlace_248 (by decide) ?_
        refine Rn.weak (iw (fun j hj => by by_cases z : j < k; exact hall j z; rw [show j = k by omega]; exact decide_eq_false cq1)) (by repeat' first | exact fun _ h => absurd h List.not_mem_nil | refine List.forall_mem_cons.mpr ⟨rfl, ?_⟩)
      · have hs := fstN_some (P := fun k => decide (runN P (k + 1) = ln)) (i := k) (decide_eq_true cq1) hall (show k < L by omega)
        have q1 := hq1 k hs
        rw [← nI_run (show ln ≤ k + 1 by omega)] at q1
        refine x_iload eX9_firstPlace_237 rfl ?_
        refine x_iload eX9_firstPlace_239 rfl ?_
        first | refine x_isubN eX9_firstPlace_241 (by with_reducible rfl) (by with_reducible rfl) (by omega) ?_ | refine x_isub eX9_firstPlace_241 ?_
        refine x_iconst (v := nI 1) eX9_firstPlace_242 (by decide) ?_
        first | refine x_iaddN eX9_firstPlace_243 (by with_reducible rfl) (by with_reducible rfl) ?_ | refine x_iadd eX9_firstPlace_243 ?_
        refine x_iret eX9_firstPlace_244 rfl ?_
        exact q1
    refine x_iload eX9_firstPlace_203 rfl ?_
    refine x_iload eX9_firstPlace_205 rfl ?_
    first | refine x_icmp_geN (tgt := 251) eX9_firstPlace_207 (by decide) (by with_reducible rfl) (by with_reducible rfl) (by omega) (by omega) (fun cq1 => ?_) (fun cq1 => ?_) | refine x_icmp_ge (tgt := 251) eX9_firstPlace_207 (by decide) (fun cq1 => ?_) (fun cq1 => ?_)
    · exact absurd cq1 (by omega)
    · first | refine x_aload_n eX9_firstPlace_210 rfl rfl ?_ | refine x_aload_nN eX9_firstPlace_210 rfl rfl ?_
      first | refine x_getR eX9_firstPlace_211 fk_X9_23 rfl (by assumption) (by assumption) ?_ | refine x_getN eX9_firstPlace_211 fk_X9_23 rfl (by assumption) (by assumption) ?_
      refine x_iload eX9_firstPlace_214 rfl ?_
      first | refine x_baldN eX9_firstPlace_216 (by with_reducible rfl) (by assumption) (by assumption) (by omega) (by omega) ?_ | refine x_zaldN eX9_firstPlace_216 (by with_reducible rfl) (by assumption) (by assumption) (by omega) (by omega) ?_ | refine x_bald eX9_firstPlace_216 (by assumption) (by assumption) ?_
      rw [ovH_b, F k (by omega)]
      first | refine x_if_eqB (tgt := 227) eX9_firstPlace_217 (by decide) (by with_reducible rfl) (fun cq2 => ?_) (fun cq2 => ?_) | refine x_if_eq (tgt := 227) eX9_firstPlace_217 (by decide) (fun cq2 => ?_) (fun cq2 => ?_)
      · rw [show runN P (k + 1) = 0 by rw [runN, if_neg (by rw [cq2]; decide)]] at k228
        refine x_iconst (v := nI 0) eX9_firstPlace_227 (by decide) ?_
        refine Rn.weak (k228) (by repeat' first | exact fun _ h => absurd h List.not_mem_nil | refine List.forall_mem_cons.mpr ⟨rfl, ?_⟩)
      · rw [show runN P (k + 1) = runN P k + 1 by rw [runN, if_pos cq2]] at k228
        refine x_iload eX9_firstPlace_220 rfl ?_
        refine x_iconst (v := nI 1) eX9_firstPlace_222 (by decide) ?_
        first | refine x_iaddN eX9_firstPlace_223 (by with_reducible rfl) (by with_reducible rfl) ?_ | refine x_iadd eX9_firstPlace_223 ?_
        refine x_goto (tgt := 228) eX9_firstPlace_224 (by decide) ?_
        refine Rn.weak (k228) (by repeat' first | exact fun _ h => absurd h List.not_mem_nil | refine List.forall_mem_cons.mpr ⟨rfl, ?_⟩)
set_option maxRecDepth 100000 in
set_option maxHeartbeats 4000000 in
theorem c_X9_firstPlace {b s i : Nat} {w : Int32} (M : MD h x) (W : GW (hi h (x + 1))) (B : PB (hi h (x + 1))) (hb : b < nt (hi h (x + 1) 0)) (hs : s < nt (hi h (x + 1) 1)) (him : i < np (hi h (x + 1)) s) (hlen : isN (lenV (hi h (x + 1)) s i) 0 200000) (hq : ∀ fr, Q (some (.int (fpV (hi h (x + 1)) b s i w))) (ovH h (x + 5) fr)) : Rn G (d + 4) mX9_firstPlace 0 [(0, .ref x), (1, .int (nI b)), (2, .int (nI s)), (3, .int (nI i)), (4, .int w)] [] h Q := by
  obtain ⟨⟨hx, hS, kS, nS⟩, -⟩ := id M
  have h24 := W.1.2.2
  have h10 := W.2.1.2.2
  have sw := W.2.2.2 s hs
  have h40 : np (hi h (x + 1)) s ≤ 40 := sw.2.2.2.2.1
  obtain ⟨-, ⟨eL, lL, uL⟩, -⟩ := W.2.2.1 b hb
  obtain ⟨el, ll, ul⟩ := hlen
  have hqs : fpV (hi h (x + 1)) b s i w = -1 → Q (some (.int (-1))) h := fun z => by
    have := hq (hi h (x + 5))
    rw [ovH_self, z] at this
    exact this
  first | refine x_aload_n eX9_firstPlace_0 rfl rfl ?_ | refine x_aload_nN eX9_firstPlace_0 rfl rfl ?_
  refine x_iload_n eX9_firstPlace_1 rfl rfl ?_
  refine x_iload_n eX9_firstPlace_2 rfl rfl ?_
  refine x_callV2 eX9_firstPlace_3 lk_X9_86 (by assumption) (Nat.le_of_ble_eq_true rfl) (Nat.le_of_ble_eq_true rfl) ?_
  refine c_X9_length M.md (by omega) (by omega) sw (fun _ => ?_)
  rw [el]
  refine x_istore eX9_firstPlace_6 (by decide) rfl rfl ?_
  first | refine x_aload_n eX9_firstPlace_8 rfl rfl ?_ | refine x_aload_nN eX9_firstPlace_8 rfl rfl ?_
  refine x_iload_n eX9_firstPlace_9 rfl rfl ?_
  refine x_iconst (v := nI 1) eX9_firstPlace_10 (by decide) ?_
  refine x_callV2 eX9_firstPlace_11 lk_X9_92 (by assumption) (Nat.le_of_ble_eq_true rfl) (Nat.le_of_ble_eq_true rfl) ?_
  refine Rn.deep (c_X9_bolt (d := d) M.md (by omega) (fun _ => ?_)) (by omega)
  rw [eL]
  refine x_istore eX9_firstPlace_14 (by decide) rfl rfl ?_
  first | refine x_aload_n eX9_firstPlace_16 rfl rfl ?_ | refine x_aload_nN eX9_firstPlace_16 rfl rfl ?_
  refine x_iload_n eX9_firstPlace_17 rfl rfl ?_
  refine x_iload_n eX9_firstPlace_18 rfl rfl ?_
  refine x_callV2 eX9_firstPlace_19 lk_X9_143 (by assumption) (Nat.le_of_ble_eq_true rfl) (Nat.le_of_ble_eq_true rfl) ?_
  refine c_X9_breadth M.md (by omega) (by omega) sw (fun _ => ?_)
  first | refine x_aload_n eX9_firstPlace_22 rfl rfl ?_ | refine x_aload_nN eX9_firstPlace_22 rfl rfl ?_
  refine x_iload_n eX9_firstPlace_23 rfl rfl ?_
  refine x_iconst (v := nI 0) eX9_firstPlace_24 (by decide) ?_
  refine x_callV2 eX9_firstPlace_25 lk_X9_92 (by assumption) (Nat.le_of_ble_eq_true rfl) (Nat.le_of_ble_eq_true rfl) ?_
  refine Rn.deep (c_X9_bolt (d := d) M.md (by omega) (fun _ => ?_)) (by omega)
  first | refine x_icmp_gtN (tgt := 38) eX9_firstPlace_28 (by decide) (by with_reducible rfl) (by with_reducible rfl) (by omega) (by omega) (fun cq1 => ?_) (fun cq1 => ?_) | refine x_icmp_gt (tgt := 38) eX9_firstPlace_28 (by decide) (fun cq1 => ?_) (fun cq1 => ?_)
  · refine x_iconst (v := (-1)) eX9_firstPlace_38 (by decide) ?_
    refine x_iret eX9_firstPlace_39 rfl ?_
    exact hqs (by rw [fpV, if_neg (fun z => absurd z.1 (Int32.not_le.mpr cq1))])
  · have c1 : broV (hi h (x + 1)) s i ≤ bl (hi h (x + 1)) b 0 := Int32.not_lt.mp cq1
    refine x_iload eX9_firstPlace_31 rfl ?_
    refine x_iload eX9_firstPlace_33 rfl ?_
    first | refine x_icmp_leN (tgt := 40) eX9_firstPlace_35 (by decide) (by with_reducible rfl) (by with_reducible rfl) (by omega) (by omega) (fun cq2 => ?_) (fun cq2 => ?_) | refine x_icmp_le (tgt := 40) eX9_firstPlace_35 (by decide) (fun cq2 => ?_) (fun cq2 => ?_)
    · have c2 : lenV (hi h (x + 1)) s i ≤ bl (hi h (x + 1)) b 1 := by
        rw [el, eL]
        exact (nI_leI (by omega) (by omega)).mpr cq2
      have ev : fpV (hi h (x + 1)) b s i w = match fpN (hi h (x + 1)) b s i w with
        | none => -1
        | some k => nI (k + 1 - nt (lenV (hi h (x + 1)) s i)) := by rw [fpV, if_pos ⟨c1, c2⟩]
      have k197 : ∀ fr, FC (hi h (x + 1)) b w fr (fun k => (fstN (fun s => (fstN (onB (hi h (x + 1)) (nI b) (nI k) s) (np (hi h (x + 1)) s)).isSome) (nt (hi h (x + 1) 1))).isSome) → Rn G (d + 4) mX9_firstPlace 197 [(0, .ref x), (1, .int (nI b)), (5, .int (nI (nt (lenV (hi h (x + 1)) s i)))), (6, .int (nI (nt (bl (hi h (x + 1)) b 1))))] [] (ovH h (x + 5) fr) Q := by
        intro fr F
        have F2 : ∀ k, k < nt (bl (hi h (x + 1)) b 1) → fr k = bI (freV (hi h (x + 1)) b w k) := fun k hk => by
          rw [F k hk, freV, liesV_iff _ _ _ h10 (fun s hs => (W.2.2.2 s hs).2.2.2.2.1)]
        refine x_iconst (v := nI 0) eX9_firstPlace_197 (by decide) ?_
        refine x_istore eX9_firstPlace_198 (by decide) rfl rfl ?_
        refine x_iconst (v := nI 0) eX9_firstPlace_200 (by decide) ?_
        refine x_istore eX9_firstPlace_201 (by decide) rfl rfl ?_
        refine Rn.weak (l_X9_fp4 (P := freV (hi h (x + 1)) b w) (L := nt (bl (hi h (x + 1)) b 1)) (ln := nt (lenV (hi h (x + 1)) s i)) M (by omega) (by omega) F2 (fun e => by have := hq fr; rw [ev, show fpN (hi h (x + 1)) b s i w = none from e] at this; exact this) (fun k e => by have := hq fr; rw [ev, show fpN (hi h (x + 1)) b s i w = some k from e] at this; exact this) _ 0 (Nat.zero_add _) (fun j hj => absurd hj (by omega))) (by repeat' first | exact fun _ h => absurd h List.not_mem_nil | refine List.forall_mem_cons.mpr ⟨rfl, ?_⟩)
      have k80 : ∀ fr, FC (hi h (x + 1)) b w fr (fun _ => false) → Rn G (d + 4) mX9_firstPlace 80 [(0, .ref x), (1, .int (nI b)), (2, .int (nI s)), (3, .int (nI i)), (4, .int w), (5, .int (nI (nt (lenV (hi h (x + 1)) s i)))), (6, .int (nI (nt (bl (hi h (x + 1)) b 1))))] [] (ovH h (x + 5) fr) Q := by
        intro fr F
        refine x_iconst (v := nI 0) eX9_firstPlace_80 (by decide) ?_
        refine x_istore eX9_firstPlace_81 (by decide) rfl rfl ?_
        refine Rn.weak (l_X9_fp1 M W B hb rfl k197 (nt (hi h (x + 1) 1)) 0 fr (Nat.zero_add _) F) (by repeat' first | exact fun _ h => absurd h List.not_mem_nil | refine List.forall_mem_cons.mpr ⟨rfl, ?_⟩)
      have w0 := l_X9_fp0 (G := G) (d := d) (Q := Q) M W hb rfl k80 (nt (bl (hi h (x + 1)) b 1)) 0 (hi h (x + 5)) (Nat.zero_add _) (fun j hj => absurd hj (by omega))
      rw [ovH_self] at w0
      refine x_iconst (v := nI 0) eX9_firstPlace_40 (by decide) ?_
      refine x_istore eX9_firstPlace_41 (by decide) rfl rfl ?_
      refine Rn.weak (w0) (by repeat' first | exact fun _ h => absurd h List.not_mem_nil | refine List.forall_mem_cons.mpr ⟨rfl, ?_⟩)
    · refine x_iconst (v := (-1)) eX9_firstPlace_38 (by decide) ?_
      refine x_iret eX9_firstPlace_39 rfl ?_
      exact hqs (by rw [fpV, if_neg (fun z => absurd z.2 (by rw [el, eL, nI_leI (by omega) (by omega)]; omega))])
end REF16

