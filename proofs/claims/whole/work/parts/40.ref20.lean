/-! ===== the reference: fewest ===== -/
/-- the loose pieces of a sail -/
def lsP (g : Nat → Int32) (s i : Nat) : Bool := decide (sl g s (300 + i) = -1)
def loV (g : Nat → Int32) (s j : Nat) : Nat := (fstN (fun i => lsP g s i && decide (cntN (lsP g s) i = j)) 40).getD 0
set_option maxRecDepth 100000 in
set_option maxHeartbeats 4000000 in
theorem cntN_up {P : Nat → Bool} {i : Nat} (hp : P i = true) : ∀ {n : Nat}, i < n → cntN P i < cntN P n
  | 0, h => by omega
  | n + 1, h => by
    rw [cntN]
    by_cases z : i = n
    · subst z
      rw [if_pos hp]
      omega
    · have := cntN_up hp (n := n) (by omega)
      omega
set_option maxRecDepth 100000 in
set_option maxHeartbeats 4000000 in
theorem loV_eq {g : Nat → Int32} {s i : Nat} (h40 : i < 40) (hp : lsP g s i = true) : loV g s (cntN (lsP g s) i) = i := by
  unfold loV
  rw [fstN_some (i := i) (by rw [hp]; simp) (fun j hj => ?_) h40]
  · rfl
  · cases hpj : lsP g s j with
    | false => rfl
    | true =>
      have := cntN_up hpj hj
      rw [decide_eq_false (by omega)]
      rfl
/-- the fewest for T, once the sets below n are tried on one bolt more -/
def mnS (fit : Nat → Bool) (B : Nat → Nat) (T : Nat) : Nat → Nat
  | 0 => B T
  | S + 1 => if S ≠ 0 ∧ fit S = true ∧ T &&& S = S then min (mnS fit B T S) (1 + B (T &&& (255 ^^^ S))) else mnS fit B T S
set_option maxRecDepth 100000 in
set_option maxHeartbeats 4000000 in
theorem mnS_le (fit : Nat → Bool) (B : Nat → Nat) (T : Nat) : ∀ n, mnS fit B T n ≤ B T
  | 0 => Nat.le_refl _
  | S + 1 => by
    have := mnS_le fit B T S
    unfold mnS
    split
    · exact Nat.le_trans (Nat.min_le_left _ _) this
    · exact this
/-- a bolt that is bare and nowhere worn beyond w -/
def okB (g : Nat → Int32) (b : Nat) (w : Int32) : Bool := bareV g (nI b) && allN (fun k => decide (wornN g b k ≤ w)) (nt (bl g b 1))
/-- the fewest of the first bolts, for each set of loose pieces -/
def ftL (g : Nat → Int32) (s : Nat) (w : Int32) (c : Nat) : Nat → Nat → Nat
  | 0 => fun T => if T = 0 then 0 else 99
  | b + 1 => if okB g b w then fun T => mnS (fun S => fitV g b s (loV g s) S c) (ftL g s w c b) T (2 ^ c) else ftL g s w c b
set_option maxRecDepth 100000 in
set_option maxHeartbeats 4000000 in
theorem ftL_le (g : Nat → Int32) (s : Nat) (w : Int32) (c : Nat) : ∀ b T, ftL g s w c b T ≤ 99
  | 0, T => by
    show (if T = 0 then 0 else 99) ≤ 99
    split <;> omega
  | b + 1, T => by
    unfold ftL
    split
    · exact Nat.le_trans (mnS_le _ _ _ _) (ftL_le g s w c b T)
    · exact ftL_le g s w c b T
def fewV (g : Nat → Int32) (s w : Int32) : Int32 := if isC g s && (inR w 0 100 && (decide (cntN (lsP g (nt s)) (np g (nt s)) ≤ 8) && decide (ftL g (nt s) w (cntN (lsP g (nt s)) (np g (nt s))) (nt (g 0)) (2 ^ cntN (lsP g (nt s)) (np g (nt s)) - 1) ≤ 24))) then nI (ftL g (nt s) w (cntN (lsP g (nt s)) (np g (nt s))) (nt (g 0)) (2 ^ cntN (lsP g (nt s)) (np g (nt s)) - 1)) else -1
/-- the two tables -/
def mbH (h : AH) (x : Nat) (m b : Nat → Int32) : AH := ovH (ovH h (x + 7) m) (x + 8) b
set_option maxRecDepth 100000 in
set_option maxHeartbeats 4000000 in
theorem mb_7 (h : AH) (x : Nat) (m b : Nat → Int32) : hi (mbH h x m b) (x + 7) = m := by
  unfold mbH
  rw [ovH_ne _ _ (by omega), ovH_b]
set_option maxRecDepth 100000 in
set_option maxHeartbeats 4000000 in
theorem mb_8 (h : AH) (x : Nat) (m b : Nat → Int32) : hi (mbH h x m b) (x + 8) = b := ovH_b _ _ _
set_option maxRecDepth 100000 in
set_option maxHeartbeats 4000000 in
theorem mb_ne (h : AH) {x a : Nat} (m b : Nat → Int32) (h1 : a ≠ x + 7) (h2 : a ≠ x + 8) : hi (mbH h x m b) a = hi h a := by
  unfold mbH
  rw [ovH_ne _ _ h2, ovH_ne _ _ h1]
set_option maxRecDepth 100000 in
set_option maxHeartbeats 4000000 in
theorem mb_self (h : AH) (x : Nat) : mbH h x (hi h (x + 7)) (hi h (x + 8)) = h := by
  unfold mbH
  rw [ovH_self, ovH_self]
set_option maxRecDepth 100000 in
set_option maxHeartbeats 4000000 in
theorem mb_w8 (h : AH) (x k : Nat) (m b : Nat → Int32) (v : Int32) : wi (mbH h x m b) (x + 8) k v = mbH h x m (upd0 b k v) := ovH_wi _ _ _ _ _
set_option maxRecDepth 100000 in
set_option maxHeartbeats 4000000 in
theorem mb_w7 (h : AH) (x k : Nat) (m b : Nat → Int32) (v : Int32) : wi (mbH h x m b) (x + 7) k v = mbH h x (upd0 m k v) b := by
  show setI h (up2 (ovF (ovF (hi h) (x + 7) m) (x + 8) b) (x + 7) k v) = setI h (ovF (ovF (hi h) (x + 7) (upd0 m k v)) (x + 8) b)
  congr 1
  funext q j
  unfold up2 ovF upd0
  by_cases z : q = x + 7
  · subst z
    by_cases y : j = k <;> simp [y]
  · simp [z]
section REF20
variable {G : GG} {d : Nat} {h : AH} {Q : Option Value → AH → Prop} {x la kp : Nat}
set_option maxRecDepth 100000 in
set_option maxHeartbeats 4000000 in
theorem l_X9_few0 {s : Nat} {w : Int32} (M : MD h x) (hs : s < 10) (sw : SW (hi h (x + 1)) s) (kx : ∀ v, (∀ j, j < cntN (lsP (hi h (x + 1)) s) (np (hi h (x + 1)) s) → j < 8 → v j = nI (loV (hi h (x + 1)) s j) ∧ loV (hi h (x + 1)) s j < 40) → Rn G (d + 5) mX9_fewest 76 [(0, .ref x), (1, .int (nI s)), (2, .int w), (3, .int (nI (cntN (lsP (hi h (x + 1)) s) (np (hi h (x + 1)) s))))] [] (ovH h (x + 6) v) Q) : ∀ n i v, i + n = np (hi h (x + 1)) s → (∀ j, j < cntN (lsP (hi h (x + 1)) s) i → j < 8 → v j = nI (loV (hi h (x + 1)) s j) ∧ loV (hi h (x + 1)) s j < 40) → Rn G (d + 5) mX9_fewest 25 [(0, .ref x), (1, .int (nI s)), (2, .int w), (3, .int (nI (cntN (lsP (hi h (x + 1)) s) i))), (4, .int (nI i))] [] (ovH h (x + 6) v) Q := by
  have h40 : np (hi h (x + 1)) s ≤ 40 := sw.2.2.2.2.1
  intro n
  induction n with
  | zero =>
    intro i v hi0 hall
    have e : i = np (hi h (x + 1)) s := by omega
    have M2 : MD (ovH h (x + 6) v) x := M
    have e1 := ovH_ne h v (show x + 1 ≠ x + 6 by omega)
    obtain ⟨⟨hx, hS, kS, nS⟩, -⟩ := id M2
    rw [e] at hall
    refine x_iload eX9_fewest_25 rfl ?_
    first | refine x_aload_n eX9_fewest_27 rfl rfl ?_ | refine x_aload_nN eX9_fewest_27 rfl rfl ?_
    refine x_iload_n eX9_fewest_28 rfl rfl ?_
    refine x_callV1 eX9_fewest_29 lk_X9_82 (by assumption) (Nat.le_of_ble_eq_true rfl) (Nat.le_of_ble_eq_true rfl) ?_
    refine Rn.deep (c_X9_piecesN (d := d) M2.md hs (by rw [e1]; exact sw) (fun _ => ?_)) (by omega)
    rw [e1]
    first | refine x_icmp_geN (tgt := 76) eX9_fewest_32 (by decide) (by with_reducible rfl) (by with_reducible rfl) (by omega) (by omega) (fun cq1 => ?_) (fun cq1 => ?_) | refine x_icmp_ge (tgt := 76) eX9_fewest_32 (by decide) (fun cq1 => ?_) (fun cq1 => ?_)
    · rw [e]
      refine Rn.weak (kx v hall) (by repeat' first | exact fun _ h => absurd h List.not_mem_nil | refine List.forall_mem_cons.mpr ⟨rfl, ?_⟩)
    · exact absurd cq1 (by omega)
  | succ n ih =>
    intro i v hi0 hall
    have M2 : MD (ovH h (x + 6) v) x := M
    have e1 := ovH_ne h v (show x + 1 ≠ x + 6 by omega)
    obtain ⟨⟨hx, hS, kS, nS⟩, -, -, -, -, ⟨h7, k7, n7⟩, -⟩ := id M2
    have hcl := cntN_le (lsP (hi h (x + 1)) s) i
    refine x_iload eX9_fewest_25 rfl ?_
    first | refine x_aload_n eX9_fewest_27 rfl rfl ?_ | refine x_aload_nN eX9_fewest_27 rfl rfl ?_
    refine x_iload_n eX9_fewest_28 rfl rfl ?_
    refine x_callV1 eX9_fewest_29 lk_X9_82 (by assumption) (Nat.le_of_ble_eq_true rfl) (Nat.le_of_ble_eq_true rfl) ?_
    refine Rn.deep (c_X9_piecesN (d := d) M2.md hs (by rw [e1]; exact sw) (fun _ => ?_)) (by omega)
    rw [e1]
    first | refine x_icmp_geN (tgt := 76) eX9_fewest_32 (by decide) (by with_reducible rfl) (by with_reducible rfl) (by omega) (by omega) (fun cq1 => ?_) (fun cq1 => ?_) | refine x_icmp_ge (tgt := 76) eX9_fewest_32 (by decide) (fun cq1 => ?_) (fun cq1 => ?_)
    · exact absurd cq1 (by omega)
    · first | refine x_aload_n eX9_fewest_35 rfl rfl ?_ | refine x_aload_nN eX9_fewest_35 rfl rfl ?_
      refine x_iload_n eX9_fewest_36 rfl rfl ?_
      refine x_sipush (v := nI 300) eX9_fewest_37 (by decide) ?_
      refine x_iload eX9_fewest_40 rfl ?_
      first | refine x_iaddN eX9_fewest_42 (by with_reducible rfl) (by with_reducible rfl) ?_ | refine x_iadd eX9_fewest_42 ?_
      refine x_callV2 eX9_fewest_43 lk_X9_57 (by assumption) (Nat.le_of_ble_eq_true rfl) (Nat.le_of_ble_eq_true rfl) ?_
      refine Rn.deep (c_X9_sail (d := d) M2.md (by omega) (fun _ => ?_)) (by omega)
      rw [e1]
      refine x_iconst (v := (-1)) eX9_fewest_46 (by decide) ?_
      first | refine x_icmp_eqN (tgt := 53) eX9_fewest_47 (by decide) (by with_reducible rfl) (by with_reducible rfl) (by omega) (by omega) (fun cq2 => ?_) (fun cq2 => ?_) | refine x_icmp_eq (tgt := 53) eX9_fewest_47 (by decide) (fun cq2 => ?_) (fun cq2 => ?_)
      · have c2 : lsP (hi h (x + 1)) s i = true := decide_eq_true cq2
        have ec : cntN (lsP (hi h (x + 1)) s) (i + 1) = cntN (lsP (hi h (x + 1)) s) i + 1 := by rw [cntN, if_pos c2]
        have el := loV_eq (show i < 40 by omega) c2
        refine x_iload_n eX9_fewest_53 rfl rfl ?_
        refine x_bipush (v := nI 8) eX9_fewest_54 (by decide) ?_
        first | refine x_icmp_geN (tgt := 67) eX9_fewest_56 (by decide) (by with_reducible rfl) (by with_reducible rfl) (by omega) (by omega) (fun cq3 => ?_) (fun cq3 => ?_) | refine x_icmp_ge (tgt := 67) eX9_fewest_56 (by decide) (fun cq3 => ?_) (fun cq3 => ?_)
        · have iw := ih (i + 1) v (by omega) (fun j hj h8 => hall j (by omega) h8)
          rw [ec] at iw
          first | refine x_iincN eX9_fewest_67 rfl (by with_reducible rfl) (by decide) rfl rfl ?_ | refine x_iinc eX9_fewest_67 rfl rfl (by decide) rfl rfl ?_
          first | refine x_iincN eX9_fewest_70 rfl (by with_reducible rfl) (by decide) rfl rfl ?_ | refine x_iinc eX9_fewest_70 rfl rfl (by decide) rfl rfl ?_
          refine x_goto (tgt := 25) eX9_fewest_73 (by decide) ?_
          refine Rn.weak (iw) (by repeat' first | exact fun _ h => absurd h List.not_mem_nil | refine List.forall_mem_cons.mpr ⟨rfl, ?_⟩)
        · have iw := ih (i + 1) (upd0 v (cntN (lsP (hi h (x + 1)) s) i) (nI i)) (by omega) (fun j hj h8 => by
            by_cases z : j = cntN (lsP (hi h (x + 1)) s) i
            · rw [z, upd0_same, el]
              exact ⟨rfl, by omega⟩
            · rw [upd0_ne z]
              exact hall j (by omega) h8)
          rw [ec] at iw
          first | refine x_aload_n eX9_fewest_59 rfl rfl ?_ | refine x_aload_nN eX9_fewest_59 rfl rfl ?_
          first | refine x_getR eX9_fewest_60 fk_X9_27 rfl (by assumption) (by assumption) ?_ | refine x_getN eX9_fewest_60 fk_X9_27 rfl (by assumption) (by assumption) ?_
          refine x_iload_n eX9_fewest_63 rfl rfl ?_
          refine x_iload eX9_fewest_64 rfl ?_
          first | refine x_iastN eX9_fewest_66 (by with_reducible rfl) (by assumption) (by assumption) (by omega) (by omega) ?_ | refine x_iast eX9_fewest_66 (by assumption) (by assumption) ?_
          first | refine x_iincN eX9_fewest_67 rfl (by with_reducible rfl) (by decide) rfl rfl ?_ | refine x_iinc eX9_fewest_67 rfl rfl (by decide) rfl rfl ?_
          first | refine x_iincN eX9_fewest_70 rfl (by with_reducible rfl) (by decide) rfl rfl ?_ | refine x_iinc eX9_fewest_70 rfl rfl (by decide) rfl rfl ?_
          refine x_goto (tgt := 25) eX9_fewest_73 (by decide) ?_
          rw [ovH_wi]
          refine Rn.weak (iw) (by repeat' first | exact fun _ h => absurd h List.not_mem_nil | refine List.forall_mem_cons.mpr ⟨rfl, ?_⟩)
      · have c2 : lsP (hi h (x + 1)) s i = false := decide_eq_false cq2
        have ec : cntN (lsP (hi h (x + 1)) s) (i + 1) = cntN (lsP (hi h (x + 1)) s) i := by rw [cntN, c2]; rfl
        have iw := ih (i + 1) v (by omega) (fun j hj h8 => hall j (by omega) h8)
        rw [ec] at iw
        refine x_goto (tgt := 70) eX9_fewest_50 (by decide) ?_
        first | refine x_iincN eX9_fewest_70 rfl (by with_reducible rfl) (by decide) rfl rfl ?_ | refine x_iinc eX9_fewest_70 rfl rfl (by decide) rfl rfl ?_
        refine x_goto (tgt := 25) eX9_fewest_73 (by decide) ?_
        refine Rn.weak (iw) (by repeat' first | exact fun _ h => absurd h List.not_mem_nil | refine List.forall_mem_cons.mpr ⟨rfl, ?_⟩)
end REF20

