/-! ===== the reference: what lies where ===== -/
def fstN (P : Nat → Bool) : Nat → Option Nat
  | 0 => none
  | n + 1 => match fstN P n with
    | some i => some i
    | none => if P n then some n else none
set_option maxRecDepth 100000 in
set_option maxHeartbeats 4000000 in
theorem fstN_none {P : Nat → Bool} : ∀ {n : Nat}, (∀ j, j < n → P j = false) → fstN P n = none
  | 0, _ => rfl
  | n + 1, h => by
    unfold fstN
    rw [fstN_none (fun j hj => h j (by omega)), h n (by omega)]
    rfl
set_option maxRecDepth 100000 in
set_option maxHeartbeats 4000000 in
theorem fstN_some {P : Nat → Bool} {i : Nat} (hp : P i = true) (h : ∀ j, j < i → P j = false) : ∀ {n : Nat}, i < n → fstN P n = some i
  | 0, hn => by omega
  | n + 1, hn => by
    unfold fstN
    by_cases e : i < n
    · rw [fstN_some hp h e]
    · have e2 : i = n := by omega
      subst e2
      rw [fstN_none h, hp]
      rfl
set_option maxRecDepth 100000 in
set_option maxHeartbeats 4000000 in
theorem fstN_spec {P : Nat → Bool} : ∀ {n : Nat}, (fstN P n = none ∧ ∀ j, j < n → P j = false) ∨ ∃ i, fstN P n = some i ∧ i < n ∧ P i = true ∧ ∀ j, j < i → P j = false
  | 0 => Or.inl ⟨rfl, fun j hj => by omega⟩
  | n + 1 => by
    rcases fstN_spec (P := P) (n := n) with ⟨e, h⟩ | ⟨i, e, h1, h2, h3⟩
    · unfold fstN
      rw [e]
      cases hp : P n with
      | false => exact Or.inl ⟨rfl, fun j hj => by by_cases z : j < n; exact h j z; rw [show j = n by omega]; exact hp⟩
      | true => exact Or.inr ⟨n, rfl, by omega, hp, h⟩
    · exact Or.inr ⟨i, fstN_some h2 h3 (by omega), by omega, h2, h3⟩
def allN (P : Nat → Bool) : Nat → Bool
  | 0 => true
  | n + 1 => allN P n && P n
set_option maxRecDepth 100000 in
set_option maxHeartbeats 4000000 in
theorem allN_iff {P : Nat → Bool} : ∀ {n : Nat}, allN P n = true ↔ ∀ j, j < n → P j = true
  | 0 => ⟨fun _ j hj => by omega, fun _ => rfl⟩
  | n + 1 => by
    unfold allN
    rw [Bool.and_eq_true, allN_iff (n := n)]
    exact ⟨fun h j hj => by by_cases z : j < n; exact h.1 j z; rw [show j = n by omega]; exact h.2, fun h => ⟨fun j hj => h j (by omega), h n (by omega)⟩⟩
set_option maxRecDepth 100000 in
set_option maxHeartbeats 4000000 in
theorem allN_f {P : Nat → Bool} {i n : Nat} (hi : i < n) (hp : P i = false) : allN P n = false := by
  cases h : allN P n with
  | false => rfl
  | true => rw [allN_iff.mp h i hi] at hp; cases hp
def wornI (g : Nat → Int32) (b k : Int32) : Int32 := if isB g b && decide (0 ≤ k) && decide (k < bl g (nt b) 1) then (if k < bl g (nt b) 3 then bl g (nt b) (6 + nt k) else 0) else -1
def wornN (g : Nat → Int32) (b k : Nat) : Int32 := if k < nt (bl g b 3) then bl g b (6 + k) else 0
def onB (g : Nat → Int32) (b k : Int32) (s i : Nat) : Bool := decide (sl g s (300 + i) = b) && (decide (sl g s (340 + i) ≤ k) && decide (k < sl g s (340 + i) + lenV g s i))
def liesV (g : Nat → Int32) (b k : Int32) : Int32 := match fstN (fun s => (fstN (onB g b k s) (np g s)).isSome) (nt (g 1)) with
  | none => -1
  | some s => nI (100 * s + (fstN (onB g b k s) (np g s)).getD 0)
def bareV (g : Nat → Int32) (b : Int32) : Bool := allN (fun s => allN (fun i => !decide (sl g s (300 + i) = b)) (np g s)) (nt (g 1))
def takesV (g : Nat → Int32) (b : Nat) (p : Int32) (s i : Nat) (w : Int32) : Bool := decide (broV g s i ≤ bl g b 0) && (decide (0 ≤ p) && (decide (p ≤ bl g b 1 - lenV g s i) && allN (fun j => decide (wornN g b (nt p + j) ≤ w) && decide (liesV g (nI b) (nI (nt p + j)) = -1)) (nt (lenV g s i))))
def isPc (g : Nat → Int32) (s i : Int32) : Bool := isC g s && (decide (0 ≤ i) && decide (i < nI (np g (nt s))))
def atV (g : Nat → Int32) (s a y : Int32) : Int32 := if isS g s && (inR a 0 1 && inR y 0 (sl g (nt s) 5)) then edg g (nt s) (nt a) (nt y) else -10000
def fullV (g : Nat → Int32) (s y : Int32) : Int32 := if isC g s && inR y 0 (sl g (nt s) 5) then sumN (fun i => if y < highV g (nt s) i then 0 else sl g (nt s) (140 + i)) 0 (nt (sl g (nt s) 8) - 1) else -1
def leftV (g : Nat → Int32) (b : Int32) : Int32 := if isB g b then sumN (fun k => if liesV g b (nI k) = -1 then 1 else 0) 0 (nt (bl g (nt b) 1)) else -1
def overV (g : Nat → Int32) (b k : Int32) : Int32 := if isB g b && (decide (0 ≤ k) && decide (k < bl g (nt b) 1)) then liesV g b k else -1
def oldV (g : Nat → Int32) (b : Int32) : Int32 := if isB g b then bl g (nt b) 4 else -1
set_option maxRecDepth 100000 in
set_option maxHeartbeats 4000000 in
theorem bIf {b : Bool} (h : b = false) : bI b = nI 0 := by rw [h]; rfl
set_option maxRecDepth 100000 in
set_option maxHeartbeats 4000000 in
theorem bIt {b : Bool} (h : b = true) : bI b = nI 1 := by rw [h]; rfl
section REF4
variable {G : GG} {d : Nat} {h : AH} {Q : Option Value → AH → Prop} {x S : Nat}
set_option maxRecDepth 100000 in
set_option maxHeartbeats 4000000 in
theorem c_X9_worn {b k : Int32} (M : Md h x S) (W : GW (hi h S)) (hq : Q (some (.int (wornI (hi h S) b k))) h) : Rn G (d + 1) mX9_worn 0 [(0, .ref x), (1, .int b), (2, .int k)] [] h Q := by
  obtain ⟨hx, hS, kS, nS⟩ := id M
  first | refine x_aload_n eX9_worn_0 rfl rfl ?_ | refine x_aload_nN eX9_worn_0 rfl rfl ?_
  refine x_iload_n eX9_worn_1 rfl rfl ?_
  refine x_callV1 eX9_worn_2 lk_X9_89 (by assumption) (Nat.le_of_ble_eq_true rfl) (Nat.le_of_ble_eq_true rfl) ?_
  refine c_X9_isBolt M (fun _ => ?_)
  first | refine x_if_eqB (tgt := 22) eX9_worn_5 (by decide) (by with_reducible rfl) (fun cq1 => ?_) (fun cq1 => ?_) | refine x_if_eq (tgt := 22) eX9_worn_5 (by decide) (fun cq1 => ?_) (fun cq1 => ?_)
  · refine x_iconst (v := (-1)) eX9_worn_22 (by decide) ?_
    refine x_iret eX9_worn_23 rfl ?_
    exact qi hq (by simp [wornI, cq1])
  · obtain ⟨j, hj, rfl⟩ := isB_spec W.1 cq1
    have h24 := W.1.2.2
    obtain ⟨-, ⟨e1, l1, u1⟩, ⟨e3, l3, u3⟩⟩ := W.2.2.1 j hj
    have hnt : nt (nI j) = j := nt_nI (by omega)
    refine x_iload_n eX9_worn_8 rfl rfl ?_
    refine x_if_lt (tgt := 22) eX9_worn_9 (by decide) (fun cq2 => ?_) (fun cq2 => ?_)
    · refine x_iconst (v := (-1)) eX9_worn_22 (by decide) ?_
      refine x_iret eX9_worn_23 rfl ?_
      exact qi hq (by have : ¬ 0 ≤ k := Int32.not_le.mpr cq2; simp [wornI, this])
    · have hk0 : 0 ≤ k := Int32.not_lt.mp cq2
      refine x_iload_n eX9_worn_12 rfl rfl ?_
      first | refine x_aload_n eX9_worn_13 rfl rfl ?_ | refine x_aload_nN eX9_worn_13 rfl rfl ?_
      refine x_iload_n eX9_worn_14 rfl rfl ?_
      refine x_iconst (v := nI 1) eX9_worn_15 (by decide) ?_
      refine x_callV2 eX9_worn_16 lk_X9_92 (by assumption) (Nat.le_of_ble_eq_true rfl) (Nat.le_of_ble_eq_true rfl) ?_
      refine c_X9_bolt M (by omega) (fun _ => ?_)
      first | refine x_icmp_ltN (tgt := 24) eX9_worn_19 (by decide) (by with_reducible rfl) (by with_reducible rfl) (by omega) (by omega) (fun cq3 => ?_) (fun cq3 => ?_) | refine x_icmp_lt (tgt := 24) eX9_worn_19 (by decide) (fun cq3 => ?_) (fun cq3 => ?_)
      · have hkl : k < bl (hi h S) j 1 := cq3
        obtain ⟨m, hm, rfl⟩ := lt_nI hk0 hkl ⟨e1, Nat.zero_le _, u1⟩ (by omega)
        have hnm : nt (nI m) = m := nt_nI (by omega)
        refine x_iload_n eX9_worn_24 rfl rfl ?_
        first | refine x_aload_n eX9_worn_25 rfl rfl ?_ | refine x_aload_nN eX9_worn_25 rfl rfl ?_
        refine x_iload_n eX9_worn_26 rfl rfl ?_
        refine x_iconst (v := nI 3) eX9_worn_27 (by decide) ?_
        refine x_callV2 eX9_worn_28 lk_X9_92 (by assumption) (Nat.le_of_ble_eq_true rfl) (Nat.le_of_ble_eq_true rfl) ?_
        refine c_X9_bolt M (by omega) (fun _ => ?_)
        first | refine x_icmp_geN (tgt := 46) eX9_worn_31 (by decide) (by with_reducible rfl) (by with_reducible rfl) (by omega) (by omega) (fun cq4 => ?_) (fun cq4 => ?_) | refine x_icmp_ge (tgt := 46) eX9_worn_31 (by decide) (fun cq4 => ?_) (fun cq4 => ?_)
        · refine x_iconst (v := nI 0) eX9_worn_46 (by decide) ?_
          refine x_iret eX9_worn_47 rfl ?_
          exact qi hq (by have c4 : ¬ nI m < bl (hi h S) j 3 := Int32.not_lt.mpr cq4; simp [wornI, cq1, hnt, hkl, hk0, c4]; rfl)
        · have hk3 : nI m < bl (hi h S) j 3 := Int32.not_le.mp cq4
          first | refine x_aload_n eX9_worn_34 rfl rfl ?_ | refine x_aload_nN eX9_worn_34 rfl rfl ?_
          refine x_iload_n eX9_worn_35 rfl rfl ?_
          refine x_bipush (v := nI 6) eX9_worn_36 (by decide) ?_
          refine x_iload_n eX9_worn_38 rfl rfl ?_
          first | refine x_iaddN eX9_worn_39 (by with_reducible rfl) (by with_reducible rfl) ?_ | refine x_iadd eX9_worn_39 ?_
          refine x_callV2 eX9_worn_40 lk_X9_92 (by assumption) (Nat.le_of_ble_eq_true rfl) (Nat.le_of_ble_eq_true rfl) ?_
          refine c_X9_bolt M (by omega) (fun _ => ?_)
          refine x_goto (tgt := 47) eX9_worn_43 (by decide) ?_
          refine x_iret eX9_worn_47 rfl ?_
          exact qi hq (by simp [wornI, cq1, hnt, hnm, hkl, hk0, hk3])
      · refine x_iconst (v := (-1)) eX9_worn_22 (by decide) ?_
        refine x_iret eX9_worn_23 rfl ?_
        exact qi hq (by have c3 : ¬ k < bl (hi h S) j 1 := cq3; simp [wornI, hnt, c3])
set_option maxRecDepth 100000 in
set_option maxHeartbeats 4000000 in
theorem wornI_N {g : Nat → Int32} (W : GW g) {b k : Nat} (hb : b < nt (g 0)) (hk : k < nt (bl g b 1)) : wornI g (nI b) (nI k) = wornN g b k := by
  have h24 := W.1.2.2
  obtain ⟨-, ⟨e1, l1, u1⟩, ⟨e3, l3, u3⟩⟩ := W.2.2.1 b hb
  have hnt : nt (nI b) = b := nt_nI (by omega)
  have hnk : nt (nI k) = k := nt_nI (by omega)
  have a1 : isB g (nI b) = true := by
    unfold isB
    rw [W.1.1]
    simp [nI_pos' (show b < 2 ^ 31 by omega), (nI_ltI (show b < 2 ^ 31 by omega) (show nt (g 0) < 2 ^ 31 by omega)).mpr hb]
  have a2 : nI k < bl g b 1 := by rw [e1]; exact (nI_ltI (by omega) (by omega)).mpr hk
  unfold wornI wornN
  rw [hnt, hnk, a1]
  have a3 : (nI k < bl g b 3) ↔ k < nt (bl g b 3) := by rw [e3]; rw [nI_ltI (by omega) (by omega)]; rw [nt_nI (by omega)]
  simp [nI_pos' (show k < 2 ^ 31 by omega), a2, a3]
set_option maxRecDepth 100000 in
set_option maxHeartbeats 4000000 in
theorem c_X9_wornN {b k : Nat} (M : Md h x S) (W : GW (hi h S)) (hb : b < nt (hi h S 0)) (hk : k < nt (bl (hi h S) b 1)) (hq : Q (some (.int (wornN (hi h S) b k))) h) : Rn G (d + 1) mX9_worn 0 [(0, .ref x), (1, .int (nI b)), (2, .int (nI k))] [] h Q := c_X9_worn M W (qi hq (wornI_N W hb hk))
set_option maxRecDepth 100000 in
set_option maxHeartbeats 4000000 in
theorem l_X9_lies_in {b k : Int32} {s : Nat} (M : Md h x S) (W : GW (hi h S)) (hs : s < nt (hi h S 1))
    (kr : ∀ i, i < np (hi h S) s → onB (hi h S) b k s i = true → (∀ j, j < i → onB (hi h S) b k s j = false) → Q (some (.int (nI (100 * s + i)))) h)
    (kx : (∀ j, j < np (hi h S) s → onB (hi h S) b k s j = false) → Rn G (d + 4) mX9_lies 2 [(0, .ref x), (1, .int b), (2, .int k), (3, .int (nI (s + 1)))] [] h Q) :
    ∀ (n i : Nat), i + n = np (hi h S) s → (∀ j, j < i → onB (hi h S) b k s j = false) → Rn G (d + 4) mX9_lies 15 [(0, .ref x), (1, .int b), (2, .int k), (3, .int (nI s)), (4, .int (nI i))] [] h Q := by
  have w := W.2.2.2 s hs
  have hs10 : s < 10 := by have := W.2.1.2.2; omega
  have hnp : np (hi h S) s ≤ 40 := w.2.2.2.2.1
  intro n
  induction n with
  | zero =>
    intro i hi0 hno
    obtain ⟨hx, hS, kS, nS⟩ := id M
    refine x_iload eX9_lies_15 rfl ?_
    first | refine x_aload_n eX9_lies_17 rfl rfl ?_ | refine x_aload_nN eX9_lies_17 rfl rfl ?_
    refine x_iload_n eX9_lies_18 rfl rfl ?_
    refine x_callV1 eX9_lies_19 lk_X9_82 (by assumption) (Nat.le_of_ble_eq_true rfl) (Nat.le_of_ble_eq_true rfl) ?_
    refine Rn.deep (c_X9_piecesN (d := d) M hs10 w (fun _ => ?_)) (by omega)
    first | refine x_icmp_geN (tgt := 92) eX9_lies_22 (by decide) (by with_reducible rfl) (by with_reducible rfl) (by omega) (by omega) (fun cq1 => ?_) (fun cq1 => ?_) | refine x_icmp_ge (tgt := 92) eX9_lies_22 (by decide) (fun cq1 => ?_) (fun cq1 => ?_)
    · first | refine x_iincN eX9_lies_92 rfl (by with_reducible rfl) (by decide) rfl rfl ?_ | refine x_iinc eX9_lies_92 rfl rfl (by decide) rfl rfl ?_
      refine x_goto (tgt := 2) eX9_lies_95 (by decide) ?_
      refine Rn.weak (kx (fun j hj => hno j (by omega))) (by repeat' first | exact fun _ h => absurd h List.not_mem_nil | refine List.forall_mem_cons.mpr ⟨rfl, ?_⟩)
    · exact absurd cq1 (by omega)
  | succ n ih =>
    intro i hi0 hno
    obtain ⟨hx, hS, kS, nS⟩ := id M
    have next : onB (hi h S) b k s i = false → Rn G (d + 4) mX9_lies 86 [(0, .ref x), (1, .int b), (2, .int k), (3, .int (nI s)), (4, .int (nI i))] [] h Q := by
      intro hf
      first | refine x_iincN eX9_lies_86 rfl (by with_reducible rfl) (by decide) rfl rfl ?_ | refine x_iinc eX9_lies_86 rfl rfl (by decide) rfl rfl ?_
      refine x_goto (tgt := 15) eX9_lies_89 (by decide) ?_
      refine Rn.weak (ih (i + 1) (by omega) (fun j hj => by by_cases z : j < i; exact hno j z; rw [show j = i by omega]; exact hf)) (by repeat' first | exact fun _ h => absurd h List.not_mem_nil | refine List.forall_mem_cons.mpr ⟨rfl, ?_⟩)
    refine x_iload eX9_lies_15 rfl ?_
    first | refine x_aload_n eX9_lies_17 rfl rfl ?_ | refine x_aload_nN eX9_lies_17 rfl rfl ?_
    refine x_iload_n eX9_lies_18 rfl rfl ?_
    refine x_callV1 eX9_lies_19 lk_X9_82 (by assumption) (Nat.le_of_ble_eq_true rfl) (Nat.le_of_ble_eq_true rfl) ?_
    refine Rn.deep (c_X9_piecesN (d := d) M hs10 w (fun _ => ?_)) (by omega)
    first | refine x_icmp_geN (tgt := 92) eX9_lies_22 (by decide) (by with_reducible rfl) (by with_reducible rfl) (by omega) (by omega) (fun cq1 => ?_) (fun cq1 => ?_) | refine x_icmp_ge (tgt := 92) eX9_lies_22 (by decide) (fun cq1 => ?_) (fun cq1 => ?_)
    · exact absurd cq1 (by omega)
    · first | refine x_aload_n eX9_lies_25 rfl rfl ?_ | refine x_aload_nN eX9_lies_25 rfl rfl ?_
      refine x_iload_n eX9_lies_26 rfl rfl ?_
      refine x_sipush (v := nI 300) eX9_lies_27 (by decide) ?_
      refine x_iload eX9_lies_30 rfl ?_
      first | refine x_iaddN eX9_lies_32 (by with_reducible rfl) (by with_reducible rfl) ?_ | refine x_iadd eX9_lies_32 ?_
      refine x_callV2 eX9_lies_33 lk_X9_57 (by assumption) (Nat.le_of_ble_eq_true rfl) (Nat.le_of_ble_eq_true rfl) ?_
      refine Rn.deep (c_X9_sail (d := d) M (by omega) (fun _ => ?_)) (by omega)
      refine x_iload_n eX9_lies_36 rfl rfl ?_
      first | refine x_icmp_neN (tgt := 86) eX9_lies_37 (by decide) (by with_reducible rfl) (by with_reducible rfl) (by omega) (by omega) (fun cq2 => ?_) (fun cq2 => ?_) | refine x_icmp_ne (tgt := 86) eX9_lies_37 (by decide) (fun cq2 => ?_) (fun cq2 => ?_)
      · refine Rn.weak (next (by have c2 : ¬ sl (hi h S) s (300 + i) = b := cq2; simp [onB, c2])) (by repeat' first | exact fun _ h => absurd h List.not_mem_nil | refine List.forall_mem_cons.mpr ⟨rfl, ?_⟩)
      · have c2 : sl (hi h S) s (300 + i) = b := cq2
        refine x_iload_n eX9_lies_40 rfl rfl ?_
        first | refine x_aload_n eX9_lies_41 rfl rfl ?_ | refine x_aload_nN eX9_lies_41 rfl rfl ?_
        refine x_iload_n eX9_lies_42 rfl rfl ?_
        refine x_sipush (v := nI 340) eX9_lies_43 (by decide) ?_
        refine x_iload eX9_lies_46 rfl ?_
        first | refine x_iaddN eX9_lies_48 (by with_reducible rfl) (by with_reducible rfl) ?_ | refine x_iadd eX9_lies_48 ?_
        refine x_callV2 eX9_lies_49 lk_X9_57 (by assumption) (Nat.le_of_ble_eq_true rfl) (Nat.le_of_ble_eq_true rfl) ?_
        refine Rn.deep (c_X9_sail (d := d) M (by omega) (fun _ => ?_)) (by omega)
        first | refine x_icmp_ltN (tgt := 86) eX9_lies_52 (by decide) (by with_reducible rfl) (by with_reducible rfl) (by omega) (by omega) (fun cq3 => ?_) (fun cq3 => ?_) | refine x_icmp_lt (tgt := 86) eX9_lies_52 (by decide) (fun cq3 => ?_) (fun cq3 => ?_)
        · refine Rn.weak (next (by have c3 : ¬ sl (hi h S) s (340 + i) ≤ k := Int32.not_le.mpr cq3; simp [onB, c3])) (by repeat' first | exact fun _ h => absurd h List.not_mem_nil | refine List.forall_mem_cons.mpr ⟨rfl, ?_⟩)
        · have c3 : sl (hi h S) s (340 + i) ≤ k := Int32.not_lt.mp cq3
          refine x_iload_n eX9_lies_55 rfl rfl ?_
          first | refine x_aload_n eX9_lies_56 rfl rfl ?_ | refine x_aload_nN eX9_lies_56 rfl rfl ?_
          refine x_iload_n eX9_lies_57 rfl rfl ?_
          refine x_sipush (v := nI 340) eX9_lies_58 (by decide) ?_
          refine x_iload eX9_lies_61 rfl ?_
          first | refine x_iaddN eX9_lies_63 (by with_reducible rfl) (by with_reducible rfl) ?_ | refine x_iadd eX9_lies_63 ?_
          refine x_callV2 eX9_lies_64 lk_X9_57 (by assumption) (Nat.le_of_ble_eq_true rfl) (Nat.le_of_ble_eq_true rfl) ?_
          refine Rn.deep (c_X9_sail (d := d) M (by omega) (fun _ => ?_)) (by omega)
          first | refine x_aload_n eX9_lies_67 rfl rfl ?_ | refine x_aload_nN eX9_lies_67 rfl rfl ?_
          refine x_iload_n eX9_lies_68 rfl rfl ?_
          refine x_iload eX9_lies_69 rfl ?_
          refine x_callV2 eX9_lies_71 lk_X9_86 (by assumption) (Nat.le_of_ble_eq_true rfl) (Nat.le_of_ble_eq_true rfl) ?_
          refine c_X9_length M hs10 (by omega) w (fun _ => ?_)
          first | refine x_iaddN eX9_lies_74 (by with_reducible rfl) (by with_reducible rfl) ?_ | refine x_iadd eX9_lies_74 ?_
          first | refine x_icmp_geN (tgt := 86) eX9_lies_75 (by decide) (by with_reducible rfl) (by with_reducible rfl) (by omega) (by omega) (fun cq4 => ?_) (fun cq4 => ?_) | refine x_icmp_ge (tgt := 86) eX9_lies_75 (by decide) (fun cq4 => ?_) (fun cq4 => ?_)
          · refine Rn.weak (next (by have c4 : ¬ k < sl (hi h S) s (340 + i) + lenV (hi h S) s i := Int32.not_lt.mpr cq4; simp [onB, c4])) (by repeat' first | exact fun _ h => absurd h List.not_mem_nil | refine List.forall_mem_cons.mpr ⟨rfl, ?_⟩)
          · have c4 : k < sl (hi h S) s (340 + i) + lenV (hi h S) s i := Int32.not_le.mp cq4
            refine x_bipush (v := nI 100) eX9_lies_78 (by decide) ?_
            refine x_iload_n eX9_lies_80 rfl rfl ?_
            first | refine x_imulN eX9_lies_81 (by with_reducible rfl) (by with_reducible rfl) ?_ | refine x_imul eX9_lies_81 ?_
            refine x_iload eX9_lies_82 rfl ?_
            first | refine x_iaddN eX9_lies_84 (by with_reducible rfl) (by with_reducible rfl) ?_ | refine x_iadd eX9_lies_84 ?_
            refine x_iret eX9_lies_85 rfl ?_
            exact kr i (by omega) (by simp [onB, c2, c3, c4]) hno
set_option maxRecDepth 100000 in
set_option maxHeartbeats 4000000 in
theorem c_X9_lies {b k : Int32} (M : Md h x S) (W : GW (hi h S)) (hq : Q (some (.int (liesV (hi h S) b k))) h) : Rn G (d + 4) mX9_lies 0 [(0, .ref x), (1, .int b), (2, .int k)] [] h Q := by
  obtain ⟨e1, l1, u1⟩ := W.2.1
  have out : ∀ (m s : Nat), s + m = nt (hi h S 1) → (∀ t, t < s → ∀ j, j < np (hi h S) t → onB (hi h S) b k t j = false) → Rn G (d + 4) mX9_lies 2 [(0, .ref x), (1, .int b), (2, .int k), (3, .int (nI s))] [] h Q := by
    intro m
    induction m with
    | zero =>
      intro s hs hno
      obtain ⟨hx, hS, kS, nS⟩ := id M
      refine x_iload_n eX9_lies_2 rfl rfl ?_
      first | refine x_aload_n eX9_lies_3 rfl rfl ?_ | refine x_aload_nN eX9_lies_3 rfl rfl ?_
      first | refine x_getR eX9_lies_4 fk_X9_7 rfl (by assumption) (by assumption) ?_ | refine x_getN eX9_lies_4 fk_X9_7 rfl (by assumption) (by assumption) ?_
      refine x_iconst (v := nI 1) eX9_lies_7 (by decide) ?_
      first | refine x_ialdN eX9_lies_8 (by with_reducible rfl) (by assumption) (by assumption) (by omega) (by omega) ?_ | refine x_sldN eX9_lies_8 (by with_reducible rfl) (by assumption) (by assumption) (by omega) (by omega) ?_ | refine x_iald eX9_lies_8 (by assumption) (by assumption) ?_
      rw [e1]
      first | refine x_icmp_geN (tgt := 98) eX9_lies_9 (by decide) (by with_reducible rfl) (by with_reducible rfl) (by omega) (by omega) (fun cq1 => ?_) (fun cq1 => ?_) | refine x_icmp_ge (tgt := 98) eX9_lies_9 (by decide) (fun cq1 => ?_) (fun cq1 => ?_)
      · refine x_iconst (v := (-1)) eX9_lies_98 (by decide) ?_
        refine x_iret eX9_lies_99 rfl ?_
        refine qi hq ?_
        unfold liesV
        rw [fstN_none (fun t ht => by rw [fstN_none (hno t (by omega))]; rfl)]
      · exact absurd cq1 (by omega)
    | succ m ih =>
      intro s hs hno
      obtain ⟨hx, hS, kS, nS⟩ := id M
      refine x_iload_n eX9_lies_2 rfl rfl ?_
      first | refine x_aload_n eX9_lies_3 rfl rfl ?_ | refine x_aload_nN eX9_lies_3 rfl rfl ?_
      first | refine x_getR eX9_lies_4 fk_X9_7 rfl (by assumption) (by assumption) ?_ | refine x_getN eX9_lies_4 fk_X9_7 rfl (by assumption) (by assumption) ?_
      refine x_iconst (v := nI 1) eX9_lies_7 (by decide) ?_
      first | refine x_ialdN eX9_lies_8 (by with_reducible rfl) (by assumption) (by assumption) (by omega) (by omega) ?_ | refine x_sldN eX9_lies_8 (by with_reducible rfl) (by assumption) (by assumption) (by omega) (by omega) ?_ | refine x_iald eX9_lies_8 (by assumption) (by assumption) ?_
      rw [e1]
      first | refine x_icmp_geN (tgt := 98) eX9_lies_9 (by decide) (by with_reducible rfl) (by with_reducible rfl) (by omega) (by omega) (fun cq1 => ?_) (fun cq1 => ?_) | refine x_icmp_ge (tgt := 98) eX9_lies_9 (by decide) (fun cq1 => ?_) (fun cq1 => ?_)
      · exact absurd cq1 (by omega)
      · refine x_iconst (v := nI 0) eX9_lies_12 (by decide) ?_
        refine x_istore eX9_lies_13 (by decide) rfl rfl ?_
        refine Rn.weak (l_X9_lies_in (s := s) (b := b) (k := k) M W (by omega) (fun i hi0 hp hf => ?_) (fun hf => ih (s + 1) (by omega) (fun t ht => ?_)) (np (hi h S) s) 0 (by omega) (fun j hj => absurd hj (by omega))) (by repeat' first | exact fun _ h => absurd h List.not_mem_nil | refine List.forall_mem_cons.mpr ⟨rfl, ?_⟩)
        · have hin := fstN_some hp hf hi0
          refine qi hq ?_
          unfold liesV
          rw [fstN_some (i := s) (by rw [hin]; rfl) (fun t ht => by rw [fstN_none (hno t ht)]; rfl) (by omega)]
          simp only [hin, Option.getD_some]
        · by_cases z : t < s
          · exact hno t z
          · rw [show t = s by omega]
            exact hf
  refine x_iconst (v := nI 0) eX9_lies_0 (by decide) ?_
  refine x_istore_n eX9_lies_1 rfl (by decide) rfl rfl ?_
  refine Rn.weak (out (nt (hi h S 1)) 0 (by omega) (fun t ht => absurd ht (by omega))) (by repeat' first | exact fun _ h => absurd h List.not_mem_nil | refine List.forall_mem_cons.mpr ⟨rfl, ?_⟩)
end REF4

