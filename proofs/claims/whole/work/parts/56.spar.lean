/-! ===== the class: the mast and the wind ===== -/
/-- while forces and tried reefs change: f the forces, t the tried reef of each sail (by its address) -/
def hoH (h : AH) (c : Nat) (f : Nat → Int64) (t : Nat → Int32) : AH := (h.1, h.2.1, (fun q j => if hk h q = 4 ∧ j = 12 then t q else hi h q j), h.2.2.2.1, (fun q j => if q = c then f j else hl h q j), h.2.2.2.2.2)
section HO
variable {h : AH} {c : Nat} {f : Nat → Int64} {t : Nat → Int32} {a k : Nat}
set_option maxRecDepth 100000 in
set_option maxHeartbeats 4000000 in
theorem ho_self (h : AH) (c : Nat) : hoH h c (hl h c) (fun q => hi h q 12) = h := by
  have e1 : (fun q j => if hk h q = 4 ∧ j = 12 then hi h q 12 else hi h q j) = hi h := funext fun q => funext fun j => by
    by_cases z : hk h q = 4 ∧ j = 12
    · rw [if_pos z, z.2]
    · rw [if_neg z]
  have e2 : (fun q j => if q = c then hl h c j else hl h q j) = hl h := funext fun q => funext fun j => by
    by_cases z : q = c
    · rw [if_pos z, z]
    · rw [if_neg z]
  unfold hoH
  rw [e1, e2]
  rfl
set_option maxRecDepth 100000 in
set_option maxHeartbeats 4000000 in
theorem ho_wl (v : Int64) : wl (hoH h c f t) c k v = hoH h c (upd0 f k v) t := by
  have e : up2 (fun q j => if q = c then f j else hl h q j) c k v = fun q j => if q = c then upd0 f k v j else hl h q j := funext fun q => funext fun j => by
    unfold up2 upd0
    dsimp only
    by_cases z : q = c
    · by_cases y : j = k
      · rw [if_pos ⟨z, y⟩, if_pos z, if_pos y]
      · rw [if_neg (fun w => y w.2), if_pos z, if_pos z, if_neg y]
    · rw [if_neg (fun w => z w.1), if_neg z, if_neg z]
  unfold wl
  show (_, _, _, _, up2 (fun q j => if q = c then f j else hl h q j) c k v, _) = _
  rw [e]
  rfl
set_option maxRecDepth 100000 in
set_option maxHeartbeats 4000000 in
theorem ho_wi (ha : hk h a = 4) (v : Int32) : wi (hoH h c f t) a 12 v = hoH h c f (upd0 t a v) := by
  have e : up2 (fun q j => if hk h q = 4 ∧ j = 12 then t q else hi h q j) a 12 v = fun q j => if hk h q = 4 ∧ j = 12 then upd0 t a v q else hi h q j := funext fun q => funext fun j => by
    unfold up2 upd0
    dsimp only
    by_cases z : q = a
    · subst z
      by_cases y : j = 12
      · rw [if_pos ⟨rfl, y⟩, if_pos ⟨ha, y⟩, if_pos rfl]
      · rw [if_neg (fun w => y w.2), if_neg (fun w => y w.2), if_neg (fun w => y w.2)]
    · rw [if_neg (fun w => z w.1)]
      by_cases y : hk h q = 4 ∧ j = 12
      · rw [if_pos y, if_pos y, if_neg z]
      · rw [if_neg y, if_neg y]
  unfold wi
  show (_, _, up2 (fun q j => if hk h q = 4 ∧ j = 12 then t q else hi h q j) a 12 v, _, _, _) = _
  rw [e]
  rfl
set_option maxRecDepth 100000 in
set_option maxHeartbeats 4000000 in
theorem ho_hi (ha : hk h a ≠ 4) : hi (hoH h c f t) a = hi h a := funext fun j => if_neg (fun z => ha z.1)
set_option maxRecDepth 100000 in
set_option maxHeartbeats 4000000 in
theorem ho_k (hk12 : k ≠ 12) : hi (hoH h c f t) a k = hi h a k := if_neg (fun z => hk12 z.2)
set_option maxRecDepth 100000 in
set_option maxHeartbeats 4000000 in
theorem ho_12 (ha : hk h a = 4) : hi (hoH h c f t) a 12 = t a := if_pos ⟨ha, rfl⟩
set_option maxRecDepth 100000 in
set_option maxHeartbeats 4000000 in
theorem ho_l : hl (hoH h c f t) c = f := funext fun _ => if_pos rfl
end HO
def adL (f : Nat → Int64) (lo n : Nat) (v : Nat → Int64) : Nat → Int64 := fun j => if lo ≤ j ∧ j < lo + n then f j + v j else f j
set_option maxRecDepth 100000 in
set_option maxHeartbeats 4000000 in
theorem adL_0 (f : Nat → Int64) (lo : Nat) (v : Nat → Int64) : adL f lo 0 v = f := funext fun j => if_neg (by omega)
set_option maxRecDepth 100000 in
set_option maxHeartbeats 4000000 in
theorem adL_s (f : Nat → Int64) (lo n : Nat) (v : Nat → Int64) : upd0 (adL f lo n v) (lo + n) (adL f lo n v (lo + n) + v (lo + n)) = adL f lo (n + 1) v := funext fun j => by
  unfold upd0 adL
  by_cases z : j = lo + n
  · subst z
    rw [if_pos rfl, if_neg (by omega), if_pos (by omega)]
  · rw [if_neg z]
    by_cases y : lo ≤ j ∧ j < lo + n
    · rw [if_pos y, if_pos (by omega)]
    · rw [if_neg y, if_neg (by omega)]
/-- a mast at p, its arrays -/
def SpK (h : AH) (p c : Nat) : Prop := hk h p = 6 ∧ (∃ la, hr h p 0 = some la ∧ hk h la = 20 ∧ hn h la = 61) ∧ (∃ wa, hr h p 1 = some wa ∧ hk h wa = 20 ∧ hn h wa = 60) ∧ hr h p 2 = some c ∧ hk h c = 23 ∧ hn h c = 60
/-- PUSH by the forces -/
def pvV (f : Nat → Int64) (k : Nat) : Int64 := (if k = 0 then 0 else f (k - 1)) + (if k < 60 then f k else 0)
section SPAR
variable {G : GG} {d : Nat} {h : AH} {Q : Option Value → AH → Prop} {p c : Nat} {f : Nat → Int64} {t : Nat → Int32}
set_option maxRecDepth 100000 in
set_option maxHeartbeats 4000000 in
theorem l_J7_fillI {c n : Nat} {v : Int32} (kc : hk h c = 20) (nc : hn h c = n) (hn31 : n < 2 ^ 31) (hq : Q none (setI h (filF (hi h) c 0 n v))) : ∀ j k, k + j = n → Rn G d mJ7_fill_53178 5 [(0, .ref c), (1, .int v), (2, .int (nI k)), (3, .int (nI n))] [] (setI h (filF (hi h) c 0 k v)) Q := by
  intro j
  induction j with
  | zero =>
    intro k hk0
    rw [show k = n by omega]
    refine x_iload_n eJ7_fill_53178_5 rfl rfl ?_
    refine x_iload_n eJ7_fill_53178_6 rfl rfl ?_
    first | refine x_icmp_geN (tgt := 20) eJ7_fill_53178_7 (by decide) (by with_reducible rfl) (by with_reducible rfl) (by omega) (by omega) (fun cq1 => ?_) (fun cq1 => ?_) | refine x_icmp_ge (tgt := 20) eJ7_fill_53178_7 (by decide) (fun cq1 => ?_) (fun cq1 => ?_)
    · refine x_ret (rt := none) eJ7_fill_53178_20 rfl ?_
      exact hq
    · exact absurd cq1 (by omega)
  | succ j ih =>
    intro k hk0
    have kc2 : hk (setI h (filF (hi h) c 0 k v)) c = 20 := kc
    have nc2 : hn (setI h (filF (hi h) c 0 k v)) c = n := nc
    have iw := ih (k + 1) (by omega)
    rw [← filF_s, Nat.zero_add] at iw
    refine x_iload_n eJ7_fill_53178_5 rfl rfl ?_
    refine x_iload_n eJ7_fill_53178_6 rfl rfl ?_
    first | refine x_icmp_geN (tgt := 20) eJ7_fill_53178_7 (by decide) (by with_reducible rfl) (by with_reducible rfl) (by omega) (by omega) (fun cq1 => ?_) (fun cq1 => ?_) | refine x_icmp_ge (tgt := 20) eJ7_fill_53178_7 (by decide) (fun cq1 => ?_) (fun cq1 => ?_)
    · exact absurd cq1 (by omega)
    · first | refine x_aload_n eJ7_fill_53178_10 rfl rfl ?_ | refine x_aload_nN eJ7_fill_53178_10 rfl rfl ?_
      refine x_iload_n eJ7_fill_53178_11 rfl rfl ?_
      refine x_iload_n eJ7_fill_53178_12 rfl rfl ?_
      first | refine x_iastN eJ7_fill_53178_13 (by with_reducible rfl) (by assumption) (by assumption) (by omega) (by omega) ?_ | refine x_iast eJ7_fill_53178_13 (by assumption) (by assumption) ?_
      first | refine x_iincN eJ7_fill_53178_14 rfl (by with_reducible rfl) (by decide) rfl rfl ?_ | refine x_iinc eJ7_fill_53178_14 rfl rfl (by decide) rfl rfl ?_
      refine x_goto (tgt := 5) eJ7_fill_53178_17 (by decide) ?_
      rw [setI_wi]
      refine Rn.weak (iw) (by repeat' first | exact fun _ h => absurd h List.not_mem_nil | refine List.forall_mem_cons.mpr ⟨rfl, ?_⟩)
set_option maxRecDepth 100000 in
set_option maxHeartbeats 4000000 in
theorem c_J7_fillI {c n : Nat} {v : Int32} (kc : hk h c = 20) (nc : hn h c = n) (hn31 : n < 2 ^ 31) (hq : Q none (setI h (filF (hi h) c 0 n v))) : Rn G d mJ7_fill_53178 0 [(0, .ref c), (1, .int v)] [] h Q := by
  have k0 := l_J7_fillI (G := G) (d := d) kc nc hn31 hq n 0 (by omega)
  rw [filF_0, setI_self] at k0
  refine x_iconst (v := nI 0) eJ7_fill_53178_0 (by decide) ?_
  refine x_istore_n eJ7_fill_53178_1 rfl (by decide) rfl rfl ?_
  first | refine x_aload_n eJ7_fill_53178_2 rfl rfl ?_ | refine x_aload_nN eJ7_fill_53178_2 rfl rfl ?_
  first | refine x_alenN eJ7_fill_53178_3 (by assumption) (by decide) (by assumption) ?_ | refine x_slenN eJ7_fill_53178_3 (by assumption) (by assumption) ?_ | refine x_alen eJ7_fill_53178_3 (by assumption) (by decide) ?_
  refine x_istore_n eJ7_fill_53178_4 rfl (by decide) rfl rfl ?_
  refine Rn.weak (k0) (by repeat' first | exact fun _ h => absurd h List.not_mem_nil | refine List.forall_mem_cons.mpr ⟨rfl, ?_⟩)
set_option maxRecDepth 100000 in
set_option maxHeartbeats 4000000 in
theorem l_J7_fillL (kc : hk h c = 23) (nc : hn h c = 60) (hq : Q none (hoH h c (fun j => if j < 60 then 0 else f j) t)) : ∀ j k, k + j = 60 → Rn G d mJ7_fill_d0a16 6 [(0, .ref c), (1, .long 0), (3, .int (nI k)), (4, .int (nI 60))] [] (hoH h c (fun j => if j < k then 0 else f j) t) Q := by
  intro j
  induction j with
  | zero =>
    intro k hk0
    rw [show k = 60 by omega]
    refine x_iload_n eJ7_fill_d0a16_6 rfl rfl ?_
    refine x_iload eJ7_fill_d0a16_7 rfl ?_
    first | refine x_icmp_geN (tgt := 22) eJ7_fill_d0a16_9 (by decide) (by with_reducible rfl) (by with_reducible rfl) (by omega) (by omega) (fun cq1 => ?_) (fun cq1 => ?_) | refine x_icmp_ge (tgt := 22) eJ7_fill_d0a16_9 (by decide) (fun cq1 => ?_) (fun cq1 => ?_)
    · refine x_ret (rt := none) eJ7_fill_d0a16_22 rfl ?_
      exact hq
    · exact absurd cq1 (by omega)
  | succ j ih =>
    intro k hk0
    have kc2 : hk (hoH h c (fun j => if j < k then 0 else f j) t) c = 23 := kc
    have nc2 : hn (hoH h c (fun j => if j < k then 0 else f j) t) c = 60 := nc
    have iw := ih (k + 1) (by omega)
    have e : upd0 (fun j => if j < k then 0 else f j) k 0 = fun j => if j < k + 1 then 0 else f j := funext fun j => by
      unfold upd0
      dsimp only
      by_cases z : j = k
      · rw [if_pos z, if_pos (by omega)]
      · rw [if_neg z]
        by_cases y : j < k
        · rw [if_pos y, if_pos (by omega)]
        · rw [if_neg y, if_neg (by omega)]
    rw [← e, ← ho_wl] at iw
    refine x_iload_n eJ7_fill_d0a16_6 rfl rfl ?_
    refine x_iload eJ7_fill_d0a16_7 rfl ?_
    first | refine x_icmp_geN (tgt := 22) eJ7_fill_d0a16_9 (by decide) (by with_reducible rfl) (by with_reducible rfl) (by omega) (by omega) (fun cq1 => ?_) (fun cq1 => ?_) | refine x_icmp_ge (tgt := 22) eJ7_fill_d0a16_9 (by decide) (fun cq1 => ?_) (fun cq1 => ?_)
    · exact absurd cq1 (by omega)
    · first | refine x_aload_n eJ7_fill_d0a16_12 rfl rfl ?_ | refine x_aload_nN eJ7_fill_d0a16_12 rfl rfl ?_
      refine x_iload_n eJ7_fill_d0a16_13 rfl rfl ?_
      refine x_lload_n eJ7_fill_d0a16_14 rfl rfl ?_
      first | refine x_lastN eJ7_fill_d0a16_15 (by with_reducible rfl) (by assumption) (by assumption) (by omega) (by omega) ?_ | refine x_last eJ7_fill_d0a16_15 (by assumption) (by assumption) ?_
      first | refine x_iincN eJ7_fill_d0a16_16 rfl (by with_reducible rfl) (by decide) rfl rfl ?_ | refine x_iinc eJ7_fill_d0a16_16 rfl rfl (by decide) rfl rfl ?_
      refine x_goto (tgt := 6) eJ7_fill_d0a16_19 (by decide) ?_
      refine Rn.weak (iw) (by repeat' first | exact fun _ h => absurd h List.not_mem_nil | refine List.forall_mem_cons.mpr ⟨rfl, ?_⟩)
set_option maxRecDepth 100000 in
set_option maxHeartbeats 4000000 in
theorem c_X7_clear (S : SpK h p c) (hq : Q none (hoH h c (fun j => if j < 60 then 0 else f j) t)) : Rn G (d + 1) mX7_clear 0 [(0, .ref p)] [] (hoH h c f t) Q := by
  obtain ⟨kp, -, -, hc, kc, nc⟩ := S
  have kp2 : hk (hoH h c f t) p = 6 := kp
  have hc2 : hr (hoH h c f t) p 2 = some c := hc
  have kc2 : hk (hoH h c f t) c = 23 := kc
  have nc2 : hn (hoH h c f t) c = 60 := nc
  have k0 := l_J7_fillL (G := G) (d := d) (Q := fun r h' => Ext (hoH h c f t) h' → Rn G (d + 1) mX7_clear 8 [(0, .ref p)] (r.toList ++ []) h' Q) kc nc (f := f) (t := t) (fun _ => by
    refine x_ret (rt := none) eX7_clear_8 rfl ?_
    exact hq) 60 0 (by omega)
  rw [show (fun j => if j < 0 then 0 else f j) = f from funext fun j => if_neg (by omega)] at k0
  first | refine x_aload_n eX7_clear_0 rfl rfl ?_ | refine x_aload_nN eX7_clear_0 rfl rfl ?_
  first | refine x_getR eX7_clear_1 fk_X7_18 rfl (by assumption) (by assumption) ?_ | refine x_getN eX7_clear_1 fk_X7_18 rfl (by assumption) (by assumption) ?_
  refine x_lconst (v := 0) eX7_clear_4 (by decide) ?_
  refine x_callS2 eX7_clear_5 lk_X7_29 (Nat.le_of_ble_eq_true rfl) (Nat.le_of_ble_eq_true rfl) ?_
  skip
  refine x_iconst (v := nI 0) eJ7_fill_d0a16_0 (by decide) ?_
  refine x_istore_n eJ7_fill_d0a16_1 rfl (by decide) rfl rfl ?_
  first | refine x_aload_n eJ7_fill_d0a16_2 rfl rfl ?_ | refine x_aload_nN eJ7_fill_d0a16_2 rfl rfl ?_
  first | refine x_alenN eJ7_fill_d0a16_3 (by assumption) (by decide) (by assumption) ?_ | refine x_slenN eJ7_fill_d0a16_3 (by assumption) (by assumption) ?_ | refine x_alen eJ7_fill_d0a16_3 (by assumption) (by decide) ?_
  refine x_istore eJ7_fill_d0a16_4 (by decide) rfl rfl ?_
  refine Rn.weak (k0) (by repeat' first | exact fun _ h => absurd h List.not_mem_nil | refine List.forall_mem_cons.mpr ⟨rfl, ?_⟩)
set_option maxRecDepth 100000 in
set_option maxHeartbeats 4000000 in
theorem l_X7_addStrips {a st wa lo up H : Nat} {sg : Int32} (S : SpK h p c) (ka : hk h a = 4) (h7 : hr h a 7 = some st) (ks : hk h st = 20) (ns : hn h st = H) (h1 : hr h p 1 = some wa) (hup : up ≤ H) (hH : H ≤ 60) (hq : Q none (hoH h c (adL f lo (up - lo) (fun y => sg.toInt64 * (hi h st y).toInt64 * (hi h wa y).toInt64)) t)) : ∀ m k, lo + k + m = up → Rn G d mX7_addStrips 42 [(0, .ref p), (1, .ref a), (4, .int sg), (5, .int (nI up)), (6, .int (nI (lo + k)))] [] (hoH h c (adL f lo k (fun y => sg.toInt64 * (hi h st y).toInt64 * (hi h wa y).toInt64)) t) Q := by
  obtain ⟨kp, -, ⟨wa', hw, kw, nw'⟩, hc, kc, nc⟩ := S
  cases h1.symm.trans hw
  intro m
  induction m with
  | zero =>
    intro k hk0
    rw [show up - lo = k by omega] at hq
    refine x_iload eX7_addStrips_42 rfl ?_
    refine x_iload eX7_addStrips_44 rfl ?_
    first | refine x_icmp_geN (tgt := 86) eX7_addStrips_46 (by decide) (by with_reducible rfl) (by with_reducible rfl) (by omega) (by omega) (fun cq1 => ?_) (fun cq1 => ?_) | refine x_icmp_ge (tgt := 86) eX7_addStrips_46 (by decide) (fun cq1 => ?_) (fun cq1 => ?_)
    · refine x_ret (rt := none) eX7_addStrips_86 rfl ?_
      exact hq
    · exact absurd cq1 (by omega)
  | succ m ih =>
    intro k hk0
    have iw := ih (k + 1) (by omega)
    rw [← adL_s, ← ho_wl] at iw
    have kp2 : hk (hoH h c (adL f lo k (fun y => sg.toInt64 * (hi h st y).toInt64 * (hi h wa y).toInt64)) t) p = 6 := kp
    have hc2 : hr (hoH h c (adL f lo k (fun y => sg.toInt64 * (hi h st y).toInt64 * (hi h wa y).toInt64)) t) p 2 = some c := hc
    have hw2 : hr (hoH h c (adL f lo k (fun y => sg.toInt64 * (hi h st y).toInt64 * (hi h wa y).toInt64)) t) p 1 = some wa := hw
    have ka2 : hk (hoH h c (adL f lo k (fun y => sg.toInt64 * (hi h st y).toInt64 * (hi h wa y).toInt64)) t) a = 4 := ka
    have h72 : hr (hoH h c (adL f lo k (fun y => sg.toInt64 * (hi h st y).toInt64 * (hi h wa y).toInt64)) t) a 7 = some st := h7
    have el : hl (hoH h c (adL f lo k (fun y => sg.toInt64 * (hi h st y).toInt64 * (hi h wa y).toInt64)) t) c (lo + k) = adL f lo k (fun y => sg.toInt64 * (hi h st y).toInt64 * (hi h wa y).toInt64) (lo + k) := by rw [ho_l]
    have es : hi (hoH h c (adL f lo k (fun y => sg.toInt64 * (hi h st y).toInt64 * (hi h wa y).toInt64)) t) st (lo + k) = hi h st (lo + k) := by rw [ho_hi (by rw [ks]; decide)]
    have ew : hi (hoH h c (adL f lo k (fun y => sg.toInt64 * (hi h st y).toInt64 * (hi h wa y).toInt64)) t) wa (lo + k) = hi h wa (lo + k) := by rw [ho_hi (by rw [kw]; decide)]
    have ks2 : hk (hoH h c (adL f lo k (fun y => sg.toInt64 * (hi h st y).toInt64 * (hi h wa y).toInt64)) t) st = 20 := ks
    have ns2 : hn (hoH h c (adL f lo k (fun y => sg.toInt64 * (hi h st y).toInt64 * (hi h wa y).toInt64)) t) st = H := ns
    have kw2 : hk (hoH h c (adL f lo k (fun y => sg.toInt64 * (hi h st y).toInt64 * (hi h wa y).toInt64)) t) wa = 20 := kw
    have nw2 : hn (hoH h c (adL f lo k (fun y => sg.toInt64 * (hi h st y).toInt64 * (hi h wa y).toInt64)) t) wa = 60 := nw'
    have kc2 : hk (hoH h c (adL f lo k (fun y => sg.toInt64 * (hi h st y).toInt64 * (hi h wa y).toInt64)) t) c = 23 := kc
    have nc2 : hn (hoH h c (adL f lo k (fun y => sg.toInt64 * (hi h st y).toInt64 * (hi h wa y).toInt64)) t) c = 60 := nc
    generalize hoH h c (adL f lo k (fun y => sg.toInt64 * (hi h st y).toInt64 * (hi h wa y).toInt64)) t = h3 at *
    rw [← el] at iw
    refine x_iload eX7_addStrips_42 rfl ?_
    refine x_iload eX7_addStrips_44 rfl ?_
    first | refine x_icmp_geN (tgt := 86) eX7_addStrips_46 (by decide) (by with_reducible rfl) (by with_reducible rfl) (by omega) (by omega) (fun cq1 => ?_) (fun cq1 => ?_) | refine x_icmp_ge (tgt := 86) eX7_addStrips_46 (by decide) (fun cq1 => ?_) (fun cq1 => ?_)
    · exact absurd cq1 (by omega)
    · first | refine x_aload_n eX7_addStrips_49 rfl rfl ?_ | refine x_aload_nN eX7_addStrips_49 rfl rfl ?_
      first | refine x_getR eX7_addStrips_50 fk_X7_18 rfl (by assumption) (by assumption) ?_ | refine x_getN eX7_addStrips_50 fk_X7_18 rfl (by assumption) (by assumption) ?_
      refine x_iload eX7_addStrips_53 rfl ?_
      refine x_dup2 eX7_addStrips_55 rfl rfl ?_
      first | refine x_laldN eX7_addStrips_56 (by with_reducible rfl) (by assumption) (by assumption) (by omega) (by omega) ?_ | refine x_lald eX7_addStrips_56 (by assumption) (by assumption) ?_
      refine x_iload eX7_addStrips_57 rfl ?_
      refine x_i2l eX7_addStrips_59 ?_
      first | refine x_aload_n eX7_addStrips_60 rfl rfl ?_ | refine x_aload_nN eX7_addStrips_60 rfl rfl ?_
      first | refine x_getR eX7_addStrips_61 fk_X7_52 rfl (by assumption) (by assumption) ?_ | refine x_getN eX7_addStrips_61 fk_X7_52 rfl (by assumption) (by assumption) ?_
      refine x_iload eX7_addStrips_64 rfl ?_
      first | refine x_ialdN eX7_addStrips_66 (by with_reducible rfl) (by assumption) (by assumption) (by omega) (by omega) ?_ | refine x_sldN eX7_addStrips_66 (by with_reducible rfl) (by assumption) (by assumption) (by omega) (by omega) ?_ | refine x_iald eX7_addStrips_66 (by assumption) (by assumption) ?_
      refine x_i2l eX7_addStrips_67 ?_
      refine x_lmul eX7_addStrips_68 ?_
      first | refine x_aload_n eX7_addStrips_69 rfl rfl ?_ | refine x_aload_nN eX7_addStrips_69 rfl rfl ?_
      first | refine x_getR eX7_addStrips_70 fk_X7_15 rfl (by assumption) (by assumption) ?_ | refine x_getN eX7_addStrips_70 fk_X7_15 rfl (by assumption) (by assumption) ?_
      refine x_iload eX7_addStrips_73 rfl ?_
      first | refine x_ialdN eX7_addStrips_75 (by with_reducible rfl) (by assumption) (by assumption) (by omega) (by omega) ?_ | refine x_sldN eX7_addStrips_75 (by with_reducible rfl) (by assumption) (by assumption) (by omega) (by omega) ?_ | refine x_iald eX7_addStrips_75 (by assumption) (by assumption) ?_
      refine x_i2l eX7_addStrips_76 ?_
      refine x_lmul eX7_addStrips_77 ?_
      refine x_ladd eX7_addStrips_78 ?_
      first | refine x_lastN eX7_addStrips_79 (by with_reducible rfl) (by assumption) (by assumption) (by omega) (by omega) ?_ | refine x_last eX7_addStrips_79 (by assumption) (by assumption) ?_
      first | refine x_iincN eX7_addStrips_80 rfl (by with_reducible rfl) (by decide) rfl rfl ?_ | refine x_iinc eX7_addStrips_80 rfl rfl (by decide) rfl rfl ?_
      refine x_goto (tgt := 42) eX7_addStrips_83 (by decide) ?_
      rw [es, ew]
      refine Rn.weak (iw) (by repeat' first | exact fun _ h => absurd h List.not_mem_nil | refine List.forall_mem_cons.mpr ⟨rfl, ?_⟩)
set_option maxRecDepth 100000 in
set_option maxHeartbeats 4000000 in
theorem c_X7_addStrips {a st wa lo up H : Nat} {sg : Int32} (S : SpK h p c) (ka : hk h a = 4) (h7 : hr h a 7 = some st) (ks : hk h st = 20) (ns : hn h st = H) (h1 : hr h p 1 = some wa) (hup : up ≤ H) (hlo : lo ≤ 60) (hH : H ≤ 60) (hq : Q none (hoH h c (adL f lo (up - lo) (fun y => sg.toInt64 * (hi h st y).toInt64 * (hi h wa y).toInt64)) t)) : Rn G (d + 1) mX7_addStrips 0 [(0, .ref p), (1, .ref a), (2, .int (nI lo)), (3, .int (nI up)), (4, .int sg)] [] (hoH h c f t) Q := by
  have ka2 : hk (hoH h c f t) a = 4 := ka
  have h72 : hr (hoH h c f t) a 7 = some st := h7
  obtain ⟨kp, -, ⟨wa', hw, kw, nw'⟩, hc, kc, nc⟩ := id S
  cases h1.symm.trans hw
  have kp2 : hk (hoH h c f t) p = 6 := kp
  have hc2 : hr (hoH h c f t) p 2 = some c := hc
  have hw2 : hr (hoH h c f t) p 1 = some wa := hw
  have ks2 : hk (hoH h c f t) st = 20 := ks
  have ns2 : hn (hoH h c f t) st = H := ns
  have kw2 : hk (hoH h c f t) wa = 20 := kw
  have nw2 : hn (hoH h c f t) wa = 60 := nw'
  have kc2 : hk (hoH h c f t) c = 23 := kc
  have nc2 : hn (hoH h c f t) c = 60 := nc
  have em1 : (if nI H < nI up then nI H else nI up) = nI up := if_neg (nI_nlt hup (by omega))
  have em2 : (if nI 60 < nI 60 then nI 60 else nI 60) = nI 60 := if_neg (nI_nlt (Nat.le_refl _) (by omega))
  have em3 : (if nI 60 < nI up then nI 60 else nI up) = nI up := if_neg (nI_nlt (by omega) (by omega))
  rcases Nat.lt_or_ge up lo with z | z
  · rw [show up - lo = 0 by omega, adL_0] at hq
    first | refine x_aload_n eX7_addStrips_0 rfl rfl ?_ | refine x_aload_nN eX7_addStrips_0 rfl rfl ?_
    first | refine x_getR eX7_addStrips_1 fk_X7_52 rfl (by assumption) (by assumption) ?_ | refine x_getN eX7_addStrips_1 fk_X7_52 rfl (by assumption) (by assumption) ?_
    refine x_ifnullR eX7_addStrips_4 ?_
    refine x_iload_n eX7_addStrips_7 rfl rfl ?_
    refine x_if_ge (tgt := 12) eX7_addStrips_8 (by decide) (fun cq1 => ?_) (fun cq1 => ?_)
    · refine x_iload_n eX7_addStrips_12 rfl rfl ?_
      first | refine x_aload_n eX7_addStrips_13 rfl rfl ?_ | refine x_aload_nN eX7_addStrips_13 rfl rfl ?_
      first | refine x_getR eX7_addStrips_14 fk_X7_52 rfl (by assumption) (by assumption) ?_ | refine x_getN eX7_addStrips_14 fk_X7_52 rfl (by assumption) (by assumption) ?_
      first | refine x_alenN eX7_addStrips_17 (by assumption) (by decide) (by assumption) ?_ | refine x_slenN eX7_addStrips_17 (by assumption) (by assumption) ?_ | refine x_alen eX7_addStrips_17 (by assumption) (by decide) ?_
      refine x_min eX7_addStrips_18 lk_X7_55 (Nat.le_of_ble_eq_true rfl) ?_
      rw [em1]
      first | refine x_aload_n eX7_addStrips_21 rfl rfl ?_ | refine x_aload_nN eX7_addStrips_21 rfl rfl ?_
      first | refine x_getR eX7_addStrips_22 fk_X7_15 rfl (by assumption) (by assumption) ?_ | refine x_getN eX7_addStrips_22 fk_X7_15 rfl (by assumption) (by assumption) ?_
      first | refine x_alenN eX7_addStrips_25 (by assumption) (by decide) (by assumption) ?_ | refine x_slenN eX7_addStrips_25 (by assumption) (by assumption) ?_ | refine x_alen eX7_addStrips_25 (by assumption) (by decide) ?_
      first | refine x_aload_n eX7_addStrips_26 rfl rfl ?_ | refine x_aload_nN eX7_addStrips_26 rfl rfl ?_
      first | refine x_getR eX7_addStrips_27 fk_X7_18 rfl (by assumption) (by assumption) ?_ | refine x_getN eX7_addStrips_27 fk_X7_18 rfl (by assumption) (by assumption) ?_
      first | refine x_alenN eX7_addStrips_30 (by assumption) (by decide) (by assumption) ?_ | refine x_slenN eX7_addStrips_30 (by assumption) (by assumption) ?_ | refine x_alen eX7_addStrips_30 (by assumption) (by decide) ?_
      refine x_min eX7_addStrips_31 lk_X7_55 (Nat.le_of_ble_eq_true rfl) ?_
      rw [em2]
      refine x_min eX7_addStrips_34 lk_X7_55 (Nat.le_of_ble_eq_true rfl) ?_
      rw [em3]
      refine x_istore eX7_addStrips_37 (by decide) rfl rfl ?_
      refine x_iload_n eX7_addStrips_39 rfl rfl ?_
      refine x_istore eX7_addStrips_40 (by decide) rfl rfl ?_
      skip
      refine x_iload eX7_addStrips_42 rfl ?_
      refine x_iload eX7_addStrips_44 rfl ?_
      first | refine x_icmp_geN (tgt := 86) eX7_addStrips_46 (by decide) (by with_reducible rfl) (by with_reducible rfl) (by omega) (by omega) (fun cq2 => ?_) (fun cq2 => ?_) | refine x_icmp_ge (tgt := 86) eX7_addStrips_46 (by decide) (fun cq2 => ?_) (fun cq2 => ?_)
      · refine x_ret (rt := none) eX7_addStrips_86 rfl ?_
        exact hq
      · exact absurd cq2 (by omega)
    · exact absurd (nI_pos' (by omega)) cq1
  · have k0 := l_X7_addStrips (G := G) (d := d + 1) (f := f) (t := t) (sg := sg) S ka h7 ks ns h1 hup hH hq (up - lo) 0 (by omega)
    rw [adL_0] at k0
    first | refine x_aload_n eX7_addStrips_0 rfl rfl ?_ | refine x_aload_nN eX7_addStrips_0 rfl rfl ?_
    first | refine x_getR eX7_addStrips_1 fk_X7_52 rfl (by assumption) (by assumption) ?_ | refine x_getN eX7_addStrips_1 fk_X7_52 rfl (by assumption) (by assumption) ?_
    refine x_ifnullR eX7_addStrips_4 ?_
    refine x_iload_n eX7_addStrips_7 rfl rfl ?_
    refine x_if_ge (tgt := 12) eX7_addStrips_8 (by decide) (fun cq1 => ?_) (fun cq1 => ?_)
    · refine x_iload_n eX7_addStrips_12 rfl rfl ?_
      first | refine x_aload_n eX7_addStrips_13 rfl rfl ?_ | refine x_aload_nN eX7_addStrips_13 rfl rfl ?_
      first | refine x_getR eX7_addStrips_14 fk_X7_52 rfl (by assumption) (by assumption) ?_ | refine x_getN eX7_addStrips_14 fk_X7_52 rfl (by assumption) (by assumption) ?_
      first | refine x_alenN eX7_addStrips_17 (by assumption) (by decide) (by assumption) ?_ | refine x_slenN eX7_addStrips_17 (by assumption) (by assumption) ?_ | refine x_alen eX7_addStrips_17 (by assumption) (by decide) ?_
      refine x_min eX7_addStrips_18 lk_X7_55 (Nat.le_of_ble_eq_true rfl) ?_
      rw [em1]
      first | refine x_aload_n eX7_addStrips_21 rfl rfl ?_ | refine x_aload_nN eX7_addStrips_21 rfl rfl ?_
      first | refine x_getR eX7_addStrips_22 fk_X7_15 rfl (by assumption) (by assumption) ?_ | refine x_getN eX7_addStrips_22 fk_X7_15 rfl (by assumption) (by assumption) ?_
      first | refine x_alenN eX7_addStrips_25 (by assumption) (by decide) (by assumption) ?_ | refine x_slenN eX7_addStrips_25 (by assumption) (by assumption) ?_ | refine x_alen eX7_addStrips_25 (by assumption) (by decide) ?_
      first | refine x_aload_n eX7_addStrips_26 rfl rfl ?_ | refine x_aload_nN eX7_addStrips_26 rfl rfl ?_
      first | refine x_getR eX7_addStrips_27 fk_X7_18 rfl (by assumption) (by assumption) ?_ | refine x_getN eX7_addStrips_27 fk_X7_18 rfl (by assumption) (by assumption) ?_
      first | refine x_alenN eX7_addStrips_30 (by assumption) (by decide) (by assumption) ?_ | refine x_slenN eX7_addStrips_30 (by assumption) (by assumption) ?_ | refine x_alen eX7_addStrips_30 (by assumption) (by decide) ?_
      refine x_min eX7_addStrips_31 lk_X7_55 (Nat.le_of_ble_eq_true rfl) ?_
      rw [em2]
      refine x_min eX7_addStrips_34 lk_X7_55 (Nat.le_of_ble_eq_true rfl) ?_
      rw [em3]
      refine x_istore eX7_addStrips_37 (by decide) rfl rfl ?_
      refine x_iload_n eX7_addStrips_39 rfl rfl ?_
      refine x_istore eX7_addStrips_40 (by decide) rfl rfl ?_
      refine Rn.weak (k0) (by repeat' first | exact fun _ h => absurd h List.not_mem_nil | refine List.forall_mem_cons.mpr ⟨rfl, ?_⟩)
    · exact absurd (nI_pos' (by omega)) cq1
set_option maxRecDepth 100000 in
set_option maxHeartbeats 4000000 in
theorem c_X7_hoist {a st wa r H : Nat} (S : SpK h p c) (ka : hk h a = 4) (h7 : hr h a 7 = some st) (ks : hk h st = 20) (ns : hn h st = H) (h1 : hr h p 1 = some wa) (e2 : hi h a 2 = nI H) (e8 : hi h a 8 = nI r) (hr6 : r ≤ 60) (hH : H ≤ 60) (hq : Q none (hoH h c (adL f r (H - r) (fun y => (nI 1).toInt64 * (hi h st y).toInt64 * (hi h wa y).toInt64)) (upd0 t a (nI r)))) : Rn G (d + 2) mX7_hoist 0 [(0, .ref p), (1, .ref a)] [] (hoH h c f t) Q := by
  have kp2 : hk (hoH h c f t) p = 6 := S.1
  have ka2 : hk (hoH h c f t) a = 4 := ka
  have e8a : hi (hoH h c f t) a 8 = nI r := by rw [ho_k (by decide)]; exact e8
  have kp3 : hk (hoH h c f (upd0 t a (nI r))) p = 6 := S.1
  have ka3 : hk (hoH h c f (upd0 t a (nI r))) a = 4 := ka
  have e8b : hi (hoH h c f (upd0 t a (nI r))) a 8 = nI r := by rw [ho_k (by decide)]; exact e8
  have e2b : hi (hoH h c f (upd0 t a (nI r))) a 2 = nI H := by rw [ho_k (by decide)]; exact e2
  first | refine x_aload_n eX7_hoist_0 rfl rfl ?_ | refine x_aload_nN eX7_hoist_0 rfl rfl ?_
  first | refine x_aload_n eX7_hoist_1 rfl rfl ?_ | refine x_aload_nN eX7_hoist_1 rfl rfl ?_
  first | refine x_getIe eX7_hoist_2 fk_X7_32 (by decide) (by assumption) (by assumption) ?_ | refine x_getI eX7_hoist_2 fk_X7_32 (by decide) (by assumption) ?_
  refine x_putI eX7_hoist_5 fk_X7_38 (by decide) rfl ⟨_, rfl, Or.inl rfl⟩ (by assumption) ?_
  rw [ho_wi ka]
  first | refine x_aload_n eX7_hoist_8 rfl rfl ?_ | refine x_aload_nN eX7_hoist_8 rfl rfl ?_
  first | refine x_aload_n eX7_hoist_9 rfl rfl ?_ | refine x_aload_nN eX7_hoist_9 rfl rfl ?_
  first | refine x_aload_n eX7_hoist_10 rfl rfl ?_ | refine x_aload_nN eX7_hoist_10 rfl rfl ?_
  first | refine x_getIe eX7_hoist_11 fk_X7_32 (by decide) (by assumption) (by assumption) ?_ | refine x_getI eX7_hoist_11 fk_X7_32 (by decide) (by assumption) ?_
  first | refine x_aload_n eX7_hoist_14 rfl rfl ?_ | refine x_aload_nN eX7_hoist_14 rfl rfl ?_
  first | refine x_getIe eX7_hoist_15 fk_X7_41 (by decide) (by assumption) (by assumption) ?_ | refine x_getI eX7_hoist_15 fk_X7_41 (by decide) (by assumption) ?_
  refine x_iconst (v := nI 1) eX7_hoist_18 (by decide) ?_
  refine x_callV4 eX7_hoist_19 lk_X7_44 (by assumption) (Nat.le_of_ble_eq_true rfl) (Nat.le_of_ble_eq_true rfl) ?_
  refine c_X7_addStrips S ka h7 ks ns h1 (Nat.le_refl _) hr6 hH (fun _ => ?_)
  refine x_ret (rt := none) eX7_hoist_22 rfl ?_
  exact hq
set_option maxRecDepth 100000 in
set_option maxHeartbeats 4000000 in
theorem c_X7_reefOnce {a st wa q r n H : Nat} (S : SpK h p c) (ka : hk h a = 4) (h7 : hr h a 7 = some st) (ks : hk h st = 20) (ns : hn h st = H) (h1 : hr h p 1 = some wa) (et : t a = nI r) (hr6 : r ≤ 60) (hH : H ≤ 60) (e11 : hi h a 11 = nI n) (hn3 : n ≤ 3) (hq0 : hr h a 10 = some q) (kq : hk h q = 20) (nq : hn h q = 3) (hl : ∀ j, j < n → isN (hi h q j) 1 H)
    (hf : fstN (fun j => decide (nI r < hi h q j)) n = none → Q (some (.int 0)) (hoH h c f t)) (ht : ∀ j, j < n → fstN (fun j => decide (nI r < hi h q j)) n = some j → r < nt (hi h q j) → Q (some (.int 1)) (hoH h c (adL f r (nt (hi h q j) - r) (fun y => (-1 : Int32).toInt64 * (hi h st y).toInt64 * (hi h wa y).toInt64)) (upd0 t a (hi h q j)))) : Rn G (d + 2) mX7_reefOnce 0 [(0, .ref p), (1, .ref a)] [] (hoH h c f t) Q := by
  have kp2 : hk (hoH h c f t) p = 6 := S.1
  have ka2 : hk (hoH h c f t) a = 4 := ka
  have e12 : hi (hoH h c f t) a 12 = nI r := by rw [ho_12 ka]; exact et
  have e11a : hi (hoH h c f t) a 11 = nI n := by rw [ho_k (by decide)]; exact e11
  have eq0 : hi (hoH h c f t) q = hi h q := ho_hi (by rw [kq]; decide)
  first | refine x_aload_n eX7_reefOnce_0 rfl rfl ?_ | refine x_aload_nN eX7_reefOnce_0 rfl rfl ?_
  first | refine x_aload_n eX7_reefOnce_1 rfl rfl ?_ | refine x_aload_nN eX7_reefOnce_1 rfl rfl ?_
  first | refine x_getIe eX7_reefOnce_2 fk_X7_38 (by decide) (by assumption) (by assumption) ?_ | refine x_getI eX7_reefOnce_2 fk_X7_38 (by decide) (by assumption) ?_
  refine x_callV1 eX7_reefOnce_5 lk_X7_48 (by assumption) (Nat.le_of_ble_eq_true rfl) (Nat.le_of_ble_eq_true rfl) ?_
  refine c_X5_firstLineAbove ka2 e11a hn3 hq0 kq nq (fun _ => ?_)
  rw [eq0]
  rcases fstN_spec (P := fun j => decide (nI r < hi h q j)) (n := n) with ⟨e, -⟩ | ⟨j, e, j1, j2, -⟩
  · rw [e]
    refine x_istore_n eX7_reefOnce_8 rfl (by decide) rfl rfl ?_
    refine x_iload_n eX7_reefOnce_9 rfl rfl ?_
    refine x_iconst (v := (-1)) eX7_reefOnce_10 (by decide) ?_
    first | refine x_icmp_neN (tgt := 16) eX7_reefOnce_11 (by decide) (by with_reducible rfl) (by with_reducible rfl) (by omega) (by omega) (fun cq1 => ?_) (fun cq1 => ?_) | refine x_icmp_ne (tgt := 16) eX7_reefOnce_11 (by decide) (fun cq1 => ?_) (fun cq1 => ?_)
    · exact absurd rfl cq1
    · refine x_iconst (v := nI 0) eX7_reefOnce_14 (by decide) ?_
      refine x_zret eX7_reefOnce_15 rfl (by first | exact Or.inl rfl | exact Or.inr rfl | exact bI_or _ | assumption) ?_
      exact hf e
  · obtain ⟨m1, m2, m3⟩ := hl j j1
    have hlt : r < nt (hi h q j) := by
      have z := of_decide_eq_true j2
      rw [m1] at z
      exact (nI_ltI (by omega) (by omega)).mp z
    have hne : ¬ hi h q j = -1 := fun z => by
      have := nI_pos' (n := nt (hi h q j)) (by omega)
      rw [← m1, z] at this
      exact absurd this (by decide)
    have qt := ht j j1 e hlt
    obtain ⟨m, hm⟩ : ∃ m, m = nt (hi h q j) := ⟨_, rfl⟩
    rw [e]
    rw [← hm] at qt m1 m2 m3
    simp only [m1] at hne qt ⊢
    refine x_istore_n eX7_reefOnce_8 rfl (by decide) rfl rfl ?_
    refine x_iload_n eX7_reefOnce_9 rfl rfl ?_
    refine x_iconst (v := (-1)) eX7_reefOnce_10 (by decide) ?_
    first | refine x_icmp_neN (tgt := 16) eX7_reefOnce_11 (by decide) (by with_reducible rfl) (by with_reducible rfl) (by omega) (by omega) (fun cq2 => ?_) (fun cq2 => ?_) | refine x_icmp_ne (tgt := 16) eX7_reefOnce_11 (by decide) (fun cq2 => ?_) (fun cq2 => ?_)
    · first | refine x_aload_n eX7_reefOnce_16 rfl rfl ?_ | refine x_aload_nN eX7_reefOnce_16 rfl rfl ?_
      first | refine x_aload_n eX7_reefOnce_17 rfl rfl ?_ | refine x_aload_nN eX7_reefOnce_17 rfl rfl ?_
      first | refine x_aload_n eX7_reefOnce_18 rfl rfl ?_ | refine x_aload_nN eX7_reefOnce_18 rfl rfl ?_
      first | refine x_getIe eX7_reefOnce_19 fk_X7_38 (by decide) (by assumption) (by assumption) ?_ | refine x_getI eX7_reefOnce_19 fk_X7_38 (by decide) (by assumption) ?_
      refine x_iload_n eX7_reefOnce_22 rfl rfl ?_
      refine x_iconst (v := (-1)) eX7_reefOnce_23 (by decide) ?_
      refine x_callV4 eX7_reefOnce_24 lk_X7_44 (by assumption) (Nat.le_of_ble_eq_true rfl) (Nat.le_of_ble_eq_true rfl) ?_
      refine c_X7_addStrips S ka h7 ks ns h1 (by omega) hr6 hH (fun _ => ?_)
      have ka3 : hk (hoH h c (adL f r (m - r) (fun y => (-1 : Int32).toInt64 * (hi h st y).toInt64 * (hi h wa y).toInt64)) t) a = 4 := ka
      first | refine x_aload_n eX7_reefOnce_27 rfl rfl ?_ | refine x_aload_nN eX7_reefOnce_27 rfl rfl ?_
      refine x_iload_n eX7_reefOnce_28 rfl rfl ?_
      refine x_putI eX7_reefOnce_29 fk_X7_38 (by decide) rfl ⟨_, rfl, Or.inl rfl⟩ (by assumption) ?_
      rw [ho_wi ka]
      refine x_iconst (v := nI 1) eX7_reefOnce_32 (by decide) ?_
      refine x_zret eX7_reefOnce_33 rfl (by first | exact Or.inl rfl | exact Or.inr rfl | exact bI_or _ | assumption) ?_
      exact qt
    · exact absurd cq2 hne
set_option maxRecDepth 100000 in
set_option maxHeartbeats 4000000 in
theorem c_X7_forceAt {k : Int32} (kp : hk h p = 6) (hc : hr h p 2 = some c) (kc : hk h c = 23) (nc : hn h c = 60) (hq : Q (some (.long (if hpV (nI 60) k then hl h c (nt k) else 0))) h) : Rn G d mX7_forceAt 0 [(0, .ref p), (1, .int k)] [] h Q := by
  refine x_iload_n eX7_forceAt_0 rfl rfl ?_
  refine x_if_lt (tgt := 22) eX7_forceAt_1 (by decide) (fun cq1 => ?_) (fun cq1 => ?_)
  · rw [if_neg (by rw [hpV_n cq1]; decide)] at hq
    refine x_lconst (v := 0) eX7_forceAt_22 (by decide) ?_
    refine x_lret eX7_forceAt_23 rfl ?_
    exact hq
  · refine x_iload_n eX7_forceAt_4 rfl rfl ?_
    first | refine x_aload_n eX7_forceAt_5 rfl rfl ?_ | refine x_aload_nN eX7_forceAt_5 rfl rfl ?_
    first | refine x_getR eX7_forceAt_6 fk_X7_18 rfl (by assumption) (by assumption) ?_ | refine x_getN eX7_forceAt_6 fk_X7_18 rfl (by assumption) (by assumption) ?_
    first | refine x_alenN eX7_forceAt_9 (by assumption) (by decide) (by assumption) ?_ | refine x_slenN eX7_forceAt_9 (by assumption) (by assumption) ?_ | refine x_alen eX7_forceAt_9 (by assumption) (by decide) ?_
    first | refine x_icmp_geN (tgt := 22) eX7_forceAt_10 (by decide) (by with_reducible rfl) (by with_reducible rfl) (by omega) (by omega) (fun cq2 => ?_) (fun cq2 => ?_) | refine x_icmp_ge (tgt := 22) eX7_forceAt_10 (by decide) (fun cq2 => ?_) (fun cq2 => ?_)
    · rw [if_neg (by rw [hpV_g cq2]; decide)] at hq
      refine x_lconst (v := 0) eX7_forceAt_22 (by decide) ?_
      refine x_lret eX7_forceAt_23 rfl ?_
      exact hq
    · rw [if_pos (hpV_t cq1 cq2)] at hq
      obtain ⟨j, hj, rfl⟩ := lt_nI (Int32.not_lt.mp cq1) (Int32.not_le.mp cq2) (isN_nI (b := 60) (by omega) (Nat.zero_le _) (by omega)) (by omega)
      rw [nt_nI (by omega)] at hj
      rw [nt_nI (by omega)] at hq
      first | refine x_aload_n eX7_forceAt_13 rfl rfl ?_ | refine x_aload_nN eX7_forceAt_13 rfl rfl ?_
      first | refine x_getR eX7_forceAt_14 fk_X7_18 rfl (by assumption) (by assumption) ?_ | refine x_getN eX7_forceAt_14 fk_X7_18 rfl (by assumption) (by assumption) ?_
      refine x_iload_n eX7_forceAt_17 rfl rfl ?_
      first | refine x_laldN eX7_forceAt_18 (by with_reducible rfl) (by assumption) (by assumption) (by omega) (by omega) ?_ | refine x_lald eX7_forceAt_18 (by assumption) (by assumption) ?_
      refine x_goto (tgt := 23) eX7_forceAt_19 (by decide) ?_
      refine x_lret eX7_forceAt_23 rfl ?_
      exact hq
set_option maxRecDepth 100000 in
set_option maxHeartbeats 4000000 in
theorem c_X7_pushAt {k : Nat} (kp : hk h p = 6) (hc : hr h p 2 = some c) (kc : hk h c = 23) (nc : hn h c = 60) (hk6 : k ≤ 60) (hq : Q (some (.long (pvV (hl h c) k))) h) : Rn G (d + 1) mX7_pushAt 0 [(0, .ref p), (1, .int (nI k))] [] h Q := by
  have e2 : (if hpV (nI 60) (nI k) = true then hl h c (nt (nI k)) else 0) = if k < 60 then hl h c k else 0 := by
    rw [hpV_nI (by omega) (by omega), nt_nI (by omega)]
    by_cases z : k < 60
    · rw [if_pos (decide_eq_true z), if_pos z]
    · rw [if_neg (by rw [decide_eq_false z]; decide), if_neg z]
  rcases Nat.eq_zero_or_pos k with z | z
  · subst z
    have e1 : (if hpV (nI 60) (nI 0 - nI 1) = true then hl h c (nt (nI 0 - nI 1)) else 0) = 0 := if_neg (by decide)
    first | refine x_aload_n eX7_pushAt_0 rfl rfl ?_ | refine x_aload_nN eX7_pushAt_0 rfl rfl ?_
    refine x_iload_n eX7_pushAt_1 rfl rfl ?_
    refine x_iconst (v := nI 1) eX7_pushAt_2 (by decide) ?_
    first | refine x_isubN eX7_pushAt_3 (by with_reducible rfl) (by with_reducible rfl) (by omega) ?_ | refine x_isub eX7_pushAt_3 ?_
    refine x_callV1 eX7_pushAt_4 lk_X7_61 (by assumption) (Nat.le_of_ble_eq_true rfl) (Nat.le_of_ble_eq_true rfl) ?_
    refine c_X7_forceAt kp hc kc nc (fun _ => ?_)
    rw [e1]
    first | refine x_aload_n eX7_pushAt_7 rfl rfl ?_ | refine x_aload_nN eX7_pushAt_7 rfl rfl ?_
    refine x_iload_n eX7_pushAt_8 rfl rfl ?_
    refine x_callV1 eX7_pushAt_9 lk_X7_61 (by assumption) (Nat.le_of_ble_eq_true rfl) (Nat.le_of_ble_eq_true rfl) ?_
    refine c_X7_forceAt kp hc kc nc (fun _ => ?_)
    rw [e2]
    refine x_ladd eX7_pushAt_12 ?_
    refine x_lret eX7_pushAt_13 rfl ?_
    exact hq
  · have e1 : (if hpV (nI 60) (nI (k - 1)) = true then hl h c (nt (nI (k - 1))) else 0) = hl h c (k - 1) := by
      rw [hpV_nI (by omega) (by omega), nt_nI (by omega), if_pos (decide_eq_true (by omega))]
    unfold pvV at hq
    rw [if_neg (by omega)] at hq
    first | refine x_aload_n eX7_pushAt_0 rfl rfl ?_ | refine x_aload_nN eX7_pushAt_0 rfl rfl ?_
    refine x_iload_n eX7_pushAt_1 rfl rfl ?_
    refine x_iconst (v := nI 1) eX7_pushAt_2 (by decide) ?_
    first | refine x_isubN eX7_pushAt_3 (by with_reducible rfl) (by with_reducible rfl) (by omega) ?_ | refine x_isub eX7_pushAt_3 ?_
    refine x_callV1 eX7_pushAt_4 lk_X7_61 (by assumption) (Nat.le_of_ble_eq_true rfl) (Nat.le_of_ble_eq_true rfl) ?_
    refine c_X7_forceAt kp hc kc nc (fun _ => ?_)
    rw [e1]
    first | refine x_aload_n eX7_pushAt_7 rfl rfl ?_ | refine x_aload_nN eX7_pushAt_7 rfl rfl ?_
    refine x_iload_n eX7_pushAt_8 rfl rfl ?_
    refine x_callV1 eX7_pushAt_9 lk_X7_61 (by assumption) (Nat.le_of_ble_eq_true rfl) (Nat.le_of_ble_eq_true rfl) ?_
    refine c_X7_forceAt kp hc kc nc (fun _ => ?_)
    rw [e2]
    refine x_ladd eX7_pushAt_12 ?_
    refine x_lret eX7_pushAt_13 rfl ?_
    exact hq
set_option maxRecDepth 100000 in
set_option maxHeartbeats 4000000 in
theorem l_X7_firstBreak {la : Nat} {g wd rf ld : Nat → Int32} (kp : hk h p = 6) (hl0 : hr h p 0 = some la) (kl : hk h la = 20) (nl : hn h la = 61) (hc : hr h p 2 = some c) (kc : hk h c = 23) (nc : hn h c = 60) (el : ∀ k, k < 61 → hi h la k = ld k) (ep : ∀ k, k < 61 → pvV (hl h c) k = pshV g wd rf k) (hq : Q (some (.int (brkV g wd rf ld))) h) : ∀ n k, k + n = 61 → (∀ j, j < k → decide (4 * (ld j).toInt64 < pshV g wd rf j) = false) → Rn G (d + 2) mX7_firstBreak 2 [(0, .ref p), (1, .int (nI k))] [] h Q := by
  intro n
  induction n with
  | zero =>
    intro k hk0 hall
    refine x_iload_n eX7_firstBreak_2 rfl rfl ?_
    first | refine x_aload_n eX7_firstBreak_3 rfl rfl ?_ | refine x_aload_nN eX7_firstBreak_3 rfl rfl ?_
    first | refine x_getR eX7_firstBreak_4 fk_X7_9 rfl (by assumption) (by assumption) ?_ | refine x_getN eX7_firstBreak_4 fk_X7_9 rfl (by assumption) (by assumption) ?_
    first | refine x_alenN eX7_firstBreak_7 (by assumption) (by decide) (by assumption) ?_ | refine x_slenN eX7_firstBreak_7 (by assumption) (by assumption) ?_ | refine x_alen eX7_firstBreak_7 (by assumption) (by decide) ?_
    first | refine x_icmp_geN (tgt := 39) eX7_firstBreak_8 (by decide) (by with_reducible rfl) (by with_reducible rfl) (by omega) (by omega) (fun cq1 => ?_) (fun cq1 => ?_) | refine x_icmp_ge (tgt := 39) eX7_firstBreak_8 (by decide) (fun cq1 => ?_) (fun cq1 => ?_)
    · refine x_iconst (v := (-1)) eX7_firstBreak_39 (by decide) ?_
      refine x_iret eX7_firstBreak_40 rfl ?_
      exact qi hq (brk_none (fun j hj => hall j (by omega))).symm
    · exact absurd cq1 (by omega)
  | succ n ih =>
    intro k hk0 hall
    refine x_iload_n eX7_firstBreak_2 rfl rfl ?_
    first | refine x_aload_n eX7_firstBreak_3 rfl rfl ?_ | refine x_aload_nN eX7_firstBreak_3 rfl rfl ?_
    first | refine x_getR eX7_firstBreak_4 fk_X7_9 rfl (by assumption) (by assumption) ?_ | refine x_getN eX7_firstBreak_4 fk_X7_9 rfl (by assumption) (by assumption) ?_
    first | refine x_alenN eX7_firstBreak_7 (by assumption) (by decide) (by assumption) ?_ | refine x_slenN eX7_firstBreak_7 (by assumption) (by assumption) ?_ | refine x_alen eX7_firstBreak_7 (by assumption) (by decide) ?_
    first | refine x_icmp_geN (tgt := 39) eX7_firstBreak_8 (by decide) (by with_reducible rfl) (by with_reducible rfl) (by omega) (by omega) (fun cq1 => ?_) (fun cq1 => ?_) | refine x_icmp_ge (tgt := 39) eX7_firstBreak_8 (by decide) (fun cq1 => ?_) (fun cq1 => ?_)
    · exact absurd cq1 (by omega)
    · first | refine x_aload_n eX7_firstBreak_11 rfl rfl ?_ | refine x_aload_nN eX7_firstBreak_11 rfl rfl ?_
      refine x_iload_n eX7_firstBreak_12 rfl rfl ?_
      refine x_callV1 eX7_firstBreak_13 lk_X7_65 (by assumption) (Nat.le_of_ble_eq_true rfl) (Nat.le_of_ble_eq_true rfl) ?_
      refine c_X7_pushAt kp hc kc nc (by omega) (fun _ => ?_)
      refine x_ldc2 (v := 4) eX7_firstBreak_16 kk_X7_68 ?_
      first | refine x_aload_n eX7_firstBreak_19 rfl rfl ?_ | refine x_aload_nN eX7_firstBreak_19 rfl rfl ?_
      first | refine x_getR eX7_firstBreak_20 fk_X7_9 rfl (by assumption) (by assumption) ?_ | refine x_getN eX7_firstBreak_20 fk_X7_9 rfl (by assumption) (by assumption) ?_
      refine x_iload_n eX7_firstBreak_23 rfl rfl ?_
      first | refine x_ialdN eX7_firstBreak_24 (by with_reducible rfl) (by assumption) (by assumption) (by omega) (by omega) ?_ | refine x_sldN eX7_firstBreak_24 (by with_reducible rfl) (by assumption) (by assumption) (by omega) (by omega) ?_ | refine x_iald eX7_firstBreak_24 (by assumption) (by assumption) ?_
      refine x_i2l eX7_firstBreak_25 ?_
      refine x_lmul eX7_firstBreak_26 ?_
      refine x_lcmp eX7_firstBreak_27 ?_
      refine x_if_le (tgt := 33) eX7_firstBreak_28 (by decide) (fun cq2 => ?_) (fun cq2 => ?_)
      · have c2 := (lg_le _ _).mp cq2
        rw [ep k (by omega), el k (by omega)] at c2
        first | refine x_iincN eX7_firstBreak_33 rfl (by with_reducible rfl) (by decide) rfl rfl ?_ | refine x_iinc eX7_firstBreak_33 rfl rfl (by decide) rfl rfl ?_
        refine x_goto (tgt := 2) eX7_firstBreak_36 (by decide) ?_
        refine Rn.weak (ih (k + 1) (by omega) (fun j hj => by by_cases z : j < k; exact hall j z; rw [show j = k by omega]; exact decide_eq_false c2)) (by repeat' first | exact fun _ h => absurd h List.not_mem_nil | refine List.forall_mem_cons.mpr ⟨rfl, ?_⟩)
      · have c2 : 4 * (ld k).toInt64 < pshV g wd rf k := Decidable.byContradiction fun z => cq2 ((lg_le _ _).mpr (by rw [ep k (by omega), el k (by omega)]; exact z))
        refine x_iload_n eX7_firstBreak_31 rfl rfl ?_
        refine x_iret eX7_firstBreak_32 rfl ?_
        exact qi hq (brk_some (by omega) c2 hall).symm
set_option maxRecDepth 100000 in
set_option maxHeartbeats 4000000 in
theorem c_X7_firstBreak {la : Nat} {g wd rf ld : Nat → Int32} (kp : hk h p = 6) (hl0 : hr h p 0 = some la) (kl : hk h la = 20) (nl : hn h la = 61) (hc : hr h p 2 = some c) (kc : hk h c = 23) (nc : hn h c = 60) (el : ∀ k, k < 61 → hi h la k = ld k) (ep : ∀ k, k < 61 → pvV (hl h c) k = pshV g wd rf k) (hq : Q (some (.int (brkV g wd rf ld))) h) : Rn G (d + 2) mX7_firstBreak 0 [(0, .ref p)] [] h Q := by
  refine x_iconst (v := nI 0) eX7_firstBreak_0 (by decide) ?_
  refine x_istore_n eX7_firstBreak_1 rfl (by decide) rfl rfl ?_
  refine Rn.weak (l_X7_firstBreak kp hl0 kl nl hc kc nc el ep hq 61 0 (by omega) (fun j hj => absurd hj (by omega))) (by repeat' first | exact fun _ h => absurd h List.not_mem_nil | refine List.forall_mem_cons.mpr ⟨rfl, ?_⟩)
end SPAR

