/-! ===== the reference: fewest, its tables ===== -/
section REF21
variable {G : GG} {d : Nat} {h : AH} {Q : Option Value → AH → Prop} {x la kp : Nat}
set_option maxRecDepth 100000 in
set_option maxHeartbeats 4000000 in
theorem l_X9_few1 {s c : Nat} {w : Int32} (M : MD h x) (hc : c ≤ 8) (kx : ∀ m b, (∀ T, T < 2 ^ c → m T = nI (if T = 0 then 0 else 99)) → Rn G (d + 5) mX9_fewest 119 [(0, .ref x), (1, .int (nI s)), (2, .int w), (3, .int (nI c))] [] (mbH h x m b) Q) : ∀ n k m b, k + n = 2 ^ c → (∀ T, T < k → m T = nI (if T = 0 then 0 else 99)) → Rn G (d + 5) mX9_fewest 87 [(0, .ref x), (1, .int (nI s)), (2, .int w), (3, .int (nI c)), (4, .int (nI k))] [] (mbH h x m b) Q := by
  have hN : 2 ^ c ≤ 256 := Nat.pow_le_pow_right (n := 2) (i := c) (j := 8) (by decide) hc
  intro n
  induction n with
  | zero =>
    intro k m b hk0 hall
    refine x_iload eX9_fewest_87 rfl ?_
    refine x_iconst (v := nI 1) eX9_fewest_89 (by decide) ?_
    refine x_iload_n eX9_fewest_90 rfl rfl ?_
    refine x_ishl eX9_fewest_91 ?_
    rw [shl_n (by omega)]
    first | refine x_icmp_geN (tgt := 119) eX9_fewest_92 (by decide) (by with_reducible rfl) (by with_reducible rfl) (by omega) (by omega) (fun cq1 => ?_) (fun cq1 => ?_) | refine x_icmp_ge (tgt := 119) eX9_fewest_92 (by decide) (fun cq1 => ?_) (fun cq1 => ?_)
    · refine Rn.weak (kx m b (fun T hT => hall T (by omega))) (by repeat' first | exact fun _ h => absurd h List.not_mem_nil | refine List.forall_mem_cons.mpr ⟨rfl, ?_⟩)
    · exact absurd cq1 (by omega)
  | succ n ih =>
    intro k m b hk0 hall
    have M2 : MD (mbH h x m b) x := M
    obtain ⟨⟨hx, hS, kS, nS⟩, -, -, -, -, -, ⟨h8, k8, n8⟩, -⟩ := id M2
    have nx : ∀ v, v = nI (if k = 0 then 0 else 99) → ∀ T, T < k + 1 → upd0 m k v T = nI (if T = 0 then 0 else 99) := by
      intro v hv T hT
      by_cases z : T = k
      · rw [z, upd0_same, hv]
      · rw [upd0_ne z]
        exact hall T (by omega)
    refine x_iload eX9_fewest_87 rfl ?_
    refine x_iconst (v := nI 1) eX9_fewest_89 (by decide) ?_
    refine x_iload_n eX9_fewest_90 rfl rfl ?_
    refine x_ishl eX9_fewest_91 ?_
    rw [shl_n (by omega)]
    first | refine x_icmp_geN (tgt := 119) eX9_fewest_92 (by decide) (by with_reducible rfl) (by with_reducible rfl) (by omega) (by omega) (fun cq1 => ?_) (fun cq1 => ?_) | refine x_icmp_ge (tgt := 119) eX9_fewest_92 (by decide) (fun cq1 => ?_) (fun cq1 => ?_)
    · exact absurd cq1 (by omega)
    · first | refine x_aload_n eX9_fewest_95 rfl rfl ?_ | refine x_aload_nN eX9_fewest_95 rfl rfl ?_
      first | refine x_getR eX9_fewest_96 fk_X9_30 rfl (by assumption) (by assumption) ?_ | refine x_getN eX9_fewest_96 fk_X9_30 rfl (by assumption) (by assumption) ?_
      refine x_iload eX9_fewest_99 rfl ?_
      refine x_iload eX9_fewest_101 rfl ?_
      first | refine x_if_neB (tgt := 110) eX9_fewest_103 (by decide) (by with_reducible rfl) (fun cq2 => ?_) (fun cq2 => ?_) | refine x_if_ne (tgt := 110) eX9_fewest_103 (by decide) (fun cq2 => ?_) (fun cq2 => ?_)
      · have z : ¬ k = 0 := fun y => cq2 (by rw [y]; rfl)
        refine x_bipush (v := nI 99) eX9_fewest_110 (by decide) ?_
        first | refine x_iastN eX9_fewest_112 (by with_reducible rfl) (by assumption) (by assumption) (by omega) (by omega) ?_ | refine x_iast eX9_fewest_112 (by assumption) (by assumption) ?_
        first | refine x_iincN eX9_fewest_113 rfl (by with_reducible rfl) (by decide) rfl rfl ?_ | refine x_iinc eX9_fewest_113 rfl rfl (by decide) rfl rfl ?_
        refine x_goto (tgt := 87) eX9_fewest_116 (by decide) ?_
        rw [mb_w7]
        refine Rn.weak (ih (k + 1) _ b (by omega) (nx _ (by rw [if_neg z]))) (by repeat' first | exact fun _ h => absurd h List.not_mem_nil | refine List.forall_mem_cons.mpr ⟨rfl, ?_⟩)
      · have z : k = 0 := by
          refine Decidable.byContradiction fun y => ?_
          exact nI_ne0 (n := k) (by omega) (by omega) cq2
        refine x_iconst (v := nI 0) eX9_fewest_106 (by decide) ?_
        refine x_goto (tgt := 112) eX9_fewest_107 (by decide) ?_
        first | refine x_iastN eX9_fewest_112 (by with_reducible rfl) (by assumption) (by assumption) (by omega) (by omega) ?_ | refine x_iast eX9_fewest_112 (by assumption) (by assumption) ?_
        first | refine x_iincN eX9_fewest_113 rfl (by with_reducible rfl) (by decide) rfl rfl ?_ | refine x_iinc eX9_fewest_113 rfl rfl (by decide) rfl rfl ?_
        refine x_goto (tgt := 87) eX9_fewest_116 (by decide) ?_
        rw [mb_w7]
        refine Rn.weak (ih (k + 1) _ b (by omega) (nx _ (by rw [if_pos z]))) (by repeat' first | exact fun _ h => absurd h List.not_mem_nil | refine List.forall_mem_cons.mpr ⟨rfl, ?_⟩)
set_option maxRecDepth 100000 in
set_option maxHeartbeats 4000000 in
theorem l_X9_few3 {b s c : Nat} {w : Int32} {m bf : Nat → Int32} (M : MD h x) (W : GW (hi h (x + 1))) (hb : b < nt (hi h (x + 1) 0)) (kx : Rn G (d + 5) mX9_fewest 186 [(0, .ref x), (1, .int (nI s)), (2, .int w), (3, .int (nI c)), (4, .int (nI b)), (5, .int (bI (okB (hi h (x + 1)) b w)))] [] (mbH h x m bf) Q) : ∀ n k, k + n = nt (bl (hi h (x + 1)) b 1) → Rn G (d + 5) mX9_fewest 144 [(0, .ref x), (1, .int (nI s)), (2, .int w), (3, .int (nI c)), (4, .int (nI b)), (5, .int (bI (bareV (hi h (x + 1)) (nI b) && allN (fun k => decide (wornN (hi h (x + 1)) b k ≤ w)) k))), (6, .int (nI k))] [] (mbH h x m bf) Q := by
  have h24 := W.1.2.2
  have M2 : MD (mbH h x m bf) x := M
  have e1 := mb_ne h (x := x) (a := x + 1) m bf (by omega) (by omega)
  obtain ⟨-, ⟨eL, lL, uL⟩, -⟩ := W.2.2.1 b hb
  obtain ⟨⟨hx, hS, kS, nS⟩, -⟩ := id M2
  intro n
  induction n with
  | zero =>
    intro k hk0
    have e : k = nt (bl (hi h (x + 1)) b 1) := by omega
    refine x_iload eX9_fewest_144 rfl ?_
    first | refine x_aload_n eX9_fewest_146 rfl rfl ?_ | refine x_aload_nN eX9_fewest_146 rfl rfl ?_
    refine x_iload eX9_fewest_147 rfl ?_
    refine x_iconst (v := nI 1) eX9_fewest_149 (by decide) ?_
    refine x_callV2 eX9_fewest_150 lk_X9_92 (by assumption) (Nat.le_of_ble_eq_true rfl) (Nat.le_of_ble_eq_true rfl) ?_
    refine Rn.deep (c_X9_bolt (d := d) M2.md (by omega) (fun _ => ?_)) (by omega)
    rw [e1, eL]
    first | refine x_icmp_geN (tgt := 186) eX9_fewest_153 (by decide) (by with_reducible rfl) (by with_reducible rfl) (by omega) (by omega) (fun cq1 => ?_) (fun cq1 => ?_) | refine x_icmp_ge (tgt := 186) eX9_fewest_153 (by decide) (fun cq1 => ?_) (fun cq1 => ?_)
    · rw [e]
      refine Rn.weak (kx) (by repeat' first | exact fun _ h => absurd h List.not_mem_nil | refine List.forall_mem_cons.mpr ⟨rfl, ?_⟩)
    · exact absurd cq1 (by omega)
  | succ n ih =>
    intro k hk0
    have iw := ih (k + 1) (by omega)
    rw [allN] at iw
    refine x_iload eX9_fewest_144 rfl ?_
    first | refine x_aload_n eX9_fewest_146 rfl rfl ?_ | refine x_aload_nN eX9_fewest_146 rfl rfl ?_
    refine x_iload eX9_fewest_147 rfl ?_
    refine x_iconst (v := nI 1) eX9_fewest_149 (by decide) ?_
    refine x_callV2 eX9_fewest_150 lk_X9_92 (by assumption) (Nat.le_of_ble_eq_true rfl) (Nat.le_of_ble_eq_true rfl) ?_
    refine Rn.deep (c_X9_bolt (d := d) M2.md (by omega) (fun _ => ?_)) (by omega)
    rw [e1, eL]
    first | refine x_icmp_geN (tgt := 186) eX9_fewest_153 (by decide) (by with_reducible rfl) (by with_reducible rfl) (by omega) (by omega) (fun cq1 => ?_) (fun cq1 => ?_) | refine x_icmp_ge (tgt := 186) eX9_fewest_153 (by decide) (fun cq1 => ?_) (fun cq1 => ?_)
    · exact absurd cq1 (by omega)
    · refine x_iload eX9_fewest_156 rfl ?_
      first | refine x_if_eqB (tgt := 186) eX9_fewest_158 (by decide) (by with_reducible rfl) (fun cq2 => ?_) (fun cq2 => ?_) | refine x_if_eq (tgt := 186) eX9_fewest_158 (by decide) (fun cq2 => ?_) (fun cq2 => ?_)
      · have c2 : (bareV (hi h (x + 1)) (nI b) && allN (fun k => decide (wornN (hi h (x + 1)) b k ≤ w)) k) = false := cq2
        have e : okB (hi h (x + 1)) b w = false := by
          unfold okB
          rcases Bool.and_eq_false_iff.mp c2 with z | z
          · rw [z, Bool.false_and]
          · cases hz : allN (fun k => decide (wornN (hi h (x + 1)) b k ≤ w)) (nt (bl (hi h (x + 1)) b 1)) with
            | false => rw [Bool.and_false]
            | true =>
              rw [allN_iff.mpr (fun j hj => allN_iff.mp hz j (by omega))] at z
              cases z
        rw [e] at kx
        rw [c2]
        refine Rn.weak (kx) (by repeat' first | exact fun _ h => absurd h List.not_mem_nil | refine List.forall_mem_cons.mpr ⟨rfl, ?_⟩)
      · have c2 : (bareV (hi h (x + 1)) (nI b) && allN (fun k => decide (wornN (hi h (x + 1)) b k ≤ w)) k) = true := cq2
        rw [← Bool.and_assoc, c2, Bool.true_and] at iw
        first | refine x_aload_n eX9_fewest_161 rfl rfl ?_ | refine x_aload_nN eX9_fewest_161 rfl rfl ?_
        refine x_iload eX9_fewest_162 rfl ?_
        refine x_iload eX9_fewest_164 rfl ?_
        refine x_callV2 eX9_fewest_166 lk_X9_146 (by assumption) (Nat.le_of_ble_eq_true rfl) (Nat.le_of_ble_eq_true rfl) ?_
        refine Rn.deep (c_X9_wornN (d := d) M2.md (by rw [e1]; exact W) (by rw [e1]; exact hb) (by rw [e1]; omega) (fun _ => ?_)) (by omega)
        rw [e1]
        refine x_iload_n eX9_fewest_169 rfl rfl ?_
        first | refine x_icmp_gtN (tgt := 177) eX9_fewest_170 (by decide) (by with_reducible rfl) (by with_reducible rfl) (by omega) (by omega) (fun cq3 => ?_) (fun cq3 => ?_) | refine x_icmp_gt (tgt := 177) eX9_fewest_170 (by decide) (fun cq3 => ?_) (fun cq3 => ?_)
        · rw [decide_eq_false (Int32.not_le.mpr cq3)] at iw
          refine x_iconst (v := nI 0) eX9_fewest_177 (by decide) ?_
          refine x_istore eX9_fewest_178 (by decide) rfl rfl ?_
          first | refine x_iincN eX9_fewest_180 rfl (by with_reducible rfl) (by decide) rfl rfl ?_ | refine x_iinc eX9_fewest_180 rfl rfl (by decide) rfl rfl ?_
          refine x_goto (tgt := 144) eX9_fewest_183 (by decide) ?_
          refine Rn.weak (iw) (by repeat' first | exact fun _ h => absurd h List.not_mem_nil | refine List.forall_mem_cons.mpr ⟨rfl, ?_⟩)
        · rw [decide_eq_true (Int32.not_lt.mp cq3)] at iw
          refine x_iconst (v := nI 1) eX9_fewest_173 (by decide) ?_
          refine x_goto (tgt := 178) eX9_fewest_174 (by decide) ?_
          refine x_istore eX9_fewest_178 (by decide) rfl rfl ?_
          first | refine x_iincN eX9_fewest_180 rfl (by with_reducible rfl) (by decide) rfl rfl ?_ | refine x_iinc eX9_fewest_180 rfl rfl (by decide) rfl rfl ?_
          refine x_goto (tgt := 144) eX9_fewest_183 (by decide) ?_
          refine Rn.weak (iw) (by repeat' first | exact fun _ h => absurd h List.not_mem_nil | refine List.forall_mem_cons.mpr ⟨rfl, ?_⟩)
set_option maxRecDepth 100000 in
set_option maxHeartbeats 4000000 in
theorem l_X9_few4 {b s c : Nat} {w : Int32} {m : Nat → Int32} {l5 : Int32} (M : MD h x) (hc : c ≤ 8) (kx : ∀ bf, (∀ T, T < 2 ^ c → bf T = m T) → Rn G (d + 5) mX9_fewest 225 [(0, .ref x), (1, .int (nI s)), (2, .int w), (3, .int (nI c)), (4, .int (nI b))] [] (mbH h x m bf) Q) : ∀ n k bf, k + n = 2 ^ c → (∀ T, T < k → bf T = m T) → Rn G (d + 5) mX9_fewest 197 [(0, .ref x), (1, .int (nI s)), (2, .int w), (3, .int (nI c)), (4, .int (nI b)), (6, .int (nI k))] [] (mbH h x m bf) Q := by
  have hN : 2 ^ c ≤ 256 := Nat.pow_le_pow_right (n := 2) (i := c) (j := 8) (by decide) hc
  intro n
  induction n with
  | zero =>
    intro k bf hk0 hall
    refine x_iload eX9_fewest_197 rfl ?_
    refine x_iconst (v := nI 1) eX9_fewest_199 (by decide) ?_
    refine x_iload_n eX9_fewest_200 rfl rfl ?_
    refine x_ishl eX9_fewest_201 ?_
    rw [shl_n (by omega)]
    first | refine x_icmp_geN (tgt := 225) eX9_fewest_202 (by decide) (by with_reducible rfl) (by with_reducible rfl) (by omega) (by omega) (fun cq1 => ?_) (fun cq1 => ?_) | refine x_icmp_ge (tgt := 225) eX9_fewest_202 (by decide) (fun cq1 => ?_) (fun cq1 => ?_)
    · refine Rn.weak (kx bf (fun T hT => hall T (by omega))) (by repeat' first | exact fun _ h => absurd h List.not_mem_nil | refine List.forall_mem_cons.mpr ⟨rfl, ?_⟩)
    · exact absurd cq1 (by omega)
  | succ n ih =>
    intro k bf hk0 hall
    have M2 : MD (mbH h x m bf) x := M
    obtain ⟨⟨hx, hS, kS, nS⟩, -, -, -, -, -, ⟨h8, k8, n8⟩, ⟨h9, k9, n9⟩, -⟩ := id M2
    refine x_iload eX9_fewest_197 rfl ?_
    refine x_iconst (v := nI 1) eX9_fewest_199 (by decide) ?_
    refine x_iload_n eX9_fewest_200 rfl rfl ?_
    refine x_ishl eX9_fewest_201 ?_
    rw [shl_n (by omega)]
    first | refine x_icmp_geN (tgt := 225) eX9_fewest_202 (by decide) (by with_reducible rfl) (by with_reducible rfl) (by omega) (by omega) (fun cq1 => ?_) (fun cq1 => ?_) | refine x_icmp_ge (tgt := 225) eX9_fewest_202 (by decide) (fun cq1 => ?_) (fun cq1 => ?_)
    · exact absurd cq1 (by omega)
    · first | refine x_aload_n eX9_fewest_205 rfl rfl ?_ | refine x_aload_nN eX9_fewest_205 rfl rfl ?_
      first | refine x_getR eX9_fewest_206 fk_X9_33 rfl (by assumption) (by assumption) ?_ | refine x_getN eX9_fewest_206 fk_X9_33 rfl (by assumption) (by assumption) ?_
      refine x_iload eX9_fewest_209 rfl ?_
      first | refine x_aload_n eX9_fewest_211 rfl rfl ?_ | refine x_aload_nN eX9_fewest_211 rfl rfl ?_
      first | refine x_getR eX9_fewest_212 fk_X9_30 rfl (by assumption) (by assumption) ?_ | refine x_getN eX9_fewest_212 fk_X9_30 rfl (by assumption) (by assumption) ?_
      refine x_iload eX9_fewest_215 rfl ?_
      first | refine x_ialdN eX9_fewest_217 (by with_reducible rfl) (by assumption) (by assumption) (by omega) (by omega) ?_ | refine x_sldN eX9_fewest_217 (by with_reducible rfl) (by assumption) (by assumption) (by omega) (by omega) ?_ | refine x_iald eX9_fewest_217 (by assumption) (by assumption) ?_
      rw [mb_7]
      first | refine x_iastN eX9_fewest_218 (by with_reducible rfl) (by assumption) (by assumption) (by omega) (by omega) ?_ | refine x_iast eX9_fewest_218 (by assumption) (by assumption) ?_
      first | refine x_iincN eX9_fewest_219 rfl (by with_reducible rfl) (by decide) rfl rfl ?_ | refine x_iinc eX9_fewest_219 rfl rfl (by decide) rfl rfl ?_
      refine x_goto (tgt := 197) eX9_fewest_222 (by decide) ?_
      rw [mb_w8]
      refine Rn.weak (ih (k + 1) _ (by omega) (fun T hT => by by_cases z : T = k; rw [z, upd0_same]; rw [upd0_ne z]; exact hall T (by omega))) (by repeat' first | exact fun _ h => absurd h List.not_mem_nil | refine List.forall_mem_cons.mpr ⟨rfl, ?_⟩)
set_option maxRecDepth 100000 in
set_option maxHeartbeats 4000000 in
theorem l_X9_few6 {b s c S : Nat} {w : Int32} {bf : Nat → Int32} {B L : Nat → Nat} (M : MD h x) (hc : c ≤ 8) (hS : S < 2 ^ c) (hB : ∀ T, B T ≤ 99) (hL : ∀ T, L T ≤ 99) (hbf : ∀ T, T < 2 ^ c → bf T = nI (B T)) (kx : ∀ m, (∀ T, T < 2 ^ c → m T = nI (if T &&& S = S then min (L T) (1 + B (T &&& (255 ^^^ S))) else L T)) → Rn G (d + 5) mX9_fewest 310 [(0, .ref x), (1, .int (nI s)), (2, .int w), (3, .int (nI c)), (4, .int (nI b)), (6, .int (nI S))] [] (mbH h x m bf) Q) : ∀ n k m, k + n = 2 ^ c → (∀ T, T < 2 ^ c → m T = nI (if T < k ∧ T &&& S = S then min (L T) (1 + B (T &&& (255 ^^^ S))) else L T)) → Rn G (d + 5) mX9_fewest 255 [(0, .ref x), (1, .int (nI s)), (2, .int w), (3, .int (nI c)), (4, .int (nI b)), (6, .int (nI S)), (7, .int (nI k))] [] (mbH h x m bf) Q := by
  have hN : 2 ^ c ≤ 256 := Nat.pow_le_pow_right (n := 2) (i := c) (j := 8) (by decide) hc
  intro n
  induction n with
  | zero =>
    intro k m hk0 hall
    refine x_iload eX9_fewest_255 rfl ?_
    refine x_iconst (v := nI 1) eX9_fewest_257 (by decide) ?_
    refine x_iload_n eX9_fewest_258 rfl rfl ?_
    refine x_ishl eX9_fewest_259 ?_
    rw [shl_n (by omega)]
    first | refine x_icmp_geN (tgt := 310) eX9_fewest_260 (by decide) (by with_reducible rfl) (by with_reducible rfl) (by omega) (by omega) (fun cq1 => ?_) (fun cq1 => ?_) | refine x_icmp_ge (tgt := 310) eX9_fewest_260 (by decide) (fun cq1 => ?_) (fun cq1 => ?_)
    · refine Rn.weak (kx m (fun T hT => by rw [hall T hT]; by_cases z : T &&& S = S; rw [if_pos z, if_pos ⟨by omega, z⟩]; rw [if_neg z, if_neg (fun y => z y.2)])) (by repeat' first | exact fun _ h => absurd h List.not_mem_nil | refine List.forall_mem_cons.mpr ⟨rfl, ?_⟩)
    · exact absurd cq1 (by omega)
  | succ n ih =>
    intro k m hk0 hall
    have M2 : MD (mbH h x m bf) x := M
    obtain ⟨⟨hx, hS0, kS, nS⟩, -, -, -, -, -, ⟨h8, k8, n8⟩, ⟨h9, k9, n9⟩, -⟩ := id M2
    have hkN : k < 256 := by omega
    obtain ⟨a1, a2⟩ := and_n (a := k) (b := S) hkN (by omega)
    have lA : k &&& (255 ^^^ S) ≤ k := Nat.and_le_left
    have lB : k &&& S ≤ k := Nat.and_le_left
    refine x_iload eX9_fewest_255 rfl ?_
    refine x_iconst (v := nI 1) eX9_fewest_257 (by decide) ?_
    refine x_iload_n eX9_fewest_258 rfl rfl ?_
    refine x_ishl eX9_fewest_259 ?_
    rw [shl_n (by omega)]
    first | refine x_icmp_geN (tgt := 310) eX9_fewest_260 (by decide) (by with_reducible rfl) (by with_reducible rfl) (by omega) (by omega) (fun cq1 => ?_) (fun cq1 => ?_) | refine x_icmp_ge (tgt := 310) eX9_fewest_260 (by decide) (fun cq1 => ?_) (fun cq1 => ?_)
    · exact absurd cq1 (by omega)
    · refine x_iload eX9_fewest_263 rfl ?_
      refine x_iload eX9_fewest_265 rfl ?_
      refine x_iand eX9_fewest_267 ?_
      rw [a1]
      refine x_iload eX9_fewest_268 rfl ?_
      first | refine x_icmp_neN (tgt := 304) eX9_fewest_270 (by decide) (by with_reducible rfl) (by with_reducible rfl) (by omega) (by omega) (fun cq2 => ?_) (fun cq2 => ?_) | refine x_icmp_ne (tgt := 304) eX9_fewest_270 (by decide) (fun cq2 => ?_) (fun cq2 => ?_)
      · have z : ¬ k &&& S = S := cq2
        first | refine x_iincN eX9_fewest_304 rfl (by with_reducible rfl) (by decide) rfl rfl ?_ | refine x_iinc eX9_fewest_304 rfl rfl (by decide) rfl rfl ?_
        refine x_goto (tgt := 255) eX9_fewest_307 (by decide) ?_
        refine Rn.weak (ih (k + 1) m (by omega) (fun T hT => by rw [hall T hT]; by_cases y : T < k ∧ T &&& S = S; rw [if_pos y, if_pos ⟨by omega, y.2⟩]; rw [if_neg y, if_neg (fun u => y ⟨by by_cases v : T = k; rw [v] at u; exact absurd u.2 z; omega, u.2⟩)])) (by repeat' first | exact fun _ h => absurd h List.not_mem_nil | refine List.forall_mem_cons.mpr ⟨rfl, ?_⟩)
      · have z : k &&& S = S := cq2
        have em : m k = nI (L k) := by rw [hall k (by omega), if_neg (fun y => by omega)]
        have eb := hbf (k &&& (255 ^^^ S)) (by omega)
        have l1 := hB (k &&& (255 ^^^ S))
        have l2 := hL k
        have e2 : (if nI (1 + B (k &&& (255 ^^^ S))) < nI (L k) then nI (1 + B (k &&& (255 ^^^ S))) else nI (L k)) = nI (min (L k) (1 + B (k &&& (255 ^^^ S)))) := by
          by_cases y : 1 + B (k &&& (255 ^^^ S)) < L k
          · rw [if_pos ((nI_ltI (by omega) (by omega)).mpr y), Nat.min_eq_right (by omega)]
          · rw [if_neg (fun u => y ((nI_ltI (by omega) (by omega)).mp u)), Nat.min_eq_left (by omega)]
        first | refine x_aload_n eX9_fewest_273 rfl rfl ?_ | refine x_aload_nN eX9_fewest_273 rfl rfl ?_
        first | refine x_getR eX9_fewest_274 fk_X9_30 rfl (by assumption) (by assumption) ?_ | refine x_getN eX9_fewest_274 fk_X9_30 rfl (by assumption) (by assumption) ?_
        refine x_iload eX9_fewest_277 rfl ?_
        first | refine x_aload_n eX9_fewest_279 rfl rfl ?_ | refine x_aload_nN eX9_fewest_279 rfl rfl ?_
        first | refine x_getR eX9_fewest_280 fk_X9_30 rfl (by assumption) (by assumption) ?_ | refine x_getN eX9_fewest_280 fk_X9_30 rfl (by assumption) (by assumption) ?_
        refine x_iload eX9_fewest_283 rfl ?_
        first | refine x_ialdN eX9_fewest_285 (by with_reducible rfl) (by assumption) (by assumption) (by omega) (by omega) ?_ | refine x_sldN eX9_fewest_285 (by with_reducible rfl) (by assumption) (by assumption) (by omega) (by omega) ?_ | refine x_iald eX9_fewest_285 (by assumption) (by assumption) ?_
        rw [mb_7, em]
        refine x_iconst (v := nI 1) eX9_fewest_286 (by decide) ?_
        first | refine x_aload_n eX9_fewest_287 rfl rfl ?_ | refine x_aload_nN eX9_fewest_287 rfl rfl ?_
        first | refine x_getR eX9_fewest_288 fk_X9_33 rfl (by assumption) (by assumption) ?_ | refine x_getN eX9_fewest_288 fk_X9_33 rfl (by assumption) (by assumption) ?_
        refine x_iload eX9_fewest_291 rfl ?_
        refine x_iload eX9_fewest_293 rfl ?_
        refine x_iconst (v := (-1)) eX9_fewest_295 (by decide) ?_
        refine x_ixor eX9_fewest_296 ?_
        refine x_iand eX9_fewest_297 ?_
        rw [show nI k &&& (nI S ^^^ (-1)) = nI (k &&& (255 ^^^ S)) from a2]
        first | refine x_ialdN eX9_fewest_298 (by with_reducible rfl) (by assumption) (by assumption) (by omega) (by omega) ?_ | refine x_sldN eX9_fewest_298 (by with_reducible rfl) (by assumption) (by assumption) (by omega) (by omega) ?_ | refine x_iald eX9_fewest_298 (by assumption) (by assumption) ?_
        rw [mb_8, eb]
        first | refine x_iaddN eX9_fewest_299 (by with_reducible rfl) (by with_reducible rfl) ?_ | refine x_iadd eX9_fewest_299 ?_
        refine x_min eX9_fewest_300 lk_X9_47 (Nat.le_of_ble_eq_true rfl) ?_
        first | refine x_iastN eX9_fewest_303 (by with_reducible rfl) (by assumption) (by assumption) (by omega) (by omega) ?_ | refine x_iast eX9_fewest_303 (by assumption) (by assumption) ?_
        first | refine x_iincN eX9_fewest_304 rfl (by with_reducible rfl) (by decide) rfl rfl ?_ | refine x_iinc eX9_fewest_304 rfl rfl (by decide) rfl rfl ?_
        refine x_goto (tgt := 255) eX9_fewest_307 (by decide) ?_
        rw [e2, mb_w7]
        refine Rn.weak (ih (k + 1) _ (by omega) (fun T hT => by by_cases v : T = k; rw [v, upd0_same, if_pos ⟨by omega, z⟩]; rw [upd0_ne v, hall T hT]; by_cases y : T < k ∧ T &&& S = S; rw [if_pos y, if_pos ⟨by omega, y.2⟩]; rw [if_neg y, if_neg (fun u => y ⟨by omega, u.2⟩)])) (by repeat' first | exact fun _ h => absurd h List.not_mem_nil | refine List.forall_mem_cons.mpr ⟨rfl, ?_⟩)
set_option maxRecDepth 100000 in
set_option maxHeartbeats 4000000 in
theorem l_X9_few5 {b s c : Nat} {w : Int32} {bf : Nat → Int32} {B : Nat → Nat} (M : MD h x) (hb : b < 24) (hs : s < 10) (sw : SW (hi h (x + 1)) s) (hc : c ≤ 8) (hlo : ∀ j, j < c → hi h (x + 6) j = nI (loV (hi h (x + 1)) s j) ∧ loV (hi h (x + 1)) s j < 40) (hB : ∀ T, B T ≤ 99) (hbf : ∀ T, T < 2 ^ c → bf T = nI (B T)) (kx : ∀ m, (∀ T, T < 2 ^ c → m T = nI (mnS (fun S => fitV (hi h (x + 1)) b s (loV (hi h (x + 1)) s) S c) B T (2 ^ c))) → Rn G (d + 5) mX9_fewest 316 [(0, .ref x), (1, .int (nI s)), (2, .int w), (3, .int (nI c)), (4, .int (nI b))] [] (mbH h x m bf) Q) : ∀ n S m, S + n = 2 ^ c → 0 < S → (∀ T, T < 2 ^ c → m T = nI (mnS (fun S => fitV (hi h (x + 1)) b s (loV (hi h (x + 1)) s) S c) B T S)) → Rn G (d + 5) mX9_fewest 228 [(0, .ref x), (1, .int (nI s)), (2, .int w), (3, .int (nI c)), (4, .int (nI b)), (6, .int (nI S))] [] (mbH h x m bf) Q := by
  have hN : 2 ^ c ≤ 256 := Nat.pow_le_pow_right (n := 2) (i := c) (j := 8) (by decide) hc
  intro n
  induction n with
  | zero =>
    intro S m hk0 hp hall
    have e : S = 2 ^ c := by omega
    refine x_iload eX9_fewest_228 rfl ?_
    refine x_iconst (v := nI 1) eX9_fewest_230 (by decide) ?_
    refine x_iload_n eX9_fewest_231 rfl rfl ?_
    refine x_ishl eX9_fewest_232 ?_
    rw [shl_n (by omega)]
    first | refine x_icmp_geN (tgt := 316) eX9_fewest_233 (by decide) (by with_reducible rfl) (by with_reducible rfl) (by omega) (by omega) (fun cq1 => ?_) (fun cq1 => ?_) | refine x_icmp_ge (tgt := 316) eX9_fewest_233 (by decide) (fun cq1 => ?_) (fun cq1 => ?_)
    · refine Rn.weak (kx m (fun T hT => by rw [hall T hT, e])) (by repeat' first | exact fun _ h => absurd h List.not_mem_nil | refine List.forall_mem_cons.mpr ⟨rfl, ?_⟩)
    · exact absurd cq1 (by omega)
  | succ n ih =>
    intro S m hk0 hp hall
    have M2 : MD (mbH h x m bf) x := M
    have e1 := mb_ne h (x := x) (a := x + 1) m bf (by omega) (by omega)
    have e6 := mb_ne h (x := x) (a := x + 6) m bf (by omega) (by omega)
    obtain ⟨⟨hx, hS0, kS, nS⟩, -⟩ := id M2
    refine x_iload eX9_fewest_228 rfl ?_
    refine x_iconst (v := nI 1) eX9_fewest_230 (by decide) ?_
    refine x_iload_n eX9_fewest_231 rfl rfl ?_
    refine x_ishl eX9_fewest_232 ?_
    rw [shl_n (by omega)]
    first | refine x_icmp_geN (tgt := 316) eX9_fewest_233 (by decide) (by with_reducible rfl) (by with_reducible rfl) (by omega) (by omega) (fun cq1 => ?_) (fun cq1 => ?_) | refine x_icmp_ge (tgt := 316) eX9_fewest_233 (by decide) (fun cq1 => ?_) (fun cq1 => ?_)
    · exact absurd cq1 (by omega)
    · first | refine x_aload_n eX9_fewest_236 rfl rfl ?_ | refine x_aload_nN eX9_fewest_236 rfl rfl ?_
      refine x_iload eX9_fewest_237 rfl ?_
      refine x_iload_n eX9_fewest_239 rfl rfl ?_
      refine x_iload eX9_fewest_240 rfl ?_
      refine x_iload_n eX9_fewest_242 rfl rfl ?_
      refine x_callV4 eX9_fewest_243 lk_X9_166 (by assumption) (Nat.le_of_ble_eq_true rfl) (Nat.le_of_ble_eq_true rfl) ?_
      refine c_X9_fits (lo := loV (hi h (x + 1)) s) M2 hb hs (by rw [e1]; exact sw) (by omega) hc (by rw [e6]; exact hlo) (fun _ => ?_)
      rw [e1]
      first | refine x_if_neB (tgt := 252) eX9_fewest_246 (by decide) (by with_reducible rfl) (fun cq2 => ?_) (fun cq2 => ?_) | refine x_if_ne (tgt := 252) eX9_fewest_246 (by decide) (fun cq2 => ?_) (fun cq2 => ?_)
      · have c2 : fitV (hi h (x + 1)) b s (loV (hi h (x + 1)) s) S c = true := cq2
        have k310 : ∀ m, (∀ T, T < 2 ^ c → m T = nI (if T &&& S = S then min (mnS (fun S => fitV (hi h (x + 1)) b s (loV (hi h (x + 1)) s) S c) B T S) (1 + B (T &&& (255 ^^^ S))) else mnS (fun S => fitV (hi h (x + 1)) b s (loV (hi h (x + 1)) s) S c) B T S)) → Rn G (d + 5) mX9_fewest 310 [(0, .ref x), (1, .int (nI s)), (2, .int w), (3, .int (nI c)), (4, .int (nI b)), (6, .int (nI S))] [] (mbH h x m bf) Q := by
          intro m2 hm2
          have iw := ih (S + 1) m2 (by omega) (by omega) (fun T hT => by
            rw [hm2 T hT, mnS]
            by_cases z : T &&& S = S
            · rw [if_pos z, if_pos ⟨by omega, c2, z⟩]
            · rw [if_neg z, if_neg (fun y => z y.2.2)])
          first | refine x_iincN eX9_fewest_310 rfl (by with_reducible rfl) (by decide) rfl rfl ?_ | refine x_iinc eX9_fewest_310 rfl rfl (by decide) rfl rfl ?_
          refine x_goto (tgt := 228) eX9_fewest_313 (by decide) ?_
          refine Rn.weak (iw) (by repeat' first | exact fun _ h => absurd h List.not_mem_nil | refine List.forall_mem_cons.mpr ⟨rfl, ?_⟩)
        refine x_iconst (v := nI 0) eX9_fewest_252 (by decide) ?_
        refine x_istore eX9_fewest_253 (by decide) rfl rfl ?_
        refine Rn.weak (l_X9_few6 (B := B) (L := fun T => mnS (fun S => fitV (hi h (x + 1)) b s (loV (hi h (x + 1)) s) S c) B T S) M hc (by omega) hB (fun T => Nat.le_trans (mnS_le _ _ _ _) (hB T)) hbf k310 (2 ^ c) 0 m (Nat.zero_add _) (fun T hT => by rw [hall T hT, if_neg (fun y => by omega)])) (by repeat' first | exact fun _ h => absurd h List.not_mem_nil | refine List.forall_mem_cons.mpr ⟨rfl, ?_⟩)
      · have c2 : fitV (hi h (x + 1)) b s (loV (hi h (x + 1)) s) S c = false := cq2
        have iw := ih (S + 1) m (by omega) (by omega) (fun T hT => by
          rw [hall T hT, mnS, if_neg (fun y => by rw [c2] at y; cases y.2.1)])
        refine x_goto (tgt := 310) eX9_fewest_249 (by decide) ?_
        first | refine x_iincN eX9_fewest_310 rfl (by with_reducible rfl) (by decide) rfl rfl ?_ | refine x_iinc eX9_fewest_310 rfl rfl (by decide) rfl rfl ?_
        refine x_goto (tgt := 228) eX9_fewest_313 (by decide) ?_
        refine Rn.weak (iw) (by repeat' first | exact fun _ h => absurd h List.not_mem_nil | refine List.forall_mem_cons.mpr ⟨rfl, ?_⟩)
set_option maxRecDepth 100000 in
set_option maxHeartbeats 4000000 in
theorem l_X9_few2 {s c nb : Nat} {w : Int32} (M : MD h x) (W : GW (hi h (x + 1))) (hs : s < nt (hi h (x + 1) 1)) (hc : c ≤ 8) (hnb : nt (hi h (x + 1) 0) = nb) (hlo : ∀ j, j < c → hi h (x + 6) j = nI (loV (hi h (x + 1)) s j) ∧ loV (hi h (x + 1)) s j < 40) (kx : ∀ m bf, (∀ T, T < 2 ^ c → m T = nI (ftL (hi h (x + 1)) s w c nb T)) → Rn G (d + 6) mX9_fewest 322 [(0, .ref x), (1, .int (nI s)), (2, .int w), (3, .int (nI c))] [] (mbH h x m bf) Q) : ∀ n b m bf, b + n = nb → (∀ T, T < 2 ^ c → m T = nI (ftL (hi h (x + 1)) s w c b T)) → Rn G (d + 6) mX9_fewest 122 [(0, .ref x), (1, .int (nI s)), (2, .int w), (3, .int (nI c)), (4, .int (nI b))] [] (mbH h x m bf) Q := by
  have h10 := W.2.1.2.2
  obtain ⟨w0, -, h24⟩ := W.1
  rw [hnb] at w0 h24
  have sw := W.2.2.2 s hs
  intro n
  induction n with
  | zero =>
    intro b m bf hb0 hall
    have e : b = nb := by omega
    have M2 : MD (mbH h x m bf) x := M
    have e1 := mb_ne h (x := x) (a := x + 1) m bf (by omega) (by omega)
    obtain ⟨⟨hx, hS0, kS, nS⟩, -⟩ := id M2
    rw [e] at hall
    refine x_iload eX9_fewest_122 rfl ?_
    first | refine x_aload_n eX9_fewest_124 rfl rfl ?_ | refine x_aload_nN eX9_fewest_124 rfl rfl ?_
    first | refine x_getR eX9_fewest_125 fk_X9_7 rfl (by assumption) (by assumption) ?_ | refine x_getN eX9_fewest_125 fk_X9_7 rfl (by assumption) (by assumption) ?_
    refine x_iconst (v := nI 0) eX9_fewest_128 (by decide) ?_
    first | refine x_ialdN eX9_fewest_129 (by with_reducible rfl) (by assumption) (by assumption) (by omega) (by omega) ?_ | refine x_sldN eX9_fewest_129 (by with_reducible rfl) (by assumption) (by assumption) (by omega) (by omega) ?_ | refine x_iald eX9_fewest_129 (by assumption) (by assumption) ?_
    rw [e1, w0]
    first | refine x_icmp_geN (tgt := 322) eX9_fewest_130 (by decide) (by with_reducible rfl) (by with_reducible rfl) (by omega) (by omega) (fun cq1 => ?_) (fun cq1 => ?_) | refine x_icmp_ge (tgt := 322) eX9_fewest_130 (by decide) (fun cq1 => ?_) (fun cq1 => ?_)
    · refine Rn.weak (kx m bf hall) (by repeat' first | exact fun _ h => absurd h List.not_mem_nil | refine List.forall_mem_cons.mpr ⟨rfl, ?_⟩)
    · exact absurd cq1 (by omega)
  | succ n ih =>
    intro b m bf hb0 hall
    have M2 : MD (mbH h x m bf) x := M
    have e1 := mb_ne h (x := x) (a := x + 1) m bf (by omega) (by omega)
    obtain ⟨⟨hx, hS0, kS, nS⟩, -⟩ := id M2
    have nx : ∀ m2 bf2, (∀ T, T < 2 ^ c → m2 T = nI (ftL (hi h (x + 1)) s w c (b + 1) T)) → Rn G (d + 6) mX9_fewest 316 [(0, .ref x), (1, .int (nI s)), (2, .int w), (3, .int (nI c)), (4, .int (nI b))] [] (mbH h x m2 bf2) Q := by
      intro m2 bf2 hm2
      have iw := ih (b + 1) m2 bf2 (by omega) hm2
      first | refine x_iincN eX9_fewest_316 rfl (by with_reducible rfl) (by decide) rfl rfl ?_ | refine x_iinc eX9_fewest_316 rfl rfl (by decide) rfl rfl ?_
      refine x_goto (tgt := 122) eX9_fewest_319 (by decide) ?_
      refine Rn.weak (iw) (by repeat' first | exact fun _ h => absurd h List.not_mem_nil | refine List.forall_mem_cons.mpr ⟨rfl, ?_⟩)
    have k186 : Rn G (d + 6) mX9_fewest 186 [(0, .ref x), (1, .int (nI s)), (2, .int w), (3, .int (nI c)), (4, .int (nI b)), (5, .int (bI (okB (hi h (x + 1)) b w)))] [] (mbH h x m bf) Q := by
      refine x_iload eX9_fewest_186 rfl ?_
      first | refine x_if_neB (tgt := 194) eX9_fewest_188 (by decide) (by with_reducible rfl) (fun cq1 => ?_) (fun cq1 => ?_) | refine x_if_ne (tgt := 194) eX9_fewest_188 (by decide) (fun cq1 => ?_) (fun cq1 => ?_)
      · have c1 : okB (hi h (x + 1)) b w = true := cq1
        have k225 : ∀ bf2, (∀ T, T < 2 ^ c → bf2 T = m T) → Rn G (d + 6) mX9_fewest 225 [(0, .ref x), (1, .int (nI s)), (2, .int w), (3, .int (nI c)), (4, .int (nI b))] [] (mbH h x m bf2) Q := by
          intro bf2 hbf2
          have hpos : 0 < 2 ^ c := Nat.two_pow_pos c
          refine x_iconst (v := nI 1) eX9_fewest_225 (by decide) ?_
          refine x_istore eX9_fewest_226 (by decide) rfl rfl ?_
          refine Rn.weak (l_X9_few5 (d := d + 1) (B := ftL (hi h (x + 1)) s w c b) M (by omega) (by omega) sw hc hlo (ftL_le _ _ _ _ b) (fun T hT => by rw [hbf2 T hT, hall T hT]) (fun m2 hm2 => nx m2 bf2 (fun T hT => by rw [hm2 T hT, ftL, if_pos c1])) (2 ^ c - 1) 1 m (by omega) (by omega) (fun T hT => by rw [hall T hT, mnS, if_neg (fun y => y.1 rfl), mnS])) (by repeat' first | exact fun _ h => absurd h List.not_mem_nil | refine List.forall_mem_cons.mpr ⟨rfl, ?_⟩)
        refine x_iconst (v := nI 0) eX9_fewest_194 (by decide) ?_
        refine x_istore eX9_fewest_195 (by decide) rfl rfl ?_
        refine Rn.weak (l_X9_few4 (d := d + 1) (l5 := 0) M hc k225 (2 ^ c) 0 bf (Nat.zero_add _) (fun T hT => absurd hT (by omega))) (by repeat' first | exact fun _ h => absurd h List.not_mem_nil | refine List.forall_mem_cons.mpr ⟨rfl, ?_⟩)
      · have c1 : okB (hi h (x + 1)) b w = false := cq1
        refine x_goto (tgt := 316) eX9_fewest_191 (by decide) ?_
        refine Rn.weak (nx m bf (fun T hT => by rw [hall T hT, ftL, c1]; rfl)) (by repeat' first | exact fun _ h => absurd h List.not_mem_nil | refine List.forall_mem_cons.mpr ⟨rfl, ?_⟩)
    refine x_iload eX9_fewest_122 rfl ?_
    first | refine x_aload_n eX9_fewest_124 rfl rfl ?_ | refine x_aload_nN eX9_fewest_124 rfl rfl ?_
    first | refine x_getR eX9_fewest_125 fk_X9_7 rfl (by assumption) (by assumption) ?_ | refine x_getN eX9_fewest_125 fk_X9_7 rfl (by assumption) (by assumption) ?_
    refine x_iconst (v := nI 0) eX9_fewest_128 (by decide) ?_
    first | refine x_ialdN eX9_fewest_129 (by with_reducible rfl) (by assumption) (by assumption) (by omega) (by omega) ?_ | refine x_sldN eX9_fewest_129 (by with_reducible rfl) (by assumption) (by assumption) (by omega) (by omega) ?_ | refine x_iald eX9_fewest_129 (by assumption) (by assumption) ?_
    rw [e1, w0]
    first | refine x_icmp_geN (tgt := 322) eX9_fewest_130 (by decide) (by with_reducible rfl) (by with_reducible rfl) (by omega) (by omega) (fun cq1 => ?_) (fun cq1 => ?_) | refine x_icmp_ge (tgt := 322) eX9_fewest_130 (by decide) (fun cq1 => ?_) (fun cq1 => ?_)
    · exact absurd cq1 (by omega)
    · first | refine x_aload_n eX9_fewest_133 rfl rfl ?_ | refine x_aload_nN eX9_fewest_133 rfl rfl ?_
      refine x_iload eX9_fewest_134 rfl ?_
      refine x_callV1 eX9_fewest_136 lk_X9_95 (by assumption) (Nat.le_of_ble_eq_true rfl) (Nat.le_of_ble_eq_true rfl) ?_
      refine Rn.deep (c_X9_isBare (d := d) M2.md (by rw [e1]; exact W) (fun _ => ?_)) (by omega)
      rw [e1]
      have w3 := l_X9_few3 (G := G) (d := d + 1) (Q := Q) M W (by omega) k186 (nt (bl (hi h (x + 1)) b 1)) 0 (Nat.zero_add _)
      rw [allN, Bool.and_true] at w3
      refine x_istore eX9_fewest_139 (by decide) rfl rfl ?_
      refine x_iconst (v := nI 0) eX9_fewest_141 (by decide) ?_
      refine x_istore eX9_fewest_142 (by decide) rfl rfl ?_
      refine Rn.weak (w3) (by repeat' first | exact fun _ h => absurd h List.not_mem_nil | refine List.forall_mem_cons.mpr ⟨rfl, ?_⟩)
end REF21

