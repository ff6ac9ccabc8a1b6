/-! ===== the reference: new sails, cut, take ===== -/
def salOK (g : Nat → Int32) (e1 e2 e3 e4 e5 : Int32) : Bool := inR e1 (-500) 500 && (inR e2 (-500) 500 && (inR e3 (-500) 500 && (inR e4 (-500) 500 && (inR e5 1 60 && !decide (g 1 = 10)))))
def gSail (g : Nat → Int32) (s : Nat) (e1 e2 e3 e4 e5 : Int32) : Nat → Int32 := filG (filG (upd0 (upd0 (upd0 (upd0 (upd0 (filG (upd0 g 1 (nI (s + 1))) (5050 + 390 * s) 390 0) (5050 + 390 * s + 1) e1) (5050 + 390 * s + 2) e2) (5050 + 390 * s + 3) e3) (5050 + 390 * s + 4) e4) (5050 + 390 * s + 5) e5) (5050 + 390 * s + 300) 40 (-1)) (5050 + 390 * s + 340) 40 (-1)
/-- how many panels a height takes, each of so much net breadth -/
def pnN (ht net : Nat) : Nat := (ht + net - 1) / net
set_option maxRecDepth 100000 in
set_option maxHeartbeats 4000000 in
theorem pnN_eq {ht net k : Nat} (hn : 0 < net) (h1 : ht ≤ k * net) (h2 : 0 < k → (k - 1) * net < ht) : pnN ht net = k := by
  unfold pnN
  apply Nat.div_eq_of_lt_le
  · rcases Nat.eq_zero_or_pos k with z | z
    · subst z
      rw [Nat.zero_mul]
      exact Nat.zero_le _
    · have := h2 z
      have e : k * net = (k - 1) * net + net := by
        rw [show k * net = ((k - 1) + 1) * net by rw [Nat.sub_add_cancel z], Nat.succ_mul]
      omega
  · rw [Nat.succ_mul]
    omega
def cutOK (g : Nat → Int32) (s w b : Int32) : Bool := inR w 2 20 && (inR b 1 (w - 1) && (isO g s && (allN (fun y => decide (0 < acr g (nt s) y)) (nt (sl g (nt s) 5) + 1) && decide (pnN (nt (sl g (nt s) 5)) (nt w - nt b) ≤ 40))))
def gCut (g : Nat → Int32) (s w b : Nat) : Nat → Int32 := upd0 (upd0 (upd0 (upd0 g (5050 + 390 * s + 0) 1) (5050 + 390 * s + 6) (nI (w - b))) (5050 + 390 * s + 7) (nI b)) (5050 + 390 * s + 8) (nI (pnN (nt (sl g s 5)) (w - b)))
section REF11
variable {G : GG} {d : Nat} {h : AH} {Q : Option Value → AH → Prop} {x la kp : Nat}
set_option maxRecDepth 100000 in
set_option maxHeartbeats 4000000 in
theorem l_X9_sail0 {g : Nat → Int32} {s : Nat} {l : List (Nat × Value)} {e1 e2 e3 e4 e5 : Int32} (M : MD h x) (hs : s < 10) (kx : Rn G (d + 1) mX9_sail_ 101 [(0, .ref x), (1, .int e1), (2, .int e2), (3, .int e3), (4, .int e4), (5, .int e5), (6, .int (nI s))] [] (acted h x la kp (filG g (5050 + 390 * s) 390 0)) Q) : ∀ n k, k + n = 390 → Rn G (d + 1) mX9_sail_ 78 [(0, .ref x), (1, .int e1), (2, .int e2), (3, .int e3), (4, .int e4), (5, .int e5), (6, .int (nI s)), (7, .int (nI k))] [] (acted h x la kp (filG g (5050 + 390 * s) k 0)) Q := by
  intro n
  induction n with
  | zero =>
    intro k hk0
    have e : k = 390 := by omega
    subst e
    refine x_iload eX9_sail__78 rfl ?_
    refine x_sipush (v := nI 390) eX9_sail__80 (by decide) ?_
    first | refine x_icmp_geN (tgt := 101) eX9_sail__83 (by decide) (by with_reducible rfl) (by with_reducible rfl) (by omega) (by omega) (fun cq1 => ?_) (fun cq1 => ?_) | refine x_icmp_ge (tgt := 101) eX9_sail__83 (by decide) (fun cq1 => ?_) (fun cq1 => ?_)
    · refine Rn.weak (kx) (by repeat' first | exact fun _ h => absurd h List.not_mem_nil | refine List.forall_mem_cons.mpr ⟨rfl, ?_⟩)
    · exact absurd cq1 (by omega)
  | succ n ih =>
    intro k hk0
    have M2 := M.acted la kp (filG g (5050 + 390 * s) k 0)
    obtain ⟨⟨hx, -⟩, -⟩ := id M2
    refine x_iload eX9_sail__78 rfl ?_
    refine x_sipush (v := nI 390) eX9_sail__80 (by decide) ?_
    first | refine x_icmp_geN (tgt := 101) eX9_sail__83 (by decide) (by with_reducible rfl) (by with_reducible rfl) (by omega) (by omega) (fun cq1 => ?_) (fun cq1 => ?_) | refine x_icmp_ge (tgt := 101) eX9_sail__83 (by decide) (fun cq1 => ?_) (fun cq1 => ?_)
    · exact absurd cq1 (by omega)
    · first | refine x_aload_n eX9_sail__86 rfl rfl ?_ | refine x_aload_nN eX9_sail__86 rfl rfl ?_
      refine x_iload eX9_sail__87 rfl ?_
      refine x_iload eX9_sail__89 rfl ?_
      refine x_iconst (v := nI 0) eX9_sail__91 (by decide) ?_
      refine x_callV3 eX9_sail__92 lk_X9_101 (by assumption) (Nat.le_of_ble_eq_true rfl) (Nat.le_of_ble_eq_true rfl) ?_
      refine Rn.deep (c_X9_putSail (d := d) M2.md (by omega) (fun _ => ?_)) (by omega)
      rw [acted_wi, show (nI 0) = 0 from rfl, filG_s]
      first | refine x_iincN eX9_sail__95 rfl (by with_reducible rfl) (by decide) rfl rfl ?_ | refine x_iinc eX9_sail__95 rfl rfl (by decide) rfl rfl ?_
      refine x_goto (tgt := 78) eX9_sail__98 (by decide) ?_
      refine Rn.weak (ih (k + 1) (by omega)) (by repeat' first | exact fun _ h => absurd h List.not_mem_nil | refine List.forall_mem_cons.mpr ⟨rfl, ?_⟩)
set_option maxRecDepth 100000 in
set_option maxHeartbeats 4000000 in
theorem l_X9_sail1 {g : Nat → Int32} {s : Nat} (M : MD h x) (hs : s < 10) (hq : Q (some (.int (nI s))) (acted h x la kp (filG (filG g (5050 + 390 * s + 300) 40 (-1)) (5050 + 390 * s + 340) 40 (-1)))) : ∀ n k, k + n = 40 → Rn G (d + 1) mX9_sail_ 146 [(0, .ref x), (6, .int (nI s)), (7, .int (nI k))] [] (acted h x la kp (filG (filG g (5050 + 390 * s + 300) k (-1)) (5050 + 390 * s + 340) k (-1))) Q := by
  intro n
  induction n with
  | zero =>
    intro k hk0
    have e : k = 40 := by omega
    subst e
    refine x_iload eX9_sail__146 rfl ?_
    refine x_bipush (v := nI 40) eX9_sail__148 (by decide) ?_
    first | refine x_icmp_geN (tgt := 185) eX9_sail__150 (by decide) (by with_reducible rfl) (by with_reducible rfl) (by omega) (by omega) (fun cq1 => ?_) (fun cq1 => ?_) | refine x_icmp_ge (tgt := 185) eX9_sail__150 (by decide) (fun cq1 => ?_) (fun cq1 => ?_)
    · refine x_iload eX9_sail__185 rfl ?_
      refine x_iret eX9_sail__187 rfl ?_
      exact hq
    · exact absurd cq1 (by omega)
  | succ n ih =>
    intro k hk0
    have M2 := M.acted la kp (filG (filG g (5050 + 390 * s + 300) k (-1)) (5050 + 390 * s + 340) k (-1))
    obtain ⟨⟨hx, -⟩, -⟩ := id M2
    refine x_iload eX9_sail__146 rfl ?_
    refine x_bipush (v := nI 40) eX9_sail__148 (by decide) ?_
    first | refine x_icmp_geN (tgt := 185) eX9_sail__150 (by decide) (by with_reducible rfl) (by with_reducible rfl) (by omega) (by omega) (fun cq1 => ?_) (fun cq1 => ?_) | refine x_icmp_ge (tgt := 185) eX9_sail__150 (by decide) (fun cq1 => ?_) (fun cq1 => ?_)
    · exact absurd cq1 (by omega)
    · first | refine x_aload_n eX9_sail__153 rfl rfl ?_ | refine x_aload_nN eX9_sail__153 rfl rfl ?_
      refine x_iload eX9_sail__154 rfl ?_
      refine x_sipush (v := nI 300) eX9_sail__156 (by decide) ?_
      refine x_iload eX9_sail__159 rfl ?_
      first | refine x_iaddN eX9_sail__161 (by with_reducible rfl) (by with_reducible rfl) ?_ | refine x_iadd eX9_sail__161 ?_
      refine x_iconst (v := (-1)) eX9_sail__162 (by decide) ?_
      refine x_callV3 eX9_sail__163 lk_X9_101 (by assumption) (Nat.le_of_ble_eq_true rfl) (Nat.le_of_ble_eq_true rfl) ?_
      refine Rn.deep (c_X9_putSail (d := d) M2.md (by omega) (fun _ => ?_)) (by omega)
      rw [acted_wi, filG_upd, show 5050 + 390 * s + (300 + k) = 5050 + 390 * s + 300 + k by omega, filG_s]
      have M3 := M.acted la kp (filG (filG g (5050 + 390 * s + 300) (k + 1) (-1)) (5050 + 390 * s + 340) k (-1))
      obtain ⟨⟨hx, -⟩, -⟩ := id M3
      first | refine x_aload_n eX9_sail__166 rfl rfl ?_ | refine x_aload_nN eX9_sail__166 rfl rfl ?_
      refine x_iload eX9_sail__167 rfl ?_
      refine x_sipush (v := nI 340) eX9_sail__169 (by decide) ?_
      refine x_iload eX9_sail__172 rfl ?_
      first | refine x_iaddN eX9_sail__174 (by with_reducible rfl) (by with_reducible rfl) ?_ | refine x_iadd eX9_sail__174 ?_
      refine x_iconst (v := (-1)) eX9_sail__175 (by decide) ?_
      refine x_callV3 eX9_sail__176 lk_X9_101 (by assumption) (Nat.le_of_ble_eq_true rfl) (Nat.le_of_ble_eq_true rfl) ?_
      refine Rn.deep (c_X9_putSail (d := d) M3.md (by omega) (fun _ => ?_)) (by omega)
      rw [acted_wi, show 5050 + 390 * s + (340 + k) = 5050 + 390 * s + 340 + k by omega, filG_s]
      first | refine x_iincN eX9_sail__179 rfl (by with_reducible rfl) (by decide) rfl rfl ?_ | refine x_iinc eX9_sail__179 rfl rfl (by decide) rfl rfl ?_
      refine x_goto (tgt := 146) eX9_sail__182 (by decide) ?_
      refine Rn.weak (ih (k + 1) (by omega)) (by repeat' first | exact fun _ h => absurd h List.not_mem_nil | refine List.forall_mem_cons.mpr ⟨rfl, ?_⟩)
set_option maxRecDepth 100000 in
set_option maxHeartbeats 4000000 in
theorem c_X9_sail_ {e1 e2 e3 e4 e5 : Int32} (M : MD h x) (K : MK h x kp la) (W : GW (hi h (x + 1))) (hq0 : salOK (hi h (x + 1)) e1 e2 e3 e4 e5 = false → Q (some (.int (-1))) h) (hq1 : salOK (hi h (x + 1)) e1 e2 e3 e4 e5 = true → nt (hi h (x + 1) 1) < 10 → Q (some (.int (nI (nt (hi h (x + 1) 1))))) (acted h x la kp (gSail (hi h (x + 1)) (nt (hi h (x + 1) 1)) e1 e2 e3 e4 e5))) : Rn G (d + 2) mX9_sail_ 0 [(0, .ref x), (1, .int e1), (2, .int e2), (3, .int e3), (4, .int e4), (5, .int e5)] [] h Q := by
  obtain ⟨⟨hx, hS, kS, nS⟩, -⟩ := id M
  obtain ⟨w1, w2, w3⟩ := W.2.1
  refine x_iload_n eX9_sail__0 rfl rfl ?_
  refine x_callS1 eX9_sail__1 lk_X9_98 (Nat.le_of_ble_eq_true rfl) (Nat.le_of_ble_eq_true rfl) ?_
  refine Rn.deep (c_X9_isEnd (d := d) (fun _ => ?_)) (by omega)
  first | refine x_if_eqB (tgt := 51) eX9_sail__4 (by decide) (by with_reducible rfl) (fun cq1 => ?_) (fun cq1 => ?_) | refine x_if_eq (tgt := 51) eX9_sail__4 (by decide) (fun cq1 => ?_) (fun cq1 => ?_)
  · refine x_iconst (v := (-1)) eX9_sail__51 (by decide) ?_
    refine x_iret eX9_sail__52 rfl ?_
    exact hq0 (by simp [salOK, cq1])
  · refine x_iload_n eX9_sail__7 rfl rfl ?_
    refine x_callS1 eX9_sail__8 lk_X9_98 (Nat.le_of_ble_eq_true rfl) (Nat.le_of_ble_eq_true rfl) ?_
    refine Rn.deep (c_X9_isEnd (d := d) (fun _ => ?_)) (by omega)
    first | refine x_if_eqB (tgt := 51) eX9_sail__11 (by decide) (by with_reducible rfl) (fun cq2 => ?_) (fun cq2 => ?_) | refine x_if_eq (tgt := 51) eX9_sail__11 (by decide) (fun cq2 => ?_) (fun cq2 => ?_)
    · refine x_iconst (v := (-1)) eX9_sail__51 (by decide) ?_
      refine x_iret eX9_sail__52 rfl ?_
      exact hq0 (by simp [salOK, cq2])
    · refine x_iload_n eX9_sail__14 rfl rfl ?_
      refine x_callS1 eX9_sail__15 lk_X9_98 (Nat.le_of_ble_eq_true rfl) (Nat.le_of_ble_eq_true rfl) ?_
      refine Rn.deep (c_X9_isEnd (d := d) (fun _ => ?_)) (by omega)
      first | refine x_if_eqB (tgt := 51) eX9_sail__18 (by decide) (by with_reducible rfl) (fun cq3 => ?_) (fun cq3 => ?_) | refine x_if_eq (tgt := 51) eX9_sail__18 (by decide) (fun cq3 => ?_) (fun cq3 => ?_)
      · refine x_iconst (v := (-1)) eX9_sail__51 (by decide) ?_
        refine x_iret eX9_sail__52 rfl ?_
        exact hq0 (by simp [salOK, cq3])
      · refine x_iload eX9_sail__21 rfl ?_
        refine x_callS1 eX9_sail__23 lk_X9_98 (Nat.le_of_ble_eq_true rfl) (Nat.le_of_ble_eq_true rfl) ?_
        refine Rn.deep (c_X9_isEnd (d := d) (fun _ => ?_)) (by omega)
        first | refine x_if_eqB (tgt := 51) eX9_sail__26 (by decide) (by with_reducible rfl) (fun cq4 => ?_) (fun cq4 => ?_) | refine x_if_eq (tgt := 51) eX9_sail__26 (by decide) (fun cq4 => ?_) (fun cq4 => ?_)
        · refine x_iconst (v := (-1)) eX9_sail__51 (by decide) ?_
          refine x_iret eX9_sail__52 rfl ?_
          exact hq0 (by simp [salOK, cq4])
        · refine x_iload eX9_sail__29 rfl ?_
          refine x_iconst (v := nI 1) eX9_sail__31 (by decide) ?_
          refine x_bipush (v := nI 60) eX9_sail__32 (by decide) ?_
          refine x_callS3 eX9_sail__34 lk_X9_70 (Nat.le_of_ble_eq_true rfl) (Nat.le_of_ble_eq_true rfl) ?_
          refine Rn.deep (c_X9_isIn (d := d) (fun _ => ?_)) (by omega)
          first | refine x_if_eqB (tgt := 51) eX9_sail__37 (by decide) (by with_reducible rfl) (fun cq5 => ?_) (fun cq5 => ?_) | refine x_if_eq (tgt := 51) eX9_sail__37 (by decide) (fun cq5 => ?_) (fun cq5 => ?_)
          · refine x_iconst (v := (-1)) eX9_sail__51 (by decide) ?_
            refine x_iret eX9_sail__52 rfl ?_
            exact hq0 (by have c5 : inR e5 1 60 = false := cq5; simp [salOK, c5])
          · have c5 : inR e5 1 60 = true := cq5
            first | refine x_aload_n eX9_sail__40 rfl rfl ?_ | refine x_aload_nN eX9_sail__40 rfl rfl ?_
            first | refine x_getR eX9_sail__41 fk_X9_7 rfl (by assumption) (by assumption) ?_ | refine x_getN eX9_sail__41 fk_X9_7 rfl (by assumption) (by assumption) ?_
            refine x_iconst (v := nI 1) eX9_sail__44 (by decide) ?_
            first | refine x_ialdN eX9_sail__45 (by with_reducible rfl) (by assumption) (by assumption) (by omega) (by omega) ?_ | refine x_sldN eX9_sail__45 (by with_reducible rfl) (by assumption) (by assumption) (by omega) (by omega) ?_ | refine x_iald eX9_sail__45 (by assumption) (by assumption) ?_
            refine x_bipush (v := nI 10) eX9_sail__46 (by decide) ?_
            first | refine x_icmp_neN (tgt := 53) eX9_sail__48 (by decide) (by with_reducible rfl) (by with_reducible rfl) (by omega) (by omega) (fun cq6 => ?_) (fun cq6 => ?_) | refine x_icmp_ne (tgt := 53) eX9_sail__48 (by decide) (fun cq6 => ?_) (fun cq6 => ?_)
            · have c6 : ¬ hi h (x + 1) 1 = 10 := cq6
              have h10 : nt (hi h (x + 1) 1) < 10 := by
                refine Nat.lt_of_le_of_ne w3 (fun z => c6 ?_)
                rw [w1, z]
                rfl
              have q1 := hq1 (by rw [salOK, cq1, cq2, cq3, cq4, c5, decide_eq_false c6]; rfl) h10
              first | refine x_aload_n eX9_sail__53 rfl rfl ?_ | refine x_aload_nN eX9_sail__53 rfl rfl ?_
              refine x_callV0 eX9_sail__54 lk_X9_75 (by assumption) (Nat.le_of_ble_eq_true rfl) (Nat.le_of_ble_eq_true rfl) ?_
              refine Rn.deep (c_X9_act (d := d) M K (fun _ => ?_)) (by omega)
              have e0 : hi (acted h x la kp (hi h (x + 1))) (x + 1) 1 = nI (nt (hi h (x + 1) 1)) := by rw [hi_acted, ← w1]
              obtain ⟨⟨hx, hS, kS, nS⟩, -⟩ := id (M.acted la kp (hi h (x + 1)))
              first | refine x_aload_n eX9_sail__57 rfl rfl ?_ | refine x_aload_nN eX9_sail__57 rfl rfl ?_
              first | refine x_getR eX9_sail__58 fk_X9_7 rfl (by assumption) (by assumption) ?_ | refine x_getN eX9_sail__58 fk_X9_7 rfl (by assumption) (by assumption) ?_
              refine x_iconst (v := nI 1) eX9_sail__61 (by decide) ?_
              first | refine x_ialdN eX9_sail__62 (by with_reducible rfl) (by assumption) (by assumption) (by omega) (by omega) ?_ | refine x_sldN eX9_sail__62 (by with_reducible rfl) (by assumption) (by assumption) (by omega) (by omega) ?_ | refine x_iald eX9_sail__62 (by assumption) (by assumption) ?_
              rw [e0]
              refine x_istore eX9_sail__63 (by decide) rfl rfl ?_
              first | refine x_aload_n eX9_sail__65 rfl rfl ?_ | refine x_aload_nN eX9_sail__65 rfl rfl ?_
              first | refine x_getR eX9_sail__66 fk_X9_7 rfl (by assumption) (by assumption) ?_ | refine x_getN eX9_sail__66 fk_X9_7 rfl (by assumption) (by assumption) ?_
              refine x_iconst (v := nI 1) eX9_sail__69 (by decide) ?_
              refine x_dup2 eX9_sail__70 rfl rfl ?_
              first | refine x_ialdN eX9_sail__71 (by with_reducible rfl) (by assumption) (by assumption) (by omega) (by omega) ?_ | refine x_sldN eX9_sail__71 (by with_reducible rfl) (by assumption) (by assumption) (by omega) (by omega) ?_ | refine x_iald eX9_sail__71 (by assumption) (by assumption) ?_
              rw [e0]
              refine x_iconst (v := nI 1) eX9_sail__72 (by decide) ?_
              first | refine x_iaddN eX9_sail__73 (by with_reducible rfl) (by with_reducible rfl) ?_ | refine x_iadd eX9_sail__73 ?_
              first | refine x_iastN eX9_sail__74 (by with_reducible rfl) (by assumption) (by assumption) (by omega) (by omega) ?_ | refine x_iast eX9_sail__74 (by assumption) (by assumption) ?_
              refine x_iconst (v := nI 0) eX9_sail__75 (by decide) ?_
              refine x_istore eX9_sail__76 (by decide) rfl rfl ?_
              rw [acted_wi]
              generalize nt (hi h (x + 1) 1) = s at h10 q1
              suffices kx : Rn G (d + 1) mX9_sail_ 101 [(0, .ref x), (1, .int e1), (2, .int e2), (3, .int e3), (4, .int e4), (5, .int e5), (6, .int (nI s))] [] (acted h x la kp (filG (upd0 (hi h (x + 1)) 1 (nI (s + 1))) (5050 + 390 * s) 390 0)) Q by
                have w := l_X9_sail0 (d := d) (l := []) M h10 kx 390 0 (by omega)
                rw [filG_0] at w
                refine Rn.deep (d := d + 1) (d2 := d + 2) ?_ (by omega)
                refine Rn.weak (w) (by repeat' first | exact fun _ h => absurd h List.not_mem_nil | refine List.forall_mem_cons.mpr ⟨rfl, ?_⟩)
              clear hx hS kS nS
              have hx : hk (acted h x la kp (filG (upd0 (hi h (x + 1)) 1 (nI (s + 1))) (5050 + 390 * s) 390 0)) x = 8 := M.1.1
              first | refine x_aload_n eX9_sail__101 rfl rfl ?_ | refine x_aload_nN eX9_sail__101 rfl rfl ?_
              refine x_iload eX9_sail__102 rfl ?_
              refine x_iconst (v := nI 1) eX9_sail__104 (by decide) ?_
              refine x_iload_n eX9_sail__105 rfl rfl ?_
              refine x_callV3 eX9_sail__106 lk_X9_101 (by assumption) (Nat.le_of_ble_eq_true rfl) (Nat.le_of_ble_eq_true rfl) ?_
              refine Rn.deep (c_X9_putSail (d := d) (M.acted la kp _).md (by omega) (fun _ => ?_)) (by omega)
              rw [acted_wi]
              have hx : hk (acted h x la kp (upd0 (filG (upd0 (hi h (x + 1)) 1 (nI (s + 1))) (5050 + 390 * s) 390 0) (5050 + 390 * s + 1) e1)) x = 8 := M.1.1
              first | refine x_aload_n eX9_sail__109 rfl rfl ?_ | refine x_aload_nN eX9_sail__109 rfl rfl ?_
              refine x_iload eX9_sail__110 rfl ?_
              refine x_iconst (v := nI 2) eX9_sail__112 (by decide) ?_
              refine x_iload_n eX9_sail__113 rfl rfl ?_
              refine x_callV3 eX9_sail__114 lk_X9_101 (by assumption) (Nat.le_of_ble_eq_true rfl) (Nat.le_of_ble_eq_true rfl) ?_
              refine Rn.deep (c_X9_putSail (d := d) (M.acted la kp _).md (by omega) (fun _ => ?_)) (by omega)
              rw [acted_wi]
              have hx : hk (acted h x la kp (upd0 (upd0 (filG (upd0 (hi h (x + 1)) 1 (nI (s + 1))) (5050 + 390 * s) 390 0) (5050 + 390 * s + 1) e1) (5050 + 390 * s + 2) e2)) x = 8 := M.1.1
              first | refine x_aload_n eX9_sail__117 rfl rfl ?_ | refine x_aload_nN eX9_sail__117 rfl rfl ?_
              refine x_iload eX9_sail__118 rfl ?_
              refine x_iconst (v := nI 3) eX9_sail__120 (by decide) ?_
              refine x_iload_n eX9_sail__121 rfl rfl ?_
              refine x_callV3 eX9_sail__122 lk_X9_101 (by assumption) (Nat.le_of_ble_eq_true rfl) (Nat.le_of_ble_eq_true rfl) ?_
              refine Rn.deep (c_X9_putSail (d := d) (M.acted la kp _).md (by omega) (fun _ => ?_)) (by omega)
              rw [acted_wi]
              have hx : hk (acted h x la kp (upd0 (upd0 (upd0 (filG (upd0 (hi h (x + 1)) 1 (nI (s + 1))) (5050 + 390 * s) 390 0) (5050 + 390 * s + 1) e1) (5050 + 390 * s + 2) e2) (5050 + 390 * s + 3) e3)) x = 8 := M.1.1
              first | refine x_aload_n eX9_sail__125 rfl rfl ?_ | refine x_aload_nN eX9_sail__125 rfl rfl ?_
              refine x_iload eX9_sail__126 rfl ?_
              refine x_iconst (v := nI 4) eX9_sail__128 (by decide) ?_
              refine x_iload eX9_sail__129 rfl ?_
              refine x_callV3 eX9_sail__131 lk_X9_101 (by assumption) (Nat.le_of_ble_eq_true rfl) (Nat.le_of_ble_eq_true rfl) ?_
              refine Rn.deep (c_X9_putSail (d := d) (M.acted la kp _).md (by omega) (fun _ => ?_)) (by omega)
              rw [acted_wi]
              have hx : hk (acted h x la kp (upd0 (upd0 (upd0 (upd0 (filG (upd0 (hi h (x + 1)) 1 (nI (s + 1))) (5050 + 390 * s) 390 0) (5050 + 390 * s + 1) e1) (5050 + 390 * s + 2) e2) (5050 + 390 * s + 3) e3) (5050 + 390 * s + 4) e4)) x = 8 := M.1.1
              first | refine x_aload_n eX9_sail__134 rfl rfl ?_ | refine x_aload_nN eX9_sail__134 rfl rfl ?_
              refine x_iload eX9_sail__135 rfl ?_
              refine x_iconst (v := nI 5) eX9_sail__137 (by decide) ?_
              refine x_iload eX9_sail__138 rfl ?_
              refine x_callV3 eX9_sail__140 lk_X9_101 (by assumption) (Nat.le_of_ble_eq_true rfl) (Nat.le_of_ble_eq_true rfl) ?_
              refine Rn.deep (c_X9_putSail (d := d) (M.acted la kp _).md (by omega) (fun _ => ?_)) (by omega)
              rw [acted_wi]
              refine x_iconst (v := nI 0) eX9_sail__143 (by decide) ?_
              refine x_istore eX9_sail__144 (by decide) rfl rfl ?_
              have w := l_X9_sail1 (G := G) (d := d) M h10 q1 40 0 (by omega)
              rw [filG_0, filG_0] at w
              refine Rn.weak (w) (by repeat' first | exact fun _ h => absurd h List.not_mem_nil | refine List.forall_mem_cons.mpr ⟨rfl, ?_⟩)
            · refine x_iconst (v := (-1)) eX9_sail__51 (by decide) ?_
              refine x_iret eX9_sail__52 rfl ?_
              exact hq0 (by have c6 : hi h (x + 1) 1 = 10 := cq6; simp [salOK, c6])
set_option maxRecDepth 100000 in
set_option maxHeartbeats 4000000 in
theorem l_X9_cut0 {s w b : Nat} {l : List (Nat × Value)} (M : MD h x) (hs : s < 10) (W : SW (hi h (x + 1)) s) (hq0 : allN (fun y => decide (0 < acr (hi h (x + 1)) s y)) (nt (sl (hi h (x + 1)) s 5) + 1) = false → Q (some (.int (-1))) h) (kx : allN (fun y => decide (0 < acr (hi h (x + 1)) s y)) (nt (sl (hi h (x + 1)) s 5) + 1) = true → Rn G (d + 3) mX9_cut 63 [(0, .ref x), (1, .int (nI s)), (2, .int (nI w)), (3, .int (nI b))] [] h Q) : ∀ n k, k + n = nt (sl (hi h (x + 1)) s 5) + 1 → (∀ j, j < k → decide (0 < acr (hi h (x + 1)) s j) = true) → Rn G (d + 3) mX9_cut 34 [(0, .ref x), (1, .int (nI s)), (2, .int (nI w)), (3, .int (nI b)), (4, .int (nI k))] [] h Q := by
  obtain ⟨⟨hx, hS, kS, nS⟩, -⟩ := id M
  have w5 := W.h5
  obtain ⟨-, ⟨e5, l5, u5⟩, -⟩ := id W
  intro n
  induction n with
  | zero =>
    intro k hk0 hall
    refine x_iload eX9_cut_34 rfl ?_
    first | refine x_aload_n eX9_cut_36 rfl rfl ?_ | refine x_aload_nN eX9_cut_36 rfl rfl ?_
    refine x_iload_n eX9_cut_37 rfl rfl ?_
    refine x_iconst (v := nI 5) eX9_cut_38 (by decide) ?_
    refine x_callV2 eX9_cut_39 lk_X9_57 (by assumption) (Nat.le_of_ble_eq_true rfl) (Nat.le_of_ble_eq_true rfl) ?_
    refine Rn.deep (c_X9_sail (d := d) M.md (by omega) (fun _ => ?_)) (by omega)
    rw [e5]
    first | refine x_icmp_gtN (tgt := 63) eX9_cut_42 (by decide) (by with_reducible rfl) (by with_reducible rfl) (by omega) (by omega) (fun cq1 => ?_) (fun cq1 => ?_) | refine x_icmp_gt (tgt := 63) eX9_cut_42 (by decide) (fun cq1 => ?_) (fun cq1 => ?_)
    · refine Rn.weak (kx (allN_iff.mpr fun j hj => hall j (by omega))) (by repeat' first | exact fun _ h => absurd h List.not_mem_nil | refine List.forall_mem_cons.mpr ⟨rfl, ?_⟩)
    · exact absurd cq1 (by omega)
  | succ n ih =>
    intro k hk0 hall
    refine x_iload eX9_cut_34 rfl ?_
    first | refine x_aload_n eX9_cut_36 rfl rfl ?_ | refine x_aload_nN eX9_cut_36 rfl rfl ?_
    refine x_iload_n eX9_cut_37 rfl rfl ?_
    refine x_iconst (v := nI 5) eX9_cut_38 (by decide) ?_
    refine x_callV2 eX9_cut_39 lk_X9_57 (by assumption) (Nat.le_of_ble_eq_true rfl) (Nat.le_of_ble_eq_true rfl) ?_
    refine Rn.deep (c_X9_sail (d := d) M.md (by omega) (fun _ => ?_)) (by omega)
    rw [e5]
    first | refine x_icmp_gtN (tgt := 63) eX9_cut_42 (by decide) (by with_reducible rfl) (by with_reducible rfl) (by omega) (by omega) (fun cq1 => ?_) (fun cq1 => ?_) | refine x_icmp_gt (tgt := 63) eX9_cut_42 (by decide) (fun cq1 => ?_) (fun cq1 => ?_)
    · exact absurd cq1 (by omega)
    · first | refine x_aload_n eX9_cut_45 rfl rfl ?_ | refine x_aload_nN eX9_cut_45 rfl rfl ?_
      refine x_iload_n eX9_cut_46 rfl rfl ?_
      refine x_iload eX9_cut_47 rfl ?_
      refine x_callV2 eX9_cut_49 lk_X9_111 (by assumption) (Nat.le_of_ble_eq_true rfl) (Nat.le_of_ble_eq_true rfl) ?_
      refine c_X9_across (y := k) M.md hs (by omega) w5 (fun _ => ?_)
      refine x_if_gt (tgt := 57) eX9_cut_52 (by decide) (fun cq2 => ?_) (fun cq2 => ?_)
      · have c2 : 0 < acr (hi h (x + 1)) s k := cq2
        first | refine x_iincN eX9_cut_57 rfl (by with_reducible rfl) (by decide) rfl rfl ?_ | refine x_iinc eX9_cut_57 rfl rfl (by decide) rfl rfl ?_
        refine x_goto (tgt := 34) eX9_cut_60 (by decide) ?_
        refine Rn.weak (ih (k + 1) (by omega) (fun j hj => by by_cases z : j < k; exact hall j z; rw [show j = k by omega]; exact decide_eq_true c2)) (by repeat' first | exact fun _ h => absurd h List.not_mem_nil | refine List.forall_mem_cons.mpr ⟨rfl, ?_⟩)
      · refine x_iconst (v := (-1)) eX9_cut_55 (by decide) ?_
        refine x_iret eX9_cut_56 rfl ?_
        exact hq0 (allN_f (i := k) (by omega) (decide_eq_false cq2))
set_option maxRecDepth 100000 in
set_option maxHeartbeats 4000000 in
theorem l_X9_cut1 {s net ht : Nat} {b : Int32} (M : MD h x) (hs : s < 10) (hn : 0 < net) (hn2 : net ≤ 19) (e5 : sl (hi h (x + 1)) s 5 = nI ht) (u5 : ht ≤ 60) (kx : Rn G (d + 3) mX9_cut 91 [(0, .ref x), (1, .int (nI s)), (3, .int b), (4, .int (nI net)), (5, .int (nI (pnN ht net)))] [] h Q) : ∀ n k, k + n = 61 → (0 < k → (k - 1) * net < ht) → Rn G (d + 3) mX9_cut 71 [(0, .ref x), (1, .int (nI s)), (3, .int b), (4, .int (nI net)), (5, .int (nI k))] [] h Q := by
  obtain ⟨⟨hx, hS, kS, nS⟩, -⟩ := id M
  intro n
  induction n with
  | zero =>
    intro k hk0 hb
    exfalso
    have h1 := hb (by omega)
    have h2 : (k - 1) * 1 ≤ (k - 1) * net := Nat.mul_le_mul_left _ hn
    omega
  | succ n ih =>
    intro k hk0 hb
    have hk60 : k * net ≤ 61 * 19 := Nat.mul_le_mul (by omega) hn2
    refine x_iload eX9_cut_71 rfl ?_
    refine x_iload eX9_cut_73 rfl ?_
    first | refine x_imulN eX9_cut_75 (by with_reducible rfl) (by with_reducible rfl) ?_ | refine x_imul eX9_cut_75 ?_
    first | refine x_aload_n eX9_cut_76 rfl rfl ?_ | refine x_aload_nN eX9_cut_76 rfl rfl ?_
    refine x_iload_n eX9_cut_77 rfl rfl ?_
    refine x_iconst (v := nI 5) eX9_cut_78 (by decide) ?_
    refine x_callV2 eX9_cut_79 lk_X9_57 (by assumption) (Nat.le_of_ble_eq_true rfl) (Nat.le_of_ble_eq_true rfl) ?_
    refine Rn.deep (c_X9_sail (d := d) M.md (by omega) (fun _ => ?_)) (by omega)
    rw [e5]
    first | refine x_icmp_geN (tgt := 91) eX9_cut_82 (by decide) (by with_reducible rfl) (by with_reducible rfl) (by omega) (by omega) (fun cq1 => ?_) (fun cq1 => ?_) | refine x_icmp_ge (tgt := 91) eX9_cut_82 (by decide) (fun cq1 => ?_) (fun cq1 => ?_)
    · have e := pnN_eq hn cq1 hb
      rw [e] at kx
      refine Rn.weak (kx) (by repeat' first | exact fun _ h => absurd h List.not_mem_nil | refine List.forall_mem_cons.mpr ⟨rfl, ?_⟩)
    · first | refine x_iincN eX9_cut_85 rfl (by with_reducible rfl) (by decide) rfl rfl ?_ | refine x_iinc eX9_cut_85 rfl rfl (by decide) rfl rfl ?_
      refine x_goto (tgt := 71) eX9_cut_88 (by decide) ?_
      refine Rn.weak (ih (k + 1) (by omega) (fun _ => by rw [Nat.add_sub_cancel]; omega)) (by repeat' first | exact fun _ h => absurd h List.not_mem_nil | refine List.forall_mem_cons.mpr ⟨rfl, ?_⟩)
set_option maxRecDepth 100000 in
set_option maxHeartbeats 4000000 in
theorem c_X9_cut {s w b : Int32} (M : MD h x) (K : MK h x kp la) (W : GW (hi h (x + 1))) (hq0 : cutOK (hi h (x + 1)) s w b = false → Q (some (.int (-1))) h) (hq1 : cutOK (hi h (x + 1)) s w b = true → Q (some (.int (nI (pnN (nt (sl (hi h (x + 1)) (nt s) 5)) (nt w - nt b))))) (acted h x la kp (gCut (hi h (x + 1)) (nt s) (nt w) (nt b)))) : Rn G (d + 3) mX9_cut 0 [(0, .ref x), (1, .int s), (2, .int w), (3, .int b)] [] h Q := by
  obtain ⟨⟨hx, hS, kS, nS⟩, -⟩ := id M
  refine x_iload_n eX9_cut_0 rfl rfl ?_
  refine x_iconst (v := nI 2) eX9_cut_1 (by decide) ?_
  refine x_bipush (v := nI 20) eX9_cut_2 (by decide) ?_
  refine x_callS3 eX9_cut_4 lk_X9_70 (Nat.le_of_ble_eq_true rfl) (Nat.le_of_ble_eq_true rfl) ?_
  refine Rn.deep (c_X9_isIn (d := d) (fun _ => ?_)) (by omega)
  first | refine x_if_eqB (tgt := 29) eX9_cut_7 (by decide) (by with_reducible rfl) (fun cq1 => ?_) (fun cq1 => ?_) | refine x_if_eq (tgt := 29) eX9_cut_7 (by decide) (fun cq1 => ?_) (fun cq1 => ?_)
  · refine x_iconst (v := (-1)) eX9_cut_29 (by decide) ?_
    refine x_iret eX9_cut_30 rfl ?_
    exact hq0 (by have c1 : inR w 2 20 = false := cq1; simp [cutOK, c1])
  · have c1 : inR w 2 20 = true := cq1
    obtain ⟨wn, lw, uw, rfl⟩ := inR_N (lo := 2) (hi := 20) c1 rfl (by omega) (by omega)
    have hw : nt (nI wn) = wn := nt_nI (by omega)
    refine x_iload_n eX9_cut_10 rfl rfl ?_
    refine x_iconst (v := nI 1) eX9_cut_11 (by decide) ?_
    refine x_iload_n eX9_cut_12 rfl rfl ?_
    refine x_iconst (v := nI 1) eX9_cut_13 (by decide) ?_
    first | refine x_isubN eX9_cut_14 (by with_reducible rfl) (by with_reducible rfl) (by omega) ?_ | refine x_isub eX9_cut_14 ?_
    refine x_callS3 eX9_cut_15 lk_X9_70 (Nat.le_of_ble_eq_true rfl) (Nat.le_of_ble_eq_true rfl) ?_
    refine Rn.deep (c_X9_isIn (d := d) (fun _ => ?_)) (by omega)
    first | refine x_if_eqB (tgt := 29) eX9_cut_18 (by decide) (by with_reducible rfl) (fun cq2 => ?_) (fun cq2 => ?_) | refine x_if_eq (tgt := 29) eX9_cut_18 (by decide) (fun cq2 => ?_) (fun cq2 => ?_)
    · refine x_iconst (v := (-1)) eX9_cut_29 (by decide) ?_
      refine x_iret eX9_cut_30 rfl ?_
      exact hq0 (by have c2 : inR b 1 (nI wn - 1) = false := by rw [show nI wn - 1 = nI (wn - 1) from pk_sub (a := wn) (b := 1) (by omega)]; exact cq2
                    simp [cutOK, c2])
    · have c2 : inR b 1 (nI (wn - 1)) = true := cq2
      have c2b : inR b 1 (nI wn - 1) = true := by rw [show nI wn - 1 = nI (wn - 1) from pk_sub (a := wn) (b := 1) (by omega)]; exact cq2
      obtain ⟨bn, lb, ub, rfl⟩ := inR_N (lo := 1) (hi := wn - 1) c2 rfl (by omega) (by omega)
      have hb : nt (nI bn) = bn := nt_nI (by omega)
      first | refine x_aload_n eX9_cut_21 rfl rfl ?_ | refine x_aload_nN eX9_cut_21 rfl rfl ?_
      refine x_iload_n eX9_cut_22 rfl rfl ?_
      refine x_callV1 eX9_cut_23 lk_X9_104 (by assumption) (Nat.le_of_ble_eq_true rfl) (Nat.le_of_ble_eq_true rfl) ?_
      refine Rn.deep (c_X9_isOpen (d := d) M.md W.2.1 (fun _ => ?_)) (by omega)
      first | refine x_if_neB (tgt := 31) eX9_cut_26 (by decide) (by with_reducible rfl) (fun cq3 => ?_) (fun cq3 => ?_) | refine x_if_ne (tgt := 31) eX9_cut_26 (by decide) (fun cq3 => ?_) (fun cq3 => ?_)
      · obtain ⟨j, hj, rfl⟩ := isS_spec W.2.1 (isO_S cq3)
        have h10 := W.2.1.2.2
        have hnt : nt (nI j) = j := nt_nI (by omega)
        have sw := W.2.2.2 j hj
        obtain ⟨-, ⟨e5, l5, u5⟩, -⟩ := id sw
        suffices kx : allN (fun y => decide (0 < acr (hi h (x + 1)) j y)) (nt (sl (hi h (x + 1)) j 5) + 1) = true → Rn G (d + 3) mX9_cut 63 [(0, .ref x), (1, .int (nI j)), (2, .int (nI wn)), (3, .int (nI bn))] [] h Q by
          refine x_iconst (v := nI 0) eX9_cut_31 (by decide) ?_
          refine x_istore eX9_cut_32 (by decide) rfl rfl ?_
          refine Rn.weak (l_X9_cut0 (l := []) M (by omega) sw (fun z => hq0 (by simp [cutOK, hnt, z])) kx _ 0 (Nat.zero_add _) (fun j hj => absurd hj (by omega))) (by repeat' first | exact fun _ h => absurd h List.not_mem_nil | refine List.forall_mem_cons.mpr ⟨rfl, ?_⟩)
        intro hall
        suffices kx : Rn G (d + 3) mX9_cut 91 [(0, .ref x), (1, .int (nI j)), (3, .int (nI bn)), (4, .int (nI (wn - bn))), (5, .int (nI (pnN (nt (sl (hi h (x + 1)) j 5)) (wn - bn))))] [] h Q by
          refine x_iload_n eX9_cut_63 rfl rfl ?_
          refine x_iload_n eX9_cut_64 rfl rfl ?_
          first | refine x_isubN eX9_cut_65 (by with_reducible rfl) (by with_reducible rfl) (by omega) ?_ | refine x_isub eX9_cut_65 ?_
          refine x_istore eX9_cut_66 (by decide) rfl rfl ?_
          refine x_iconst (v := nI 0) eX9_cut_68 (by decide) ?_
          refine x_istore eX9_cut_69 (by decide) rfl rfl ?_
          refine Rn.weak (l_X9_cut1 M (by omega) (by omega) (by omega) e5 u5 kx 61 0 (by omega) (fun z => absurd z (by omega))) (by repeat' first | exact fun _ h => absurd h List.not_mem_nil | refine List.forall_mem_cons.mpr ⟨rfl, ?_⟩)
        have hpn : pnN (nt (sl (hi h (x + 1)) j 5)) (wn - bn) < 2 ^ 31 := by
          have : pnN (nt (sl (hi h (x + 1)) j 5)) (wn - bn) ≤ nt (sl (hi h (x + 1)) j 5) + (wn - bn) - 1 := Nat.div_le_self _ _
          omega
        refine x_iload eX9_cut_91 rfl ?_
        refine x_bipush (v := nI 40) eX9_cut_93 (by decide) ?_
        first | refine x_icmp_leN (tgt := 100) eX9_cut_95 (by decide) (by with_reducible rfl) (by with_reducible rfl) (by omega) (by omega) (fun cq4 => ?_) (fun cq4 => ?_) | refine x_icmp_le (tgt := 100) eX9_cut_95 (by decide) (fun cq4 => ?_) (fun cq4 => ?_)
        · have q1 := hq1 (by rw [cutOK, hnt, hw, hb, c1, c2b, cq3, hall, decide_eq_true cq4]; rfl)
          rw [hnt, hw, hb] at q1
          first | refine x_aload_n eX9_cut_100 rfl rfl ?_ | refine x_aload_nN eX9_cut_100 rfl rfl ?_
          refine x_callV0 eX9_cut_101 lk_X9_75 (by assumption) (Nat.le_of_ble_eq_true rfl) (Nat.le_of_ble_eq_true rfl) ?_
          refine Rn.deep (c_X9_act (d := d) M K (fun _ => ?_)) (by omega)
          have hx2 : hk (acted h x la kp (hi h (x + 1))) x = 8 := hx
          first | refine x_aload_n eX9_cut_104 rfl rfl ?_ | refine x_aload_nN eX9_cut_104 rfl rfl ?_
          refine x_iload_n eX9_cut_105 rfl rfl ?_
          refine x_iconst (v := nI 0) eX9_cut_106 (by decide) ?_
          refine x_iconst (v := nI 1) eX9_cut_107 (by decide) ?_
          refine x_callV3 eX9_cut_108 lk_X9_101 (by assumption) (Nat.le_of_ble_eq_true rfl) (Nat.le_of_ble_eq_true rfl) ?_
          refine Rn.deep (c_X9_putSail (d := d) (M.acted la kp _).md (by omega) (fun _ => ?_)) (by omega)
          rw [acted_wi]
          have hx2 : hk (acted h x la kp (upd0 (hi h (x + 1)) (5050 + 390 * j + 0) (nI 1))) x = 8 := hx
          first | refine x_aload_n eX9_cut_111 rfl rfl ?_ | refine x_aload_nN eX9_cut_111 rfl rfl ?_
          refine x_iload_n eX9_cut_112 rfl rfl ?_
          refine x_bipush (v := nI 6) eX9_cut_113 (by decide) ?_
          refine x_iload eX9_cut_115 rfl ?_
          refine x_callV3 eX9_cut_117 lk_X9_101 (by assumption) (Nat.le_of_ble_eq_true rfl) (Nat.le_of_ble_eq_true rfl) ?_
          refine Rn.deep (c_X9_putSail (d := d) (M.acted la kp _).md (by omega) (fun _ => ?_)) (by omega)
          rw [acted_wi]
          have hx2 : hk (acted h x la kp (upd0 (upd0 (hi h (x + 1)) (5050 + 390 * j + 0) (nI 1)) (5050 + 390 * j + 6) (nI (wn - bn)))) x = 8 := hx
          first | refine x_aload_n eX9_cut_120 rfl rfl ?_ | refine x_aload_nN eX9_cut_120 rfl rfl ?_
          refine x_iload_n eX9_cut_121 rfl rfl ?_
          refine x_bipush (v := nI 7) eX9_cut_122 (by decide) ?_
          refine x_iload_n eX9_cut_124 rfl rfl ?_
          refine x_callV3 eX9_cut_125 lk_X9_101 (by assumption) (Nat.le_of_ble_eq_true rfl) (Nat.le_of_ble_eq_true rfl) ?_
          refine Rn.deep (c_X9_putSail (d := d) (M.acted la kp _).md (by omega) (fun _ => ?_)) (by omega)
          rw [acted_wi]
          have hx2 : hk (acted h x la kp (upd0 (upd0 (upd0 (hi h (x + 1)) (5050 + 390 * j + 0) (nI 1)) (5050 + 390 * j + 6) (nI (wn - bn))) (5050 + 390 * j + 7) (nI bn))) x = 8 := hx
          first | refine x_aload_n eX9_cut_128 rfl rfl ?_ | refine x_aload_nN eX9_cut_128 rfl rfl ?_
          refine x_iload_n eX9_cut_129 rfl rfl ?_
          refine x_bipush (v := nI 8) eX9_cut_130 (by decide) ?_
          refine x_iload eX9_cut_132 rfl ?_
          refine x_callV3 eX9_cut_134 lk_X9_101 (by assumption) (Nat.le_of_ble_eq_true rfl) (Nat.le_of_ble_eq_true rfl) ?_
          refine Rn.deep (c_X9_putSail (d := d) (M.acted la kp _).md (by omega) (fun _ => ?_)) (by omega)
          rw [acted_wi]
          refine x_iload eX9_cut_137 rfl ?_
          refine x_iret eX9_cut_139 rfl ?_
          exact q1
        · refine x_iconst (v := (-1)) eX9_cut_98 (by decide) ?_
          refine x_iret eX9_cut_99 rfl ?_
          exact hq0 (by rw [cutOK, hnt, hw, hb, decide_eq_false (Nat.not_le.mpr cq4)]; simp)
      · refine x_iconst (v := (-1)) eX9_cut_29 (by decide) ?_
        refine x_iret eX9_cut_30 rfl ?_
        exact hq0 (by simp [cutOK, cq3])
end REF11

