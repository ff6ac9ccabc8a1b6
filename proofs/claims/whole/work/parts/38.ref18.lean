/-! ===== the reference: plan ===== -/
/-- the heap while plan goes on: whether an act was noted, the scratch, the state -/
def plH (h : AH) (x la kp : Nat) (a : Bool) (fr g : Nat → Int32) : AH := if a then acted (ovH h (x + 5) fr) x la kp g else ovH h (x + 5) fr
set_option maxRecDepth 100000 in
set_option maxHeartbeats 4000000 in
theorem plH_ov (h : AH) (x la kp : Nat) (a : Bool) (fr fr2 g : Nat → Int32) : ovH (plH h x la kp a fr g) (x + 5) fr2 = plH h x la kp a fr2 g := by
  cases a with
  | false =>
    show setI h (ovF (ovF (hi h) (x + 5) fr) (x + 5) fr2) = setI h _
    congr 1
    funext q j
    unfold ovF
    by_cases z : q = x + 5 <;> simp [z]
  | true =>
    show setI h (ovF (ST (actF (ovF (hi h) (x + 5) fr) x la kp) x g) (x + 5) fr2) = setI h (ST (actF (ovF (hi h) (x + 5) fr2) x la kp) x g)
    congr 1
    funext q j
    unfold ovF ST
    by_cases z : q = x + 5
    · subst z
      rw [if_pos rfl, if_neg (by omega)]
      unfold actF
      rw [up2_ne (by omega)]
      unfold cpyF
      rw [if_neg (by omega), up2_ne (by omega), if_pos rfl]
    · rw [if_neg z]
      by_cases y : q = x + 1
      · rw [if_pos y, if_pos y]
      · rw [if_neg y, if_neg y]
        unfold actF up2 cpyF
        by_cases u : q = x + 2
        · subst u
          simp
        · simp [z, u]
section REF18
variable {G : GG} {d : Nat} {h : AH} {Q : Option Value → AH → Prop} {x la kp : Nat}
set_option maxRecDepth 100000 in
set_option maxHeartbeats 4000000 in
theorem plH_MD {a : Bool} {fr g : Nat → Int32} (M : MD h x) : MD (plH h x la kp a fr g) x := by
  cases a <;> exact M
set_option maxRecDepth 100000 in
set_option maxHeartbeats 4000000 in
theorem plH_st {a : Bool} {fr g : Nat → Int32} (e : a = false → g = hi h (x + 1)) : hi (plH h x la kp a fr g) (x + 1) = g := by
  cases a with
  | false =>
    rw [e rfl]
    exact ovH_ne h fr (by omega)
  | true => exact hi_acted _ _ _ _ _
-- the search of the first bolt
set_option maxRecDepth 100000 in
set_option maxHeartbeats 4000000 in
theorem l_X9_plan2 {s i nb : Nat} {w a2 : Int32} {a : Bool} {g : Nat → Int32} (M : MD h x) (V : IV g) (ea : a = false → g = hi h (x + 1)) (hs : s < nt (g 1)) (him : i < np g s) (hnb : nt (g 0) = nb) (kx0 : fbN g s i w = none → ∀ fr, Rn G (d + 5) mX9_plan 117 [(0, .ref x), (1, .int w), (2, .int a2), (3, .int (nI s)), (4, .int (nI i)), (6, .int (-1))] [] (plH h x la kp a fr g) Q) (kx1 : ∀ b, fbN g s i w = some b → b < nb → ¬ fpV g b s i w = -1 → ∀ fr, Rn G (d + 5) mX9_plan 117 [(0, .ref x), (1, .int w), (2, .int a2), (3, .int (nI s)), (4, .int (nI i)), (5, .int (nI b)), (6, .int (fpV g b s i w))] [] (plH h x la kp a fr g) Q) : ∀ n b fr v5, b + n = nb → (∀ j, j < b → fpV g j s i w = -1) → Rn G (d + 5) mX9_plan 78 [(0, .ref x), (1, .int w), (2, .int a2), (3, .int (nI s)), (4, .int (nI i)), (5, .int v5), (6, .int (-1)), (7, .int (nI b))] [] (plH h x la kp a fr g) Q := by
  obtain ⟨W, B, L⟩ := V
  obtain ⟨w0, -, h24⟩ := W.1
  have h10 := W.2.1.2.2
  have h40 : np g s ≤ 40 := (W.2.2.2 s hs).2.2.2.2.1
  intro n
  induction n with
  | zero =>
    intro b fr v5 hb0 hall
    have M2 := plH_MD (la := la) (kp := kp) (a := a) (fr := fr) (g := g) M
    have es := plH_st (la := la) (kp := kp) (fr := fr) ea
    obtain ⟨⟨hx, hS, kS, nS⟩, -⟩ := id M2
    have e0 : fbN g s i w = none := fstN_none (fun j hj => by rw [hall j (by omega)]; rfl)
    refine x_iload eX9_plan_78 rfl ?_
    first | refine x_aload_n eX9_plan_80 rfl rfl ?_ | refine x_aload_nN eX9_plan_80 rfl rfl ?_
    first | refine x_getR eX9_plan_81 fk_X9_7 rfl (by assumption) (by assumption) ?_ | refine x_getN eX9_plan_81 fk_X9_7 rfl (by assumption) (by assumption) ?_
    refine x_iconst (v := nI 0) eX9_plan_84 (by decide) ?_
    first | refine x_ialdN eX9_plan_85 (by with_reducible rfl) (by assumption) (by assumption) (by omega) (by omega) ?_ | refine x_sldN eX9_plan_85 (by with_reducible rfl) (by assumption) (by assumption) (by omega) (by omega) ?_ | refine x_iald eX9_plan_85 (by assumption) (by assumption) ?_
    rw [es, w0, hnb]
    first | refine x_icmp_geN (tgt := 117) eX9_plan_86 (by decide) (by with_reducible rfl) (by with_reducible rfl) (by omega) (by omega) (fun cq1 => ?_) (fun cq1 => ?_) | refine x_icmp_ge (tgt := 117) eX9_plan_86 (by decide) (fun cq1 => ?_) (fun cq1 => ?_)
    · refine Rn.weak (kx0 e0 fr) (by repeat' first | exact fun _ h => absurd h List.not_mem_nil | refine List.forall_mem_cons.mpr ⟨rfl, ?_⟩)
    · exact absurd cq1 (by omega)
  | succ n ih =>
    intro b fr v5 hb0 hall
    have M2 := plH_MD (la := la) (kp := kp) (a := a) (fr := fr) (g := g) M
    have es := plH_st (la := la) (kp := kp) (fr := fr) ea
    obtain ⟨⟨hx, hS, kS, nS⟩, -⟩ := id M2
    refine x_iload eX9_plan_78 rfl ?_
    first | refine x_aload_n eX9_plan_80 rfl rfl ?_ | refine x_aload_nN eX9_plan_80 rfl rfl ?_
    first | refine x_getR eX9_plan_81 fk_X9_7 rfl (by assumption) (by assumption) ?_ | refine x_getN eX9_plan_81 fk_X9_7 rfl (by assumption) (by assumption) ?_
    refine x_iconst (v := nI 0) eX9_plan_84 (by decide) ?_
    first | refine x_ialdN eX9_plan_85 (by with_reducible rfl) (by assumption) (by assumption) (by omega) (by omega) ?_ | refine x_sldN eX9_plan_85 (by with_reducible rfl) (by assumption) (by assumption) (by omega) (by omega) ?_ | refine x_iald eX9_plan_85 (by assumption) (by assumption) ?_
    rw [es, w0, hnb]
    first | refine x_icmp_geN (tgt := 117) eX9_plan_86 (by decide) (by with_reducible rfl) (by with_reducible rfl) (by omega) (by omega) (fun cq1 => ?_) (fun cq1 => ?_) | refine x_icmp_ge (tgt := 117) eX9_plan_86 (by decide) (fun cq1 => ?_) (fun cq1 => ?_)
    · exact absurd cq1 (by omega)
    · refine x_iload eX9_plan_89 rfl ?_
      refine x_iconst (v := (-1)) eX9_plan_91 (by decide) ?_
      first | refine x_icmp_neN (tgt := 117) eX9_plan_92 (by decide) (by with_reducible rfl) (by with_reducible rfl) (by omega) (by omega) (fun cq2 => ?_) (fun cq2 => ?_) | refine x_icmp_ne (tgt := 117) eX9_plan_92 (by decide) (fun cq2 => ?_) (fun cq2 => ?_)
      · exact absurd rfl cq2
      · first | refine x_aload_n eX9_plan_95 rfl rfl ?_ | refine x_aload_nN eX9_plan_95 rfl rfl ?_
        refine x_iload eX9_plan_96 rfl ?_
        refine x_iload_n eX9_plan_98 rfl rfl ?_
        refine x_iload eX9_plan_99 rfl ?_
        refine x_iload_n eX9_plan_101 rfl rfl ?_
        refine x_callV4 eX9_plan_102 lk_X9_163 (by assumption) (Nat.le_of_ble_eq_true rfl) (Nat.le_of_ble_eq_true rfl) ?_
        refine c_X9_firstPlace (b := b) (s := s) (i := i) M2 (by rw [es]; exact W) (by rw [es]; exact B) (by rw [es]; omega) (by rw [es]; exact hs) (by rw [es]; exact him) (by rw [es]; exact L s i hs him) (fun fr2 _ => ?_)
        rw [es, plH_ov]
        by_cases z : fpV g b s i w = -1
        · rw [z]
          refine x_istore eX9_plan_105 (by decide) rfl rfl ?_
          refine x_iload eX9_plan_107 rfl ?_
          refine x_istore eX9_plan_109 (by decide) rfl rfl ?_
          first | refine x_iincN eX9_plan_111 rfl (by with_reducible rfl) (by decide) rfl rfl ?_ | refine x_iinc eX9_plan_111 rfl rfl (by decide) rfl rfl ?_
          refine x_goto (tgt := 78) eX9_plan_114 (by decide) ?_
          refine Rn.weak (ih (b + 1) fr2 (nI b) (by omega) (fun j hj => by by_cases y : j < b; exact hall j y; rw [show j = b by omega]; exact z)) (by repeat' first | exact fun _ h => absurd h List.not_mem_nil | refine List.forall_mem_cons.mpr ⟨rfl, ?_⟩)
        · have e0 : fbN g s i w = some b := fstN_some (P := fun b => !decide (fpV g b s i w = -1)) (by rw [decide_eq_false z]; rfl) (fun j hj => by rw [hall j hj]; rfl) (by omega)
          have k2 := kx1 b e0 (by omega) z fr2
          have M3 := plH_MD (la := la) (kp := kp) (a := a) (fr := fr2) (g := g) M
          have es3 := plH_st (la := la) (kp := kp) (fr := fr2) ea
          obtain ⟨⟨hx, hS, kS, nS⟩, -⟩ := id M3
          refine x_istore eX9_plan_105 (by decide) rfl rfl ?_
          refine x_iload eX9_plan_107 rfl ?_
          refine x_istore eX9_plan_109 (by decide) rfl rfl ?_
          first | refine x_iincN eX9_plan_111 rfl (by with_reducible rfl) (by decide) rfl rfl ?_ | refine x_iinc eX9_plan_111 rfl rfl (by decide) rfl rfl ?_
          refine x_goto (tgt := 78) eX9_plan_114 (by decide) ?_
          refine x_iload eX9_plan_78 rfl ?_
          first | refine x_aload_n eX9_plan_80 rfl rfl ?_ | refine x_aload_nN eX9_plan_80 rfl rfl ?_
          first | refine x_getR eX9_plan_81 fk_X9_7 rfl (by assumption) (by assumption) ?_ | refine x_getN eX9_plan_81 fk_X9_7 rfl (by assumption) (by assumption) ?_
          refine x_iconst (v := nI 0) eX9_plan_84 (by decide) ?_
          first | refine x_ialdN eX9_plan_85 (by with_reducible rfl) (by assumption) (by assumption) (by omega) (by omega) ?_ | refine x_sldN eX9_plan_85 (by with_reducible rfl) (by assumption) (by assumption) (by omega) (by omega) ?_ | refine x_iald eX9_plan_85 (by assumption) (by assumption) ?_
          rw [es3, w0, hnb]
          first | refine x_icmp_geN (tgt := 117) eX9_plan_86 (by decide) (by with_reducible rfl) (by with_reducible rfl) (by omega) (by omega) (fun cq1 => ?_) (fun cq1 => ?_) | refine x_icmp_ge (tgt := 117) eX9_plan_86 (by decide) (fun cq1 => ?_) (fun cq1 => ?_)
          · refine Rn.weak (k2) (by repeat' first | exact fun _ h => absurd h List.not_mem_nil | refine List.forall_mem_cons.mpr ⟨rfl, ?_⟩)
          · refine x_iload eX9_plan_89 rfl ?_
            refine x_iconst (v := (-1)) eX9_plan_91 (by decide) ?_
            first | refine x_icmp_neN (tgt := 117) eX9_plan_92 (by decide) (by with_reducible rfl) (by with_reducible rfl) (by omega) (by omega) (fun cq2 => ?_) (fun cq2 => ?_) | refine x_icmp_ne (tgt := 117) eX9_plan_92 (by decide) (fun cq2 => ?_) (fun cq2 => ?_)
            · refine Rn.weak (k2) (by repeat' first | exact fun _ h => absurd h List.not_mem_nil | refine List.forall_mem_cons.mpr ⟨rfl, ?_⟩)
            · exact absurd cq2 z
set_option maxRecDepth 100000 in
set_option maxHeartbeats 4000000 in
theorem l_X9_plan1 {s m0 : Nat} {w : Int32} (M : MD h x) (K : MK h x kp la) (hw : inR w 0 100 = true) : ∀ n i a g fr, i + n = m0 → IV g → (a = false → g = hi h (x + 1)) → s < nt (g 1) → np g s = m0 → (∀ g2 a2 c fr2, plI w s n i g a = (g2, a2, some c) → Q (some (.int (nI c))) (plH h x la kp a2 fr2 g2)) → (∀ g2 a2 fr2, plI w s n i g a = (g2, a2, none) → IV g2 → (a2 = false → g2 = hi h (x + 1)) → g2 1 = g 1 → Rn G (d + 5) mX9_plan 158 [(0, .ref x), (1, .int w), (2, .int (bI a2)), (3, .int (nI s))] [] (plH h x la kp a2 fr2 g2) Q) → Rn G (d + 5) mX9_plan 41 [(0, .ref x), (1, .int w), (2, .int (bI a)), (3, .int (nI s)), (4, .int (nI i))] [] (plH h x la kp a fr g) Q := by
  intro n
  induction n with
  | zero =>
    intro i a g fr hi0 V ea hs hnp hq kx
    have h10 := V.1.2.1.2.2
    have sw := V.1.2.2.2 s hs
    have h40 : np g s ≤ 40 := sw.2.2.2.2.1
    have M2 := plH_MD (la := la) (kp := kp) (a := a) (fr := fr) (g := g) M
    have es := plH_st (la := la) (kp := kp) (fr := fr) ea
    obtain ⟨⟨hx, hS, kS, nS⟩, -⟩ := id M2
    refine x_iload eX9_plan_41 rfl ?_
    first | refine x_aload_n eX9_plan_43 rfl rfl ?_ | refine x_aload_nN eX9_plan_43 rfl rfl ?_
    refine x_iload_n eX9_plan_44 rfl rfl ?_
    refine x_callV1 eX9_plan_45 lk_X9_82 (by assumption) (Nat.le_of_ble_eq_true rfl) (Nat.le_of_ble_eq_true rfl) ?_
    refine Rn.deep (c_X9_piecesN (d := d) M2.md (by omega) (by rw [es]; exact sw) (fun _ => ?_)) (by omega)
    rw [es, hnp]
    first | refine x_icmp_geN (tgt := 158) eX9_plan_48 (by decide) (by with_reducible rfl) (by with_reducible rfl) (by omega) (by omega) (fun cq1 => ?_) (fun cq1 => ?_) | refine x_icmp_ge (tgt := 158) eX9_plan_48 (by decide) (fun cq1 => ?_) (fun cq1 => ?_)
    · refine Rn.weak (kx g a fr rfl V ea rfl) (by repeat' first | exact fun _ h => absurd h List.not_mem_nil | refine List.forall_mem_cons.mpr ⟨rfl, ?_⟩)
    · exact absurd cq1 (by omega)
  | succ n ih =>
    intro i a g fr hi0 V ea hs hnp hq kx
    have h10 := V.1.2.1.2.2
    have h24 := V.1.1.2.2
    have sw := V.1.2.2.2 s hs
    have h40 : np g s ≤ 40 := sw.2.2.2.2.1
    have M2 := plH_MD (la := la) (kp := kp) (a := a) (fr := fr) (g := g) M
    have es := plH_st (la := la) (kp := kp) (fr := fr) ea
    obtain ⟨⟨hx, hS, kS, nS⟩, -⟩ := id M2
    rw [plI] at hq kx
    refine x_iload eX9_plan_41 rfl ?_
    first | refine x_aload_n eX9_plan_43 rfl rfl ?_ | refine x_aload_nN eX9_plan_43 rfl rfl ?_
    refine x_iload_n eX9_plan_44 rfl rfl ?_
    refine x_callV1 eX9_plan_45 lk_X9_82 (by assumption) (Nat.le_of_ble_eq_true rfl) (Nat.le_of_ble_eq_true rfl) ?_
    refine Rn.deep (c_X9_piecesN (d := d) M2.md (by omega) (by rw [es]; exact sw) (fun _ => ?_)) (by omega)
    rw [es, hnp]
    first | refine x_icmp_geN (tgt := 158) eX9_plan_48 (by decide) (by with_reducible rfl) (by with_reducible rfl) (by omega) (by omega) (fun cq1 => ?_) (fun cq1 => ?_) | refine x_icmp_ge (tgt := 158) eX9_plan_48 (by decide) (fun cq1 => ?_) (fun cq1 => ?_)
    · exact absurd cq1 (by omega)
    · first | refine x_aload_n eX9_plan_51 rfl rfl ?_ | refine x_aload_nN eX9_plan_51 rfl rfl ?_
      refine x_iload_n eX9_plan_52 rfl rfl ?_
      refine x_sipush (v := nI 300) eX9_plan_53 (by decide) ?_
      refine x_iload eX9_plan_56 rfl ?_
      first | refine x_iaddN eX9_plan_58 (by with_reducible rfl) (by with_reducible rfl) ?_ | refine x_iadd eX9_plan_58 ?_
      refine x_callV2 eX9_plan_59 lk_X9_57 (by assumption) (Nat.le_of_ble_eq_true rfl) (Nat.le_of_ble_eq_true rfl) ?_
      refine Rn.deep (c_X9_sail (d := d) M2.md (by omega) (fun _ => ?_)) (by omega)
      rw [es]
      refine x_iconst (v := (-1)) eX9_plan_62 (by decide) ?_
      first | refine x_icmp_eqN (tgt := 69) eX9_plan_63 (by decide) (by with_reducible rfl) (by with_reducible rfl) (by omega) (by omega) (fun cq2 => ?_) (fun cq2 => ?_) | refine x_icmp_eq (tgt := 69) eX9_plan_63 (by decide) (fun cq2 => ?_) (fun cq2 => ?_)
      · have c2 : sl g s (300 + i) = -1 := cq2
        rw [if_pos c2] at hq kx
        have k0 : fbN g s i w = none → ∀ fr, Rn G (d + 5) mX9_plan 117 [(0, .ref x), (1, .int w), (2, .int (bI a)), (3, .int (nI s)), (4, .int (nI i)), (6, .int (-1))] [] (plH h x la kp a fr g) Q := by
          intro e0 fr2
          rw [e0] at hq
          have hqq := hq g a (100 * s + i) fr2 rfl
          refine x_iload eX9_plan_117 rfl ?_
          refine x_iconst (v := (-1)) eX9_plan_119 (by decide) ?_
          first | refine x_icmp_neN (tgt := 131) eX9_plan_120 (by decide) (by with_reducible rfl) (by with_reducible rfl) (by omega) (by omega) (fun cq1 => ?_) (fun cq1 => ?_) | refine x_icmp_ne (tgt := 131) eX9_plan_120 (by decide) (fun cq1 => ?_) (fun cq1 => ?_)
          · exact absurd rfl cq1
          · refine x_bipush (v := nI 100) eX9_plan_123 (by decide) ?_
            refine x_iload_n eX9_plan_125 rfl rfl ?_
            first | refine x_imulN eX9_plan_126 (by with_reducible rfl) (by with_reducible rfl) ?_ | refine x_imul eX9_plan_126 ?_
            refine x_iload eX9_plan_127 rfl ?_
            first | refine x_iaddN eX9_plan_129 (by with_reducible rfl) (by with_reducible rfl) ?_ | refine x_iadd eX9_plan_129 ?_
            refine x_iret eX9_plan_130 rfl ?_
            exact hqq
        have k1 : ∀ b, fbN g s i w = some b → b < nt (g 0) → ¬ fpV g b s i w = -1 → ∀ fr, Rn G (d + 5) mX9_plan 117 [(0, .ref x), (1, .int w), (2, .int (bI a)), (3, .int (nI s)), (4, .int (nI i)), (5, .int (nI b)), (6, .int (fpV g b s i w))] [] (plH h x la kp a fr g) Q := by
          intro b e0 hb hz fr2
          rw [e0] at hq kx
          have V2 := IV_put (w := w) V hs (show i < np g s by omega) hb hz
          have e1 : gPut g s i (nI b) (fpV g b s i w) 1 = g 1 := gPut_lo g s i _ _ (by omega)
          have enp : np (gPut g s i (nI b) (fpV g b s i w)) s = m0 := by rw [np_lo (gPut_SE g _ _ (by omega) s), hnp]
          have iw := fun fr3 => ih (i + 1) true (gPut g s i (nI b) (fpV g b s i w)) fr3 (by omega) V2 (fun z => by cases z) (by rw [e1]; exact hs) enp hq (fun g2 a2 fr2 z1 z2 z3 z4 => kx g2 a2 fr2 z1 z2 z3 (by rw [z4, e1]))
          have k139 : Rn G (d + 5) mX9_plan 139 [(0, .ref x), (1, .int w), (3, .int (nI s)), (4, .int (nI i)), (5, .int (nI b)), (6, .int (fpV g b s i w))] [] (plH h x la kp true fr2 g) Q := by
            have M5 := plH_MD (la := la) (kp := kp) (a := true) (fr := fr2) (g := g) M
            obtain ⟨⟨hx, hS, kS, nS⟩, -⟩ := id M5
            refine x_iconst (v := nI 1) eX9_plan_139 (by decide) ?_
            refine x_istore_n eX9_plan_140 rfl (by decide) rfl rfl ?_
            first | refine x_aload_n eX9_plan_141 rfl rfl ?_ | refine x_aload_nN eX9_plan_141 rfl rfl ?_
            refine x_iload_n eX9_plan_142 rfl rfl ?_
            refine x_iload eX9_plan_143 rfl ?_
            refine x_iload eX9_plan_145 rfl ?_
            refine x_iload eX9_plan_147 rfl ?_
            refine x_callV4 eX9_plan_149 lk_X9_159 (by assumption) (Nat.le_of_ble_eq_true rfl) (Nat.le_of_ble_eq_true rfl) ?_
            refine Rn.deep (c_X9_put (d := d) (h := ovH h (x + 5) fr2) (la := la) (kp := kp) (g := g) M (by omega) (by omega) (fun _ => ?_)) (by omega)
            first | refine x_iincN eX9_plan_152 rfl (by with_reducible rfl) (by decide) rfl rfl ?_ | refine x_iinc eX9_plan_152 rfl rfl (by decide) rfl rfl ?_
            refine x_goto (tgt := 41) eX9_plan_155 (by decide) ?_
            refine Rn.weak (iw fr2) (by repeat' first | exact fun _ h => absurd h List.not_mem_nil | refine List.forall_mem_cons.mpr ⟨rfl, ?_⟩)
          have M4 := plH_MD (la := la) (kp := kp) (a := a) (fr := fr2) (g := g) M
          obtain ⟨⟨hx, hS, kS, nS⟩, -⟩ := id M4
          refine x_iload eX9_plan_117 rfl ?_
          refine x_iconst (v := (-1)) eX9_plan_119 (by decide) ?_
          first | refine x_icmp_neN (tgt := 131) eX9_plan_120 (by decide) (by with_reducible rfl) (by with_reducible rfl) (by omega) (by omega) (fun cq1 => ?_) (fun cq1 => ?_) | refine x_icmp_ne (tgt := 131) eX9_plan_120 (by decide) (fun cq1 => ?_) (fun cq1 => ?_)
          · refine x_iload_n eX9_plan_131 rfl rfl ?_
            first | refine x_if_neB (tgt := 139) eX9_plan_132 (by decide) (by with_reducible rfl) (fun cq2 => ?_) (fun cq2 => ?_) | refine x_if_ne (tgt := 139) eX9_plan_132 (by decide) (fun cq2 => ?_) (fun cq2 => ?_)
            · have ha : a = true := cq2
              subst ha
              refine Rn.weak (k139) (by repeat' first | exact fun _ h => absurd h List.not_mem_nil | refine List.forall_mem_cons.mpr ⟨rfl, ?_⟩)
            · have ha : a = false := cq2
              subst ha
              have eg := ea rfl
              have K2 : MK (ovH h (x + 5) fr2) x kp la := by
                obtain ⟨q2, q3, q4, q5⟩ := K
                exact ⟨by rw [ovH_ne h fr2 (by omega)]; exact q2, by rw [ovH_ne h fr2 (by omega)]; exact q3, q4, q5⟩
              first | refine x_aload_n eX9_plan_135 rfl rfl ?_ | refine x_aload_nN eX9_plan_135 rfl rfl ?_
              refine x_callV0 eX9_plan_136 lk_X9_75 (by assumption) (Nat.le_of_ble_eq_true rfl) (Nat.le_of_ble_eq_true rfl) ?_
              refine Rn.deep (c_X9_act (d := d) (h := ovH h (x + 5) fr2) M K2 (fun _ => ?_)) (by omega)
              rw [ovH_ne h fr2 (by omega), ← eg]
              refine Rn.weak (k139) (by repeat' first | exact fun _ h => absurd h List.not_mem_nil | refine List.forall_mem_cons.mpr ⟨rfl, ?_⟩)
          · exact absurd cq1 hz
        refine x_iconst (v := (-1)) eX9_plan_69 (by decide) ?_
        refine x_istore eX9_plan_70 (by decide) rfl rfl ?_
        refine x_iconst (v := (-1)) eX9_plan_72 (by decide) ?_
        refine x_istore eX9_plan_73 (by decide) rfl rfl ?_
        refine x_iconst (v := nI 0) eX9_plan_75 (by decide) ?_
        refine x_istore eX9_plan_76 (by decide) rfl rfl ?_
        refine Rn.weak (l_X9_plan2 M V ea hs (by omega) rfl k0 k1 (nt (g 0)) 0 fr (-1) (Nat.zero_add _) (fun j hj => absurd hj (by omega))) (by repeat' first | exact fun _ h => absurd h List.not_mem_nil | refine List.forall_mem_cons.mpr ⟨rfl, ?_⟩)
      · have c2 : ¬ sl g s (300 + i) = -1 := cq2
        rw [if_neg c2] at hq kx
        have iw := ih (i + 1) a g fr (by omega) V ea hs hnp hq kx
        refine x_goto (tgt := 152) eX9_plan_66 (by decide) ?_
        first | refine x_iincN eX9_plan_152 rfl (by with_reducible rfl) (by decide) rfl rfl ?_ | refine x_iinc eX9_plan_152 rfl rfl (by decide) rfl rfl ?_
        refine x_goto (tgt := 41) eX9_plan_155 (by decide) ?_
        refine Rn.weak (iw) (by repeat' first | exact fun _ h => absurd h List.not_mem_nil | refine List.forall_mem_cons.mpr ⟨rfl, ?_⟩)
set_option maxRecDepth 100000 in
set_option maxHeartbeats 4000000 in
theorem KX {w : Int32} {s : Nat} {a : Bool} {fr g : Nat → Int32} (iw : Rn G (d + 5) mX9_plan 17 [(0, .ref x), (1, .int w), (2, .int (bI a)), (3, .int (nI (s + 1)))] [] (plH h x la kp a fr g) Q) : Rn G (d + 5) mX9_plan 158 [(0, .ref x), (1, .int w), (2, .int (bI a)), (3, .int (nI s))] [] (plH h x la kp a fr g) Q := by
  first | refine x_iincN eX9_plan_158 rfl (by with_reducible rfl) (by decide) rfl rfl ?_ | refine x_iinc eX9_plan_158 rfl rfl (by decide) rfl rfl ?_
  refine x_goto (tgt := 17) eX9_plan_161 (by decide) ?_
  refine Rn.weak (iw) (by repeat' first | exact fun _ h => absurd h List.not_mem_nil | refine List.forall_mem_cons.mpr ⟨rfl, ?_⟩)
set_option maxRecDepth 100000 in
set_option maxHeartbeats 4000000 in
theorem l_X9_plan0 {ns : Nat} {w : Int32} (M : MD h x) (K : MK h x kp la) (hw : inR w 0 100 = true) : ∀ n s a g fr, s + n = ns → IV g → (a = false → g = hi h (x + 1)) → nt (g 1) = ns → (∀ g2 a2 fr2 c, plS w n s g a = (g2, a2, c) → Q (some (.int (match c with
    | none => -1
    | some c => nI c))) (plH h x la kp a2 fr2 g2)) → Rn G (d + 5) mX9_plan 17 [(0, .ref x), (1, .int w), (2, .int (bI a)), (3, .int (nI s))] [] (plH h x la kp a fr g) Q := by
  intro n
  induction n with
  | zero =>
    intro s a g fr hs0 V ea hns hq
    obtain ⟨w1, -, h10⟩ := V.1.2.1
    have M2 := plH_MD (la := la) (kp := kp) (a := a) (fr := fr) (g := g) M
    have es := plH_st (la := la) (kp := kp) (fr := fr) ea
    obtain ⟨⟨hx, hS, kS, nS⟩, -⟩ := id M2
    refine x_iload_n eX9_plan_17 rfl rfl ?_
    first | refine x_aload_n eX9_plan_18 rfl rfl ?_ | refine x_aload_nN eX9_plan_18 rfl rfl ?_
    first | refine x_getR eX9_plan_19 fk_X9_7 rfl (by assumption) (by assumption) ?_ | refine x_getN eX9_plan_19 fk_X9_7 rfl (by assumption) (by assumption) ?_
    refine x_iconst (v := nI 1) eX9_plan_22 (by decide) ?_
    first | refine x_ialdN eX9_plan_23 (by with_reducible rfl) (by assumption) (by assumption) (by omega) (by omega) ?_ | refine x_sldN eX9_plan_23 (by with_reducible rfl) (by assumption) (by assumption) (by omega) (by omega) ?_ | refine x_iald eX9_plan_23 (by assumption) (by assumption) ?_
    rw [es, w1, hns]
    first | refine x_icmp_geN (tgt := 164) eX9_plan_24 (by decide) (by with_reducible rfl) (by with_reducible rfl) (by omega) (by omega) (fun cq1 => ?_) (fun cq1 => ?_) | refine x_icmp_ge (tgt := 164) eX9_plan_24 (by decide) (fun cq1 => ?_) (fun cq1 => ?_)
    · refine x_iconst (v := (-1)) eX9_plan_164 (by decide) ?_
      refine x_iret eX9_plan_165 rfl ?_
      exact hq g a fr none rfl
    · exact absurd cq1 (by omega)
  | succ n ih =>
    intro s a g fr hs0 V ea hns hq
    obtain ⟨w1, -, h10⟩ := V.1.2.1
    have M2 := plH_MD (la := la) (kp := kp) (a := a) (fr := fr) (g := g) M
    have es := plH_st (la := la) (kp := kp) (fr := fr) ea
    obtain ⟨⟨hx, hS, kS, nS⟩, -⟩ := id M2
    rw [plS] at hq
    refine x_iload_n eX9_plan_17 rfl rfl ?_
    first | refine x_aload_n eX9_plan_18 rfl rfl ?_ | refine x_aload_nN eX9_plan_18 rfl rfl ?_
    first | refine x_getR eX9_plan_19 fk_X9_7 rfl (by assumption) (by assumption) ?_ | refine x_getN eX9_plan_19 fk_X9_7 rfl (by assumption) (by assumption) ?_
    refine x_iconst (v := nI 1) eX9_plan_22 (by decide) ?_
    first | refine x_ialdN eX9_plan_23 (by with_reducible rfl) (by assumption) (by assumption) (by omega) (by omega) ?_ | refine x_sldN eX9_plan_23 (by with_reducible rfl) (by assumption) (by assumption) (by omega) (by omega) ?_ | refine x_iald eX9_plan_23 (by assumption) (by assumption) ?_
    rw [es, w1, hns]
    first | refine x_icmp_geN (tgt := 164) eX9_plan_24 (by decide) (by with_reducible rfl) (by with_reducible rfl) (by omega) (by omega) (fun cq1 => ?_) (fun cq1 => ?_) | refine x_icmp_ge (tgt := 164) eX9_plan_24 (by decide) (fun cq1 => ?_) (fun cq1 => ?_)
    · exact absurd cq1 (by omega)
    · first | refine x_aload_n eX9_plan_27 rfl rfl ?_ | refine x_aload_nN eX9_plan_27 rfl rfl ?_
      refine x_iload_n eX9_plan_28 rfl rfl ?_
      refine x_callV1 eX9_plan_29 lk_X9_137 (by assumption) (Nat.le_of_ble_eq_true rfl) (Nat.le_of_ble_eq_true rfl) ?_
      refine Rn.deep (c_X9_isCut (d := d) M2.md (by rw [es]; exact V.1.2.1) (fun _ => ?_)) (by omega)
      rw [es]
      first | refine x_if_neB (tgt := 38) eX9_plan_32 (by decide) (by with_reducible rfl) (fun cq2 => ?_) (fun cq2 => ?_) | refine x_if_ne (tgt := 38) eX9_plan_32 (by decide) (fun cq2 => ?_) (fun cq2 => ?_)
      · have c2 : isC g (nI s) = true := cq2
        rw [if_pos c2] at hq
        have kk := l_X9_plan1 (G := G) (d := d) (Q := Q) M K hw (np g s) 0 a g fr (Nat.zero_add _) V ea (by omega) rfl (fun g2 a2 c fr2 e => by rw [e] at hq; exact hq g2 a2 fr2 (some c) rfl) (fun g2 a2 fr2 e V2 ea2 e1 => by
          rw [e] at hq
          have iw := ih (s + 1) a2 g2 fr2 (by omega) V2 ea2 (by rw [e1]; exact hns) hq
          exact KX iw)
        refine x_iconst (v := nI 0) eX9_plan_38 (by decide) ?_
        refine x_istore eX9_plan_39 (by decide) rfl rfl ?_
        refine Rn.weak (kk) (by repeat' first | exact fun _ h => absurd h List.not_mem_nil | refine List.forall_mem_cons.mpr ⟨rfl, ?_⟩)
      · have c2 : isC g (nI s) = false := cq2
        rw [c2] at hq
        have iw := ih (s + 1) a g fr (by omega) V ea hns hq
        refine x_goto (tgt := 158) eX9_plan_35 (by decide) ?_
        first | refine x_iincN eX9_plan_158 rfl (by with_reducible rfl) (by decide) rfl rfl ?_ | refine x_iinc eX9_plan_158 rfl rfl (by decide) rfl rfl ?_
        refine x_goto (tgt := 17) eX9_plan_161 (by decide) ?_
        refine Rn.weak (iw) (by repeat' first | exact fun _ h => absurd h List.not_mem_nil | refine List.forall_mem_cons.mpr ⟨rfl, ?_⟩)
set_option maxRecDepth 100000 in
set_option maxHeartbeats 4000000 in
theorem c_X9_plan {w : Int32} (M : MD h x) (K : MK h x kp la) (V : IV (hi h (x + 1))) (hq0 : inR w 0 100 = false → Q (some (.int (-2))) h) (hq1 : inR w 0 100 = true → ∀ g2 a2 fr2 c, plV (hi h (x + 1)) w = (g2, a2, c) → Q (some (.int (match c with
    | none => -1
    | some c => nI c))) (plH h x la kp a2 fr2 g2)) : Rn G (d + 5) mX9_plan 0 [(0, .ref x), (1, .int w)] [] h Q := by
  refine x_iload_n eX9_plan_0 rfl rfl ?_
  refine x_iconst (v := nI 0) eX9_plan_1 (by decide) ?_
  refine x_bipush (v := nI 100) eX9_plan_2 (by decide) ?_
  refine x_callS3 eX9_plan_4 lk_X9_70 (Nat.le_of_ble_eq_true rfl) (Nat.le_of_ble_eq_true rfl) ?_
  refine Rn.deep (c_X9_isIn (d := d) (fun _ => ?_)) (by omega)
  first | refine x_if_neB (tgt := 13) eX9_plan_7 (by decide) (by with_reducible rfl) (fun cq1 => ?_) (fun cq1 => ?_) | refine x_if_ne (tgt := 13) eX9_plan_7 (by decide) (fun cq1 => ?_) (fun cq1 => ?_)
  · have c1 : inR w 0 100 = true := cq1
    have w0 := l_X9_plan0 (G := G) (d := d) (Q := Q) M K c1 (nt (hi h (x + 1) 1)) 0 false (hi h (x + 1)) (hi h (x + 5)) (Nat.zero_add _) V (fun _ => rfl) rfl (hq1 c1)
    rw [show plH h x la kp false (hi h (x + 5)) (hi h (x + 1)) = h from ovH_self h (x + 5)] at w0
    refine x_iconst (v := nI 0) eX9_plan_13 (by decide) ?_
    refine x_istore_n eX9_plan_14 rfl (by decide) rfl rfl ?_
    refine x_iconst (v := nI 0) eX9_plan_15 (by decide) ?_
    refine x_istore_n eX9_plan_16 rfl (by decide) rfl rfl ?_
    refine Rn.weak (w0) (by repeat' first | exact fun _ h => absurd h List.not_mem_nil | refine List.forall_mem_cons.mpr ⟨rfl, ?_⟩)
  · refine x_bipush (v := (-2)) eX9_plan_10 (by decide) ?_
    refine x_iret eX9_plan_12 rfl ?_
    exact hq0 cq1
end REF18

