/-! ===== pieces are put down and picked up ===== -/
set_option maxRecDepth 100000 in
set_option maxHeartbeats 4000000 in
theorem cnt_upd {P R : Nat → Bool} {k : Nat} (h : ∀ j, j ≠ k → R j = P j) (hp : P k = false) (hr : R k = true) : ∀ {n : Nat}, cntN R n = cntN P n + (if k < n then 1 else 0)
  | 0 => by rw [if_neg (by omega)]; rfl
  | n + 1 => by
    have ih := cnt_upd h hp hr (n := n)
    show cntN R n + (if R n = true then 1 else 0) = cntN P n + (if P n = true then 1 else 0) + (if k < n + 1 then 1 else 0)
    rw [ih]
    by_cases e : n = k
    · subst e
      rw [hp, hr]
      simp
    · rw [h n e]
      by_cases z : k < n
      · have z2 : k < n + 1 := by omega
        rw [if_pos z, if_pos z2]
        omega
      · have z2 : ¬ k < n + 1 := by omega
        rw [if_neg z, if_neg z2]
        omega
set_option maxRecDepth 100000 in
set_option maxHeartbeats 4000000 in
theorem cv_put {F : Nat → Int32} {v : Int32} {lo n : Nat} (hv : ¬ v = -1) : ∀ {m : Nat}, lo + m ≤ n → (∀ k, lo ≤ k → k < lo + m → F k = -1) → cvN (filG F lo m v) n = cvN F n + m
  | 0, _, _ => by rw [filG_0]; rfl
  | m + 1, h1, h2 => by
    have ih := cv_put (F := F) (lo := lo) (n := n) hv (m := m) (by omega) (fun k a b => h2 k a (by omega))
    rw [← filG_s]
    unfold cvN at ih ⊢
    have e : filG F lo m v (lo + m) = F (lo + m) := if_neg (by omega)
    rw [cnt_upd (P := fun k => !decide (filG F lo m v k = -1)) (k := lo + m) (fun j hj => by rw [upd0_ne hj]) (by rw [e, h2 _ (by omega) (by omega)]; rfl) (by rw [upd0_same, decide_eq_false hv]; rfl), ih, if_pos (by omega)]
    omega
set_option maxRecDepth 100000 in
set_option maxHeartbeats 4000000 in
theorem cv_pick {F : Nat → Int32} {lo n : Nat} : ∀ {m : Nat}, lo + m ≤ n → (∀ k, lo ≤ k → k < lo + m → ¬ F k = -1) → cvN (filG F lo m (-1)) n + m = cvN F n
  | 0, _, _ => by rw [filG_0]; rfl
  | m + 1, h1, h2 => by
    have ih := cv_pick (F := F) (lo := lo) (n := n) (m := m) (by omega) (fun k a b => h2 k a (by omega))
    rw [← filG_s]
    unfold cvN at ih ⊢
    have e : filG F lo m (-1) (lo + m) = F (lo + m) := if_neg (by omega)
    have q := cnt_upd (P := fun k => !decide (upd0 (filG F lo m (-1)) (lo + m) (-1) k = -1)) (R := fun k => !decide (filG F lo m (-1) k = -1)) (k := lo + m) (n := n) (fun j hj => by rw [upd0_ne hj]) (by rw [upd0_same]; rfl) (by rw [e, decide_eq_false (h2 _ (by omega) (by omega))]; rfl)
    rw [if_pos (by omega)] at q
    omega
section PUT
variable {G : GG} {d : Nat} {h h2 : AH} {Q : Option Value → AH → Prop} {ow o2 : Nat → Nat} {y : Nat} {g g2 ld wd : Nat → Int32} {kp nx s i : Nat} {ps : Nat → Nat → Int32} {T : Nat → Prop}
set_option maxRecDepth 100000 in
set_option maxHeartbeats 4000000 in
/-- onB of the other pieces -/
theorem onB_put {bq p b k : Int32} {t j : Nat} (I : GI g) (hs : s < nt (g 1)) (hi4 : i < np g s) (ht : t < nt (g 1)) (hj : j < np g t) (hne : ¬ (t = s ∧ j = i)) : onB (gPut g s i bq p) b k t j = onB g b k t j := by
  have h40 : np g s ≤ 40 := (I.2.2.1 s hs).1.2.2.2.2.1
  have h40t : np g t ≤ 40 := (I.2.2.1 t ht).1.2.2.2.2.1
  exact onB_eq (gPut_sl g bq p (by omega) (by omega) (by omega)) (gPut_sl g bq p (by omega) (by omega) (by omega)) (lenV_lo (gPut_SE g bq p (by omega) t) (I.2.2.1 t ht).1 (by omega))
set_option maxRecDepth 100000 in
set_option maxHeartbeats 4000000 in
theorem lies_put {bn pn b k : Nat} (I : GI g) (I2 : GI (gPut g s i (nI bn) (nI pn))) (hs : s < nt (g 1)) (hi4 : i < np g s) (hon : sl g s (300 + i) = -1) (hb : b < 2 ^ 31) (hbn : bn < 2 ^ 31) (hpn : pn < 2 ^ 31) (hk : k < 2 ^ 31) : liesV (gPut g s i (nI bn) (nI pn)) (nI b) (nI k) = if b = bn ∧ pn ≤ k ∧ k < pn + nt (lenV g s i) then nI (100 * s + i) else liesV g (nI b) (nI k) := by
  have h40 : np g s ≤ 40 := (I.2.2.1 s hs).1.2.2.2.2.1
  have e1 : gPut g s i (nI bn) (nI pn) 1 = g 1 := gPut_lo g s i _ _ (by omega)
  have enp : ∀ t, np (gPut g s i (nI bn) (nI pn)) t = np g t := fun t => np_lo (gPut_SE g _ _ (by omega) t)
  have elen := lenV_lo (gPut_SE g (s := s) (i := i) (nI bn) (nI pn) (by omega) s) (I.2.2.1 s hs).1 (i := i) (by omega)
  have iff := onB_iff (j := b) (k := k) I2 (s := s) (i := i) (by rw [e1]; exact hs) (by rw [enp]; exact hi4) hb hk
  rw [gPut_on g _ _ (by omega), gPut_at, elen, nI_eq hbn hb, nt_nI hpn] at iff
  by_cases z : b = bn ∧ pn ≤ k ∧ k < pn + nt (lenV g s i)
  · rw [if_pos z]
    exact lies_some I2 (by rw [e1]; exact hs) (by rw [enp]; exact hi4) hb hk (iff.mpr ⟨z.1.symm, z.2⟩)
  · rw [if_neg z]
    refine liesV_eq e1 (fun t _ => enp t) (fun t j ht hj => ?_)
    by_cases e : t = s ∧ j = i
    · obtain ⟨rfl, rfl⟩ := e
      rw [onB_m1 (b := b) hb hon]
      cases q : onB (gPut g t j (nI bn) (nI pn)) (nI b) (nI k) t j with
      | false => rfl
      | true => exact absurd ⟨(iff.mp q).1.symm, (iff.mp q).2⟩ z
    · exact onB_put I hs hi4 ht hj e
set_option maxRecDepth 100000 in
set_option maxHeartbeats 4000000 in
theorem lies_pick {bn b k : Nat} (I : GI g) (hs : s < nt (g 1)) (hi4 : i < np g s) (hon : sl g s (300 + i) = nI bn) (hb : b < 2 ^ 31) (hbn : bn < 2 ^ 31) (hk : k < 2 ^ 31) : liesV (gPut g s i (-1) (-1)) (nI b) (nI k) = if b = bn ∧ nt (sl g s (340 + i)) ≤ k ∧ k < nt (sl g s (340 + i)) + nt (lenV g s i) then -1 else liesV g (nI b) (nI k) := by
  have h40 : np g s ≤ 40 := (I.2.2.1 s hs).1.2.2.2.2.1
  have e1 : gPut g s i (-1) (-1) 1 = g 1 := gPut_lo g s i _ _ (by omega)
  have enp : ∀ t, np (gPut g s i (-1) (-1)) t = np g t := fun t => np_lo (gPut_SE g _ _ (by omega) t)
  have iff := onB_iff (j := b) (k := k) I hs hi4 hb hk
  rw [hon, nI_eq hbn hb] at iff
  have off : ∀ k : Int32, onB (gPut g s i (-1) (-1)) (nI b) k s i = false := fun k => onB_m1 hb (gPut_on g _ _ (by omega))
  by_cases z : b = bn ∧ nt (sl g s (340 + i)) ≤ k ∧ k < nt (sl g s (340 + i)) + nt (lenV g s i)
  · rw [if_pos z]
    have hq := iff.mpr ⟨z.1.symm, z.2⟩
    refine lies_none (fun t j ht hj => ?_)
    rw [e1] at ht
    rw [enp] at hj
    by_cases e : t = s ∧ j = i
    · obtain ⟨rfl, rfl⟩ := e
      exact off _
    · rw [onB_put I hs hi4 ht hj e]
      cases q : onB g (nI b) (nI k) t j with
      | false => rfl
      | true =>
        obtain ⟨a1, a2, a3⟩ := (onB_iff I hs hi4 hb hk).mp hq
        obtain ⟨b1, b2, b3⟩ := (onB_iff I ht hj hb hk).mp q
        rcases I.2.2.2.2.1 t j s i ht hj hs hi4 (by rw [b1]; exact nI_m1 hb) (b1.trans a1.symm) with y | y | y
        · exact absurd y e
        · omega
        · omega
  · rw [if_neg z]
    refine liesV_eq e1 (fun t _ => enp t) (fun t j ht hj => ?_)
    by_cases e : t = s ∧ j = i
    · obtain ⟨rfl, rfl⟩ := e
      rw [off]
      cases q : onB g (nI b) (nI k) t j with
      | false => rfl
      | true => exact absurd ⟨(iff.mp q).1.symm, (iff.mp q).2⟩ z
    · exact onB_put I hs hi4 ht hj e
/-- the heap behind -/
def puH (h : AH) (a c p pn ln : Nat) (v : Int32) (cv : Nat) (bq pq : Int32) : AH := wi (wi (wi (setI h (filF (hi h) c pn ln v)) a 5 (nI cv)) p 7 bq) p 8 pq
set_option maxRecDepth 100000 in
set_option maxHeartbeats 4000000 in
theorem Core.put {a c p sa bn pn ln cv : Nat} {v bq pq : Int32} (C : Core ow h y g ld wd) (I : GI g) (hs : s < nt (g 1)) (hi4 : i < np g s) (hsa : hr h (y + 2) s = some sa) (S : SailP ow h g s sa) (hpa : ∃ pa, hr h sa 4 = some pa ∧ hr h pa i = some p) (P : PieceP ow h g s i p) (hbn : bn < nt (g 0)) (hba : hr h (y + 1) bn = some a) (B : BoltP ow h a bn (bl g bn) (fun k => liesV g (nI bn) (nI k))) (hc : hr h a 6 = some c) (hle : pn + ln ≤ nt (bl g bn 1)) (hcv : cv = cvN (filG (hi h c) pn ln v) (nt (bl g bn 1)))
    (hL : ∀ b k, b < nt (g 0) → k < nt (bl g b 1) → liesV (gPut g s i bq pq) (nI b) (nI k) = if b = bn ∧ pn ≤ k ∧ k < pn + ln then v else liesV g (nI b) (nI k)) : Core ow (puH h a c p pn ln v cv bq pq) y (gPut g s i bq pq) ld wd ∧ Fr (fun t => t = 100 + bn ∨ t = 200 + bn ∨ t = 1000 + 40 * s + i) ow h ow (puH h a c p pn ln v cv bq pq) := by
  obtain ⟨C1, C2, C3, C4, C5, C6, -⟩ := id C
  have W := I.gw
  have h24 := W.1.2.2
  have h10 := W.2.1.2.2
  have h40 : np g s ≤ 40 := (I.2.2.1 s hs).1.2.2.2.2.1
  have sw := (I.2.2.1 s hs).1
  obtain ⟨oa, ka, e0, e1, ef, e3, hrow, c', ec, oc, kc, nc, e5, eL⟩ := id B
  cases hc.symm.trans ec
  obtain ⟨op, kp', p0, p1, p2, p3, p4, p5, p6, p7, p8⟩ := id P
  have nac : a ≠ c := fun z => by rw [z, oc] at oa; omega
  have nap : a ≠ p := fun z => by rw [z, op] at oa; omega
  have ncp : c ≠ p := fun z => by rw [z, op] at oc; omega
  have iq : ∀ q, q ≠ a → q ≠ c → q ≠ p → hi (puH h a c p pn ln v cv bq pq) q = hi h q := fun q h1 h2 h3 => by
    show up2 (up2 (up2 (filF (hi h) c pn ln v) a 5 _) p 7 bq) p 8 pq q = _
    rw [up2_a h3, up2_a h3, up2_a h1, filF_a h2]
  have ia : hi (puH h a c p pn ln v cv bq pq) a = upd0 (hi h a) 5 (nI cv) := by
    show up2 (up2 (up2 (filF (hi h) c pn ln v) a 5 _) p 7 bq) p 8 pq a = _
    rw [up2_a nap, up2_a nap, up2_at, filF_a nac]
  have ic : hi (puH h a c p pn ln v cv bq pq) c = filG (hi h c) pn ln v := by
    show up2 (up2 (up2 (filF (hi h) c pn ln v) a 5 _) p 7 bq) p 8 pq c = _
    rw [up2_a ncp, up2_a ncp, up2_a nac.symm, filF_c]
  have ip : hi (puH h a c p pn ln v cv bq pq) p = upd0 (upd0 (hi h p) 7 bq) 8 pq := by
    show up2 (up2 (up2 (filF (hi h) c pn ln v) a 5 _) p 7 bq) p 8 pq p = _
    rw [up2_at, up2_at, up2_a nap.symm, filF_a ncp.symm]
  have F : Fr (fun t => t = 100 + bn ∨ t = 200 + bn ∨ t = 1000 + 40 * s + i) ow h ow (puH h a c p pn ln v cv bq pq) := fun q q1 q2 => ⟨rfl, rfl, iq q (fun z => q2 (by rw [z]; exact Or.inl oa)) (fun z => q2 (by rw [z]; exact Or.inr (Or.inl oc))) (fun z => q2 (by rw [z]; exact Or.inr (Or.inr op))), rfl, rfl, rfl⟩
  have x : Ext h (puH h a c p pn ln v cv bq pq) := ⟨Nat.le_refl _, fun _ _ => rfl⟩
  have kM : ∀ q, hk (puH h a c p pn ln v cv bq pq) q = hk h q := fun _ => rfl
  have nM : ∀ q, hn (puH h a c p pn ln v cv bq pq) q = hn h q := fun _ => rfl
  have rM : ∀ q, hr (puH h a c p pn ln v cv bq pq) q = hr h q := fun _ => rfl
  have fM : ∀ q, hf (puH h a c p pn ln v cv bq pq) q = hf h q := fun _ => rfl
  have L2 : Lv ow (puH h a c p pn ln v cv bq pq) := C1
  have e1g : gPut g s i bq pq 1 = g 1 := gPut_lo g s i bq pq (by omega)
  have e0g : gPut g s i bq pq 0 = g 0 := gPut_lo g s i bq pq (by omega)
  have gbl : ∀ b c, b < 24 → c < 210 → bl (gPut g s i bq pq) b c = bl g b c := fun b c h1 h2 => gPut_bl g bq pq h1 h2
  have se := gPut_SE g (s := s) (i := i) bq pq (by omega) s
  have ssc : ∀ c, c < 390 → c ≠ 300 + i → c ≠ 340 + i → sl (gPut g s i bq pq) s c = sl g s c := fun c h1 h2 h3 => gPut_sl g bq pq h1 (by omega) (by omega)
  have ke : ∀ j, j < 40 → KE g (gPut g s i bq pq) s j := fun j hj => ⟨fun c h1 h2 => se c (by omega), fun c h1 h2 => se c (by omega), se _ (by omega), se _ (by omega), se _ (by omega)⟩
  have ee : EE g (gPut g s i bq pq) s := ⟨fun c h1 h2 => se c (by omega), fun c h1 h2 => se c (by omega)⟩
  have q1 := F.at_ C2.1.2.2.2.2.2 (by decide) (fun z => by omega)
  have onS := gPut_on g (s := s) (i := i) bq pq (by omega)
  have atS := gPut_at g (s := s) (i := i) bq pq
  generalize puH h a c p pn ln v cv bq pq = h2 at *
  refine ⟨C.up F x L2 To.rf (fun k => by rw [rM]) (fun t t1 t2 t3 z => by omega) (by rw [e0g, q1.2.2.2.1]; exact C3.1) (by rw [e1g, q1.2.2.2.1]; exact C3.2) (fun j hj => ?_) (fun j hj => ?_) (fun t ht => ?_), F⟩
  · rcases C4 j hj with z | ⟨a', c'', z1, z2, z3, z4, z5, z6, z7⟩
    · exact Or.inl (by rw [rM]; exact z)
    · exact Or.inr ⟨a', c'', by rw [rM]; exact z1, z2, by rw [kM]; exact z3, by rw [rM]; exact z4, z5, by rw [kM]; exact z6, by rw [nM]; exact z7⟩
  · rw [e0g] at hj
    by_cases e : j = bn
    · subst e
      refine ⟨a, by rw [rM]; exact hba, oa, by rw [kM]; exact ka, by rw [ia, upd0_ne (by decide), e0, gbl j 0 (by omega) (by omega)], by rw [ia, upd0_ne (by decide), e1, gbl j 1 (by omega) (by omega)], by rw [fM, ef, gbl j 2 (by omega) (by omega)], by rw [ia, upd0_ne (by decide), e3, gbl j 4 (by omega) (by omega)], ?_, c, by rw [rM]; exact hc, oc, by rw [kM]; exact kc, by rw [nM]; exact nc, by rw [ia, upd0_same, ic, gbl j 1 (by omega) (by omega), hcv], fun k hk => ?_⟩
      · rw [rM]
        have u3 := (W.2.2.1 j hj).2.2.2.2
        have u1 := (W.2.2.1 j hj).2.1.2.2
        exact RowR.fr F (by omega) (by omega) (by rw [gbl j 3 (by omega) (by omega)]) (fun k hk => gbl j (6 + k) (by omega) (by omega)) hrow
      · rw [gbl j 1 (by omega) (by omega)] at hk
        show _ = liesV (gPut g s i bq pq) (nI j) (nI k)
        rw [ic, hL j k hj hk]
        unfold filG
        by_cases z : pn ≤ k ∧ k < pn + ln
        · rw [if_pos z, if_pos ⟨rfl, z⟩]
        · rw [if_neg z, if_neg (fun q => z q.2)]
          exact eL k hk
    · exact (C5 j hj).fr F (by omega) (by omega) (by omega) (W.2.2.1 j hj) (by rw [rM]) (fun c hc => gbl j c (by omega) (by omega)) (fun k hk => by rw [hL j k hj hk, if_neg (fun z => e z.1)])
  · rw [e1g] at ht
    by_cases e : t = s
    · subst e
      obtain ⟨E, Cc, Ll⟩ := id S
      have qa := F.at_ E.1 (by omega) (fun z => by omega)
      refine ⟨sa, by rw [rM]; exact hsa, E.fr2 F (by omega) (by omega) (by omega) (by omega) E.1 (by rw [kM]; exact E.2.1) (by rw [rM]) (by rw [rM]) (by rw [qa.2.2.2.1]) sw ee, ?_, Ll.mod F (by omega) sw (by rw [rM]) (by rw [qa.2.2.2.1, Ll.1, se 10 (by omega)]) (by rw [qa.2.2.2.1, Ll.2.1, se 11 (by omega)]) (by rw [qa.2.2.2.1]) (fun c h1 h2 => se c (by omega))⟩
      refine Cc.mod2 F (by omega) (by omega) sw (np_lo se) ee (fun j p' hj hpa' P' => ?_) (by rw [rM]) (by rw [rM]) (by rw [qa.2.2.2.1, Cc.1, se 0 (by omega)]) (by rw [qa.2.2.2.1, Cc.2.1, se 8 (by omega)]) (by rw [qa.2.2.2.1, Cc.2.2.1, np_lo se]) (by rw [se 0 (by omega)])
      by_cases ej : j = i
      · subst ej
        obtain ⟨pa, a1, a2⟩ := hpa
        obtain ⟨pb, b1, b2⟩ := hpa'
        cases a1.symm.trans b1
        cases a2.symm.trans b2
        have k := ke j (by omega)
        refine ⟨op, by rw [kM]; exact kp', ?_⟩
        rw [ip, k.ip, k.lw, k.hg, k.ln sw, k.br, k.ar sw, se (140 + j) (by omega), onS, atS]
        exact ⟨(upd0_ne (by decide)).trans ((upd0_ne (by decide)).trans p0), (upd0_ne (by decide)).trans ((upd0_ne (by decide)).trans p1), (upd0_ne (by decide)).trans ((upd0_ne (by decide)).trans p2), (upd0_ne (by decide)).trans ((upd0_ne (by decide)).trans p3), (upd0_ne (by decide)).trans ((upd0_ne (by decide)).trans p4), (upd0_ne (by decide)).trans ((upd0_ne (by decide)).trans p5), (upd0_ne (by decide)).trans ((upd0_ne (by decide)).trans p6), (upd0_ne (by decide)).trans (upd0_same _ _ _), upd0_same _ _ _⟩
      · exact P'.fr F (by omega) sw (ke j (by omega)) (se _ (by omega)) (ssc _ (by omega) (by omega) (by omega)) (ssc _ (by omega) (by omega) (by omega))
    · have h40t : np g t ≤ 40 := (W.2.2.2 t ht).2.2.2.2.1
      exact (C6 t ht).fr F (fun u hu z => by unfold sT at hu; omega) (W.2.2.2 t ht) (by rw [rM]) (fun c hc => gPut_sl g bq pq hc (by omega) (by omega))
/-- laying and picking up keep the rest -/
def PuB (G : GG) (ow : Nat → Nat) (h : AH) (y : Nat) (g2 ld wd : Nat → Int32) (T : Nat → Prop) (h2 : AH) : Prop := Core ow h2 y g2 ld wd ∧ Fr T ow h ow h2 ∧ Ext h h2 ∧ hz h2 = hz h ∧ us G h2 = us G h
set_option maxRecDepth 100000 in
set_option maxHeartbeats 4000000 in
theorem c_X8_putDown {bn pn : Nat} (C : Core ow h y g ld wd) (I : GI g) (hs : s < nt (g 1)) (hi4 : i < np g s) (hbn : bn < nt (g 0)) (hon : sl g s (300 + i) = -1) (hle : pn + nt (lenV g s i) ≤ nt (bl g bn 1)) (free : ∀ k, pn ≤ k → k < pn + nt (lenV g s i) → liesV g (nI bn) (nI k) = -1) (hq : ∀ h2, PuB G ow h y (gPut g s i (nI bn) (nI pn)) ld wd (fun t => t = 100 + bn ∨ t = 200 + bn ∨ t = 1000 + 40 * s + i) h2 → Q none h2) : Rn G (d + 3) mX8_putDown 0 [(0, .ref y), (1, .int (nI s)), (2, .int (nI i)), (3, .int (nI bn)), (4, .int (nI pn))] [] h Q := by
  have W := I.gw
  have h24 := W.1.2.2
  have h10 := W.2.1.2.2
  have ky := C.2.1.1.1
  obtain ⟨sw, sx⟩ := I.2.2.1 s hs
  have h40 : np g s ≤ 40 := sw.2.2.2.2.1
  have u1 := (W.2.2.1 bn hbn).2.1.2.2
  have l1 := sx.2.2.2.2.2.2.2.2.2 i hi4
  have I2 : GI (gPut g s i (nI bn) (nI pn)) := GI_put I hs hi4 (Or.inr ⟨bn, pn, rfl, rfl, hbn, hle, hon, free⟩)
  first | refine x_aload_n eX8_putDown_0 rfl rfl ?_ | refine x_aload_nN eX8_putDown_0 rfl rfl ?_
  refine x_iload_n eX8_putDown_1 rfl rfl ?_
  refine x_callV1 eX8_putDown_2 lk_X8_149 (by assumption) (Nat.le_of_ble_eq_true rfl) (Nat.le_of_ble_eq_true rfl) ?_
  refine Rn.deep (c_X8_sailNumbered (d := d) C W (fun z _ => ?_) (fun s' sa es hs' hsa S _ => ?_)) (by omega)
  · rw [isS_of W hs] at z
    cases z
  · have ess : s = s' := (nI_eq (by omega) (by omega)).mp es
    subst ess
    refine x_iload_n eX8_putDown_5 rfl rfl ?_
    refine x_callS2 eX8_putDown_6 lk_X8_206 (Nat.le_of_ble_eq_true rfl) (Nat.le_of_ble_eq_true rfl) ?_
    refine Rn.deep (c_X8_pieceOf2 (d := d) S sw sx (fun z _ => ?_) (fun i' p ei hi' hpa P _ => ?_)) (by omega)
    · rw [hpV_nI (by omega) (by omega), decide_eq_true hi4] at z
      cases z
    · have eii : i = i' := (nI_eq (by omega) (by omega)).mp ei
      subst eii
      first | refine x_astore eX8_putDown_9 (by decide) rfl rfl ?_ | refine x_astoreN eX8_putDown_9 (by decide) rfl rfl ?_
      first | refine x_aload_n eX8_putDown_11 rfl rfl ?_ | refine x_aload_nN eX8_putDown_11 rfl rfl ?_
      refine x_iload_n eX8_putDown_12 rfl rfl ?_
      refine x_callV1 eX8_putDown_13 lk_X8_76 (by assumption) (Nat.le_of_ble_eq_true rfl) (Nat.le_of_ble_eq_true rfl) ?_
      refine Rn.deep (c_X8_boltNumbered (d := d) C W (fun z _ => ?_) (fun b' a eb hb' hba B _ => ?_)) (by omega)
      · rw [isB_of W hbn] at z
        cases z
      · have ebb : bn = b' := (nI_eq (by omega) (by omega)).mp eb
        subst ebb
        obtain ⟨oa, ka, e0, e1, ef, e3, hrow, c, ec, oc, kc, nc, e5, eL⟩ := id B
        obtain ⟨op, kpp, p0, p1, p2, p3, p4, p5, p6, p7, p8⟩ := id P
        have e1' : hi h a 1 = nI (nt (bl g bn 1)) := e1.trans (W.2.2.1 bn hbn).2.1.1
        have p3' : hi h p 3 = nI (nt (lenV g s i)) := p3.trans l1.1
        clear p3
        have hv : ¬ nI (100 * s + i) = -1 := nI_m1 (by omega)
        have ecv := cv_put (F := hi h c) (v := nI (100 * s + i)) (lo := pn) (n := nt (bl g bn 1)) hv hle (fun k k1 k2 => (eL k (by omega)).trans (free k k1 k2))
        have fin := Core.put (cv := cvN (hi h c) (nt (bl g bn 1)) + nt (lenV g s i)) (v := nI (100 * s + i)) (bq := nI bn) (pq := nI pn) C I hs hi4 hsa S hpa P hbn hba B ec hle ecv.symm (fun b k hb hk => lies_put I I2 hs hi4 hon (by omega) (by omega) (by omega) (by have := (W.2.2.1 b hb).2.1.2.2; omega))
        have kp3 : hk (wi (setI h (filF (hi h) c pn (nt (lenV g s i)) (nI (100 * s + i)))) a 5 (nI (cvN (hi h c) (nt (bl g bn 1)) + nt (lenV g s i)))) p = 3 := kpp
        first | refine x_astore eX8_putDown_16 (by decide) rfl rfl ?_ | refine x_astoreN eX8_putDown_16 (by decide) rfl rfl ?_
        first | refine x_aload eX8_putDown_18 rfl ?_ | refine x_aloadN eX8_putDown_18 rfl ?_
        refine x_ifnullR eX8_putDown_20 ?_
        first | refine x_aload eX8_putDown_23 rfl ?_ | refine x_aloadN eX8_putDown_23 rfl ?_
        refine x_ifnonnullR (tgt := 29) eX8_putDown_25 (by decide) ?_
        first | refine x_aload eX8_putDown_29 rfl ?_ | refine x_aloadN eX8_putDown_29 rfl ?_
        refine x_iload eX8_putDown_31 rfl ?_
        first | refine x_aload eX8_putDown_33 rfl ?_ | refine x_aloadN eX8_putDown_33 rfl ?_
        first | refine x_getIe eX8_putDown_35 fk_X8_220 (by decide) (by assumption) (by assumption) ?_ | refine x_getI eX8_putDown_35 fk_X8_220 (by decide) (by assumption) ?_
        refine x_iload_n eX8_putDown_38 rfl rfl ?_
        refine x_iload_n eX8_putDown_39 rfl rfl ?_
        refine x_callS2 eX8_putDown_40 lk_X8_261 (Nat.le_of_ble_eq_true rfl) (Nat.le_of_ble_eq_true rfl) ?_
        refine Rn.deep (c_X8_codeOf (d := d) (fun _ => ?_)) (by omega)
        refine x_callV3 eX8_putDown_43 lk_X8_383 (by assumption) (Nat.le_of_ble_eq_true rfl) (Nat.le_of_ble_eq_true rfl) ?_
        refine Rn.deep (c_X1_cover (d := d) ka e1' ec kc nc e5 u1 hle (i16_nI (by omega)) (fun _ => ?_)) (by omega)
        first | refine x_aload eX8_putDown_46 rfl ?_ | refine x_aloadN eX8_putDown_46 rfl ?_
        refine x_iload_n eX8_putDown_48 rfl rfl ?_
        refine x_putI eX8_putDown_49 fk_X8_227 (by decide) rfl ⟨_, rfl, Or.inl rfl⟩ (by assumption) ?_
        first | refine x_aload eX8_putDown_52 rfl ?_ | refine x_aloadN eX8_putDown_52 rfl ?_
        refine x_iload eX8_putDown_54 rfl ?_
        refine x_putI eX8_putDown_56 fk_X8_230 (by decide) rfl ⟨_, rfl, Or.inl rfl⟩ (by assumption) ?_
        refine x_ret (rt := none) eX8_putDown_59 rfl ?_
        exact hq _ ⟨fin.1, fin.2, ⟨Nat.le_refl _, fun _ _ => rfl⟩, rfl, rfl⟩
set_option maxRecDepth 100000 in
set_option maxHeartbeats 4000000 in
theorem c_X8_pickUp {bn : Nat} (C : Core ow h y g ld wd) (I : GI g) (hs : s < nt (g 1)) (hi4 : i < np g s) (hon : sl g s (300 + i) = nI bn) (hbn : bn < nt (g 0)) (hq : ∀ h2, PuB G ow h y (gPut g s i (-1) (-1)) ld wd (fun t => t = 100 + bn ∨ t = 200 + bn ∨ t = 1000 + 40 * s + i) h2 → Q none h2) : Rn G (d + 3) mX8_pickUp 0 [(0, .ref y), (1, .int (nI s)), (2, .int (nI i))] [] h Q := by
  have W := I.gw
  have h24 := W.1.2.2
  have h10 := W.2.1.2.2
  have ky := C.2.1.1.1
  obtain ⟨sw, sx⟩ := I.2.2.1 s hs
  have h40 : np g s ≤ 40 := sw.2.2.2.2.1
  have u1 := (W.2.2.1 bn hbn).2.1.2.2
  obtain ⟨b1, b2, b3⟩ := I.2.2.2.1 s i hs hi4 (by rw [hon]; exact nI_m1 (by omega))
  rw [hon, nt_nI (by omega)] at b3
  first | refine x_aload_n eX8_pickUp_0 rfl rfl ?_ | refine x_aload_nN eX8_pickUp_0 rfl rfl ?_
  refine x_iload_n eX8_pickUp_1 rfl rfl ?_
  refine x_callV1 eX8_pickUp_2 lk_X8_149 (by assumption) (Nat.le_of_ble_eq_true rfl) (Nat.le_of_ble_eq_true rfl) ?_
  refine Rn.deep (c_X8_sailNumbered (d := d) C W (fun z _ => ?_) (fun s' sa es hs' hsa S _ => ?_)) (by omega)
  · rw [isS_of W hs] at z
    cases z
  · have ess : s = s' := (nI_eq (by omega) (by omega)).mp es
    subst ess
    refine x_iload_n eX8_pickUp_5 rfl rfl ?_
    refine x_callS2 eX8_pickUp_6 lk_X8_206 (Nat.le_of_ble_eq_true rfl) (Nat.le_of_ble_eq_true rfl) ?_
    refine Rn.deep (c_X8_pieceOf2 (d := d) S sw sx (fun z _ => ?_) (fun i' p ei hi' hpa P _ => ?_)) (by omega)
    · rw [hpV_nI (by omega) (by omega), decide_eq_true hi4] at z
      cases z
    · have eii : i = i' := (nI_eq (by omega) (by omega)).mp ei
      subst eii
      obtain ⟨op, kpp, p0, p1, p2, p3, p4, p5, p6, p7, p8⟩ := id P
      have p7' : hi h p 7 = nI bn := p7.trans hon
      clear p7
      first | refine x_astore_n eX8_pickUp_9 rfl (by decide) rfl rfl ?_ | refine x_astore_nN eX8_pickUp_9 rfl (by decide) rfl rfl ?_
      first | refine x_aload_n eX8_pickUp_10 rfl rfl ?_ | refine x_aload_nN eX8_pickUp_10 rfl rfl ?_
      refine x_ifnonnullR (tgt := 15) eX8_pickUp_11 (by decide) ?_
      first | refine x_aload_n eX8_pickUp_15 rfl rfl ?_ | refine x_aload_nN eX8_pickUp_15 rfl rfl ?_
      first | refine x_aload_n eX8_pickUp_16 rfl rfl ?_ | refine x_aload_nN eX8_pickUp_16 rfl rfl ?_
      first | refine x_getIe eX8_pickUp_17 fk_X8_227 (by decide) (by assumption) (by assumption) ?_ | refine x_getI eX8_pickUp_17 fk_X8_227 (by decide) (by assumption) ?_
      refine x_callV1 eX8_pickUp_20 lk_X8_76 (by assumption) (Nat.le_of_ble_eq_true rfl) (Nat.le_of_ble_eq_true rfl) ?_
      refine Rn.deep (c_X8_boltNumbered (d := d) C W (fun z _ => ?_) (fun b' a eb hb' hba B _ => ?_)) (by omega)
      · rw [isB_of W hbn] at z
        cases z
      · have ebb : bn = b' := (nI_eq (by omega) (by omega)).mp eb
        subst ebb
        obtain ⟨oa, ka, e0, e1, ef, e3, hrow, c, ec, oc, kc, nc, e5, eL⟩ := id B
        have e1' : hi h a 1 = nI (nt (bl g bn 1)) := e1.trans (W.2.2.1 bn hbn).2.1.1
        have p3' : hi h p 3 = nI (nt (lenV g s i)) := p3.trans b2.1
        have p8' : hi h p 8 = nI (nt (sl g s (340 + i))) := p8.trans b1.1
        clear p3 p8
        have ecv := cv_pick (F := hi h c) (lo := nt (sl g s (340 + i))) (n := nt (bl g bn 1)) b3 (fun k k1 k2 => by
          rw [eL k (by omega)]
          show ¬ liesV g (nI bn) (nI k) = -1
          rw [lies_some I hs hi4 (by omega) (by omega) ((onB_iff I hs hi4 (by omega) (by omega)).mpr ⟨hon, k1, k2⟩)]
          exact nI_m1 (by omega))
        have fin := Core.put (cv := cvN (hi h c) (nt (bl g bn 1)) - nt (lenV g s i)) (v := -1) (bq := -1) (pq := -1) C I hs hi4 hsa S hpa P hbn hba B ec b3 (by omega) (fun b k hb hk => lies_pick I hs hi4 hon (by omega) (by omega) (by have := (W.2.2.1 b hb).2.1.2.2; omega))
        have kp3 : hk (wi (setI h (filF (hi h) c (nt (sl g s (340 + i))) (nt (lenV g s i)) (-1))) a 5 (nI (cvN (hi h c) (nt (bl g bn 1)) - nt (lenV g s i)))) p = 3 := kpp
        first | refine x_astore eX8_pickUp_23 (by decide) rfl rfl ?_ | refine x_astoreN eX8_pickUp_23 (by decide) rfl rfl ?_
        first | refine x_aload eX8_pickUp_25 rfl ?_ | refine x_aloadN eX8_pickUp_25 rfl ?_
        refine x_ifnonnullR (tgt := 31) eX8_pickUp_27 (by decide) ?_
        first | refine x_aload eX8_pickUp_31 rfl ?_ | refine x_aloadN eX8_pickUp_31 rfl ?_
        first | refine x_aload_n eX8_pickUp_33 rfl rfl ?_ | refine x_aload_nN eX8_pickUp_33 rfl rfl ?_
        first | refine x_getIe eX8_pickUp_34 fk_X8_230 (by decide) (by assumption) (by assumption) ?_ | refine x_getI eX8_pickUp_34 fk_X8_230 (by decide) (by assumption) ?_
        first | refine x_aload_n eX8_pickUp_37 rfl rfl ?_ | refine x_aload_nN eX8_pickUp_37 rfl rfl ?_
        first | refine x_getIe eX8_pickUp_38 fk_X8_220 (by decide) (by assumption) (by assumption) ?_ | refine x_getI eX8_pickUp_38 fk_X8_220 (by decide) (by assumption) ?_
        first | refine x_callV2 eX8_pickUp_41 lk_X8_386 (by assumption) (Nat.le_of_ble_eq_true rfl) (Nat.le_of_ble_eq_true rfl) ?_ | refine x_callVw2 eX8_pickUp_41 lk_X8_386 (by assumption) (Nat.le_of_ble_eq_true rfl) (Nat.le_of_ble_eq_true rfl) (Nat.le_of_ble_eq_true rfl) ?_
        refine Rn.deep (c_X1_uncover (d := d) ka e1' ec kc nc e5 u1 b3 (by omega) (fun _ => ?_)) (by omega)
        first | refine x_aload_n eX8_pickUp_44 rfl rfl ?_ | refine x_aload_nN eX8_pickUp_44 rfl rfl ?_
        refine x_iconst (v := (-1)) eX8_pickUp_45 (by decide) ?_
        refine x_putI eX8_pickUp_46 fk_X8_227 (by decide) rfl ⟨_, rfl, Or.inl rfl⟩ (by assumption) ?_
        first | refine x_aload_n eX8_pickUp_49 rfl rfl ?_ | refine x_aload_nN eX8_pickUp_49 rfl rfl ?_
        refine x_iconst (v := (-1)) eX8_pickUp_50 (by decide) ?_
        refine x_putI eX8_pickUp_51 fk_X8_230 (by decide) rfl ⟨_, rfl, Or.inl rfl⟩ (by assumption) ?_
        refine x_ret (rt := none) eX8_pickUp_54 rfl ?_
        exact hq _ ⟨fin.1, fin.2, ⟨Nat.le_refl _, fun _ _ => rfl⟩, rfl, rfl⟩
end PUT

