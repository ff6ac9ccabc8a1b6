/-! ===== every act keeps what holds of the states: cut, put; acts: sail ===== -/
set_option maxRecDepth 100000 in
set_option maxHeartbeats 4000000 in
theorem inR_int {v : Int32} {lo hi : Int32} (h : inR v lo hi = true) : lo.toInt ≤ v.toInt ∧ v.toInt ≤ hi.toInt := by
  unfold inR at h
  rw [Bool.and_eq_true, decide_eq_true_eq, decide_eq_true_eq] at h
  exact ⟨Int32.le_iff_toInt_le.mp h.1, Int32.le_iff_toInt_le.mp h.2⟩
set_option maxRecDepth 100000 in
set_option maxHeartbeats 4000000 in
theorem i32_add {x y : Int32} {m : Int} (hx : -m ≤ x.toInt ∧ x.toInt ≤ m) (hy : -m ≤ y.toInt ∧ y.toInt ≤ m) (hm : m ≤ 1000000000) : (x + y).toInt = x.toInt + y.toInt := by
  rw [Int32.toInt_add, Int.bmod_eq_of_le (by omega) (by omega)]
set_option maxRecDepth 100000 in
set_option maxHeartbeats 4000000 in
theorem i32_sub {x y : Int32} {m : Int} (hx : -m ≤ x.toInt ∧ x.toInt ≤ m) (hy : -m ≤ y.toInt ∧ y.toInt ≤ m) (hm : m ≤ 1000000000) : (x - y).toInt = x.toInt - y.toInt := by
  rw [Int32.toInt_sub, Int.bmod_eq_of_le (by omega) (by omega)]
set_option maxRecDepth 100000 in
set_option maxHeartbeats 4000000 in
theorem tdiv_abs {a b : Int} {m : Int} (h : -m ≤ a ∧ a ≤ m) (hm : 0 ≤ m) (hb : 0 < b) : -m ≤ a.tdiv b ∧ a.tdiv b ≤ m := by
  rcases Int.lt_or_le a 0 with z | z
  · have h1 : 0 ≤ (-a).tdiv b := Int.tdiv_nonneg (by omega) (by omega)
    have h2 : (-a).tdiv b ≤ -a := Int.tdiv_le_self _ (by omega)
    rw [Int.neg_tdiv] at h1 h2
    omega
  · have h1 : 0 ≤ a.tdiv b := Int.tdiv_nonneg z (by omega)
    have h2 : a.tdiv b ≤ a := Int.tdiv_le_self _ z
    omega
section GI3
variable {g g2 : Nat → Int32} {s b : Nat}
set_option maxRecDepth 100000 in
set_option maxHeartbeats 4000000 in
theorem edg_bd {y : Nat} (w : SW g s) (x : SX g s) (hb : b < 2) (hy : y ≤ 60) : -70000 ≤ (edg g s b y).toInt ∧ (edg g s b y).toInt ≤ 70000 := by
  have f1 := inR_int (x.2.2.2.2.2.2.2.1 (1 + b) (by omega) (by omega))
  have f3 := inR_int (x.2.2.2.2.2.2.2.1 (3 + b) (by omega) (by omega))
  have c1 : (-500 : Int32).toInt = -500 := by decide
  have c2 : (500 : Int32).toInt = 500 := by decide
  rw [c1, c2] at f1 f3
  obtain ⟨w5, w51, w52⟩ := w.2.1
  have e5 : (sl g s 5).toInt = (nt (sl g s 5) : Int) := by rw [w5, nI_toInt (by omega), nt_nI (by omega)]
  have hd : (sl g s (3 + b) - sl g s (1 + b)).toInt = (sl g s (3 + b)).toInt - (sl g s (1 + b)).toInt := i32_sub (m := 500) ⟨by omega, by omega⟩ ⟨by omega, by omega⟩ (by omega)
  have hyI : (nI y).toInt = (y : Int) := nI_toInt (by omega)
  have hp0 : -60000 ≤ ((sl g s (3 + b)).toInt - (sl g s (1 + b)).toInt) * (y : Int) ∧ ((sl g s (3 + b)).toInt - (sl g s (1 + b)).toInt) * (y : Int) ≤ 60000 := by
    have a1 : -1000 ≤ (sl g s (3 + b)).toInt - (sl g s (1 + b)).toInt := by omega
    have a2 : (sl g s (3 + b)).toInt - (sl g s (1 + b)).toInt ≤ 1000 := by omega
    generalize (sl g s (3 + b)).toInt - (sl g s (1 + b)).toInt = dd at *
    have hy0 : (0 : Int) ≤ (y : Int) := by omega
    have hy6 : (y : Int) ≤ 60 := by omega
    constructor
    · have := Int.mul_le_mul_of_nonneg_right a1 hy0
      omega
    · have := Int.mul_le_mul_of_nonneg_right a2 hy0
      omega
  have hp : ((sl g s (3 + b) - sl g s (1 + b)) * nI y).toInt = ((sl g s (3 + b)).toInt - (sl g s (1 + b)).toInt) * (y : Int) := by
    rw [Int32.toInt_mul, hd, hyI, Int.bmod_eq_of_le (by omega) (by omega)]
  have hq : -60000 ≤ ((sl g s (3 + b) - sl g s (1 + b)) * nI y / sl g s 5).toInt ∧ ((sl g s (3 + b) - sl g s (1 + b)) * nI y / sl g s 5).toInt ≤ 60000 := by
    rw [Int32.toInt_div, hp, e5]
    have t := tdiv_abs (b := (nt (sl g s 5) : Int)) hp0 (by omega) (by omega)
    rw [Int.bmod_eq_of_le (by omega) (by omega)]
    exact t
  have hst : -200 ≤ (if nI y < sl g s (16 + b) then sl g s (18 + 61 * b + y) else 0 : Int32).toInt ∧ (if nI y < sl g s (16 + b) then sl g s (18 + 61 * b + y) else 0 : Int32).toInt ≤ 200 := by
    by_cases z : nI y < sl g s (16 + b)
    · rw [if_pos z]
      have wr := row61 w hb
      rw [wr.1, nI_ltI (by omega) (by have := wr.2.2; omega)] at z
      have f := inR_int (x.2.2.2.2.2.2.2.2.1 b y hb z)
      have c3 : (-200 : Int32).toInt = -200 := by decide
      have c4 : (200 : Int32).toInt = 200 := by decide
      rw [c3, c4] at f
      exact f
    · rw [if_neg z]
      decide
  unfold edg
  have a1 : (sl g s (1 + b) + (sl g s (3 + b) - sl g s (1 + b)) * nI y / sl g s 5).toInt = (sl g s (1 + b)).toInt + ((sl g s (3 + b) - sl g s (1 + b)) * nI y / sl g s 5).toInt := i32_add (m := 60000) ⟨by omega, by omega⟩ hq (by omega)
  rw [i32_add (m := 65000) ⟨by omega, by omega⟩ ⟨by omega, by omega⟩ (by omega), a1]
  omega
set_option maxRecDepth 100000 in
set_option maxHeartbeats 4000000 in
theorem mxF_bd {f : Nat → Int32} {a : Nat} {m : Int} : ∀ {n : Nat}, (∀ y, y ≤ a + n → -m ≤ (f y).toInt ∧ (f y).toInt ≤ m) → (f a).toInt ≤ (mxF f a n).toInt ∧ -m ≤ (mxF f a n).toInt ∧ (mxF f a n).toInt ≤ m
  | 0, h => ⟨Int.le_refl _, (h a (by omega)).1, (h a (by omega)).2⟩
  | n + 1, h => by
    obtain ⟨i1, i2, i3⟩ := mxF_bd (a := a) (n := n) (fun y hy => h y (by omega))
    unfold mxF
    by_cases z : mxF f a n < f (a + 1 + n)
    · rw [if_pos z]
      have := Int32.lt_iff_toInt_lt.mp z
      exact ⟨by omega, (h _ (by omega)).1, (h _ (by omega)).2⟩
    · rw [if_neg z]
      exact ⟨i1, i2, i3⟩
set_option maxRecDepth 100000 in
set_option maxHeartbeats 4000000 in
theorem mnF_bd {f : Nat → Int32} {a : Nat} {m : Int} : ∀ {n : Nat}, (∀ y, y ≤ a + n → -m ≤ (f y).toInt ∧ (f y).toInt ≤ m) → (mnF f a n).toInt ≤ (f a).toInt ∧ -m ≤ (mnF f a n).toInt ∧ (mnF f a n).toInt ≤ m
  | 0, h => ⟨Int.le_refl _, (h a (by omega)).1, (h a (by omega)).2⟩
  | n + 1, h => by
    obtain ⟨i1, i2, i3⟩ := mnF_bd (a := a) (n := n) (fun y hy => h y (by omega))
    unfold mnF
    by_cases z : f (a + 1 + n) < mnF f a n
    · rw [if_pos z]
      have := Int32.lt_iff_toInt_lt.mp z
      exact ⟨by omega, (h _ (by omega)).1, (h _ (by omega)).2⟩
    · rw [if_neg z]
      exact ⟨i1, i2, i3⟩
set_option maxRecDepth 100000 in
set_option maxHeartbeats 4000000 in
theorem isN_int {x : Int32} {a b : Nat} (h1 : (a : Int) ≤ x.toInt) (h2 : x.toInt ≤ (b : Int)) : isN x a b := by
  obtain ⟨j, hj, rfl⟩ := nI_of (x := x) (by
    intro z
    have := Int32.lt_iff_toInt_lt.mp z
    have e : (0 : Int32).toInt = 0 := by decide
    omega)
  rw [nI_toInt hj] at h1 h2
  exact isN_nI hj (by omega) (by omega)
set_option maxRecDepth 100000 in
set_option maxHeartbeats 4000000 in
theorem GI_cut {wn bn : Nat} (I : GI g) (hs : s < nt (g 1)) (ho : sl g s 0 = 0) (h1 : bn < wn) (h2 : 1 ≤ bn) (h3 : wn ≤ 20) (hall : allN (fun y => decide (0 < acr g s y)) (nt (sl g s 5) + 1) = true) (hpn : pnN (nt (sl g s 5)) (wn - bn) ≤ 40) : GI (gCut g s wn bn) := by
  obtain ⟨w, x⟩ := I.2.2.1 s hs
  have np0 := x.np0 ho
  have n89 := x.1 ho
  obtain ⟨w5, w51, w52⟩ := id w.2.1
  obtain ⟨pn, hpd⟩ : ∃ pn, pn = pnN (nt (sl g s 5)) (wn - bn) := ⟨_, rfl⟩
  rw [← hpd] at hpn
  have gs := fun c (hc : c < 390) => gCut_sl (g := g) (j := s) (w := wn) (b := bn) hc
  have e : ∀ c, c < 390 → c ≠ 0 → c ≠ 6 → c ≠ 7 → c ≠ 8 → sl (gCut g s wn bn) s c = sl g s c := fun c h1 h2 h3 h4 h5 => by rw [gs c h1, if_neg h2, if_neg h3, if_neg h4, if_neg h5]
  have g8 : sl (gCut g s wn bn) s 8 = nI pn := by rw [gs 8 (by omega), if_neg (by omega), if_neg (by omega), if_neg (by omega), if_pos rfl, ← hpd]
  have g6 : sl (gCut g s wn bn) s 6 = nI (wn - bn) := by rw [gs 6 (by omega), if_neg (by omega), if_pos rfl]
  have g7 : sl (gCut g s wn bn) s 7 = nI bn := by rw [gs 7 (by omega), if_neg (by omega), if_neg (by omega), if_pos rfl]
  have g0' : sl (gCut g s wn bn) s 0 = 1 := by rw [gs 0 (by omega), if_pos rfl]
  have enp : np (gCut g s wn bn) s = pn := by
    unfold np
    rw [g8, nt_nI (by omega), e 9 (by omega) (by omega) (by omega) (by omega) (by omega), n89.2, Nat.add_zero]
  have hlo : ∀ i, i < pn → i * (wn - bn) < nt (sl g s 5) := fun i hi => pnN_lt (by omega) (by rw [← hpd]; exact hi)
  obtain ⟨x1, x2, x3, x4, x5, x6, x7, x8, x9, x10⟩ := id x
  have u12 := w.2.2.2.2.2.2.2.2.2.2.1.2.2
  have ee : EE g (gCut g s wn bn) s := ⟨fun c h1 h2 => e c (by omega) (by omega) (by omega) (by omega) (by omega), fun c h1 h2 => e c (by omega) (by omega) (by omega) (by omega) (by omega)⟩
  have on : ∀ i, i < 40 → sl (gCut g s wn bn) s (300 + i) = -1 ∧ sl (gCut g s wn bn) s (340 + i) = -1 := fun i hi => by
    rw [e _ (by omega) (by omega) (by omega) (by omega) (by omega), e _ (by omega) (by omega) (by omega) (by omega) (by omega)]
    exact x4 i (by omega) hi
  have w2 : SW (gCut g s wn bn) s := by
    have ge0 : gCut g s wn bn 0 = g 0 := by unfold gCut; rw [upd0_ne (by omega), upd0_ne (by omega), upd0_ne (by omega), upd0_ne (by omega)]
    unfold SW at w ⊢
    rw [ge0, g0', e 5 (by omega) (by omega) (by omega) (by omega) (by omega), g8, e 9 (by omega) (by omega) (by omega) (by omega) (by omega), g6, g7, e 10 (by omega) (by omega) (by omega) (by omega) (by omega), e 11 (by omega) (by omega) (by omega) (by omega) (by omega), e 12 (by omega) (by omega) (by omega) (by omega) (by omega), e 16 (by omega) (by omega) (by omega) (by omega) (by omega), e 17 (by omega) (by omega) (by omega) (by omega) (by omega), nt_nI (n := pn) (by omega), nt_nI (n := wn - bn) (by omega)]
    obtain ⟨a1, a2, a3, a4, a5, a6, a7, a8, a9, a10, a11, a12, a13, a14⟩ := w
    exact ⟨isN_nI (n := 1) (by omega) (by omega) (by omega), a2, isN_nI (by omega) (by omega) hpn, a4, by rw [n89.2]; omega, isN_nI (by omega) (by omega) (by omega), isN_nI (by omega) (by omega) (by omega), fun i hi => ⟨by omega, hlo i hi⟩, a9, a10, a11, a12, a13, fun i hi => Or.inl (on i (by omega)).1⟩
  refine GI_one I hs (fun q hq => ?_) w2 ?_ (fun i hi hne => ?_)
  · unfold gCut
    rw [upd0_ne (by omega), upd0_ne (by omega), upd0_ne (by omega), upd0_ne (by omega)]
  · unfold SX
    rw [enp, g0', g8, nt_nI (by omega), e 9 (by omega) (by omega) (by omega) (by omega) (by omega), e 12 (by omega) (by omega) (by omega) (by omega) (by omega), e 10 (by omega) (by omega) (by omega) (by omega) (by omega), e 5 (by omega) (by omega) (by omega) (by omega) (by omega)]
    refine ⟨fun z => absurd z (by decide), fun _ => by rw [hpd]; exact pnN_pos (by omega) w51, fun i h1 h2 => by rw [e _ (by omega) (by omega) (by omega) (by omega) (by omega)]; exact x3 i (by omega) h2, fun i h1 h2 => on i h2, fun i h1 h2 => (on i (by omega)).2, fun n hn => by rw [e _ (by omega) (by omega) (by omega) (by omega) (by omega)]; exact x6 n hn, x7, fun c h1 h2 => by rw [e _ (by omega) (by omega) (by omega) (by omega) (by omega)]; exact x8 c h1 h2, fun b k h1 h2 => ?_, fun i hi => ?_⟩
    · have := (row61 w h1).2.2
      rw [e _ (by omega) (by omega) (by omega) (by omega) (by omega)] at h2
      rw [e _ (by omega) (by omega) (by omega) (by omega) (by omega)]
      exact x9 b k h1 h2
    · have hP : isP (gCut g s wn bn) s i = true := by unfold isP; rw [g8, nt_nI (by omega)]; exact decide_eq_true hi
      have lh := lohi w2 (i := i) (by rw [g8, nt_nI (by omega)]; exact hi)
      rw [e 5 (by omega) (by omega) (by omega) (by omega) (by omega)] at lh
      unfold lenV
      rw [if_pos hP]
      generalize loN (gCut g s wn bn) s i = lo at *
      generalize hiN (gCut g s wn bn) s i = up at *
      rw [mxF_eq (f := edg g s 1) (fun y _ hy => ee.ed (by omega) (by omega)), mnF_eq (f := edg g s 0) (fun y _ hy => ee.ed (by omega) (by omega))]
      obtain ⟨p1, p2, p3⟩ := mxF_bd (f := edg g s 1) (a := lo) (n := up - lo) (m := 70000) (fun y hy => edg_bd w x (by omega) (by omega))
      obtain ⟨q1, q2, q3⟩ := mnF_bd (f := edg g s 0) (a := lo) (n := up - lo) (m := 70000) (fun y hy => edg_bd w x (by omega) (by omega))
      have r1 := edg_bd (b := 1) w x (by omega) (show lo ≤ 60 by omega)
      have r0 := edg_bd (b := 0) w x (by omega) (show lo ≤ 60 by omega)
      have ha := of_decide_eq_true (allN_iff.mp hall lo (by omega))
      have ha2 := Int32.lt_iff_toInt_lt.mp ha
      unfold acr at ha2
      rw [i32_sub (m := 70000) r1 r0 (by omega)] at ha2
      have e0 : (0 : Int32).toInt = 0 := by decide
      rw [e0] at ha2
      have es := i32_sub (x := mxF (edg g s 1) lo (up - lo)) (y := mnF (edg g s 0) lo (up - lo)) (m := 70000) ⟨p2, p3⟩ ⟨q2, q3⟩ (by omega)
      exact isN_int (by rw [es]; omega) (by rw [es]; omega)
  · rw [enp] at hi
    exact absurd (on i (by omega)).1 hne
set_option maxRecDepth 100000 in
set_option maxHeartbeats 4000000 in
/-- a piece is laid where nothing lies, or picked up -/
theorem GI_put {i : Nat} {bq p : Int32} (I : GI g) (hs : s < nt (g 1)) (hi4 : i < np g s) (h : (bq = -1 ∧ p = -1) ∨ ∃ bn pn, bq = nI bn ∧ p = nI pn ∧ bn < nt (g 0) ∧ pn + nt (lenV g s i) ≤ nt (bl g bn 1) ∧ sl g s (300 + i) = -1 ∧ ∀ k, pn ≤ k → k < pn + nt (lenV g s i) → liesV g (nI bn) (nI k) = -1) : GI (gPut g s i bq p) := by
  obtain ⟨⟨I0, I1⟩, IB, IS, IP, IN, IZ⟩ := id I
  have W := I.gw
  have h24 := I0.2.2
  have h10 := I1.2.2
  have h40 : ∀ t, t < nt (g 1) → np g t ≤ 40 := fun t ht => (IS t ht).1.2.2.2.2.1
  have hi40 : i < 40 := Nat.lt_of_lt_of_le hi4 (h40 s hs)
  have e0 : gPut g s i bq p 0 = g 0 := gPut_lo g s i bq p (by omega)
  have e1 : gPut g s i bq p 1 = g 1 := gPut_lo g s i bq p (by omega)
  have se := fun t => gPut_SE g (s := s) (i := i) bq p hi40 t
  have gb : ∀ b c, b < 24 → c < 210 → bl (gPut g s i bq p) b c = bl g b c := fun b c h1 h2 => gPut_bl g bq p h1 h2
  have enp : ∀ t, np (gPut g s i bq p) t = np g t := fun t => np_lo (se t)
  have elen : ∀ t j, t < nt (g 1) → j < np g t → lenV (gPut g s i bq p) t j = lenV g t j := fun t j ht hj => lenV_lo (se t) (IS t ht).1 (by have := h40 t ht; omega)
  have GWp : GW (gPut g s i bq p) := GW_put W hi40 (by
    rcases h with ⟨z, -⟩ | ⟨bn, pn, z1, -, z3, -⟩
    · exact Or.inl z
    · exact Or.inr ⟨bn, z3, z1⟩)
  have other : ∀ t j, t < nt (g 1) → j < np g t → ¬ (t = s ∧ j = i) → sl (gPut g s i bq p) t (300 + j) = sl g t (300 + j) ∧ sl (gPut g s i bq p) t (340 + j) = sl g t (340 + j) := fun t j ht hj hne => by
    have := h40 t ht
    exact ⟨gPut_sl g bq p (by omega) hi40 (by omega), gPut_sl g bq p (by omega) hi40 (by omega)⟩
  have onlt : ∀ t j, t < nt (g 1) → j < np g t → ¬ sl g t (300 + j) = -1 → nt (sl g t (300 + j)) < nt (g 0) := fun t j ht hj hne => by
    rcases (IS t ht).1.2.2.2.2.2.2.2.2.2.2.2.2.2 j hj with z | ⟨⟨-, -, z⟩, z2⟩
    · exact absurd z hne
    · omega
  -- two on one bolt, one of them the piece
  have apart : ∀ t j, t < nt (g 1) → j < np g t → ¬ (t = s ∧ j = i) → ∀ bn pn, bq = nI bn → bn < nt (g 0) → pn + nt (lenV g s i) ≤ nt (bl g bn 1) → (∀ k, pn ≤ k → k < pn + nt (lenV g s i) → liesV g (nI bn) (nI k) = -1) → sl g t (300 + j) = nI bn → pn + nt (lenV g s i) ≤ nt (sl g t (340 + j)) ∨ nt (sl g t (340 + j)) + nt (lenV g t j) ≤ pn := by
    intro t j ht hj hne bn pn hbq hbn hle free hon
    by_cases z : pn + nt (lenV g s i) ≤ nt (sl g t (340 + j)) ∨ nt (sl g t (340 + j)) + nt (lenV g t j) ≤ pn
    · exact z
    · exfalso
      have l1 := ((IS s hs).2.2.2.2.2.2.2.2.2.2 i hi4).2.1
      have l2 := ((IS t ht).2.2.2.2.2.2.2.2.2.2 j hj).2.1
      have u1 := (IB bn hbn).1.2.1.2.2
      obtain ⟨k, k1, k2, k3, k4⟩ : ∃ k, pn ≤ k ∧ k < pn + nt (lenV g s i) ∧ nt (sl g t (340 + j)) ≤ k ∧ k < nt (sl g t (340 + j)) + nt (lenV g t j) := by
        rcases Nat.lt_or_ge pn (nt (sl g t (340 + j))) with q | q
        · exact ⟨nt (sl g t (340 + j)), by omega, by omega, by omega, by omega⟩
        · exact ⟨pn, by omega, by omega, by omega, by omega⟩
      have f := free k k1 k2
      have := h40 t ht
      rw [lies_some I ht hj (by omega) (by omega) ((onB_iff I ht hj (by omega) (by omega)).mpr ⟨hon, k3, k4⟩)] at f
      exact nI_m1 (by omega) f
  have onS := gPut_on g (s := s) (i := i) bq p hi40
  have atS := gPut_at g (s := s) (i := i) bq p
  refine ⟨⟨by rw [e0]; exact I0, by rw [e1]; exact I1⟩, fun b hb => ?_, fun t ht => ⟨GWp.2.2.2 t ht, ?_⟩, fun t j ht hj hne => ?_, fun t j u k ht hj hu hk q1 q2 => ?_, fun k hk => ?_⟩
  · rw [e0] at hb
    obtain ⟨⟨a1, a2, a3⟩, a4, a5⟩ := IB b hb
    have u1 := a2.2.2
    have u3 := a3.2.2
    unfold GB BW
    rw [gb b 0 (by omega) (by omega), gb b 1 (by omega) (by omega), gb b 2 (by omega) (by omega), gb b 3 (by omega) (by omega)]
    exact ⟨⟨a1, a2, a3⟩, a4, fun k hk => by rw [gb b (6 + k) (by omega) (by omega)]; exact a5 k hk⟩
  · rw [e1] at ht
    obtain ⟨w, x⟩ := IS t ht
    obtain ⟨x1, x2, x3, x4, x5, x6, x7, x8, x9, x10⟩ := x
    have u12 := w.2.2.2.2.2.2.2.2.2.2.1.2.2
    have np40 := h40 t ht
    have set := se t
    unfold SX
    rw [enp, set 0 (by omega), set 8 (by omega), set 9 (by omega), set 12 (by omega), set 10 (by omega), set 5 (by omega)]
    refine ⟨x1, x2, fun j h1 h2 => by rw [set _ (by omega)]; exact x3 j h1 h2, fun j h1 h2 => ?_, fun j h1 h2 => ?_, fun n hn => by rw [set _ (by omega)]; exact x6 n hn, x7, fun c h1 h2 => by rw [set _ (by omega)]; exact x8 c h1 h2, fun b k h1 h2 => ?_, fun j hj => by rw [elen t j ht hj]; exact x10 j hj⟩
    · have hne : ¬ (t = s ∧ j = i) := fun z => by rw [z.1, z.2] at h1; omega
      rw [gPut_sl g bq p (by omega) hi40 (by omega), gPut_sl g bq p (by omega) hi40 (by omega)]
      exact x4 j h1 h2
    · by_cases z : t = s ∧ j = i
      · obtain ⟨rfl, rfl⟩ := z
        rw [onS] at h2
        rw [atS]
        rcases h with ⟨-, z2⟩ | ⟨bn, pn, z1, -, z3, -⟩
        · exact z2
        · rw [z1] at h2
          exact absurd h2 (nI_m1 (by omega))
      · obtain ⟨o1, o2⟩ := other t j ht h1 z
        rw [o1] at h2
        rw [o2]
        exact x5 j h1 h2
    · have := (row61 w h1).2.2
      rw [set _ (by omega)] at h2
      rw [set _ (by omega)]
      exact x9 b k h1 h2
  · rw [e1] at ht
    rw [enp] at hj
    rw [elen t j ht hj]
    by_cases z : t = s ∧ j = i
    · obtain ⟨rfl, rfl⟩ := z
      rw [onS] at hne ⊢
      rw [atS]
      rcases h with ⟨z2, -⟩ | ⟨bn, pn, z1, z2, z3, z4, -⟩
      · exact absurd z2 hne
      · have u1 := (IB bn z3).1.2.1.2.2
        have l1 := (IS t ht).2.2.2.2.2.2.2.2.2.2 j hj
        rw [z1, z2, nt_nI (by omega), nt_nI (by omega), gPut_bl g _ _ (by omega) (by omega)]
        exact ⟨isN_nI (by omega) (by omega) (by omega), ⟨l1.1, Nat.zero_le _, by omega⟩, z4⟩
    · obtain ⟨o1, o2⟩ := other t j ht hj z
      rw [o1] at hne ⊢
      rw [o2, gb _ 1 (by have := onlt t j ht hj hne; omega) (by omega)]
      exact IP t j ht hj hne
  · rw [e1] at ht hu
    rw [enp] at hj hk
    rw [elen t j ht hj, elen u k hu hk]
    by_cases z : t = s ∧ j = i
    · by_cases y : u = s ∧ k = i
      · exact Or.inl ⟨z.1.trans y.1.symm, z.2.trans y.2.symm⟩
      · obtain ⟨rfl, rfl⟩ := z
        obtain ⟨o1, o2⟩ := other u k hu hk y
        rw [onS] at q1 q2
        rw [o1] at q2
        rw [atS, o2]
        rcases h with ⟨z2, -⟩ | ⟨bn, pn, z1, z2, z3, z4, z5, z6⟩
        · exact absurd z2 q1
        · rw [z1] at q2
          have u1 := (IB bn z3).1.2.1.2.2
          rw [z2, nt_nI (by omega)]
          exact Or.inr (apart u k hu hk y bn pn z1 z3 z4 z6 q2.symm)
    · obtain ⟨p1, p2⟩ := other t j ht hj z
      by_cases y : u = s ∧ k = i
      · obtain ⟨rfl, rfl⟩ := y
        rw [onS] at q2
        rw [p1] at q1 q2
        rw [atS, p2]
        rcases h with ⟨z2, -⟩ | ⟨bn, pn, z1, z2, z3, z4, z5, z6⟩
        · rw [z2] at q2
          exact absurd q2 q1
        · rw [z1] at q2
          have u1 := (IB bn z3).1.2.1.2.2
          rw [z2, nt_nI (by omega)]
          rcases apart t j ht hj z bn pn z1 z3 z4 z6 q2 with r | r
          · exact Or.inr (Or.inr r)
          · exact Or.inr (Or.inl r)
      · obtain ⟨o1, o2⟩ := other u k hu hk y
        rw [p1] at q1
        rw [p1, o1] at q2
        rw [p2, o2]
        exact IN t j u k ht hj hu hk q1 q2
  · rw [e1] at hk
    unfold gPut
    rw [upd0_ne (by omega), upd0_ne (by omega)]
    exact IZ k hk
end GI3

