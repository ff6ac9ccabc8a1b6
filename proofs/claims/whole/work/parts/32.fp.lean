/-! ===== floats ===== -/
theorem fp_m31 (r : UInt32) : (r &&& 0x7fffffff).toNat = r.toNat % 2 ^ 31 := by
  rw [UInt32.toNat_and, show (0x7fffffff : UInt32).toNat = 2 ^ 31 - 1 from rfl, Nat.and_two_pow_sub_one_eq_mod]
theorem fp_n32 {r : UInt32} (h : FP.Core.val32 r ≠ .nan) : vf_n32 r := by
  show (r &&& 0x7fffffff) ≤ 0x7f800000
  rw [UInt32.le_iff_toNat_le, fp_m31]
  exact (FP.Core.ne_nan32 r).mp h
/-- the bits of no NaN, between 0 and 1000, or of -0 -/
def gOK (gr : Int32) : Bool := decide (gr = -2147483648) || (decide (0 ≤ gr) && decide (gr ≤ 1148846080))
/-- the reference's own check -/
def fOK (r : UInt32) : Bool := !decide (Op.cmpValue (FP.fcmp r FP.fconst0) .l < 0) && !decide (0 < Op.cmpValue (FP.fcmp r 1148846080) .g)
theorem fp_bits {r : UInt32} : fOK r = true ↔ (r.toNat = 2147483648 ∨ r.toNat ≤ 1148846080) := by
  have h0 : FP.Core.val32 (0 : UInt32) ≠ .nan := (FP.Core.ne_nan32 _).mpr (by decide)
  have h1 : FP.Core.val32 (1148846080 : UInt32) ≠ .nan := (FP.Core.ne_nan32 _).mpr (by decide)
  by_cases hn : FP.Core.val32 r = .nan
  · have hb : 2139095040 < r.toNat % 2 ^ 31 := by
      have := mt (FP.Core.ne_nan32 r).mpr (fun z => z hn)
      omega
    have e : FP.fcmp r FP.fconst0 = none := by
      show FP.Core.order (FP.Core.val32 r) _ = none
      rw [hn]
      rfl
    unfold fOK
    rw [e]
    constructor
    · intro z
      rw [show decide (Op.cmpValue none .l < 0) = true by decide] at z
      cases z
    · omega
  · have ht := r.toNat_lt
    have k0 : FP.Core.fkey 0 = 0 := by decide
    have k1 : FP.Core.fkey 1148846080 = 1148846080 := by decide
    have a1 := FP.Core.fcmp_lt_key hn h0
    have a2 := FP.Core.fcmp_eq_key hn h0
    have a3 := FP.Core.fcmp_gt_key hn h0
    have b1 := FP.Core.fcmp_lt_key hn h1
    have b2 := FP.Core.fcmp_eq_key hn h1
    have b3 := FP.Core.fcmp_gt_key hn h1
    rw [k0] at a1 a2 a3
    rw [k1] at b1 b2 b3
    have c1 : FP.fcmp r FP.fconst0 = some .lt ∨ FP.fcmp r FP.fconst0 = some .eq ∨ FP.fcmp r FP.fconst0 = some .gt := by
      show FP.Core.fcmp r 0 = _ ∨ FP.Core.fcmp r 0 = _ ∨ FP.Core.fcmp r 0 = _
      rw [a1, a2, a3]
      omega
    have c2 : FP.fcmp r 1148846080 = some .lt ∨ FP.fcmp r 1148846080 = some .eq ∨ FP.fcmp r 1148846080 = some .gt := by
      show FP.Core.fcmp r _ = _ ∨ FP.Core.fcmp r _ = _ ∨ FP.Core.fcmp r _ = _
      rw [b1, b2, b3]
      omega
    have kk : FP.Core.fkey r = if 2 ^ 31 ≤ r.toNat then ((2 ^ 31 : Nat) : Int) - (r.toNat : Int) else (r.toNat : Int) := rfl
    have m1 : (fOK r = true) ↔ ¬ FP.fcmp r FP.fconst0 = some .lt ∧ ¬ FP.fcmp r 1148846080 = some .gt := by
      unfold fOK
      rcases c1 with c | c | c <;> rcases c2 with c' | c' | c' <;> rw [c, c'] <;> decide
    rw [m1, show FP.fcmp r FP.fconst0 = FP.Core.fcmp r 0 from rfl, a1, b3, kk]
    split <;> omega
theorem fp_snan {b : Int32} {r : UInt32} (h : vn_sni2f b = true) (hr : r = b.toUInt32 ∨ r = b.toUInt32 ||| 0x00400000) : fOK r = false ∧ gOK b = false := by
  have h1 : 2139095040 < b.toUInt32.toNat % 2 ^ 31 := by
    unfold vn_sni2f at h
    simp only [Bool.and_eq_true, decide_eq_true_eq] at h
    have := UInt32.lt_iff_toNat_lt.mp h.1
    rw [fp_m31] at this
    exact this
  constructor
  · rw [Bool.eq_false_iff]
    intro z
    have z2 := fp_bits.mp z
    rcases hr with rfl | rfl
    · omega
    · rw [UInt32.toNat_or] at z2
      have h3 : (b.toUInt32.toNat ||| (0x00400000 : UInt32).toNat) % 2 ^ 31 = b.toUInt32.toNat % 2 ^ 31 ||| (0x00400000 : UInt32).toNat % 2 ^ 31 := Nat.or_mod_two_pow
      have h4 : b.toUInt32.toNat % 2 ^ 31 ≤ b.toUInt32.toNat % 2 ^ 31 ||| (0x00400000 : UInt32).toNat % 2 ^ 31 := Nat.left_le_or
      omega
  · rw [Bool.eq_false_iff]
    intro z
    unfold gOK at z
    simp only [Bool.or_eq_true, Bool.and_eq_true, decide_eq_true_eq] at z
    rcases z with rfl | ⟨z1, z2⟩
    · exact absurd h1 (by decide)
    · have e : b.toUInt32.toNat = b.toInt.toNat := by
        have := Int32.le_iff_toInt_le.mp z1
        have t : b.toUInt32.toNat = (b.toInt % 2 ^ 32).toNat := by
          have := b.toBitVec.toInt_eq_toNat_cond
          have hl := b.toBitVec.isLt
          show b.toBitVec.toNat = (b.toBitVec.toInt % 2 ^ 32).toNat
          rw [this]
          split <;> omega
        have u := b.toInt_lt
        rw [t]
        simp only [Int32.toInt_zero] at this
        omega
      have := Int32.le_iff_toInt_le.mp z2
      have := Int32.le_iff_toInt_le.mp z1
      simp only [Int32.toInt_zero] at this
      have e9 : (1148846080 : Int32).toInt = 1148846080 := by decide
      omega
theorem fp_u32 (b : Int32) : (0 ≤ b → b.toUInt32.toNat = b.toInt.toNat) ∧ (b < 0 → (b.toUInt32.toNat : Int) = b.toInt + 2 ^ 32) := by
  have hl := b.toBitVec.isLt
  have c := b.toBitVec.toInt_eq_toNat_cond
  have e1 : b.toUInt32.toNat = b.toBitVec.toNat := rfl
  have e2 : b.toInt = b.toBitVec.toInt := rfl
  constructor
  · intro z
    have z := Int32.le_iff_toInt_le.mp z
    simp only [Int32.toInt_zero] at z
    rw [e1, e2]
    rw [e2] at z
    rw [c] at z ⊢
    split at z <;> omega
  · intro z
    have z := Int32.lt_iff_toInt_lt.mp z
    simp only [Int32.toInt_zero] at z
    rw [e1, e2]
    rw [e2] at z
    rw [c] at z ⊢
    split at z <;> omega
theorem fp_ok (b : Int32) : fOK b.toUInt32 = gOK b := by
  have m : fOK b.toUInt32 = true ↔ gOK b = true := by
    rw [fp_bits]
    unfold gOK
    simp only [Bool.or_eq_true, Bool.and_eq_true, decide_eq_true_eq]
    have e9 : (1148846080 : Int32).toInt = 1148846080 := by decide
    have e8 : (-2147483648 : Int32).toInt = -2147483648 := by decide
    obtain ⟨u1, u2⟩ := fp_u32 b
    have l1 := b.toInt_lt
    have l2 := b.le_toInt
    rw [Int32.le_iff_toInt_le, Int32.le_iff_toInt_le, e9, ← Int32.toInt_inj, e8]
    simp only [Int32.toInt_zero]
    by_cases z : 0 ≤ b
    · have u := u1 z
      have z := Int32.le_iff_toInt_le.mp z
      simp only [Int32.toInt_zero] at z
      omega
    · have z2 := Int32.not_le.mp z
      have u := u2 z2
      have z := Int32.lt_iff_toInt_lt.mp z2
      simp only [Int32.toInt_zero] at z
      omega
  cases h1 : fOK b.toUInt32 <;> cases h2 : gOK b <;> simp_all
theorem fp_i2f (a : Int32) : ∃ s c q, FP.Core.val32 (FP.i2f a) = .fin s c q := by
  obtain ⟨c, q, h⟩ := FP.Core.l2f_shape a.toInt64
  exact ⟨_, c, q, by rw [show FP.i2f a = FP.Core.l2f a.toInt64 from FP.Core.i2f_l2f a, h]⟩
theorem fp_fin {b : Int32} (h : gOK b = true) : FP.Core.FFin b.toUInt32 := by
  rw [FP.Core.fin_bits32]
  have := fp_bits.mp ((fp_ok b).trans h)
  omega
theorem fp_mul {b : Int32} (h : gOK b = true) (a : Int32) : FP.Core.val32 (FP.fmul b.toUInt32 (FP.i2f a)) ≠ .nan := by
  obtain ⟨s, c, q, e⟩ := fp_fin h
  obtain ⟨t, c', q', e'⟩ := fp_i2f a
  intro z
  have z2 := (FP.Core.fIsNaN_iff _).mpr z
  rcases (FP.Core.fmul_nan_iff b.toUInt32 (FP.i2f a)).mp z2 with y | y | ⟨s, y, -⟩ | ⟨s, -, y⟩
  · rw [e] at y; cases y
  · rw [e'] at y; cases y
  · rw [e] at y; cases y
  · rw [e'] at y; cases y
theorem fp_c2 : FP.Core.val32 FP.fconst2 = .fin false (2 ^ 23) (-22) := by decide +kernel
theorem fp_div {r : UInt32} (h : FP.Core.val32 r ≠ .nan) : FP.Core.val32 (FP.fdiv r FP.fconst2) ≠ .nan := by
  intro z
  have z2 := (FP.Core.fIsNaN_iff _).mpr z
  rcases (FP.Core.fdiv_nan_iff r FP.fconst2).mp z2 with y | y | ⟨s, t, -, y⟩ | ⟨-, s, q, y⟩
  · exact h y
  · rw [fp_c2] at y; cases y
  · rw [fp_c2] at y; cases y
  · rw [fp_c2] at y; cases y
theorem fp_mul' {b : Int32} (h : gOK b = true) (a : Int32) : vf_n32 (FP.fmul b.toUInt32 (FP.i2f a)) := fp_n32 (fp_mul h a)
theorem fp_div' {b : Int32} (h : gOK b = true) (a : Int32) : vf_n32 (FP.fdiv (FP.fmul b.toUInt32 (FP.i2f a)) FP.fconst2) := fp_n32 (fp_div (fp_mul h a))
/-- grams by an area, halved -/
def wgF (r : UInt32) (a : Int32) : Int32 := FP.f2i (FP.fdiv (FP.fmul r (FP.i2f a)) FP.fconst2)
theorem fp_zero {r : UInt32} {s : Bool} (h : FP.Core.val32 r = .fin s 0 (-149)) (a : Int32) : wgF r a = 0 := by
  obtain ⟨t, c', q', e'⟩ := fp_i2f a
  unfold wgF
  have e1 : FP.Core.val32 (FP.fmul r (FP.i2f a)) = .fin (s != t) 0 FP.Core.b32.qmin := by
    rw [show FP.Core.val32 (FP.fmul r (FP.i2f a)) = _ from FP.Core.val32_fmul _ _, h, e']
    simp only [FP.Core.exactProduct, Nat.zero_mul, FP.Core.round, FP.Core.roundRatio, if_true]
  have e2 : ∃ t, FP.Core.val32 (FP.fdiv (FP.fmul r (FP.i2f a)) FP.fconst2) = .fin t 0 FP.Core.b32.qmin := by
    refine ⟨(s != t) != false, ?_⟩
    rw [show FP.Core.val32 (FP.fdiv (FP.fmul r (FP.i2f a)) FP.fconst2) = _ from FP.Core.val32_fdiv _ _, e1, fp_c2]
    simp only [FP.Core.quotient, FP.Core.roundRatio, if_true]
    rw [if_neg (by decide)]
  obtain ⟨t2, e2⟩ := e2
  show FP.Core.toI (FP.Core.val32 _) = 0
  rw [e2]
  cases t2 <;> decide +kernel
theorem fp_zeros (a : Int32) : wgF 0x80000000 a = 0 ∧ wgF 0 a = 0 := ⟨fp_zero (s := true) (by decide +kernel) a, fp_zero (s := false) (by decide +kernel) a⟩
/-- what n halvings of the whole number m are -/
def hvD (m n : Nat) : FP.Core.Datum := FP.Core.roundRatio FP.Core.b32 false m 1 (-(n : Int))
/-- each halving is exact -/
theorem fp_half {v : UInt32} {m n : Nat} (hm : m < 2 ^ 24) (hn : n < 149) (h : FP.Core.val32 v = hvD m n) : FP.Core.val32 (FP.fdiv v FP.fconst2) = hvD m (n + 1) ∧ vf_n32 (FP.fdiv v FP.fconst2) := by
  have key : ∃ c q, hvD m n = .fin false c q ∧ m * 2 ^ (-(n : Int) - q).toNat = c * 2 ^ (q + n).toNat := by
    rcases Nat.eq_zero_or_pos m with z | z
    · subst z
      exact ⟨0, -149, rfl, by rw [Nat.zero_mul, Nat.zero_mul]⟩
    · -- k: how far m may be shifted up
      have hlog : 2 ^ m.log2 ≤ m ∧ m < 2 ^ (m.log2 + 1) := ⟨Nat.log2_self_le (by omega), Nat.lt_log2_self⟩
      have hl : m.log2 < 24 := by
        refine Nat.lt_of_not_le (fun y => ?_)
        have : 2 ^ 24 ≤ 2 ^ m.log2 := Nat.pow_le_pow_right (by decide) y
        omega
      let k := min (23 - m.log2) (149 - n)
      have hk1 : k ≤ 23 - m.log2 := Nat.min_le_left _ _
      have hk2 : k ≤ 149 - n := Nat.min_le_right _ _
      have hlt : m * 2 ^ k < 2 ^ 24 := by
        have h1 : m * 2 ^ k < 2 ^ (m.log2 + 1) * 2 ^ k := Nat.mul_lt_mul_of_pos_right hlog.2 (Nat.two_pow_pos _)
        rw [← Nat.pow_add] at h1
        have h2 : 2 ^ (m.log2 + 1 + k) ≤ 2 ^ 24 := Nat.pow_le_pow_right (by decide) (by omega)
        omega
      have hge : k = 149 - n ∨ 2 ^ 23 ≤ m * 2 ^ k := by
        by_cases y : 149 - n ≤ 23 - m.log2
        · exact Or.inl (Nat.min_eq_right y)
        · right
          have e : k = 23 - m.log2 := Nat.min_eq_left (by omega)
          have h1 : 2 ^ m.log2 * 2 ^ k ≤ m * 2 ^ k := Nat.mul_le_mul_right _ hlog.1
          rw [← Nat.pow_add, show m.log2 + k = 23 by omega] at h1
          exact h1
      refine ⟨m * 2 ^ k, -(n : Int) - k, ?_, ?_⟩
      · refine FP.Core.roundRatio_exact FP.Core.good_b32 (by decide) ⟨hlt, ?_, ?_, ?_⟩ ?_
        · show (-149 : Int) ≤ _
          omega
        · show _ ≤ (104 : Int)
          omega
        · rcases hge with y | y
          · left
            show _ = (-149 : Int)
            omega
          · right
            exact y
        · rw [show (-(n : Int) - (-(n : Int) - k)).toNat = k by omega, show (-(n : Int) - k - -(n : Int)).toNat = 0 by omega]
          simp
      · rw [show (-(n : Int) - (-(n : Int) - k)).toNat = k by omega, show (-(n : Int) - k + n).toNat = 0 by omega]
        simp
  obtain ⟨c, q, e, hcq⟩ := key
  have e1 : FP.Core.val32 (FP.fdiv v FP.fconst2) = FP.Core.roundRatio FP.Core.b32 false c (2 ^ 23) (q + 22) := by
    rw [show FP.Core.val32 (FP.fdiv v FP.fconst2) = _ from FP.Core.val32_fdiv _ _, h, e, fp_c2]
    simp only [FP.Core.quotient]
    rw [if_neg (by decide), show q - (-22) = q + 22 by omega]
    rfl
  have e2 : FP.Core.val32 (FP.fdiv v FP.fconst2) = hvD m (n + 1) := by
    rw [e1]
    unfold hvD
    refine FP.Core.roundRatio_congr (by decide) (by decide) ?_
    rw [Nat.mul_one]
    -- c * 2^(q+22+n+1) = m * 2^23 * 2^(-(n+1)-q-22)
    have hc2 : ∀ a b : Nat, (a : Int) - b = q + n → c * 2 ^ a = m * 2 ^ b := by
      intro a b hab
      obtain ⟨k, h1, h2⟩ : ∃ k, a = (q + n).toNat + k ∧ b = (-(n : Int) - q).toNat + k := ⟨min a b, by omega, by omega⟩
      rw [h1, h2, Nat.pow_add, Nat.pow_add, ← Nat.mul_assoc, ← Nat.mul_assoc, hcq]
    rw [Nat.mul_assoc, ← Nat.pow_add]
    exact hc2 _ _ (by omega)
  exact ⟨e2, fp_n32 (fp_div (by rw [h, e]; exact fun y => by cases y))⟩
/-- the whole number itself -/
theorem fp_whole {m : Nat} {a : Int32} (ha : a.toInt = (m : Int)) : FP.Core.val32 (FP.i2f a) = hvD m 0 := by
  rw [show FP.Core.val32 (FP.i2f a) = _ from FP.Core.val32_i2f a, ha]
  unfold FP.Core.ofInt
  rw [show decide ((m : Int) < 0) = false by simp]
  rfl
/-- fraction and exponent, halved all the way, are the bits -/
theorem fp_back {v b : UInt32} {e f : Nat} (hf : f < 2 ^ 23) (he : e < 255) (hb : b.toNat = e * 2 ^ 23 + f) (h : FP.Core.val32 v = hvD (if e = 0 then f else f + 2 ^ 23) (150 - (if e < 1 then 1 else e))) (he2 : e ≤ 150) : v = b := by
  have hT : FP.Core.fieldT FP.Core.b32 b.toNat = f := by
    show b.toNat % 8388608 = f
    omega
  have hE : FP.Core.fieldE FP.Core.b32 b.toNat = e := by
    show b.toNat / 8388608 % 256 = e
    omega
  have hS : FP.Core.fieldS FP.Core.b32 b.toNat = false := by
    show (b.toNat / 8388608 / 256 % 2 == 1) = false
    rw [show b.toNat / 8388608 / 256 % 2 = 0 by omega]
    rfl
  have hv : FP.Core.val32 b = .fin false (if e = 0 then f else f + 2 ^ 23) ((if e < 1 then 1 else (e : Int)) - 150) := by
    show FP.Core.decode FP.Core.b32 b.toNat = _
    unfold FP.Core.decode
    rw [hE, hT, hS, if_neg (by show ¬ e = 256 - 1; omega)]
    by_cases z : e = 0
    · rw [if_pos z, if_pos z, if_pos (by omega)]
      rfl
    · rw [if_neg z, if_neg z, if_neg (by omega)]
      have h1 : FP.Core.b32.tails + f = f + 2 ^ 23 := Nat.add_comm _ _
      have h2 : FP.Core.b32.qmin + ((e : Int) - 1) = (e : Int) - 150 := by
        show (-149 : Int) + _ = _
        omega
      rw [h1, h2]
  have hh : hvD (if e = 0 then f else f + 2 ^ 23) (150 - (if e < 1 then 1 else e)) = FP.Core.val32 b := by
    rw [hv]
    have hfit := FP.Core.val32_fits b
    rw [hv] at hfit
    refine FP.Core.roundRatio_exact FP.Core.good_b32 (by decide) hfit ?_
    by_cases z : e < 1
    · rw [if_pos z, if_pos z, show (-((150 - 1 : Nat) : Int) - (1 - 150)).toNat = 0 by decide, show ((1 : Int) - 150 - -((150 - 1 : Nat) : Int)).toNat = 0 by decide, Nat.mul_one, Nat.pow_zero, Nat.mul_one]
    · rw [if_neg z, if_neg z]
      rw [show (-((150 - e : Nat) : Int) - ((e : Int) - 150)).toNat = 0 by omega, show ((e : Int) - 150 - -((150 - e : Nat) : Int)).toNat = 0 by omega]
      simp
  have hn : FP.Core.val32 b ≠ .nan := by
    rw [hv]
    exact fun y => by cases y
  exact (FP.Core.val32_inj hn (by rw [h, hh])).symm
