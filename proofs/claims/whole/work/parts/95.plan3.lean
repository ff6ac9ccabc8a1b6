/-! ===== plan: what holds while it goes on ===== -/
set_option maxRecDepth 100000 in
set_option maxHeartbeats 4000000 in
theorem gPut_comm {g : Nat → Int32} {s i t j : Nat} : gPut (gPut g t j (-1) (-1)) s i (-1) (-1) = gPut (gPut g s i (-1) (-1)) t j (-1) (-1) := by
  funext k
  unfold gPut upd0
  by_cases a : k = 5050 + 390 * s + (340 + i) <;> by_cases b : k = 5050 + 390 * s + (300 + i) <;> by_cases c : k = 5050 + 390 * t + (340 + j) <;> by_cases e : k = 5050 + 390 * t + (300 + j) <;> simp only [a, b, c, e, if_true, if_false] <;> simp
set_option maxRecDepth 100000 in
set_option maxHeartbeats 4000000 in
theorem up_put {g : Nat → Int32} {sq iq : Nat → Nat} {s i : Nat} {b p : Int32} (e1 : sl g s (300 + i) = -1) (e2 : sl g s (340 + i) = -1) : ∀ n, gPut (upN sq iq (gPut g s i b p) n) s i (-1) (-1) = upN sq iq g n
  | 0 => gPut_gPut.trans (gPut_id e1 e2)
  | n + 1 => by
    show gPut (gPut (upN sq iq (gPut g s i b p) n) (sq n) (iq n) (-1) (-1)) s i (-1) (-1) = gPut (upN sq iq g n) (sq n) (iq n) (-1) (-1)
    rw [gPut_comm, up_put e1 e2 n]
set_option maxRecDepth 100000 in
set_option maxHeartbeats 4000000 in
theorem upN_eq {sq iq sq2 iq2 : Nat → Nat} {g : Nat → Int32} : ∀ {n : Nat}, (∀ j, j < n → sq2 j = sq j ∧ iq2 j = iq j) → upN sq2 iq2 g n = upN sq iq g n
  | 0, _ => rfl
  | n + 1, h => by
    unfold upN
    rw [upN_eq (fun j hj => h j (by omega)), (h n (by omega)).1, (h n (by omega)).2]
def plT (nx n t : Nat) : Prop := puT t ∨ (t = 2300 + nx ∧ 0 < n)
/-- while plan goes on: g the state before, g1 now, n laid -/
def PlJ (G : GG) (ow : Nat → Nat) (h : AH) (y : Nat) (g ld wd : Nat → Int32) (nx la m : Nat) (g1 : Nat → Int32) (n : Nat) (sq iq : Nat → Nat) (h1 : AH) : Prop := Core ow h1 y g1 ld wd ∧ GI g1 ∧ Fr (plT nx n) ow h ow h1 ∧ (Ext h h1 ∧ hz h1 = hz h ∧ us G h1 = us G h) ∧ (ow la = 2300 + nx ∧ hk h1 la = 20 ∧ hn h1 la = m) ∧ (∀ j, j < n → hi h1 la j = nI (100 * sq j + iq j) ∧ sq j < nt (g 1) ∧ iq j < np g (sq j)) ∧ upN sq iq g1 n = g ∧ g1 1 = g 1 ∧ ∀ t, np g1 t = np g t
section PLAN3
variable {G : GG} {d : Nat} {h h1 h2 : AH} {Q : Option Value → AH → Prop} {ow o2 : Nat → Nat} {y kp nx la m n : Nat} {g g1 ld wd : Nat → Int32} {ps : Nat → Nat → Int32} {s i b p : Nat} {w : Int32} {sq iq : Nat → Nat}
set_option maxRecDepth 100000 in
set_option maxHeartbeats 4000000 in
theorem PlJ.put (J : PlJ G ow h y g ld wd nx la m g1 n sq iq h1) (hnx : nx < 16) (hs : s < nt (g 1)) (hi4 : i < np g s) (hon : sl g1 s (300 + i) = -1) (hb : b < nt (g1 0)) (f1 : p + nt (lenV g1 s i) ≤ nt (bl g1 b 1)) (f2 : ∀ k, p ≤ k → k < p + nt (lenV g1 s i) → liesV g1 (nI b) (nI k) = -1) (P : PuB G ow h1 y (gPut g1 s i (nI b) (nI p)) ld wd puT h2) : PlJ G ow h y g ld wd nx la m (gPut g1 s i (nI b) (nI p)) (n + 1) (fun j => if j = n then s else sq j) (fun j => if j = n then i else iq j) (wi h2 la n (nI (100 * s + i))) := by
  obtain ⟨J1, J2, J3, ⟨J4, J5, J6⟩, ⟨J7, J8, J9⟩, J10, J11, J12, J13⟩ := J
  obtain ⟨P1, P2, P3, P4, P5⟩ := P
  have hs1 : s < nt (g1 1) := by rw [J12]; exact hs
  have hi1 : i < np g1 s := by rw [J13]; exact hi4
  have I2 := GI_put J2 hs1 hi1 (Or.inr ⟨b, p, rfl, rfl, hb, f1, hon, f2⟩)
  have i40 : i < 40 := Nat.lt_of_lt_of_le hi1 ((J2.2.2.1 s hs1).1.2.2.2.2.1)
  have Fw : Fr (fun t => t = 2300 + nx) ow h2 ow (wi h2 la n (nI (100 * s + i))) := Fr.wi J7
  have ql := P2.at_ J7 (by omega) (fun z => by unfold puT at z; omega)
  refine ⟨P1.frame I2.gw Fw (fun t ht => by omega) (Ext.wi _ _ _ _) P1.1 To.rf, I2, ?_, ⟨J4.tr (P3.tr (Ext.wi _ _ _ _)), P4.trans J5, P5.trans J6⟩, ⟨J7, ql.2.1.trans J8, ql.2.2.1.trans J9⟩, fun j hj => ?_, ?_, ?_, fun t => ?_⟩
  · exact (J3.mono (fun t ht => by unfold plT at ht ⊢; rcases ht with z | z; exact Or.inl z; exact Or.inr ⟨z.1, by omega⟩)).tr ((P2.mono (fun t ht => Or.inl ht)).tr (Fw.mono (fun t ht => Or.inr ⟨ht, by omega⟩)))
  · have ei : hi (wi h2 la n (nI (100 * s + i))) la = upd0 (hi h2 la) n (nI (100 * s + i)) := up2_at ..
    rw [ei]
    by_cases z : j = n
    · subst z
      rw [upd0_same]
      show _ = nI (100 * (if j = j then s else sq j) + (if j = j then i else iq j)) ∧ (if j = j then s else sq j) < _ ∧ (if j = j then i else iq j) < np g (if j = j then s else sq j)
      rw [if_pos rfl, if_pos rfl]
      exact ⟨rfl, hs, hi4⟩
    · rw [upd0_ne z, ql.2.2.2.1]
      show _ = nI (100 * (if j = n then s else sq j) + (if j = n then i else iq j)) ∧ (if j = n then s else sq j) < _ ∧ (if j = n then i else iq j) < np g (if j = n then s else sq j)
      rw [if_neg z, if_neg z]
      exact J10 j (by omega)
  · unfold upN
    rw [upN_eq (sq := sq) (iq := iq) (fun j hj => ⟨if_neg (by omega), if_neg (by omega)⟩), if_pos rfl, if_pos rfl, up_put hon ((J2.2.2.1 s hs1).2.2.2.2.2.1 i hi1 hon)]
    exact J11
  · rw [gPut_lo _ _ _ _ _ (by omega), J12]
  · rw [np_lo (gPut_SE _ _ _ i40 t), J13]
set_option maxRecDepth 100000 in
set_option maxHeartbeats 4000000 in
theorem lo_mono (g : Nat → Int32) : ∀ {a c : Nat}, a ≤ c → loN2 g a ≤ loN2 g c := fun {a c} hac => by
  induction c with
  | zero => rw [show a = 0 by omega]; exact Nat.le_refl _
  | succ c ih =>
    by_cases z : a = c + 1
    · rw [z]; exact Nat.le_refl _
    · exact Nat.le_trans (ih (by omega)) (by show loN2 g c ≤ loN2 g c + _; omega)
set_option maxRecDepth 100000 in
set_option maxHeartbeats 4000000 in
/-- once a piece is stuck, both loops end -/
theorem l_plan_stuck {c ns m0 : Nat} (ky : hk h1 y = 7) (e3 : hi h1 y 3 = nI ns) (hns : ns ≤ 10) (hs : s < 10) (hm0 : m0 ≤ 40) (hi4 : i < 40) (hc : c < 2 ^ 31) (k : Rn G d mX8_plan 136 [(0, .ref y), (2, .ref la), (3, .int (nI n)), (4, .int (nI c))] [] h1 Q) : Rn G d mX8_plan 124 [(0, .ref y), (2, .ref la), (3, .int (nI n)), (4, .int (nI c)), (5, .int (nI s)), (6, .int (nI m0)), (7, .int (nI i))] [] h1 Q := by
  have k28 : Rn G d mX8_plan 28 [(0, .ref y), (2, .ref la), (3, .int (nI n)), (4, .int (nI c)), (5, .int (nI (s + 1)))] [] h1 Q := by
    refine x_iload eX8_plan_28 rfl ?_
    first | refine x_aload_n eX8_plan_30 rfl rfl ?_ | refine x_aload_nN eX8_plan_30 rfl rfl ?_
    first | refine x_getIe eX8_plan_31 fk_X8_25 (by decide) (by assumption) (by assumption) ?_ | refine x_getI eX8_plan_31 fk_X8_25 (by decide) (by assumption) ?_
    first | refine x_icmp_geN (tgt := 136) eX8_plan_34 (by decide) (by with_reducible rfl) (by with_reducible rfl) (by omega) (by omega) (fun cq1 => ?_) (fun cq1 => ?_) | refine x_icmp_ge (tgt := 136) eX8_plan_34 (by decide) (fun cq1 => ?_) (fun cq1 => ?_)
    · refine Rn.weak (k) (by repeat' first | exact fun _ h => absurd h List.not_mem_nil | refine List.forall_mem_cons.mpr ⟨rfl, ?_⟩)
    · refine x_iload eX8_plan_37 rfl ?_
      refine x_iconst (v := (-1)) eX8_plan_39 (by decide) ?_
      first | refine x_icmp_neN (tgt := 136) eX8_plan_40 (by decide) (by with_reducible rfl) (by with_reducible rfl) (by omega) (by omega) (fun cq2 => ?_) (fun cq2 => ?_) | refine x_icmp_ne (tgt := 136) eX8_plan_40 (by decide) (fun cq2 => ?_) (fun cq2 => ?_)
      · refine Rn.weak (k) (by repeat' first | exact fun _ h => absurd h List.not_mem_nil | refine List.forall_mem_cons.mpr ⟨rfl, ?_⟩)
      · exact absurd cq2 (nI_m1 hc)
  have k130 : Rn G d mX8_plan 130 [(0, .ref y), (2, .ref la), (3, .int (nI n)), (4, .int (nI c)), (5, .int (nI s))] [] h1 Q := by
    first | refine x_iincN eX8_plan_130 rfl (by with_reducible rfl) (by decide) rfl rfl ?_ | refine x_iinc eX8_plan_130 rfl rfl (by decide) rfl rfl ?_
    refine x_goto (tgt := 28) eX8_plan_133 (by decide) ?_
    refine Rn.weak (k28) (by repeat' first | exact fun _ h => absurd h List.not_mem_nil | refine List.forall_mem_cons.mpr ⟨rfl, ?_⟩)
  have k54 : Rn G d mX8_plan 54 [(0, .ref y), (2, .ref la), (3, .int (nI n)), (4, .int (nI c)), (5, .int (nI s)), (6, .int (nI m0)), (7, .int (nI (i + 1)))] [] h1 Q := by
    refine x_iload eX8_plan_54 rfl ?_
    refine x_iload eX8_plan_56 rfl ?_
    first | refine x_icmp_geN (tgt := 130) eX8_plan_58 (by decide) (by with_reducible rfl) (by with_reducible rfl) (by omega) (by omega) (fun cq1 => ?_) (fun cq1 => ?_) | refine x_icmp_ge (tgt := 130) eX8_plan_58 (by decide) (fun cq1 => ?_) (fun cq1 => ?_)
    · refine Rn.weak (k130) (by repeat' first | exact fun _ h => absurd h List.not_mem_nil | refine List.forall_mem_cons.mpr ⟨rfl, ?_⟩)
    · refine x_iload eX8_plan_61 rfl ?_
      refine x_iconst (v := (-1)) eX8_plan_63 (by decide) ?_
      first | refine x_icmp_neN (tgt := 130) eX8_plan_64 (by decide) (by with_reducible rfl) (by with_reducible rfl) (by omega) (by omega) (fun cq2 => ?_) (fun cq2 => ?_) | refine x_icmp_ne (tgt := 130) eX8_plan_64 (by decide) (fun cq2 => ?_) (fun cq2 => ?_)
      · refine Rn.weak (k130) (by repeat' first | exact fun _ h => absurd h List.not_mem_nil | refine List.forall_mem_cons.mpr ⟨rfl, ?_⟩)
      · exact absurd cq2 (nI_m1 hc)
  first | refine x_iincN eX8_plan_124 rfl (by with_reducible rfl) (by decide) rfl rfl ?_ | refine x_iinc eX8_plan_124 rfl rfl (by decide) rfl rfl ?_
  refine x_goto (tgt := 54) eX8_plan_127 (by decide) ?_
  refine Rn.weak (k54) (by repeat' first | exact fun _ h => absurd h List.not_mem_nil | refine List.forall_mem_cons.mpr ⟨rfl, ?_⟩)
end PLAN3

