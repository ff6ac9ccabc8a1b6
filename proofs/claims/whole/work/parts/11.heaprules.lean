/-! ===== classes: what the tables say of each ===== -/
def clOK (ci : Nat) (r : vw_C) : Prop := (∀ w ∈ u_ws r.1 r.2.1 r.2.2, w ∈ tbG) ∧ (∀ k, k < r.2.2 → parseFieldDescriptor (r.2.1 k).2.2.1 = some (tyo ci k)) ∧ (∀ a, a < r.2.2 → ∀ b, b < r.2.2 → a ≠ b → (r.2.1 a).2.1 ≠ (r.2.1 b).2.1) ∧ Cond.instantiable r.1 r.2.2 ∈ tbG ∧ Cond.initialized r.1 ∈ tbG
theorem clX0 : clOK 0 (RX0, TX0, 8) := ⟨all_tb (by decide +kernel), tyX0_ok, nmX0, mem_tb (by decide +kernel), mem_tb (by decide +kernel)⟩
theorem clX1 : clOK 1 (RX1, TX1, 7) := ⟨all_tb (by decide +kernel), tyX1_ok, nmX1, mem_tb (by decide +kernel), mem_tb (by decide +kernel)⟩
theorem clX3 : clOK 2 (RX3, TX3, 4) := ⟨all_tb (by decide +kernel), tyX3_ok, nmX3, mem_tb (by decide +kernel), mem_tb (by decide +kernel)⟩
theorem clX4 : clOK 3 (RX4, TX4, 9) := ⟨all_tb (by decide +kernel), tyX4_ok, nmX4, mem_tb (by decide +kernel), mem_tb (by decide +kernel)⟩
theorem clX5 : clOK 4 (RX5, TX5, 13) := ⟨all_tb (by decide +kernel), tyX5_ok, nmX5, mem_tb (by decide +kernel), mem_tb (by decide +kernel)⟩
theorem clX6 : clOK 5 (RX6, TX6, 3) := ⟨all_tb (by decide +kernel), tyX6_ok, nmX6, mem_tb (by decide +kernel), mem_tb (by decide +kernel)⟩
theorem clX7 : clOK 6 (RX7, TX7, 3) := ⟨all_tb (by decide +kernel), tyX7_ok, nmX7, mem_tb (by decide +kernel), mem_tb (by decide +kernel)⟩
theorem clX8 : clOK 7 (RX8, TX8, 9) := ⟨all_tb (by decide +kernel), tyX8_ok, nmX8, mem_tb (by decide +kernel), mem_tb (by decide +kernel)⟩
theorem clX9 : clOK 8 (RX9, TX9, 11) := ⟨all_tb (by decide +kernel), tyX9_ok, nmX9, mem_tb (by decide +kernel), mem_tb (by decide +kernel)⟩
theorem cls_ok : ∀ (ci : Nat) (r : vw_C), vwCl[ci]? = some r → clOK ci r
  | 0, _, h => by cases h; exact clX0
  | 1, _, h => by cases h; exact clX1
  | 2, _, h => by cases h; exact clX3
  | 3, _, h => by cases h; exact clX4
  | 4, _, h => by cases h; exact clX5
  | 5, _, h => by cases h; exact clX6
  | 6, _, h => by cases h; exact clX7
  | 7, _, h => by cases h; exact clX8
  | 8, _, h => by cases h; exact clX9
  | n + 9, _, h => by cases h
theorem cls_lt {ci : Nat} {r : vw_C} (h : vwCl[ci]? = some r) : ci < 9 := (List.getElem?_eq_some_iff.mp h).1
/-! ===== cells ===== -/
section CELLS
variable {G : GG} {s : State} {h h2 : AH} {H H2 : Heap} {a kd : Nat}
theorem Rp.live (r : Rp G s h H) (hka : hk h a = kd) (h99 : kd ≠ 99) (h19 : kd ≠ 19) : gB G ≤ a ∧ a < hz h ∧ ∃ cell, H[a]? = some cell ∧ cOK G h a cell := by
  obtain ⟨h1, h2, h3, h4, h5, h6, h7, h8, -⟩ := r
  rcases h6 a (by rw [hka]; exact h99) with e | ⟨e1, e2⟩
  · subst e
    exact absurd (hka.symm.trans h8) h19
  · exact ⟨e1, e2, h5 a e1 e2⟩
/-- one place of a cell is written -/
def upd1 (h h2 : AH) (a k : Nat) (v : Value) : Prop := h2.1 = h.1 ∧ h2.2.1 = h.2.1 ∧ (∀ a' ty k', ¬ (a' = a ∧ k' = k) → val h2 a' ty k' = val h a' ty k') ∧ (∀ a' k', a' ≠ a → hi h2 a' k' = hi h a' k') ∧ val h2 a (tyk (hk h a) k) k = v
theorem ixk_inj {args : Array Value} (hts : ∀ w ∈ tbG, w.before args s = true) (K : Kx G s) {r : vw_C} (hc : vwCl[kd]? = some r) : ∀ x y, x < r.2.2 → y < r.2.2 → x ≠ y → ixk G kd x ≠ ixk G kd y := by
  obtain ⟨c1, c2, c3, -⟩ := cls_ok kd r hc
  intro x y hx hy hne
  have hlt := cls_lt hc
  unfold ixk
  rw [if_pos hlt, if_pos hlt]
  exact va_apart (own := r.1) hts c1 (tyo kd) c2 c3 K.1 hc x y hx hy hne
theorem Rp.put {args : Array Value} (hts : ∀ w ∈ tbG, w.before args s = true) (K : Kx G s) (r : Rp G s h H) {k : Nat} {v : Value} (u : upd1 h h2 a k v) (hka : hk h a = kd) (h99 : kd ≠ 99) (h19 : kd ≠ 19) (hkn : k < hn h a) {cell : Cell} (hcell : H[a]? = some cell)
    (e : H2[a]? = some (cell.setSlot (ixk G kd k) v)) (z : H2.size = H.size) (oq : ∀ q, q ≠ a → H2[q]? = H[q]?) : Rp G s h2 H2 := by
  obtain ⟨u1, u2, u3, u4, u5⟩ := u
  obtain ⟨l1, l2, cl, hcl, ok⟩ := r.live hka h99 h19
  cases hcell.symm.trans hcl
  obtain ⟨p1, p2, p3, p4, p5, p6, p7, p8, p9, p10, p11⟩ := r
  have ehk : ∀ q, hk h2 q = hk h q := fun q => by unfold hk; rw [u2]
  have ehn : ∀ q, hn h2 q = hn h q := fun q => by unfold hn; rw [u2]
  have ehn' : hn h2 = hn h := funext ehn
  have ehz : hz h2 = hz h := u1
  refine ⟨by rw [z, ehz]; exact p1, by rw [ehz]; exact p2, by rw [ehz]; exact p3, by unfold us; rw [ehz, ehn']; exact p4, fun q q1 q2 => ?_, fun q hq => by rw [ehk] at hq; rw [ehz]; exact p6 q hq, p7, by rw [ehk]; exact p8, by rw [ehn]; exact p9, fun j => by rw [u4 _ _ (by omega)]; exact p10 j, va_X.kept p11 (oq _ (by omega))⟩
  rw [ehz] at q2
  by_cases hqa : q = a
  · subst hqa
    refine ⟨_, e, ?_⟩
    obtain ⟨o1, o2, o3, o4⟩ := ok
    refine ⟨o1, by rw [k2_slotsz, o2, ehn], ?_, fun j hj => ?_⟩
    · rw [ehk, ehn]
      exact o3
    · rw [ehk]
      rw [ehn] at hj
      by_cases hjk : j = k
      · subst hjk
        rw [u5]
        have hlt : ixk G kd j < cell.slots.size := by rw [← hka]; exact k2_hasslot (o4 j hj)
        rw [hka]
        simp [Cell.setSlot, hlt]
      · rw [u3 q _ j (fun z => hjk z.2)]
        have hne : ixk G kd k ≠ ixk G kd j := by
          rcases o3 with ⟨g1, g2, r, g3, g4⟩ | ⟨g1, g2, g3⟩
          · rw [hka] at g3
            exact ixk_inj hts K g3 k j (by rw [g4]; exact hkn) (by rw [g4]; exact hj) (fun z => hjk z.symm)
          · rw [hka] at g1
            unfold ixk
            rw [if_neg (by omega), if_neg (by omega)]
            exact fun z => hjk z.symm
        rw [hka] at o4 ⊢
        rw [← o4 j hj]
        simp [Cell.setSlot, hne]
  · obtain ⟨c2, f1, f2⟩ := p5 q q1 q2
    refine ⟨c2, by rw [oq q hqa]; exact f1, ?_⟩
    obtain ⟨o1, o2, o3, o4⟩ := f2
    refine ⟨o1, by rw [ehn]; exact o2, by rw [ehk, ehn]; exact o3, fun j hj => ?_⟩
    rw [ehk, u3 q _ j (fun z => hqa z.1)]
    exact o4 j (by rw [ehn] at hj; exact hj)
theorem upd_wi {k : Nat} {x : Int32} (hty : val (wi h a k x) a (tyk (hk h a) k) k = .int x) : upd1 h (wi h a k x) a k (.int x) := by
  refine ⟨rfl, rfl, fun a' ty k' hne => ?_, fun a' k' hne => ?_, hty⟩
  · cases ty <;> first | rfl | (show Value.int (up2 h.2.2.1 a k x a' k') = Value.int (h.2.2.1 a' k'); unfold up2; rw [if_neg hne])
  · show up2 h.2.2.1 a k x a' k' = h.2.2.1 a' k'
    unfold up2
    rw [if_neg (fun z => hne z.1)]
theorem upd_wq {k : Nat} {x : Option Nat} (hty : val (wq h a k x) a (tyk (hk h a) k) k = va_rf x) : upd1 h (wq h a k x) a k (va_rf x) := by
  refine ⟨rfl, rfl, fun a' ty k' hne => ?_, fun a' k' hne => rfl, hty⟩
  cases ty <;> first | rfl | (show va_rf (up2 h.2.2.2.1 a k x a' k') = va_rf (h.2.2.2.1 a' k'); unfold up2; rw [if_neg hne])
theorem upd_wl {k : Nat} {x : Int64} (hty : val (wl h a k x) a (tyk (hk h a) k) k = .long x) : upd1 h (wl h a k x) a k (.long x) := by
  refine ⟨rfl, rfl, fun a' ty k' hne => ?_, fun a' k' hne => rfl, hty⟩
  cases ty <;> first | rfl | (show Value.long (up2 h.2.2.2.2.1 a k x a' k') = Value.long (h.2.2.2.2.1 a' k'); unfold up2; rw [if_neg hne])
theorem upd_wf {k : Nat} {x : UInt32} (hty : val (wf h a k x) a (tyk (hk h a) k) k = .float x) : upd1 h (wf h a k x) a k (.float x) := by
  refine ⟨rfl, rfl, fun a' ty k' hne => ?_, fun a' k' hne => rfl, hty⟩
  cases ty <;> first | rfl | (show Value.float (up2 h.2.2.2.2.2 a k x a' k') = Value.float (h.2.2.2.2.2 a' k'); unfold up2; rw [if_neg hne])
theorem Kx.arr (K : Kx G s) (hkd : kd ∈ aks) {cell : Cell} (hc : cell.cls = gA G kd) (hv : cell.vm = .none) : s.isArrayOf cell (elt kd) := by
  have hm : (gA G kd, elt kd) ∈ tys G := List.mem_map.mpr ⟨kd, hkd, rfl⟩
  obtain ⟨i, hi⟩ := List.getElem?_of_mem hm
  have := (K.1.2 i _ hi).1 0 (fun _ => .null)
  obtain ⟨-, k, k1, comp, k2⟩ := this
  exact ⟨fun k0 z => (by rw [hv] at z; cases z), k, (by rw [hc]; exact k1), comp, k2⟩
end CELLS
