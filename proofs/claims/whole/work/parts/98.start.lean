/-! THE CLAIM OUT OF ONE WALK OF THE LAW'S BODY. Your part is whole_start (and what it stands on); all else here is the same for every law, but numbers. -/
def R_law : String := "SailLoftLaw"
def lw_P (b : Addr) (xs : List Int32) (args : Array Value) (s : State) : Prop := args = #[.ref b] ∧ s.IntsAt b xs ∧ xs.length ≤ 3072 ∧ (Jvm.Cond.and given_1 narrow_1).before args s = true
/-- what a walk over the start with the record d0 says of its end, said of the start itself -/
theorem lw_closed {s t : State} {o : Outcome} {d0 : Drawn} {L : List Loc} {k n : Nat} (hd0 : s.drawn.sameBut d0 lw_cs) (hv : ∃ v, o = .returned v) (hW : (s.setDrawn d0).WarmedH t.vm) (hs : (s.setDrawn d0).sameButNew ({ t with vm := s.vm } : State) L k n) : State.butDraws s t lw_cs (fun t1 => Framed s o t1 L k n) := by
  have h2 : t.drawn = d0 := congrArg State.drawn hs.1
  refine ⟨⟨hv, hW, State.sameButNew.setDrawn hs s.drawn⟩, ?_, by decide⟩
  rw [h2]
  exact hd0
def lw_Q (_ : Array Value) (s : State) (o : Outcome) (t : State) : Prop := o = .returned (some (.int 1)) ∧ State.butDraws s t lw_cs (fun t1 => Framed s o t1 [] 600000 7302250)
def lw_Z (below : List Frame) (a : Array Value) (s : State) : State → Prop := fun t => ∃ o, t.status = .running ∧ Ended t below o ∧ lw_Q a s o t
/-- the law's own end, with 1 on the stack, nothing written that was there before, its room as the claim has it; d0: the record of draws at this point (at the entry s.drawn: begin with 'refine W.base ?_' and 'have hd0 := Drawn.sameBut.refl s.drawn lw_cs') -/
theorem lw_ret {p : Program} {l : Launch} {e : Env} {s : State} {m : MethodId} {below : List Frame} {meth : Method} {c : Code} {b : Nat} {d0 : Drawn} (hd0 : s.drawn.sameBut d0 lw_cs) (hx : p.tables.exec = Jvm.exec) (hb : c.code = code) (hr : meth.sig.returnType = ret) (hlocks : meth.locks = false) {pc : Nat} {H : Heap} {ls : Array Slot} (hdg : decode code pc = .ok (.ireturn, 1)) : W p l e room_1 (s.setDrawn d0) m #[Value.ref b] below meth c H [] 600000 7302250 (lw_Z below #[Value.ref b] s) (F0 m pc ls [.int 1]) := by
  intro T hT X
  obtain ⟨fs, hret, hrun, hended, hW, hframe⟩ := X.leave (v := some (.int 1)) (hlocks := hlocks) (fun h => by rw [hr] at h; cases h)
  have hmeth' : T.vm.method? m = some meth := X.method'
  refine ⟨T.setFrames fs, ?_, .returned (some (.int 1)), hrun, hended, rfl, lw_closed hd0 ⟨_, rfl⟩ hW hframe⟩
  jvm_step X.here [X.here.top, hx, hb, hdg, hmeth', hr, ret, narrow_b1]
  (try refine ⟨rfl, ?_⟩); (try refine ⟨rfl, ?_⟩)
  first | (intro acts; rw [hret _ acts rfl rfl rfl]) | rw [hret _ _ rfl rfl rfl]
  exact Steps.refl _
/-- what holds at the law's entry: the machine, the code, the tables' words (any of lw_tbl by 'hts w (by decide +kernel)'), the script of L ints xs at the cell b, what the Statement gives of the start (any of its parts by flat_of_before) -/
def lw_At (p : Program) (s : State) (m : MethodId) (meth : Method) (c : Code) (b L : Nat) (xs : Nat → Int32) : Prop :=
  p.tables.exec = Jvm.exec ∧ c.code = code ∧ meth.sig.returnType = ret ∧ c.maxLocals = 4 ∧ s.vm.findClass R_law = some m.cls ∧ (∀ w ∈ lw_tbl, w.before #[Value.ref b] s = true) ∧ va_X b L xs s s.heap ∧ b < s.heap.size ∧ meth.locks = false ∧ (Jvm.Cond.and given_1 narrow_1).before #[Value.ref b] s = true
-- ===== YOUR PART BEGINS =====
/-! ===== the law's start: what the tables give; the law's run gives the claim ===== -/
def h00 (B b L : Nat) (xs : Nat → Int32) : AH := (B, (fun a => if a = b then (19, L) else (99, 0)), (fun a k => if a = b then xs k else 0), (fun _ _ => none), (fun _ _ => 0), (fun _ _ => 0))
theorem kx_start {s : State} {av : Array Value} (hts : ∀ w ∈ lw_tbl, w.before av s = true) : ∃ (D : va_G) (dA : Nat → ClassId), va_K D vwCl (aks.map fun k => (dA k, elt k)) s ∧ (∀ w ∈ nests, va_Nw w s) ∧ va_AO RX0 s ∧ va_AO RX1 s ∧ va_AO RX4 s ∧ va_AO RX5 s := by
  have htg : ∀ w ∈ tbG, w.before av s = true := fun w h => hts w (tbG_sub w h)
  have hc : ∀ c : Nat, ∃ q : ClassId × (Nat → Nat), ∀ r, vwCl[c]? = some r → u_Kn s r.1 r.2.1 r.2.2 q.1 q.2 := by
    intro c
    cases h : vwCl[c]? with
    | none => exact ⟨(0, fun _ => 0), fun r hr => by cases hr⟩
    | some r =>
      obtain ⟨k1, k2, k3, k4, k5⟩ := cls_ok c r h
      obtain ⟨cC, iS, hK⟩ := u_known htg k1 (htg _ k4)
      exact ⟨(cC, iS), fun r' hr => by cases hr; exact hK⟩
  have ho : ∀ C : String, Cond.arrayOver (.object C) ∈ lw_tbl → va_AO C s ∧ ∃ cA, ArrOfT s cA (.object C) ∧ va_RA s cA (.object C) := by
    intro C hC
    have h := va_AO.of (hts _ hC)
    refine ⟨h, ?_⟩
    obtain ⟨comp, c, k, h1, h2, h3, h4, h5⟩ := Cond.arrayOver_spec h
    exact ⟨c, fun N z => ⟨(fun k h => by cases h), k, h3, comp, h4⟩, k, comp, h3, h4, h1, h5⟩
  have hp : ∀ ty : FieldType, Cond.arrayClass ty ∈ lw_tbl → ∃ cA, ArrOfT s cA ty ∧ s.vm.findClass ("[" ++ ty.toString) = some cA := by
    intro ty hty
    obtain ⟨cA, kA, comp, h1, h2, h3⟩ := Cond.arrayClass_spec (hts _ hty)
    exact ⟨cA, fun N z => ⟨(fun k h => by cases h), kA, h2, comp, h3⟩, h1⟩
  have ha : ∀ kd : Nat, ∃ cA : ClassId, kd ∈ aks → ArrOfT s cA (elt kd) ∧ va_RA s cA (elt kd) := by
    intro kd
    by_cases hk : kd ∈ aks
    · simp only [aks, List.mem_cons, List.not_mem_nil, or_false] at hk
      rcases hk with rfl | rfl | rfl | rfl | rfl | rfl | rfl | rfl | rfl
      · obtain ⟨cA, h1, h2⟩ := hp .int (by decide +kernel); exact ⟨cA, fun _ => ⟨h1, h2⟩⟩
      · obtain ⟨cA, h1, h2⟩ := hp .byte (by decide +kernel); exact ⟨cA, fun _ => ⟨h1, h2⟩⟩
      · obtain ⟨cA, h1, h2⟩ := hp .short (by decide +kernel); exact ⟨cA, fun _ => ⟨h1, h2⟩⟩
      · obtain ⟨cA, h1, h2⟩ := hp .long (by decide +kernel); exact ⟨cA, fun _ => ⟨h1, h2⟩⟩
      · obtain ⟨cA, h1, h2⟩ := hp .boolean (by decide +kernel); exact ⟨cA, fun _ => ⟨h1, h2⟩⟩
      · obtain ⟨-, cA, h1, h2⟩ := ho RX0 (by decide +kernel); exact ⟨cA, fun _ => ⟨h1, h2⟩⟩
      · obtain ⟨-, cA, h1, h2⟩ := ho RX1 (by decide +kernel); exact ⟨cA, fun _ => ⟨h1, h2⟩⟩
      · obtain ⟨-, cA, h1, h2⟩ := ho RX4 (by decide +kernel); exact ⟨cA, fun _ => ⟨h1, h2⟩⟩
      · obtain ⟨-, cA, h1, h2⟩ := ho RX5 (by decide +kernel); exact ⟨cA, fun _ => ⟨h1, h2⟩⟩
    · exact ⟨0, fun h => absurd h hk⟩
  refine ⟨(fun c => (Classical.choose (hc c)).1, fun c => (Classical.choose (hc c)).2), fun kd => Classical.choose (ha kd), ⟨fun c q hq => Classical.choose_spec (hc c) q hq, fun k q hq => ?_⟩, fun w hw => ?_, (ho RX0 (by decide +kernel)).1, (ho RX1 (by decide +kernel)).1, (ho RX4 (by decide +kernel)).1, (ho RX5 (by decide +kernel)).1⟩
  · obtain ⟨kd, hkd, rfl⟩ := List.mem_map.mp (List.mem_of_getElem? hq)
    exact Classical.choose_spec (ha kd) hkd
  · have hz := hts w (tb_nests w hw)
    simp only [nests, List.mem_cons, List.not_mem_nil, or_false] at hw
    rcases hw with rfl | rfl | rfl <;> exact va_Nw.of rfl hz
/-- the law's run, told over the abstract heap -/
def LawRun : Prop := ∀ (G : GG), gb G < gB G → gL G ≤ 3072 → Rn G 10 mL_law 0 [(0, .ref (gb G))] [] (h00 (gB G) (gb G) (gL G) (gx G)) (fun r _ => r = some (.int 1))
set_option maxRecDepth 100000 in
set_option maxHeartbeats 4000000 in
theorem whole_start_of (LR : LawRun) {p : Program} {e : Env} {s : State} {m : MethodId} {below : List Frame} {meth : Method} {c : Code} (l : Launch) {b L : Nat} {xs : Nat → Int32} (hL : L ≤ 3072) (C0 : lw_At p s m meth c b L xs) : W p l e room_1 s m #[Value.ref b] below meth c s.heap [] 0 0 (lw_Z below #[Value.ref b] s) (entryFrame m ([Value.ref b] : List Value).toArray 4) := by
  obtain ⟨hx, hb, hr, hml, hown, hts, hX, hbl, hlocks, hgv⟩ := id C0
  obtain ⟨D, dA, hK⟩ := kx_start hts
  have hd0 := Drawn.sameBut.refl s.drawn lw_cs
  have hl := lv_entry ([.ref b]) (n := 4) (Nat.le_of_ble_eq_true rfl)
  rw [lg_entry_eq]
  generalize (lg_sl ([.ref b]) ++ List.replicate (4 - (lg_sl ([.ref b])).length) Slot.unset).toArray = ls at hl ⊢
  have hl : lk_has ls 4 [(0, .ref b)] := lk_of hl
  have hnm : mL_law.1.name = "<init>" → meth.name = "<init>" := fun z => absurd z (by decide)
  have rp : Rp (s.heap.size, b, L, xs, D, dA) s (h00 s.heap.size b L xs) s.heap := by
    refine ⟨rfl, Nat.le_refl _, Nat.le_add_right _ _, ?_, fun a a1 a2 => absurd a2 (Nat.not_lt.mpr a1), fun a ha => ?_, hbl, by unfold hk h00; show (if b = b then (19, L) else (99, 0) : Nat × Nat).1 = 19; rw [if_pos rfl], by unfold hn h00; show (if b = b then (19, L) else (99, 0) : Nat × Nat).2 = L; rw [if_pos rfl], fun j => by unfold hi h00; show (if b = b then xs j else 0) = xs j; rw [if_pos rfl], hX⟩
    · unfold us
      show psum _ _ (s.heap.size - s.heap.size) ≤ _
      rw [Nat.sub_self]
      exact Nat.zero_le _
    · left
      by_cases z : a = b
      · exact z
      · exact absurd (show hk (h00 s.heap.size b L xs) a = 99 by unfold hk h00; show (if a = b then _ else (99, 0) : Nat × Nat).1 = 99; rw [if_neg z]) ha
  have w := LR (s.heap.size, b, L, xs, D, dA) hbl hL p l e room_1 s m #[Value.ref b] below meth c s.heap [] (lw_Z below #[Value.ref b] s) s.drawn ls
    ⟨⟨hx, hb, hr, hlocks, hml, hown, hnm, fun w h => hts w (tbG_sub w h), hK, by decide, by decide⟩, hd0, hl, Nat.le_refl _, Nat.le_refl _, Nat.le_refl _, Nat.le_add_left _ _, rp, fun q hq => absurd hq List.not_mem_nil⟩ ?_
  · unfold Wn at w
    have e0 : hz (h00 s.heap.size b L xs) - s.heap.size = 0 := Nat.sub_self _
    rw [show hz (h00 (gB (s.heap.size, b, L, xs, D, dA)) (gb (s.heap.size, b, L, xs, D, dA)) (gL (s.heap.size, b, L, xs, D, dA)) (gx (s.heap.size, b, L, xs, D, dA))) - s.heap.size = 0 from e0] at w
    exact w
  · intro r h' H' locs' d1 pc' ls' x1 x2 x3 x4 x5 x6
    subst x5
    have y3 := x2.2.2.1
    have y4 := x2.2.2.2.1
    have hsp := us_split (G := (s.heap.size, b, L, xs, D, dA)) (h := h') (S := s.heap.size) (Nat.le_refl _) x1.1
    have hgB : gB (s.heap.size, b, L, xs, D, dA) = s.heap.size := rfl
    rw [hgB] at y3 hsp
    refine va_forget (s := s.setDrawn d1) x3 ?_
    refine W.widen (k := 600000) (n := 7302250) (by omega) (by omega) ?_
    exact lw_ret x4 hx hb hr hlocks x6.1
