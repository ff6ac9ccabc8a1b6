/-! ===== Float.intBitsToFloat: of a signalling NaN the machine draws ===== -/
def nanCopy : Choice := .named "NaN.copy"
section NAT
variable {p : Program} {la : Launch} {e : Env} {R : Room} {s : State} {m : MethodId} {args : Array Value} {below : List Frame} {meth : Method} {c : Code} {locs : List Loc} {cells slots : Nat}
theorem nat_steps {s target : State} {g : JFrame} {m : MethodId} {k : Class} {ig : Instr} {len : Nat} (p : Program) (h : At s g.method c below) (acts : List Action) (N : NativeOf s.vm m k meth "java/lang/Float" "intBitsToFloat" "(I)F" true [.int]) (v : Int32)
    (hroom : e.platform.stackFull (((s.setTop g).threads[(s.setTop g).cur]?).getD { frames := [] }) (s.setTop g).frames (nativeFrameWords "java/lang/Float" "intBitsToFloat" 1) = false)
    (hv : (v.toUInt32 &&& 0x7fffffff > 0x7f800000 && v.toUInt32 &&& 0x00400000 == 0) = true) (hdg : decode c.code g.pc = .ok (ig, len))
    (hrest : Steps p.tables e below ((s.draw nanCopy).setTop { g with pc := g.pc + len, stack := .float (if e.choices nanCopy (s.drawn.count nanCopy) % 2 == 0 then v.toUInt32 else v.toUInt32 ||| 0x00400000) :: g.stack }) target) :
    Steps p.tables e below (doInvoke e (s.setTop g) acts m #[.int v]).1 target := by
  have hseen : seenByNative meth #[.int v] = #[.int v] := by simp [seenByNative, N.static, N.sig, narrow]
  refine Steps.nativeEnds (row := Native.java_lang_Float.bits.rowIntBitsToFloat) (v := some (.float (if e.choices nanCopy (s.drawn.count nanCopy) % 2 == 0 then v.toUInt32 else v.toUInt32 ||| 0x00400000))) (T := fun u => u.draw nanCopy) h acts N.cls N.meth N.boot N.native N.noCode N.noLock
    (by rw [N.className, N.name, N.desc]; exact intBitsToFloat_row p) (by rw [N.className, N.name]; exact hroom) (fun _ => rfl) rfl (fun _ => h.code) ?_ hdg hrest
  intro Q hq
  rw [hseen] at hq ⊢
  rw [Native.java_lang_Float.bits.intBitsToFloat_on]
  simp only [hv, if_true, wp_bind', Jvm.W.choose, W.mark, wp_pure']
  exact hq _ _
theorem nat_sig {T : State} (X : Stand p la e R s m args below meth c T locs cells slots) (hexec : p.tables.exec = Jvm.exec) {own : String} {index : Nat} (hown : s.vm.findClass own = some m.cls) (hlink : (Cond.methodLink own index yi2f).before args s = true) (hnat : (Cond.native yi2f).before args s = true) (hstat : (Cond.static yi2f).before args s = true) (hinit : (Cond.initialized "java/lang/Float").before args s = true)
    {g : JFrame} (hg : g.method = m) (hsize : g.locals.size = c.maxLocals) {rest : List Value} {b : Int32} (hv : vn_sni2f b = true) (hstack : g.stack = .int b :: rest) (hdg : decode c.code g.pc = .ok (.invokestatic index, 3)) (hframes : 1 ≤ R.frames) (hlocals : 2 * g.monitorRoom + (rest.map fun v => v.category).sum + (nativeFrameWords "java/lang/Float" "intBitsToFloat" 1 + 11) ≤ R.locals) :
    ∃ (vm' : Vm) (r : UInt32), (r = b.toUInt32 ∨ r = b.toUInt32 ||| 0x00400000) ∧ Stand p la e R (s.setDrawn (T.drawn.next nanCopy)) m args below meth c ((T.setVm vm').setDrawn (T.drawn.next nanCopy)) locs cells slots ∧ ∀ target, Steps p.tables e below (((T.setVm vm').setDrawn (T.drawn.next nanCopy)).setTop { g with pc := g.pc + 3, stack := .float r :: rest }) target → Steps p.tables e below (T.setTop g) target := by
  obtain ⟨r, kS, methS, hnS, hmS, hkS, N⟩ := NativeOf.of_static hnat hstat (ps := [.int]) (ret := some .float) (by decide +kernel)
  have hinitS : kS.init = .initialized := Cond.initialized_spec (findClass_of_methodNamed hnS) hkS hinit
  obtain ⟨vm', X', step⟩ := X.invokestatic hexec hown hlink hnS hmS N.static hkS hinitS (by decide) hg (argsL := [.int b]) (rest := rest) (by rw [N.sig]; rfl) hstack hdg
  refine ⟨vm', if e.choices nanCopy (T.drawn.count nanCopy) % 2 == 0 then b.toUInt32 else b.toUInt32 ||| 0x00400000, ?_, X'.drew _, fun target hrest => step target fun acts => ?_⟩
  · by_cases hc : (e.choices nanCopy (T.drawn.count nanCopy) % 2 == 0) = true
    · exact Or.inl (if_pos hc)
    · exact Or.inr (if_neg hc)
  · subst hg
    obtain ⟨kS', N'⟩ := N.alike X'.warmed.alike
    exact nat_steps (g := { g with stack := rest }) (ig := .invokestatic index) (len := 3) p X'.here acts N' b (X'.notFull (g := { g with stack := rest }) hsize (vars := nativeFrameWords "java/lang/Float" "intBitsToFloat" 1) hframes hlocals) hv hdg hrest
end NAT
section NAT2
variable {G : GG} {d : Nat} {mi : MI} {pc : Nat} {l l' : List (Nat × Value)} {st st2 : List Value} {h h2 : AH} {Q : Option Value → AH → Prop}
theorem x_i2f {idx : Nat} {b : Int32} (hd : decode mi.2.1 pc = .ok (.invokestatic idx, 3)) (hws : ∀ w ∈ ([.methodLink mi.1.cls idx yi2f, .native yi2f, .static yi2f, .initialized "java/lang/Float"] : List Cond), w ∈ tbG) (hst : (st.map fun v => v.category).sum ≤ 8)
    (k1 : vn_sni2f b = false → Rn G (d + 1) mi (pc + 3) l (.float b.toUInt32 :: st) h Q) (k2 : ∀ r : UInt32, vn_sni2f b = true → (r = b.toUInt32 ∨ r = b.toUInt32 ||| 0x00400000) → Rn G (d + 1) mi (pc + 3) l (.float r :: st) h Q) : Rn G (d + 1) mi pc l (.int b :: st) h Q := by
  intro p la e R s m args below meth c H locs QF d0 ls C K
  obtain ⟨-, -, -, -, hml, -, -, -, -, q1, q2⟩ := C.1
  have w1 := C.hts _ (hws (.methodLink mi.1.cls idx yi2f) List.mem_cons_self)
  have w2 := C.hts _ (hws (.native yi2f) (List.mem_cons_of_mem _ List.mem_cons_self))
  have w3 := C.hts _ (hws (.static yi2f) (List.mem_cons_of_mem _ (List.mem_cons_of_mem _ List.mem_cons_self)))
  have w4 := C.hts _ (hws (.initialized "java/lang/Float") (List.mem_cons_of_mem _ (List.mem_cons_of_mem _ (List.mem_cons_of_mem _ List.mem_cons_self))))
  have hml2 : c.maxLocals = ls.size := by rw [hml]; exact C.has.1.symm
  cases hv : vn_sni2f b with
  | false => exact vn_i2f C.hx C.hb hml2 C.own w1 w2 w3 w4 hv (by omega) (by omega) hd (k1 hv p la e R s m args below meth c H locs QF d0 ls C K)
  | true =>
    intro T hT X
    obtain ⟨vm', r, hr, X', go⟩ := nat_sig (s := s.setDrawn d0) X C.hx C.own w1 w2 w3 w4 (g := F0 m pc ls (.int b :: st)) rfl hml2.symm hv rfl (by rw [C.hb]; exact hd) (by omega) (by show 2 * 0 + _ + _ ≤ _; have hw : nativeFrameWords "java/lang/Float" "intBitsToFloat" 1 = 3 := (by decide); omega)
    have hdr : T.drawn = d0 := X.drawn_eq
    have hsb : s.drawn.sameBut (T.drawn.next nanCopy) lw_cs := by
      rw [hdr]
      exact Drawn.sameBut.trans C.2.1 (Drawn.sameBut.mono (Drawn.next_named d0 "NaN.copy") (fun c hc => by
        simp only [List.mem_cons, List.not_mem_nil, or_false] at hc
        rw [hc]; simp [lw_cs]))
    have ctx : Ctx G (d + 1) mi l h p R s m args meth c H locs (T.drawn.next nanCopy) ls := ⟨C.1, hsb, C.2.2⟩
    obtain ⟨t, a1, b1⟩ := k2 r hv hr p la e R s m args below meth c H locs QF (T.drawn.next nanCopy) ls ctx K ((T.setVm vm').setDrawn (T.drawn.next nanCopy)) hT X'
    exact ⟨t, go t a1, b1⟩
end NAT2
