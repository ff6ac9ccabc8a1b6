section MATH
variable {G : GG} {d : Nat} {mi : MI} {pc : Nat} {l l' : List (Nat × Value)} {st st2 : List Value} {h h2 : AH} {Q : Option Value → AH → Prop}
theorem x_max {idx : Nat} {x y : Int32} (hd : decode mi.2.1 pc = .ok (.invokestatic idx, 3)) (hws : ∀ w ∈ ([.methodLink mi.1.cls idx Lib.Math.max.name, .static Lib.Math.max.name, .initialized "java/lang/Math", .code Lib.Math.max.name Lib.Math.max.code 2 (some .int)] : List Cond), w ∈ tbG) (hst : (st.map fun v => v.category).sum ≤ 8)
    (kk : Rn G (d + 1) mi (pc + 3) l (.int (if x < y then y else x) :: st) h Q) : Rn G (d + 1) mi pc l (.int y :: .int x :: st) h Q := by
  intro p la e R s m args below meth c H locs QF d0 ls C K
  obtain ⟨-, -, -, -, hml, -, -, -, -, q1, q2⟩ := C.1
  have w1 := C.hts _ (hws _ List.mem_cons_self)
  have w2 := C.hts _ (hws _ (List.mem_cons_of_mem _ List.mem_cons_self))
  have w3 := C.hts _ (hws _ (List.mem_cons_of_mem _ (List.mem_cons_of_mem _ List.mem_cons_self)))
  have w4 := C.hts _ (hws _ (List.mem_cons_of_mem _ (List.mem_cons_of_mem _ (List.mem_cons_of_mem _ List.mem_cons_self))))
  have hml2 : c.maxLocals = ls.size := by rw [hml]; exact C.has.1.symm
  obtain ⟨-, -, -, c4, c5, c6, c7, c8, -⟩ := id C
  have hsp := us_split (G := G) (h := h) c4 c5
  have r2 := c8.2.2.1
  have r3 := c8.2.2.2.1
  exact va_mmax C.hx C.hb hml2 C.own w1 w2 w3 w4 (by omega) (by omega) (by omega) (by omega) hd (kk p la e R s m args below meth c H locs QF d0 ls C K)
theorem x_min {idx : Nat} {x y : Int32} (hd : decode mi.2.1 pc = .ok (.invokestatic idx, 3)) (hws : ∀ w ∈ ([.methodLink mi.1.cls idx Lib.Math.min.name, .static Lib.Math.min.name, .initialized "java/lang/Math", .code Lib.Math.min.name Lib.Math.min.code 2 (some .int)] : List Cond), w ∈ tbG) (hst : (st.map fun v => v.category).sum ≤ 8)
    (kk : Rn G (d + 1) mi (pc + 3) l (.int (if y < x then y else x) :: st) h Q) : Rn G (d + 1) mi pc l (.int y :: .int x :: st) h Q := by
  intro p la e R s m args below meth c H locs QF d0 ls C K
  obtain ⟨-, -, -, -, hml, -, -, -, -, q1, q2⟩ := C.1
  have w1 := C.hts _ (hws _ List.mem_cons_self)
  have w2 := C.hts _ (hws _ (List.mem_cons_of_mem _ List.mem_cons_self))
  have w3 := C.hts _ (hws _ (List.mem_cons_of_mem _ (List.mem_cons_of_mem _ List.mem_cons_self)))
  have w4 := C.hts _ (hws _ (List.mem_cons_of_mem _ (List.mem_cons_of_mem _ (List.mem_cons_of_mem _ List.mem_cons_self))))
  have hml2 : c.maxLocals = ls.size := by rw [hml]; exact C.has.1.symm
  obtain ⟨-, -, -, c4, c5, c6, c7, c8, -⟩ := id C
  have hsp := us_split (G := G) (h := h) c4 c5
  have r2 := c8.2.2.1
  have r3 := c8.2.2.2.1
  exact va_mmin C.hx C.hb hml2 C.own w1 w2 w3 w4 (by omega) (by omega) (by omega) (by omega) hd (kk p la e R s m args below meth c H locs QF d0 ls C K)
end MATH
