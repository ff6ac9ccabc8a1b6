/-! ===== the law: cases 0 to 2 ===== -/
section LAW7
variable {G : GG} {h : AH} {y x kp nx la k : Nat} {o : Nat → Nat} {ps : Nat → Nat → Int32} {Q : Option Value → AH → Prop}
set_option maxRecDepth 100000 in
set_option maxHeartbeats 4000000 in
theorem cs_0 (R : Rel h y x o kp nx la ps) (r : Ro G k h) (hk6 : 6 * k + 6 ≤ gL G) (hL : gL G ≤ 3072) (kc : Kc G y x k Q) : Rn G 10 mL_law 176 [(0, .ref (gb G)), (1, .ref y), (2, .ref x), (3, .int (nI (6 * k)))] [] h Q := by
  have ky := R.ky
  have kx := R.kx
  have hk5 : k < 512 := by omega
  have rm := r.rm hk5
  obtain ⟨⟨M, K, T⟩, C, A, ⟨I, B⟩, H⟩ := id R
  first | refine x_aload_n eL_law_176 rfl rfl ?_ | refine x_aload_nN eL_law_176 rfl rfl ?_
  first | refine x_aload_n eL_law_177 rfl rfl ?_ | refine x_aload_nN eL_law_177 rfl rfl ?_
  refine x_iload_n eL_law_178 rfl rfl ?_
  refine x_iconst (v := nI 1) eL_law_179 (by decide) ?_
  first | refine x_iaddN eL_law_180 (by with_reducible rfl) (by with_reducible rfl) ?_ | refine x_iadd eL_law_180 ?_
  refine x_scr eL_law_181 (by with_reducible rfl) (by omega) (by omega) ?_
  first | refine x_aload_n eL_law_182 rfl rfl ?_ | refine x_aload_nN eL_law_182 rfl rfl ?_
  refine x_iload_n eL_law_183 rfl rfl ?_
  refine x_iconst (v := nI 2) eL_law_184 (by decide) ?_
  first | refine x_iaddN eL_law_185 (by with_reducible rfl) (by with_reducible rfl) ?_ | refine x_iadd eL_law_185 ?_
  refine x_scr eL_law_186 (by with_reducible rfl) (by omega) (by omega) ?_
  first | refine x_aload_n eL_law_187 rfl rfl ?_ | refine x_aload_nN eL_law_187 rfl rfl ?_
  refine x_iload_n eL_law_188 rfl rfl ?_
  refine x_iconst (v := nI 3) eL_law_189 (by decide) ?_
  first | refine x_iaddN eL_law_190 (by with_reducible rfl) (by with_reducible rfl) ?_ | refine x_iadd eL_law_190 ?_
  refine x_scr eL_law_191 (by with_reducible rfl) (by omega) (by omega) ?_
  refine x_callV3 eL_law_192 lk_L_13 (by assumption) (Nat.le_of_ble_eq_true rfl) (Nat.le_of_ble_eq_true rfl) ?_
  refine Rn.deep (c_X8_bolt (d := 0) C A I rm (fun z _ => ?_) (fun z h2 P x1 => ?_)) (by omega)
  · first | refine x_aload_n eL_law_195 rfl rfl ?_ | refine x_aload_nN eL_law_195 rfl rfl ?_
    first | refine x_aload_n eL_law_196 rfl rfl ?_ | refine x_aload_nN eL_law_196 rfl rfl ?_
    refine x_iload_n eL_law_197 rfl rfl ?_
    refine x_iconst (v := nI 1) eL_law_198 (by decide) ?_
    first | refine x_iaddN eL_law_199 (by with_reducible rfl) (by with_reducible rfl) ?_ | refine x_iadd eL_law_199 ?_
    refine x_scr eL_law_200 (by with_reducible rfl) (by omega) (by omega) ?_
    first | refine x_aload_n eL_law_201 rfl rfl ?_ | refine x_aload_nN eL_law_201 rfl rfl ?_
    refine x_iload_n eL_law_202 rfl rfl ?_
    refine x_iconst (v := nI 2) eL_law_203 (by decide) ?_
    first | refine x_iaddN eL_law_204 (by with_reducible rfl) (by with_reducible rfl) ?_ | refine x_iadd eL_law_204 ?_
    refine x_scr eL_law_205 (by with_reducible rfl) (by omega) (by omega) ?_
    first | refine x_aload_n eL_law_206 rfl rfl ?_ | refine x_aload_nN eL_law_206 rfl rfl ?_
    refine x_iload_n eL_law_207 rfl rfl ?_
    refine x_iconst (v := nI 3) eL_law_208 (by decide) ?_
    first | refine x_iaddN eL_law_209 (by with_reducible rfl) (by with_reducible rfl) ?_ | refine x_iadd eL_law_209 ?_
    refine x_scr eL_law_210 (by with_reducible rfl) (by omega) (by omega) ?_
    refine x_callV3 eL_law_211 lk_L_17 (by assumption) (Nat.le_of_ble_eq_true rfl) (Nat.le_of_ble_eq_true rfl) ?_
    refine Rn.deep (c_X9_bolt_ (d := 0) M K I.gw (fun z2 _ => ?_) (fun z2 => absurd (z2.symm.trans z) (by decide))) (by omega)
    first | refine x_icmp_eqN (tgt := 1299) eL_law_214 (by decide) (by with_reducible rfl) (by with_reducible rfl) (by omega) (by omega) (fun cq1 => ?_) (fun cq1 => ?_) | refine x_icmp_eq (tgt := 1299) eL_law_214 (by decide) (fun cq1 => ?_) (fun cq1 => ?_)
    · refine Rn.weak (kc _ (St.same R r hk5)) (by repeat' first | exact fun _ h => absurd h List.not_mem_nil | refine List.forall_mem_cons.mpr ⟨rfl, ?_⟩)
    · exact absurd rfl cq1
  · obtain ⟨o2, -, -, Z, -, -⟩ := id P
    obtain ⟨M2, K2, T2, E2, kx2⟩ := R.mid Z
    have e1 : hi h2 (x + 1) = hi h (x + 1) := E2 1 (by omega)
    first | refine x_aload_n eL_law_195 rfl rfl ?_ | refine x_aload_nN eL_law_195 rfl rfl ?_
    first | refine x_aload_n eL_law_196 rfl rfl ?_ | refine x_aload_nN eL_law_196 rfl rfl ?_
    refine x_iload_n eL_law_197 rfl rfl ?_
    refine x_iconst (v := nI 1) eL_law_198 (by decide) ?_
    first | refine x_iaddN eL_law_199 (by with_reducible rfl) (by with_reducible rfl) ?_ | refine x_iadd eL_law_199 ?_
    refine x_scr eL_law_200 (by with_reducible rfl) (by omega) (by omega) ?_
    first | refine x_aload_n eL_law_201 rfl rfl ?_ | refine x_aload_nN eL_law_201 rfl rfl ?_
    refine x_iload_n eL_law_202 rfl rfl ?_
    refine x_iconst (v := nI 2) eL_law_203 (by decide) ?_
    first | refine x_iaddN eL_law_204 (by with_reducible rfl) (by with_reducible rfl) ?_ | refine x_iadd eL_law_204 ?_
    refine x_scr eL_law_205 (by with_reducible rfl) (by omega) (by omega) ?_
    first | refine x_aload_n eL_law_206 rfl rfl ?_ | refine x_aload_nN eL_law_206 rfl rfl ?_
    refine x_iload_n eL_law_207 rfl rfl ?_
    refine x_iconst (v := nI 3) eL_law_208 (by decide) ?_
    first | refine x_iaddN eL_law_209 (by with_reducible rfl) (by with_reducible rfl) ?_ | refine x_iadd eL_law_209 ?_
    refine x_scr eL_law_210 (by with_reducible rfl) (by omega) (by omega) ?_
    refine x_callV3 eL_law_211 lk_L_17 (by assumption) (Nat.le_of_ble_eq_true rfl) (Nat.le_of_ble_eq_true rfl) ?_
    refine Rn.deep (c_X9_bolt_ (d := 0) M2 K2 (by rw [e1]; exact I.gw) (fun z2 => by rw [e1, z] at z2; cases z2) (fun z2 lt _ => ?_)) (by omega)
    rw [e1] at lt
    rw [e1]
    first | refine x_icmp_eqN (tgt := 1299) eL_law_214 (by decide) (by with_reducible rfl) (by with_reducible rfl) (by omega) (by omega) (fun cq2 => ?_) (fun cq2 => ?_) | refine x_icmp_eq (tgt := 1299) eL_law_214 (by decide) (fun cq2 => ?_) (fun cq2 => ?_)
    · refine Rn.weak (kc _ (St.act R r hk5 x1 P (GO_bolt I B z lt))) (by repeat' first | exact fun _ h => absurd h List.not_mem_nil | refine List.forall_mem_cons.mpr ⟨rfl, ?_⟩)
    · exact absurd rfl cq2
set_option maxRecDepth 100000 in
set_option maxHeartbeats 4000000 in
theorem cs_1 (R : Rel h y x o kp nx la ps) (r : Ro G k h) (hk6 : 6 * k + 6 ≤ gL G) (hL : gL G ≤ 3072) (kc : Kc G y x k Q) : Rn G 10 mL_law 219 [(0, .ref (gb G)), (1, .ref y), (2, .ref x), (3, .int (nI (6 * k)))] [] h Q := by
  have ky := R.ky
  have kx := R.kx
  have hk5 : k < 512 := by omega
  have rm := r.rm hk5
  obtain ⟨⟨M, K, T⟩, C, A, ⟨I, B⟩, H⟩ := id R
  first | refine x_aload_n eL_law_219 rfl rfl ?_ | refine x_aload_nN eL_law_219 rfl rfl ?_
  first | refine x_aload_n eL_law_220 rfl rfl ?_ | refine x_aload_nN eL_law_220 rfl rfl ?_
  refine x_iload_n eL_law_221 rfl rfl ?_
  refine x_iconst (v := nI 1) eL_law_222 (by decide) ?_
  first | refine x_iaddN eL_law_223 (by with_reducible rfl) (by with_reducible rfl) ?_ | refine x_iadd eL_law_223 ?_
  refine x_scr eL_law_224 (by with_reducible rfl) (by omega) (by omega) ?_
  first | refine x_aload_n eL_law_225 rfl rfl ?_ | refine x_aload_nN eL_law_225 rfl rfl ?_
  refine x_iload_n eL_law_226 rfl rfl ?_
  refine x_iconst (v := nI 2) eL_law_227 (by decide) ?_
  first | refine x_iaddN eL_law_228 (by with_reducible rfl) (by with_reducible rfl) ?_ | refine x_iadd eL_law_228 ?_
  refine x_scr eL_law_229 (by with_reducible rfl) (by omega) (by omega) ?_
  first | refine x_callV2 eL_law_230 lk_L_18 (by assumption) (Nat.le_of_ble_eq_true rfl) (Nat.le_of_ble_eq_true rfl) ?_ | refine x_callVw2 eL_law_230 lk_L_18 (by assumption) (Nat.le_of_ble_eq_true rfl) (Nat.le_of_ble_eq_true rfl) (Nat.le_of_ble_eq_true rfl) ?_
  refine Rn.deep (c_X8_row (d := 0) C A I rm (fun z _ => ?_) (fun z h2 P x1 => ?_)) (by omega)
  · first | refine x_aload_n eL_law_233 rfl rfl ?_ | refine x_aload_nN eL_law_233 rfl rfl ?_
    first | refine x_aload_n eL_law_234 rfl rfl ?_ | refine x_aload_nN eL_law_234 rfl rfl ?_
    refine x_iload_n eL_law_235 rfl rfl ?_
    refine x_iconst (v := nI 1) eL_law_236 (by decide) ?_
    first | refine x_iaddN eL_law_237 (by with_reducible rfl) (by with_reducible rfl) ?_ | refine x_iadd eL_law_237 ?_
    refine x_scr eL_law_238 (by with_reducible rfl) (by omega) (by omega) ?_
    first | refine x_aload_n eL_law_239 rfl rfl ?_ | refine x_aload_nN eL_law_239 rfl rfl ?_
    refine x_iload_n eL_law_240 rfl rfl ?_
    refine x_iconst (v := nI 2) eL_law_241 (by decide) ?_
    first | refine x_iaddN eL_law_242 (by with_reducible rfl) (by with_reducible rfl) ?_ | refine x_iadd eL_law_242 ?_
    refine x_scr eL_law_243 (by with_reducible rfl) (by omega) (by omega) ?_
    first | refine x_callV2 eL_law_244 lk_L_22 (by assumption) (Nat.le_of_ble_eq_true rfl) (Nat.le_of_ble_eq_true rfl) ?_ | refine x_callVw2 eL_law_244 lk_L_22 (by assumption) (Nat.le_of_ble_eq_true rfl) (Nat.le_of_ble_eq_true rfl) (Nat.le_of_ble_eq_true rfl) ?_
    refine Rn.deep (c_X9_row (d := 0) M K I.gw (fun z2 _ => ?_) (fun z2 => absurd (z2.symm.trans z) (by decide))) (by omega)
    first | refine x_icmp_eqN (tgt := 1299) eL_law_247 (by decide) (by with_reducible rfl) (by with_reducible rfl) (by omega) (by omega) (fun cq1 => ?_) (fun cq1 => ?_) | refine x_icmp_eq (tgt := 1299) eL_law_247 (by decide) (fun cq1 => ?_) (fun cq1 => ?_)
    · refine Rn.weak (kc _ (St.same R r hk5)) (by repeat' first | exact fun _ h => absurd h List.not_mem_nil | refine List.forall_mem_cons.mpr ⟨rfl, ?_⟩)
    · exact absurd rfl cq1
  · obtain ⟨o2, -, -, Z, -, -⟩ := id P
    obtain ⟨M2, K2, T2, E2, kx2⟩ := R.mid Z
    have e1 : hi h2 (x + 1) = hi h (x + 1) := E2 1 (by omega)
    first | refine x_aload_n eL_law_233 rfl rfl ?_ | refine x_aload_nN eL_law_233 rfl rfl ?_
    first | refine x_aload_n eL_law_234 rfl rfl ?_ | refine x_aload_nN eL_law_234 rfl rfl ?_
    refine x_iload_n eL_law_235 rfl rfl ?_
    refine x_iconst (v := nI 1) eL_law_236 (by decide) ?_
    first | refine x_iaddN eL_law_237 (by with_reducible rfl) (by with_reducible rfl) ?_ | refine x_iadd eL_law_237 ?_
    refine x_scr eL_law_238 (by with_reducible rfl) (by omega) (by omega) ?_
    first | refine x_aload_n eL_law_239 rfl rfl ?_ | refine x_aload_nN eL_law_239 rfl rfl ?_
    refine x_iload_n eL_law_240 rfl rfl ?_
    refine x_iconst (v := nI 2) eL_law_241 (by decide) ?_
    first | refine x_iaddN eL_law_242 (by with_reducible rfl) (by with_reducible rfl) ?_ | refine x_iadd eL_law_242 ?_
    refine x_scr eL_law_243 (by with_reducible rfl) (by omega) (by omega) ?_
    first | refine x_callV2 eL_law_244 lk_L_22 (by assumption) (Nat.le_of_ble_eq_true rfl) (Nat.le_of_ble_eq_true rfl) ?_ | refine x_callVw2 eL_law_244 lk_L_22 (by assumption) (Nat.le_of_ble_eq_true rfl) (Nat.le_of_ble_eq_true rfl) (Nat.le_of_ble_eq_true rfl) ?_
    refine Rn.deep (c_X9_row (d := 0) M2 K2 (by rw [e1]; exact I.gw) (fun z2 => by rw [e1, z] at z2; cases z2) (fun z2 _ => ?_)) (by omega)
    skip
    rw [e1]
    first | refine x_icmp_eqN (tgt := 1299) eL_law_247 (by decide) (by with_reducible rfl) (by with_reducible rfl) (by omega) (by omega) (fun cq2 => ?_) (fun cq2 => ?_) | refine x_icmp_eq (tgt := 1299) eL_law_247 (by decide) (fun cq2 => ?_) (fun cq2 => ?_)
    · refine Rn.weak (kc _ (St.act R r hk5 x1 P (GO_row I B z))) (by repeat' first | exact fun _ h => absurd h List.not_mem_nil | refine List.forall_mem_cons.mpr ⟨rfl, ?_⟩)
    · exact absurd rfl cq2
set_option maxRecDepth 100000 in
set_option maxHeartbeats 4000000 in
theorem cs_2 (R : Rel h y x o kp nx la ps) (r : Ro G k h) (hk6 : 6 * k + 6 ≤ gL G) (hL : gL G ≤ 3072) (kc : Kc G y x k Q) : Rn G 10 mL_law 252 [(0, .ref (gb G)), (1, .ref y), (2, .ref x), (3, .int (nI (6 * k)))] [] h Q := by
  have ky := R.ky
  have kx := R.kx
  have hk5 : k < 512 := by omega
  have rm := r.rm hk5
  obtain ⟨⟨M, K, T⟩, C, A, ⟨I, B⟩, H⟩ := id R
  first | refine x_aload_n eL_law_252 rfl rfl ?_ | refine x_aload_nN eL_law_252 rfl rfl ?_
  first | refine x_aload_n eL_law_253 rfl rfl ?_ | refine x_aload_nN eL_law_253 rfl rfl ?_
  refine x_iload_n eL_law_254 rfl rfl ?_
  refine x_iconst (v := nI 1) eL_law_255 (by decide) ?_
  first | refine x_iaddN eL_law_256 (by with_reducible rfl) (by with_reducible rfl) ?_ | refine x_iadd eL_law_256 ?_
  refine x_scr eL_law_257 (by with_reducible rfl) (by omega) (by omega) ?_
  first | refine x_aload_n eL_law_258 rfl rfl ?_ | refine x_aload_nN eL_law_258 rfl rfl ?_
  refine x_iload_n eL_law_259 rfl rfl ?_
  refine x_iconst (v := nI 2) eL_law_260 (by decide) ?_
  first | refine x_iaddN eL_law_261 (by with_reducible rfl) (by with_reducible rfl) ?_ | refine x_iadd eL_law_261 ?_
  refine x_scr eL_law_262 (by with_reducible rfl) (by omega) (by omega) ?_
  first | refine x_aload_n eL_law_263 rfl rfl ?_ | refine x_aload_nN eL_law_263 rfl rfl ?_
  refine x_iload_n eL_law_264 rfl rfl ?_
  refine x_iconst (v := nI 3) eL_law_265 (by decide) ?_
  first | refine x_iaddN eL_law_266 (by with_reducible rfl) (by with_reducible rfl) ?_ | refine x_iadd eL_law_266 ?_
  refine x_scr eL_law_267 (by with_reducible rfl) (by omega) (by omega) ?_
  refine x_callV3 eL_law_268 lk_L_23 (by assumption) (Nat.le_of_ble_eq_true rfl) (Nat.le_of_ble_eq_true rfl) ?_
  refine Rn.deep (c_X8_wear (d := 0) C A I rm (fun z _ => ?_) (fun z h2 P x1 => ?_)) (by omega)
  · first | refine x_aload_n eL_law_271 rfl rfl ?_ | refine x_aload_nN eL_law_271 rfl rfl ?_
    first | refine x_aload_n eL_law_272 rfl rfl ?_ | refine x_aload_nN eL_law_272 rfl rfl ?_
    refine x_iload_n eL_law_273 rfl rfl ?_
    refine x_iconst (v := nI 1) eL_law_274 (by decide) ?_
    first | refine x_iaddN eL_law_275 (by with_reducible rfl) (by with_reducible rfl) ?_ | refine x_iadd eL_law_275 ?_
    refine x_scr eL_law_276 (by with_reducible rfl) (by omega) (by omega) ?_
    first | refine x_aload_n eL_law_277 rfl rfl ?_ | refine x_aload_nN eL_law_277 rfl rfl ?_
    refine x_iload_n eL_law_278 rfl rfl ?_
    refine x_iconst (v := nI 2) eL_law_279 (by decide) ?_
    first | refine x_iaddN eL_law_280 (by with_reducible rfl) (by with_reducible rfl) ?_ | refine x_iadd eL_law_280 ?_
    refine x_scr eL_law_281 (by with_reducible rfl) (by omega) (by omega) ?_
    first | refine x_aload_n eL_law_282 rfl rfl ?_ | refine x_aload_nN eL_law_282 rfl rfl ?_
    refine x_iload_n eL_law_283 rfl rfl ?_
    refine x_iconst (v := nI 3) eL_law_284 (by decide) ?_
    first | refine x_iaddN eL_law_285 (by with_reducible rfl) (by with_reducible rfl) ?_ | refine x_iadd eL_law_285 ?_
    refine x_scr eL_law_286 (by with_reducible rfl) (by omega) (by omega) ?_
    refine x_callV3 eL_law_287 lk_L_27 (by assumption) (Nat.le_of_ble_eq_true rfl) (Nat.le_of_ble_eq_true rfl) ?_
    refine Rn.deep (c_X9_wear (d := 0) M K I.gw (fun z2 _ => ?_) (fun z2 => absurd (z2.symm.trans z) (by decide))) (by omega)
    first | refine x_icmp_eqN (tgt := 1299) eL_law_290 (by decide) (by with_reducible rfl) (by with_reducible rfl) (by omega) (by omega) (fun cq1 => ?_) (fun cq1 => ?_) | refine x_icmp_eq (tgt := 1299) eL_law_290 (by decide) (fun cq1 => ?_) (fun cq1 => ?_)
    · refine Rn.weak (kc _ (St.same R r hk5)) (by repeat' first | exact fun _ h => absurd h List.not_mem_nil | refine List.forall_mem_cons.mpr ⟨rfl, ?_⟩)
    · exact absurd rfl cq1
  · obtain ⟨o2, -, -, Z, -, -⟩ := id P
    obtain ⟨M2, K2, T2, E2, kx2⟩ := R.mid Z
    have e1 : hi h2 (x + 1) = hi h (x + 1) := E2 1 (by omega)
    first | refine x_aload_n eL_law_271 rfl rfl ?_ | refine x_aload_nN eL_law_271 rfl rfl ?_
    first | refine x_aload_n eL_law_272 rfl rfl ?_ | refine x_aload_nN eL_law_272 rfl rfl ?_
    refine x_iload_n eL_law_273 rfl rfl ?_
    refine x_iconst (v := nI 1) eL_law_274 (by decide) ?_
    first | refine x_iaddN eL_law_275 (by with_reducible rfl) (by with_reducible rfl) ?_ | refine x_iadd eL_law_275 ?_
    refine x_scr eL_law_276 (by with_reducible rfl) (by omega) (by omega) ?_
    first | refine x_aload_n eL_law_277 rfl rfl ?_ | refine x_aload_nN eL_law_277 rfl rfl ?_
    refine x_iload_n eL_law_278 rfl rfl ?_
    refine x_iconst (v := nI 2) eL_law_279 (by decide) ?_
    first | refine x_iaddN eL_law_280 (by with_reducible rfl) (by with_reducible rfl) ?_ | refine x_iadd eL_law_280 ?_
    refine x_scr eL_law_281 (by with_reducible rfl) (by omega) (by omega) ?_
    first | refine x_aload_n eL_law_282 rfl rfl ?_ | refine x_aload_nN eL_law_282 rfl rfl ?_
    refine x_iload_n eL_law_283 rfl rfl ?_
    refine x_iconst (v := nI 3) eL_law_284 (by decide) ?_
    first | refine x_iaddN eL_law_285 (by with_reducible rfl) (by with_reducible rfl) ?_ | refine x_iadd eL_law_285 ?_
    refine x_scr eL_law_286 (by with_reducible rfl) (by omega) (by omega) ?_
    refine x_callV3 eL_law_287 lk_L_27 (by assumption) (Nat.le_of_ble_eq_true rfl) (Nat.le_of_ble_eq_true rfl) ?_
    refine Rn.deep (c_X9_wear (d := 0) M2 K2 (by rw [e1]; exact I.gw) (fun z2 => by rw [e1, z] at z2; cases z2) (fun z2 _ => ?_)) (by omega)
    skip
    rw [e1]
    first | refine x_icmp_eqN (tgt := 1299) eL_law_290 (by decide) (by with_reducible rfl) (by with_reducible rfl) (by omega) (by omega) (fun cq2 => ?_) (fun cq2 => ?_) | refine x_icmp_eq (tgt := 1299) eL_law_290 (by decide) (fun cq2 => ?_) (fun cq2 => ?_)
    · refine Rn.weak (kc _ (St.act R r hk5 x1 P (GO_wear I B z))) (by repeat' first | exact fun _ h => absurd h List.not_mem_nil | refine List.forall_mem_cons.mpr ⟨rfl, ?_⟩)
    · exact absurd rfl cq2
end LAW7

