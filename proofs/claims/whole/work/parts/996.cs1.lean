/-! the law's cases: set, copy, drop, feed -/
section CS
variable {p : Program} {l : Launch} {e : Env} {s : State} {m : MethodId} {below : List Frame} {meth : Method} {c : Code} {b L : Nat} {xs : Nat → Int32} {dC : Nat → ClassId} {dI : Nat → Nat → Nat} {cI cB cZ : ClassId} {adK adV : Nat → Nat}
set_option maxHeartbeats 4000000 in
set_option maxRecDepth 100000 in
theorem cs_set (C : lwC p s m c b L xs (dC, dI) cI cB cZ adK adV) {Q : State → Prop} {o om i : Nat} {g : Nat → Nat} {aa : Nat → Nat → Nat} {S : Nat → St} {f : Lt} {am : Nat → Nat} {sm : St} {tm : Lt} {H : Heap} {locs : List Loc} {ls : Array Slot} (hi : i + 6 < L) (hP : va_P (dC, dI) vwCl (wW cI cB cZ o om g aa S f am sm tm) H) (hD : va_D (fun q : Nat => s.heap.size ≤ q) (wW cI cB cZ o om g aa S f am sm tm)) (hS : va_S (fun q : Nat => s.heap.size ≤ q) s.heap H locs) (hR : rW S sm) (hl : lv_has ls 4 [(0, .ref b), (1, .ref o), (2, .ref om), (3, .int (nI i))]) (kk : lwK p l e s m b below meth c ls Q (dC, dI) cI cB cZ o om) : W p l e room_1 s m #[Value.ref b] below meth c H locs 70 3561 Q (F0 m 204 ls []) := by
  obtain ⟨hx, hb, hml, hown, hts, hX, hbl, hL, hK, hN⟩ := C
  have hA : ∀ q : Nat, s.heap.size ≤ q → (fun q : Nat => s.heap.size ≤ q) q := fun _ h => h
  have hbA : ¬ (fun q : Nat => s.heap.size ≤ q) b := Nat.not_le.mpr hbl
  have h0 := lv_at hl 0 rfl
  have h3 := lv_at hl 3 rfl
  obtain ⟨v, ro', x', m', e1, e2, hR1⟩ := set_sim hR (xs (i + 1)) (xs (i + 2)) (xs (i + 3))
  refine lv_aload_n hx hb dL_law_204 rfl (lv_at hl 1 rfl) ?_
  refine l_rd hx hb hX hbl hbA hS h0 h3 1 (by omega) hL (by decide) dL_law_205 dL_law_206 dL_law_207 dL_law_208 dL_law_209 ?_
  refine l_rd hx hb hX hbl hbA hS h0 h3 2 (by omega) hL (by decide) dL_law_210 dL_law_211 dL_law_212 dL_law_213 dL_law_214 ?_
  refine l_rd hx hb hX hbl hbA hS h0 h3 3 (by omega) hL (by decide) dL_law_215 dL_law_216 dL_law_217 dL_law_218 dL_law_219 ?_
  refine b_rwVl (As := [.int (xs (i + 1)), .int (xs (i + 2)), .int (xs (i + 3))]) (rest := []) (ci := 7) (wr := ((wcT cB (g 1) (aa 1) (S 1)) ++ (wcE (g 2) (g 1) (S 2)) ++ (wcA cI (g 3) (aa 3) (S 3)) ++ (wcB cI (g 4) (aa 4) (S 4)) ++ (wcF (g 5) f) ++ (wcH cI (g 6) (aa 6) (S 6)) ++ (wcH cI (g 7) (aa 7) (S 7)) ++ (wcH cI (g 8) (aa 8) (S 8)) ++ (wcH cI (g 9) (aa 9) (S 9)) ++ (wcM cI cZ om am sm tm))) (w2 := wW cI cB cZ o om g aa (sU (sU S 10 x') 0 ro') f am sm tm) ⟨hx, hb, hml, hown, hts⟩ (kX7_set l dC dI cI cB cZ o g (aa 0) (S 10) (S 0) (xs (i + 1)) (xs (i + 2)) (xs (i + 3)) H.size v x' ro' e1) (cwV 3 hts gL_law_X7_set rfl rfl rfl hdX7_set ⟨Nat.le_of_ble_eq_true rfl, Nat.le_of_ble_eq_true rfl⟩) hK hP hD hS hA (b_p1 [(wcX o g (S 10)), (wcR cI (g 0) (aa 0) (S 0)), (wcT cB (g 1) (aa 1) (S 1)), (wcE (g 2) (g 1) (S 2)), (wcA cI (g 3) (aa 3) (S 3)), (wcB cI (g 4) (aa 4) (S 4)), (wcF (g 5) f), (wcH cI (g 6) (aa 6) (S 6)), (wcH cI (g 7) (aa 7) (S 7)), (wcH cI (g 8) (aa 8) (S 8)), (wcH cI (g 9) (aa 9) (S 9)), (wcM cI cZ om am sm tm)] [0, 1] [2, 3, 4, 5, 6, 7, 8, 9, 10, 11] (n := 12) rfl (by decide +kernel)) (b_p2 [(wcT cB (g 1) (aa 1) (S 1)), (wcE (g 2) (g 1) (S 2)), (wcA cI (g 3) (aa 3) (S 3)), (wcB cI (g 4) (aa 4) (S 4)), (wcF (g 5) f), (wcH cI (g 6) (aa 6) (S 6)), (wcH cI (g 7) (aa 7) (S 7)), (wcH cI (g 8) (aa 8) (S 8)), (wcH cI (g 9) (aa 9) (S 9)), (wcM cI cZ om am sm tm)] [(wcX o g x'), (wcR cI (g 0) (aa 0) ro')] [10, 11, 0, 1, 2, 3, 4, 5, 6, 7, 8, 9] (n := 12) rfl (by decide +kernel)) rfl rfl rfl hl.1 rfl (Nat.le_of_ble_eq_true rfl) dL_law_220 ⟨Nat.le_of_ble_eq_true rfl, Nat.le_of_ble_eq_true rfl⟩ (fun H locs hP hD hS => ?_)
  refine lv_aload_n hx hb dL_law_223 rfl (lv_at hl 2 rfl) ?_
  refine l_rd hx hb hX hbl hbA hS h0 h3 1 (by omega) hL (by decide) dL_law_224 dL_law_225 dL_law_226 dL_law_227 dL_law_228 ?_
  refine l_rd hx hb hX hbl hbA hS h0 h3 2 (by omega) hL (by decide) dL_law_229 dL_law_230 dL_law_231 dL_law_232 dL_law_233 ?_
  refine l_rd hx hb hX hbl hbA hS h0 h3 3 (by omega) hL (by decide) dL_law_234 dL_law_235 dL_law_236 dL_law_237 dL_law_238 ?_
  refine b_rwVl (As := [.int (xs (i + 1)), .int (xs (i + 2)), .int (xs (i + 3))]) (rest := [.long v]) (ci := 8) (wr := (wX cI cB o g aa (sU (sU S 10 x') 0 ro') f)) (w2 := wW cI cB cZ o om g aa (sU (sU S 10 x') 0 ro') f am m' tm) ⟨hx, hb, hml, hown, hts⟩ (kX8_set l dC dI cI cB cZ om am sm tm (xs (i + 1)) (xs (i + 2)) (xs (i + 3)) H.size v m' e2) (cwV 3 hts gL_law_X8_set rfl rfl rfl hdX8_set ⟨Nat.le_of_ble_eq_true rfl, Nat.le_of_ble_eq_true rfl⟩) hK hP hD hS hA List.perm_append_comm (List.Perm.refl _) rfl rfl rfl hl.1 rfl (Nat.le_of_ble_eq_true rfl) dL_law_239 ⟨Nat.le_of_ble_eq_true rfl, Nat.le_of_ble_eq_true rfl⟩ (fun H locs hP hD hS => ?_)
  refine W.lcmp hx hb dL_law_242 ?_
  refine lv_if_eq (tgt := 1191) hx hb dL_law_243 (by decide) (fun _ => ?_) (fun h => absurd (lg_self v) h)
  exact kk g aa (sU (sU S 10 x') 0 ro') f am m' tm H locs hP hD hS hR1
set_option maxHeartbeats 4000000 in
set_option maxRecDepth 100000 in
theorem cs_copy (C : lwC p s m c b L xs (dC, dI) cI cB cZ adK adV) {Q : State → Prop} {o om i : Nat} {g : Nat → Nat} {aa : Nat → Nat → Nat} {S : Nat → St} {f : Lt} {am : Nat → Nat} {sm : St} {tm : Lt} {H : Heap} {locs : List Loc} {ls : Array Slot} (hi : i + 6 < L) (hP : va_P (dC, dI) vwCl (wW cI cB cZ o om g aa S f am sm tm) H) (hD : va_D (fun q : Nat => s.heap.size ≤ q) (wW cI cB cZ o om g aa S f am sm tm)) (hS : va_S (fun q : Nat => s.heap.size ≤ q) s.heap H locs) (hR : rW S sm) (hl : lv_has ls 4 [(0, .ref b), (1, .ref o), (2, .ref om), (3, .int (nI i))]) (kk : lwK p l e s m b below meth c ls Q (dC, dI) cI cB cZ o om) : W p l e room_1 s m #[Value.ref b] below meth c H locs 70 3561 Q (F0 m 248 ls []) := by
  obtain ⟨hx, hb, hml, hown, hts, hX, hbl, hL, hK, hN⟩ := C
  have hA : ∀ q : Nat, s.heap.size ≤ q → (fun q : Nat => s.heap.size ≤ q) q := fun _ h => h
  have hbA : ¬ (fun q : Nat => s.heap.size ≤ q) b := Nat.not_le.mpr hbl
  have h0 := lv_at hl 0 rfl
  have h3 := lv_at hl 3 rfl
  obtain ⟨v, ro', x', m', e1, e2, hR1⟩ := copy_sim hR (xs (i + 1)) (xs (i + 2)) (xs (i + 3)) (xs (i + 4)) (xs (i + 5))
  refine lv_aload_n hx hb dL_law_248 rfl (lv_at hl 1 rfl) ?_
  refine l_rd hx hb hX hbl hbA hS h0 h3 1 (by omega) hL (by decide) dL_law_249 dL_law_250 dL_law_251 dL_law_252 dL_law_253 ?_
  refine l_rd hx hb hX hbl hbA hS h0 h3 2 (by omega) hL (by decide) dL_law_254 dL_law_255 dL_law_256 dL_law_257 dL_law_258 ?_
  refine l_rd hx hb hX hbl hbA hS h0 h3 3 (by omega) hL (by decide) dL_law_259 dL_law_260 dL_law_261 dL_law_262 dL_law_263 ?_
  refine l_rd hx hb hX hbl hbA hS h0 h3 4 (by omega) hL (by decide) dL_law_264 dL_law_265 dL_law_266 dL_law_267 dL_law_268 ?_
  refine l_rd hx hb hX hbl hbA hS h0 h3 5 (by omega) hL (by decide) dL_law_269 dL_law_270 dL_law_271 dL_law_272 dL_law_273 ?_
  refine b_rwVl (As := [.int (xs (i + 1)), .int (xs (i + 2)), .int (xs (i + 3)), .int (xs (i + 4)), .int (xs (i + 5))]) (rest := []) (ci := 7) (wr := ((wcT cB (g 1) (aa 1) (S 1)) ++ (wcE (g 2) (g 1) (S 2)) ++ (wcA cI (g 3) (aa 3) (S 3)) ++ (wcB cI (g 4) (aa 4) (S 4)) ++ (wcF (g 5) f) ++ (wcH cI (g 6) (aa 6) (S 6)) ++ (wcH cI (g 7) (aa 7) (S 7)) ++ (wcH cI (g 8) (aa 8) (S 8)) ++ (wcH cI (g 9) (aa 9) (S 9)) ++ (wcM cI cZ om am sm tm))) (w2 := wW cI cB cZ o om g aa (sU (sU S 10 x') 0 ro') f am sm tm) ⟨hx, hb, hml, hown, hts⟩ (kX7_copy l dC dI cI cB cZ o g (aa 0) (S 10) (S 0) (xs (i + 1)) (xs (i + 2)) (xs (i + 3)) (xs (i + 4)) (xs (i + 5)) H.size v x' ro' e1) (cwV 5 hts gL_law_X7_copy rfl rfl rfl hdX7_copy ⟨Nat.le_of_ble_eq_true rfl, Nat.le_of_ble_eq_true rfl⟩) hK hP hD hS hA (b_p1 [(wcX o g (S 10)), (wcR cI (g 0) (aa 0) (S 0)), (wcT cB (g 1) (aa 1) (S 1)), (wcE (g 2) (g 1) (S 2)), (wcA cI (g 3) (aa 3) (S 3)), (wcB cI (g 4) (aa 4) (S 4)), (wcF (g 5) f), (wcH cI (g 6) (aa 6) (S 6)), (wcH cI (g 7) (aa 7) (S 7)), (wcH cI (g 8) (aa 8) (S 8)), (wcH cI (g 9) (aa 9) (S 9)), (wcM cI cZ om am sm tm)] [0, 1] [2, 3, 4, 5, 6, 7, 8, 9, 10, 11] (n := 12) rfl (by decide +kernel)) (b_p2 [(wcT cB (g 1) (aa 1) (S 1)), (wcE (g 2) (g 1) (S 2)), (wcA cI (g 3) (aa 3) (S 3)), (wcB cI (g 4) (aa 4) (S 4)), (wcF (g 5) f), (wcH cI (g 6) (aa 6) (S 6)), (wcH cI (g 7) (aa 7) (S 7)), (wcH cI (g 8) (aa 8) (S 8)), (wcH cI (g 9) (aa 9) (S 9)), (wcM cI cZ om am sm tm)] [(wcX o g x'), (wcR cI (g 0) (aa 0) ro')] [10, 11, 0, 1, 2, 3, 4, 5, 6, 7, 8, 9] (n := 12) rfl (by decide +kernel)) rfl rfl rfl hl.1 rfl (Nat.le_of_ble_eq_true rfl) dL_law_274 ⟨Nat.le_of_ble_eq_true rfl, Nat.le_of_ble_eq_true rfl⟩ (fun H locs hP hD hS => ?_)
  refine lv_aload_n hx hb dL_law_277 rfl (lv_at hl 2 rfl) ?_
  refine l_rd hx hb hX hbl hbA hS h0 h3 1 (by omega) hL (by decide) dL_law_278 dL_law_279 dL_law_280 dL_law_281 dL_law_282 ?_
  refine l_rd hx hb hX hbl hbA hS h0 h3 2 (by omega) hL (by decide) dL_law_283 dL_law_284 dL_law_285 dL_law_286 dL_law_287 ?_
  refine l_rd hx hb hX hbl hbA hS h0 h3 3 (by omega) hL (by decide) dL_law_288 dL_law_289 dL_law_290 dL_law_291 dL_law_292 ?_
  refine l_rd hx hb hX hbl hbA hS h0 h3 4 (by omega) hL (by decide) dL_law_293 dL_law_294 dL_law_295 dL_law_296 dL_law_297 ?_
  refine l_rd hx hb hX hbl hbA hS h0 h3 5 (by omega) hL (by decide) dL_law_298 dL_law_299 dL_law_300 dL_law_301 dL_law_302 ?_
  refine b_rwVl (As := [.int (xs (i + 1)), .int (xs (i + 2)), .int (xs (i + 3)), .int (xs (i + 4)), .int (xs (i + 5))]) (rest := [.long v]) (ci := 8) (wr := (wX cI cB o g aa (sU (sU S 10 x') 0 ro') f)) (w2 := wW cI cB cZ o om g aa (sU (sU S 10 x') 0 ro') f am m' tm) ⟨hx, hb, hml, hown, hts⟩ (kX8_copy l dC dI cI cB cZ om am sm tm (xs (i + 1)) (xs (i + 2)) (xs (i + 3)) (xs (i + 4)) (xs (i + 5)) H.size v m' e2) (cwV 5 hts gL_law_X8_copy rfl rfl rfl hdX8_copy ⟨Nat.le_of_ble_eq_true rfl, Nat.le_of_ble_eq_true rfl⟩) hK hP hD hS hA List.perm_append_comm (List.Perm.refl _) rfl rfl rfl hl.1 rfl (Nat.le_of_ble_eq_true rfl) dL_law_303 ⟨Nat.le_of_ble_eq_true rfl, Nat.le_of_ble_eq_true rfl⟩ (fun H locs hP hD hS => ?_)
  refine W.lcmp hx hb dL_law_306 ?_
  refine lv_if_eq (tgt := 1191) hx hb dL_law_307 (by decide) (fun _ => ?_) (fun h => absurd (lg_self v) h)
  exact kk g aa (sU (sU S 10 x') 0 ro') f am m' tm H locs hP hD hS hR1
set_option maxHeartbeats 4000000 in
set_option maxRecDepth 100000 in
theorem cs_drop (C : lwC p s m c b L xs (dC, dI) cI cB cZ adK adV) {Q : State → Prop} {o om i : Nat} {g : Nat → Nat} {aa : Nat → Nat → Nat} {S : Nat → St} {f : Lt} {am : Nat → Nat} {sm : St} {tm : Lt} {H : Heap} {locs : List Loc} {ls : Array Slot} (hi : i + 6 < L) (hP : va_P (dC, dI) vwCl (wW cI cB cZ o om g aa S f am sm tm) H) (hD : va_D (fun q : Nat => s.heap.size ≤ q) (wW cI cB cZ o om g aa S f am sm tm)) (hS : va_S (fun q : Nat => s.heap.size ≤ q) s.heap H locs) (hR : rW S sm) (hl : lv_has ls 4 [(0, .ref b), (1, .ref o), (2, .ref om), (3, .int (nI i))]) (kk : lwK p l e s m b below meth c ls Q (dC, dI) cI cB cZ o om) : W p l e room_1 s m #[Value.ref b] below meth c H locs 70 3561 Q (F0 m 312 ls []) := by
  obtain ⟨hx, hb, hml, hown, hts, hX, hbl, hL, hK, hN⟩ := C
  have hA : ∀ q : Nat, s.heap.size ≤ q → (fun q : Nat => s.heap.size ≤ q) q := fun _ h => h
  have hbA : ¬ (fun q : Nat => s.heap.size ≤ q) b := Nat.not_le.mpr hbl
  have h0 := lv_at hl 0 rfl
  have h3 := lv_at hl 3 rfl
  obtain ⟨v, ro', x', m', e1, e2, hR1⟩ := drop_sim hR (xs (i + 1))
  refine lv_aload_n hx hb dL_law_312 rfl (lv_at hl 1 rfl) ?_
  refine l_rd hx hb hX hbl hbA hS h0 h3 1 (by omega) hL (by decide) dL_law_313 dL_law_314 dL_law_315 dL_law_316 dL_law_317 ?_
  refine b_rwVl (As := [.int (xs (i + 1))]) (rest := []) (ci := 7) (wr := ((wcT cB (g 1) (aa 1) (S 1)) ++ (wcE (g 2) (g 1) (S 2)) ++ (wcA cI (g 3) (aa 3) (S 3)) ++ (wcB cI (g 4) (aa 4) (S 4)) ++ (wcF (g 5) f) ++ (wcH cI (g 6) (aa 6) (S 6)) ++ (wcH cI (g 7) (aa 7) (S 7)) ++ (wcH cI (g 8) (aa 8) (S 8)) ++ (wcH cI (g 9) (aa 9) (S 9)) ++ (wcM cI cZ om am sm tm))) (w2 := wW cI cB cZ o om g aa (sU (sU S 10 x') 0 ro') f am sm tm) ⟨hx, hb, hml, hown, hts⟩ (kX7_drop l dC dI cI cB cZ o g (aa 0) (S 10) (S 0) (xs (i + 1)) H.size v x' ro' e1) (cwV 1 hts gL_law_X7_drop rfl rfl rfl hdX7_drop ⟨Nat.le_of_ble_eq_true rfl, Nat.le_of_ble_eq_true rfl⟩) hK hP hD hS hA (b_p1 [(wcX o g (S 10)), (wcR cI (g 0) (aa 0) (S 0)), (wcT cB (g 1) (aa 1) (S 1)), (wcE (g 2) (g 1) (S 2)), (wcA cI (g 3) (aa 3) (S 3)), (wcB cI (g 4) (aa 4) (S 4)), (wcF (g 5) f), (wcH cI (g 6) (aa 6) (S 6)), (wcH cI (g 7) (aa 7) (S 7)), (wcH cI (g 8) (aa 8) (S 8)), (wcH cI (g 9) (aa 9) (S 9)), (wcM cI cZ om am sm tm)] [0, 1] [2, 3, 4, 5, 6, 7, 8, 9, 10, 11] (n := 12) rfl (by decide +kernel)) (b_p2 [(wcT cB (g 1) (aa 1) (S 1)), (wcE (g 2) (g 1) (S 2)), (wcA cI (g 3) (aa 3) (S 3)), (wcB cI (g 4) (aa 4) (S 4)), (wcF (g 5) f), (wcH cI (g 6) (aa 6) (S 6)), (wcH cI (g 7) (aa 7) (S 7)), (wcH cI (g 8) (aa 8) (S 8)), (wcH cI (g 9) (aa 9) (S 9)), (wcM cI cZ om am sm tm)] [(wcX o g x'), (wcR cI (g 0) (aa 0) ro')] [10, 11, 0, 1, 2, 3, 4, 5, 6, 7, 8, 9] (n := 12) rfl (by decide +kernel)) rfl rfl rfl hl.1 rfl (Nat.le_of_ble_eq_true rfl) dL_law_318 ⟨Nat.le_of_ble_eq_true rfl, Nat.le_of_ble_eq_true rfl⟩ (fun H locs hP hD hS => ?_)
  refine lv_aload_n hx hb dL_law_321 rfl (lv_at hl 2 rfl) ?_
  refine l_rd hx hb hX hbl hbA hS h0 h3 1 (by omega) hL (by decide) dL_law_322 dL_law_323 dL_law_324 dL_law_325 dL_law_326 ?_
  refine b_rwVl (As := [.int (xs (i + 1))]) (rest := [.long v]) (ci := 8) (wr := (wX cI cB o g aa (sU (sU S 10 x') 0 ro') f)) (w2 := wW cI cB cZ o om g aa (sU (sU S 10 x') 0 ro') f am m' tm) ⟨hx, hb, hml, hown, hts⟩ (kX8_drop l dC dI cI cB cZ om am sm tm (xs (i + 1)) H.size v m' e2) (cwV 1 hts gL_law_X8_drop rfl rfl rfl hdX8_drop ⟨Nat.le_of_ble_eq_true rfl, Nat.le_of_ble_eq_true rfl⟩) hK hP hD hS hA List.perm_append_comm (List.Perm.refl _) rfl rfl rfl hl.1 rfl (Nat.le_of_ble_eq_true rfl) dL_law_327 ⟨Nat.le_of_ble_eq_true rfl, Nat.le_of_ble_eq_true rfl⟩ (fun H locs hP hD hS => ?_)
  refine W.lcmp hx hb dL_law_330 ?_
  refine lv_if_eq (tgt := 1191) hx hb dL_law_331 (by decide) (fun _ => ?_) (fun h => absurd (lg_self v) h)
  exact kk g aa (sU (sU S 10 x') 0 ro') f am m' tm H locs hP hD hS hR1
set_option maxHeartbeats 4000000 in
set_option maxRecDepth 100000 in
theorem cs_feed (C : lwC p s m c b L xs (dC, dI) cI cB cZ adK adV) {Q : State → Prop} {o om i : Nat} {g : Nat → Nat} {aa : Nat → Nat → Nat} {S : Nat → St} {f : Lt} {am : Nat → Nat} {sm : St} {tm : Lt} {H : Heap} {locs : List Loc} {ls : Array Slot} (hi : i + 6 < L) (hP : va_P (dC, dI) vwCl (wW cI cB cZ o om g aa S f am sm tm) H) (hD : va_D (fun q : Nat => s.heap.size ≤ q) (wW cI cB cZ o om g aa S f am sm tm)) (hS : va_S (fun q : Nat => s.heap.size ≤ q) s.heap H locs) (hR : rW S sm) (hl : lv_has ls 4 [(0, .ref b), (1, .ref o), (2, .ref om), (3, .int (nI i))]) (kk : lwK p l e s m b below meth c ls Q (dC, dI) cI cB cZ o om) : W p l e room_1 s m #[Value.ref b] below meth c H locs 70 3561 Q (F0 m 336 ls []) := by
  obtain ⟨hx, hb, hml, hown, hts, hX, hbl, hL, hK, hN⟩ := C
  have hA : ∀ q : Nat, s.heap.size ≤ q → (fun q : Nat => s.heap.size ≤ q) q := fun _ h => h
  have hbA : ¬ (fun q : Nat => s.heap.size ≤ q) b := Nat.not_le.mpr hbl
  have h0 := lv_at hl 0 rfl
  have h3 := lv_at hl 3 rfl
  obtain ⟨v, ta', m', e1, e2, hR1⟩ := feed_sim hR (((xs (i + 1)).toInt64 <<< 32) ||| ((xs (i + 2)).toInt64 &&& 4294967295)) (xs (i + 3))
  refine lv_aload_n hx hb dL_law_336 rfl (lv_at hl 1 rfl) ?_
  refine l_rd hx hb hX hbl hbA hS h0 h3 1 (by omega) hL (by decide) dL_law_337 dL_law_338 dL_law_339 dL_law_340 dL_law_341 ?_
  refine lv_i2l (v := (xs (i + 1)).toInt64) hx hb dL_law_342 rfl ?_
  refine lv_bipush (v := 32) hx hb dL_law_343 (by decide) ?_
  refine lv_lshl (v := (xs (i + 1)).toInt64 <<< 32) hx hb dL_law_345 (congrArg (fun z : Int64 => (xs (i + 1)).toInt64 <<< z) (show ((32 : Int32).toInt64 &&& 63) = (32 : Int64) by decide +kernel)) ?_
  refine l_rd hx hb hX hbl hbA hS h0 h3 2 (by omega) hL (by decide) dL_law_346 dL_law_347 dL_law_348 dL_law_349 dL_law_350 ?_
  refine lv_i2l (v := (xs (i + 2)).toInt64) hx hb dL_law_351 rfl ?_
  refine lv_ldc2 (v := 4294967295) hx hb hown (hts _ qL_c32) dL_law_352 ?_
  refine lv_land hx hb dL_law_355 ?_
  refine lv_lor hx hb dL_law_356 ?_
  refine l_rd hx hb hX hbl hbA hS h0 h3 3 (by omega) hL (by decide) dL_law_357 dL_law_358 dL_law_359 dL_law_360 dL_law_361 ?_
  refine b_rwVl (As := [.long (((xs (i + 1)).toInt64 <<< 32) ||| ((xs (i + 2)).toInt64 &&& 4294967295)), .int (xs (i + 3))]) (rest := []) (ci := 7) (wr := ((wcR cI (g 0) (aa 0) (S 0)) ++ (wcE (g 2) (g 1) (S 2)) ++ (wcA cI (g 3) (aa 3) (S 3)) ++ (wcB cI (g 4) (aa 4) (S 4)) ++ (wcF (g 5) f) ++ (wcH cI (g 6) (aa 6) (S 6)) ++ (wcH cI (g 7) (aa 7) (S 7)) ++ (wcH cI (g 8) (aa 8) (S 8)) ++ (wcH cI (g 9) (aa 9) (S 9)) ++ (wcM cI cZ om am sm tm))) (w2 := wW cI cB cZ o om g aa (sU S 1 ta') f am sm tm) ⟨hx, hb, hml, hown, hts⟩ (kX7_feed l dC dI cI cB cZ o g (aa 1) (S 10) (S 1) (((xs (i + 1)).toInt64 <<< 32) ||| ((xs (i + 2)).toInt64 &&& 4294967295)) (xs (i + 3)) H.size v ta' e1) (cwV 2 hts gL_law_X7_feed rfl rfl rfl hdX7_feed ⟨Nat.le_of_ble_eq_true rfl, Nat.le_of_ble_eq_true rfl⟩) hK hP hD hS hA (b_p1 [(wcX o g (S 10)), (wcR cI (g 0) (aa 0) (S 0)), (wcT cB (g 1) (aa 1) (S 1)), (wcE (g 2) (g 1) (S 2)), (wcA cI (g 3) (aa 3) (S 3)), (wcB cI (g 4) (aa 4) (S 4)), (wcF (g 5) f), (wcH cI (g 6) (aa 6) (S 6)), (wcH cI (g 7) (aa 7) (S 7)), (wcH cI (g 8) (aa 8) (S 8)), (wcH cI (g 9) (aa 9) (S 9)), (wcM cI cZ om am sm tm)] [0, 2] [1, 3, 4, 5, 6, 7, 8, 9, 10, 11] (n := 12) rfl (by decide +kernel)) (b_p2 [(wcR cI (g 0) (aa 0) (S 0)), (wcE (g 2) (g 1) (S 2)), (wcA cI (g 3) (aa 3) (S 3)), (wcB cI (g 4) (aa 4) (S 4)), (wcF (g 5) f), (wcH cI (g 6) (aa 6) (S 6)), (wcH cI (g 7) (aa 7) (S 7)), (wcH cI (g 8) (aa 8) (S 8)), (wcH cI (g 9) (aa 9) (S 9)), (wcM cI cZ om am sm tm)] [(wcX o g (S 10)), (wcT cB (g 1) (aa 1) ta')] [10, 0, 11, 1, 2, 3, 4, 5, 6, 7, 8, 9] (n := 12) rfl (by decide +kernel)) rfl rfl rfl hl.1 rfl (Nat.le_of_ble_eq_true rfl) dL_law_362 ⟨Nat.le_of_ble_eq_true rfl, Nat.le_of_ble_eq_true rfl⟩ (fun H locs hP hD hS => ?_)
  refine lv_aload_n hx hb dL_law_365 rfl (lv_at hl 2 rfl) ?_
  refine l_rd hx hb hX hbl hbA hS h0 h3 1 (by omega) hL (by decide) dL_law_366 dL_law_367 dL_law_368 dL_law_369 dL_law_370 ?_
  refine lv_i2l (v := (xs (i + 1)).toInt64) hx hb dL_law_371 rfl ?_
  refine lv_bipush (v := 32) hx hb dL_law_372 (by decide) ?_
  refine lv_lshl (v := (xs (i + 1)).toInt64 <<< 32) hx hb dL_law_374 (congrArg (fun z : Int64 => (xs (i + 1)).toInt64 <<< z) (show ((32 : Int32).toInt64 &&& 63) = (32 : Int64) by decide +kernel)) ?_
  refine l_rd hx hb hX hbl hbA hS h0 h3 2 (by omega) hL (by decide) dL_law_375 dL_law_376 dL_law_377 dL_law_378 dL_law_379 ?_
  refine lv_i2l (v := (xs (i + 2)).toInt64) hx hb dL_law_380 rfl ?_
  refine lv_ldc2 (v := 4294967295) hx hb hown (hts _ qL_c32) dL_law_381 ?_
  refine lv_land hx hb dL_law_384 ?_
  refine lv_lor hx hb dL_law_385 ?_
  refine l_rd hx hb hX hbl hbA hS h0 h3 3 (by omega) hL (by decide) dL_law_386 dL_law_387 dL_law_388 dL_law_389 dL_law_390 ?_
  refine b_rwVl (As := [.long (((xs (i + 1)).toInt64 <<< 32) ||| ((xs (i + 2)).toInt64 &&& 4294967295)), .int (xs (i + 3))]) (rest := [.long v]) (ci := 8) (wr := (wX cI cB o g aa (sU S 1 ta') f)) (w2 := wW cI cB cZ o om g aa (sU S 1 ta') f am m' tm) ⟨hx, hb, hml, hown, hts⟩ (kX8_feed l dC dI cI cB cZ om am sm tm (((xs (i + 1)).toInt64 <<< 32) ||| ((xs (i + 2)).toInt64 &&& 4294967295)) (xs (i + 3)) H.size v m' e2) (cwV 2 hts gL_law_X8_feed rfl rfl rfl hdX8_feed ⟨Nat.le_of_ble_eq_true rfl, Nat.le_of_ble_eq_true rfl⟩) hK hP hD hS hA List.perm_append_comm (List.Perm.refl _) rfl rfl rfl hl.1 rfl (Nat.le_of_ble_eq_true rfl) dL_law_391 ⟨Nat.le_of_ble_eq_true rfl, Nat.le_of_ble_eq_true rfl⟩ (fun H locs hP hD hS => ?_)
  refine W.lcmp hx hb dL_law_394 ?_
  refine lv_if_eq (tgt := 1191) hx hb dL_law_395 (by decide) (fun _ => ?_) (fun h => absurd (lg_self v) h)
  exact kk g aa (sU S 1 ta') f am m' tm H locs hP hD hS hR1
end CS
