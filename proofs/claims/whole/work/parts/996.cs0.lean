/-! the law's cases: row, fault, status -/
section CS
variable {p : Program} {l : Launch} {e : Env} {s : State} {m : MethodId} {below : List Frame} {meth : Method} {c : Code} {b L : Nat} {xs : Nat → Int32} {dC : Nat → ClassId} {dI : Nat → Nat → Nat} {cI cB cZ : ClassId} {adK adV : Nat → Nat}
set_option maxHeartbeats 4000000 in
set_option maxRecDepth 100000 in
theorem cs_row (C : lwC p s m c b L xs (dC, dI) cI cB cZ adK adV) {Q : State → Prop} {o om i : Nat} {g : Nat → Nat} {aa : Nat → Nat → Nat} {S : Nat → St} {f : Lt} {am : Nat → Nat} {sm : St} {tm : Lt} {H : Heap} {locs : List Loc} {ls : Array Slot} (hi : i + 6 < L) (hP : va_P (dC, dI) vwCl (wW cI cB cZ o om g aa S f am sm tm) H) (hD : va_D (fun q : Nat => s.heap.size ≤ q) (wW cI cB cZ o om g aa S f am sm tm)) (hS : va_S (fun q : Nat => s.heap.size ≤ q) s.heap H locs) (hR : rW S sm) (hl : lv_has ls 4 [(0, .ref b), (1, .ref o), (2, .ref om), (3, .int (nI i))]) (kk : lwK p l e s m b below meth c ls Q (dC, dI) cI cB cZ o om) : W p l e room_1 s m #[Value.ref b] below meth c H locs 70 3561 Q (F0 m 160 ls []) := by
  obtain ⟨hx, hb, hml, hown, hts, hX, hbl, hL, hK, hN⟩ := C
  have hA : ∀ q : Nat, s.heap.size ≤ q → (fun q : Nat => s.heap.size ≤ q) q := fun _ h => h
  have hbA : ¬ (fun q : Nat => s.heap.size ≤ q) b := Nat.not_le.mpr hbl
  have h0 := lv_at hl 0 rfl
  have h3 := lv_at hl 3 rfl
  obtain ⟨v, ro', x', m', e1, e2, hR1⟩ := row_sim hR (xs (i + 1)) (xs (i + 2)) (xs (i + 3))
  refine lv_aload_n hx hb dL_law_160 rfl (lv_at hl 1 rfl) ?_
  refine l_rd hx hb hX hbl hbA hS h0 h3 1 (by omega) hL (by decide) dL_law_161 dL_law_162 dL_law_163 dL_law_164 dL_law_165 ?_
  refine l_rd hx hb hX hbl hbA hS h0 h3 2 (by omega) hL (by decide) dL_law_166 dL_law_167 dL_law_168 dL_law_169 dL_law_170 ?_
  refine l_rd hx hb hX hbl hbA hS h0 h3 3 (by omega) hL (by decide) dL_law_171 dL_law_172 dL_law_173 dL_law_174 dL_law_175 ?_
  refine b_rwVl (As := [.int (xs (i + 1)), .int (xs (i + 2)), .int (xs (i + 3))]) (rest := []) (ci := 7) (wr := ((wcT cB (g 1) (aa 1) (S 1)) ++ (wcE (g 2) (g 1) (S 2)) ++ (wcA cI (g 3) (aa 3) (S 3)) ++ (wcB cI (g 4) (aa 4) (S 4)) ++ (wcF (g 5) f) ++ (wcH cI (g 6) (aa 6) (S 6)) ++ (wcH cI (g 7) (aa 7) (S 7)) ++ (wcH cI (g 8) (aa 8) (S 8)) ++ (wcH cI (g 9) (aa 9) (S 9)) ++ (wcM cI cZ om am sm tm))) (w2 := wW cI cB cZ o om g aa (sU (sU S 10 x') 0 ro') f am sm tm) ⟨hx, hb, hml, hown, hts⟩ (kX7_row l dC dI cI cB cZ o g (aa 0) (S 10) (S 0) (xs (i + 1)) (xs (i + 2)) (xs (i + 3)) H.size v x' ro' e1) (cwV 3 hts gL_law_X7_row rfl rfl rfl hdX7_row ⟨Nat.le_of_ble_eq_true rfl, Nat.le_of_ble_eq_true rfl⟩) hK hP hD hS hA (b_p1 [(wcX o g (S 10)), (wcR cI (g 0) (aa 0) (S 0)), (wcT cB (g 1) (aa 1) (S 1)), (wcE (g 2) (g 1) (S 2)), (wcA cI (g 3) (aa 3) (S 3)), (wcB cI (g 4) (aa 4) (S 4)), (wcF (g 5) f), (wcH cI (g 6) (aa 6) (S 6)), (wcH cI (g 7) (aa 7) (S 7)), (wcH cI (g 8) (aa 8) (S 8)), (wcH cI (g 9) (aa 9) (S 9)), (wcM cI cZ om am sm tm)] [0, 1] [2, 3, 4, 5, 6, 7, 8, 9, 10, 11] (n := 12) rfl (by decide +kernel)) (b_p2 [(wcT cB (g 1) (aa 1) (S 1)), (wcE (g 2) (g 1) (S 2)), (wcA cI (g 3) (aa 3) (S 3)), (wcB cI (g 4) (aa 4) (S 4)), (wcF (g 5) f), (wcH cI (g 6) (aa 6) (S 6)), (wcH cI (g 7) (aa 7) (S 7)), (wcH cI (g 8) (aa 8) (S 8)), (wcH cI (g 9) (aa 9) (S 9)), (wcM cI cZ om am sm tm)] [(wcX o g x'), (wcR cI (g 0) (aa 0) ro')] [10, 11, 0, 1, 2, 3, 4, 5, 6, 7, 8, 9] (n := 12) rfl (by decide +kernel)) rfl rfl rfl hl.1 rfl (Nat.le_of_ble_eq_true rfl) dL_law_176 ⟨Nat.le_of_ble_eq_true rfl, Nat.le_of_ble_eq_true rfl⟩ (fun H locs hP hD hS => ?_)
  refine lv_aload_n hx hb dL_law_179 rfl (lv_at hl 2 rfl) ?_
  refine l_rd hx hb hX hbl hbA hS h0 h3 1 (by omega) hL (by decide) dL_law_180 dL_law_181 dL_law_182 dL_law_183 dL_law_184 ?_
  refine l_rd hx hb hX hbl hbA hS h0 h3 2 (by omega) hL (by decide) dL_law_185 dL_law_186 dL_law_187 dL_law_188 dL_law_189 ?_
  refine l_rd hx hb hX hbl hbA hS h0 h3 3 (by omega) hL (by decide) dL_law_190 dL_law_191 dL_law_192 dL_law_193 dL_law_194 ?_
  refine b_rwVl (As := [.int (xs (i + 1)), .int (xs (i + 2)), .int (xs (i + 3))]) (rest := [.long v]) (ci := 8) (wr := (wX cI cB o g aa (sU (sU S 10 x') 0 ro') f)) (w2 := wW cI cB cZ o om g aa (sU (sU S 10 x') 0 ro') f am m' tm) ⟨hx, hb, hml, hown, hts⟩ (kX8_row l dC dI cI cB cZ om am sm tm (xs (i + 1)) (xs (i + 2)) (xs (i + 3)) H.size v m' e2) (cwV 3 hts gL_law_X8_row rfl rfl rfl hdX8_row ⟨Nat.le_of_ble_eq_true rfl, Nat.le_of_ble_eq_true rfl⟩) hK hP hD hS hA List.perm_append_comm (List.Perm.refl _) rfl rfl rfl hl.1 rfl (Nat.le_of_ble_eq_true rfl) dL_law_195 ⟨Nat.le_of_ble_eq_true rfl, Nat.le_of_ble_eq_true rfl⟩ (fun H locs hP hD hS => ?_)
  refine W.lcmp hx hb dL_law_198 ?_
  refine lv_if_eq (tgt := 1191) hx hb dL_law_199 (by decide) (fun _ => ?_) (fun h => absurd (lg_self v) h)
  exact kk g aa (sU (sU S 10 x') 0 ro') f am m' tm H locs hP hD hS hR1
set_option maxHeartbeats 4000000 in
set_option maxRecDepth 100000 in
theorem cs_fault (C : lwC p s m c b L xs (dC, dI) cI cB cZ adK adV) {Q : State → Prop} {o om i : Nat} {g : Nat → Nat} {aa : Nat → Nat → Nat} {S : Nat → St} {f : Lt} {am : Nat → Nat} {sm : St} {tm : Lt} {H : Heap} {locs : List Loc} {ls : Array Slot} (hi : i + 6 < L) (hP : va_P (dC, dI) vwCl (wW cI cB cZ o om g aa S f am sm tm) H) (hD : va_D (fun q : Nat => s.heap.size ≤ q) (wW cI cB cZ o om g aa S f am sm tm)) (hS : va_S (fun q : Nat => s.heap.size ≤ q) s.heap H locs) (hR : rW S sm) (hl : lv_has ls 4 [(0, .ref b), (1, .ref o), (2, .ref om), (3, .int (nI i))]) (kk : lwK p l e s m b below meth c ls Q (dC, dI) cI cB cZ o om) : W p l e room_1 s m #[Value.ref b] below meth c H locs 70 3561 Q (F0 m 414 ls []) := by
  obtain ⟨hx, hb, hml, hown, hts, hX, hbl, hL, hK, hN⟩ := C
  have hA : ∀ q : Nat, s.heap.size ≤ q → (fun q : Nat => s.heap.size ≤ q) q := fun _ h => h
  have hbA : ¬ (fun q : Nat => s.heap.size ≤ q) b := Nat.not_le.mpr hbl
  have h0 := lv_at hl 0 rfl
  have h3 := lv_at hl 3 rfl
  obtain ⟨v, m', e1, e2, hR1⟩ := fault_sim hR 
  refine lv_aload_n hx hb dL_law_414 rfl (lv_at hl 1 rfl) ?_
  refine q_roVi (As := []) (rest := []) (ci := 7) ⟨hx, hb, hml, hown, hts⟩ (kX7_fault l dC dI cI cB cZ o g (S 10) v e1) (cwV 0 hts gL_law_X7_fault rfl rfl rfl hdX7_fault ⟨Nat.le_of_ble_eq_true rfl, Nat.le_of_ble_eq_true rfl⟩) hK (p_left (w' := ((wcR cI (g 0) (aa 0) (S 0)) ++ (wcT cB (g 1) (aa 1) (S 1)) ++ (wcE (g 2) (g 1) (S 2)) ++ (wcA cI (g 3) (aa 3) (S 3)) ++ (wcB cI (g 4) (aa 4) (S 4)) ++ (wcF (g 5) f) ++ (wcH cI (g 6) (aa 6) (S 6)) ++ (wcH cI (g 7) (aa 7) (S 7)) ++ (wcH cI (g 8) (aa 8) (S 8)) ++ (wcH cI (g 9) (aa 9) (S 9)) ++ (wcM cI cZ om am sm tm))) (p_perm (b_p1 [(wcX o g (S 10)), (wcR cI (g 0) (aa 0) (S 0)), (wcT cB (g 1) (aa 1) (S 1)), (wcE (g 2) (g 1) (S 2)), (wcA cI (g 3) (aa 3) (S 3)), (wcB cI (g 4) (aa 4) (S 4)), (wcF (g 5) f), (wcH cI (g 6) (aa 6) (S 6)), (wcH cI (g 7) (aa 7) (S 7)), (wcH cI (g 8) (aa 8) (S 8)), (wcH cI (g 9) (aa 9) (S 9)), (wcM cI cZ om am sm tm)] [0] [1, 2, 3, 4, 5, 6, 7, 8, 9, 10, 11] (n := 12) rfl (by decide +kernel)) hP)) rfl rfl rfl hl.1 rfl (Nat.le_of_ble_eq_true rfl) dL_law_415 ⟨Nat.le_of_ble_eq_true rfl, Nat.le_of_ble_eq_true rfl⟩ ?_
  refine lv_aload_n hx hb dL_law_418 rfl (lv_at hl 2 rfl) ?_
  refine b_rwVi (As := []) (rest := [.int v]) (ci := 8) (wr := (wX cI cB o g aa S f)) (w2 := wW cI cB cZ o om g aa S f am m' tm) ⟨hx, hb, hml, hown, hts⟩ (kX8_fault l dC dI cI cB cZ om am sm tm H.size v m' e2) (cwV 0 hts gL_law_X8_fault rfl rfl rfl hdX8_fault ⟨Nat.le_of_ble_eq_true rfl, Nat.le_of_ble_eq_true rfl⟩) hK hP hD hS hA List.perm_append_comm (List.Perm.refl _) rfl rfl rfl hl.1 rfl (Nat.le_of_ble_eq_true rfl) dL_law_419 ⟨Nat.le_of_ble_eq_true rfl, Nat.le_of_ble_eq_true rfl⟩ (fun H locs hP hD hS => ?_)
  refine lv_icmp_eq (tgt := 1191) hx hb dL_law_422 (by decide) (fun _ => ?_) (fun h => absurd rfl h)
  exact kk g aa S f am m' tm H locs hP hD hS hR1
set_option maxHeartbeats 4000000 in
set_option maxRecDepth 100000 in
theorem cs_status (C : lwC p s m c b L xs (dC, dI) cI cB cZ adK adV) {Q : State → Prop} {o om i : Nat} {g : Nat → Nat} {aa : Nat → Nat → Nat} {S : Nat → St} {f : Lt} {am : Nat → Nat} {sm : St} {tm : Lt} {H : Heap} {locs : List Loc} {ls : Array Slot} (hi : i + 6 < L) (hP : va_P (dC, dI) vwCl (wW cI cB cZ o om g aa S f am sm tm) H) (hD : va_D (fun q : Nat => s.heap.size ≤ q) (wW cI cB cZ o om g aa S f am sm tm)) (hS : va_S (fun q : Nat => s.heap.size ≤ q) s.heap H locs) (hR : rW S sm) (hl : lv_has ls 4 [(0, .ref b), (1, .ref o), (2, .ref om), (3, .int (nI i))]) (kk : lwK p l e s m b below meth c ls Q (dC, dI) cI cB cZ o om) : W p l e room_1 s m #[Value.ref b] below meth c H locs 70 3561 Q (F0 m 1178 ls []) := by
  obtain ⟨hx, hb, hml, hown, hts, hX, hbl, hL, hK, hN⟩ := C
  have hA : ∀ q : Nat, s.heap.size ≤ q → (fun q : Nat => s.heap.size ≤ q) q := fun _ h => h
  have hbA : ¬ (fun q : Nat => s.heap.size ≤ q) b := Nat.not_le.mpr hbl
  have h0 := lv_at hl 0 rfl
  have h3 := lv_at hl 3 rfl
  obtain ⟨v, m', e1, e2, hR1⟩ := status_sim hR 
  refine lv_aload_n hx hb dL_law_1178 rfl (lv_at hl 1 rfl) ?_
  refine q_roVi (As := []) (rest := []) (ci := 7) ⟨hx, hb, hml, hown, hts⟩ (kX7_status l dC dI cI cB cZ o g (S 10) v e1) (cwV 0 hts gL_law_X7_status rfl rfl rfl hdX7_status ⟨Nat.le_of_ble_eq_true rfl, Nat.le_of_ble_eq_true rfl⟩) hK (p_left (w' := ((wcR cI (g 0) (aa 0) (S 0)) ++ (wcT cB (g 1) (aa 1) (S 1)) ++ (wcE (g 2) (g 1) (S 2)) ++ (wcA cI (g 3) (aa 3) (S 3)) ++ (wcB cI (g 4) (aa 4) (S 4)) ++ (wcF (g 5) f) ++ (wcH cI (g 6) (aa 6) (S 6)) ++ (wcH cI (g 7) (aa 7) (S 7)) ++ (wcH cI (g 8) (aa 8) (S 8)) ++ (wcH cI (g 9) (aa 9) (S 9)) ++ (wcM cI cZ om am sm tm))) (p_perm (b_p1 [(wcX o g (S 10)), (wcR cI (g 0) (aa 0) (S 0)), (wcT cB (g 1) (aa 1) (S 1)), (wcE (g 2) (g 1) (S 2)), (wcA cI (g 3) (aa 3) (S 3)), (wcB cI (g 4) (aa 4) (S 4)), (wcF (g 5) f), (wcH cI (g 6) (aa 6) (S 6)), (wcH cI (g 7) (aa 7) (S 7)), (wcH cI (g 8) (aa 8) (S 8)), (wcH cI (g 9) (aa 9) (S 9)), (wcM cI cZ om am sm tm)] [0] [1, 2, 3, 4, 5, 6, 7, 8, 9, 10, 11] (n := 12) rfl (by decide +kernel)) hP)) rfl rfl rfl hl.1 rfl (Nat.le_of_ble_eq_true rfl) dL_law_1179 ⟨Nat.le_of_ble_eq_true rfl, Nat.le_of_ble_eq_true rfl⟩ ?_
  refine lv_aload_n hx hb dL_law_1182 rfl (lv_at hl 2 rfl) ?_
  refine b_rwVi (As := []) (rest := [.int v]) (ci := 8) (wr := (wX cI cB o g aa S f)) (w2 := wW cI cB cZ o om g aa S f am m' tm) ⟨hx, hb, hml, hown, hts⟩ (kX8_status l dC dI cI cB cZ om am sm tm H.size v m' e2) (cwV 0 hts gL_law_X8_status rfl rfl rfl hdX8_status ⟨Nat.le_of_ble_eq_true rfl, Nat.le_of_ble_eq_true rfl⟩) hK hP hD hS hA List.perm_append_comm (List.Perm.refl _) rfl rfl rfl hl.1 rfl (Nat.le_of_ble_eq_true rfl) dL_law_1183 ⟨Nat.le_of_ble_eq_true rfl, Nat.le_of_ble_eq_true rfl⟩ (fun H locs hP hD hS => ?_)
  refine lv_icmp_eq (tgt := 1191) hx hb dL_law_1186 (by decide) (fun _ => ?_) (fun h => absurd rfl h)
  exact kk g aa S f am m' tm H locs hP hD hS hR1
end CS
