/-! the law's cases: grave, tree, minds, kind, trace, count, how, picks -/
section CS
variable {p : Program} {l : Launch} {e : Env} {s : State} {m : MethodId} {below : List Frame} {meth : Method} {c : Code} {b L : Nat} {xs : Nat → Int32} {dC : Nat → ClassId} {dI : Nat → Nat → Nat} {cI cB cZ : ClassId} {adK adV : Nat → Nat}
set_option maxHeartbeats 4000000 in
set_option maxRecDepth 100000 in
theorem cs_grave (C : lwC p s m c b L xs (dC, dI) cI cB cZ adK adV) {Q : State → Prop} {o om i : Nat} {g : Nat → Nat} {aa : Nat → Nat → Nat} {S : Nat → St} {f : Lt} {am : Nat → Nat} {sm : St} {tm : Lt} {H : Heap} {locs : List Loc} {ls : Array Slot} (hi : i + 6 < L) (hP : va_P (dC, dI) vwCl (wW cI cB cZ o om g aa S f am sm tm) H) (hD : va_D (fun q : Nat => s.heap.size ≤ q) (wW cI cB cZ o om g aa S f am sm tm)) (hS : va_S (fun q : Nat => s.heap.size ≤ q) s.heap H locs) (hR : rW S sm) (hl : lv_has ls 4 [(0, .ref b), (1, .ref o), (2, .ref om), (3, .int (nI i))]) (kk : lwK p l e s m b below meth c ls Q (dC, dI) cI cB cZ o om) : W p l e room_1 s m #[Value.ref b] below meth c H locs 70 3561 Q (F0 m 587 ls []) := by
  obtain ⟨hx, hb, hml, hown, hts, hX, hbl, hL, hK, hN⟩ := C
  have hA : ∀ q : Nat, s.heap.size ≤ q → (fun q : Nat => s.heap.size ≤ q) q := fun _ h => h
  have hbA : ¬ (fun q : Nat => s.heap.size ≤ q) b := Nat.not_le.mpr hbl
  have h0 := lv_at hl 0 rfl
  have h3 := lv_at hl 3 rfl
  obtain ⟨v, m', e1, e2, hR1⟩ := grave_sim hR (xs (i + 1)) (xs (i + 2))
  refine lv_aload_n hx hb dL_law_587 rfl (lv_at hl 1 rfl) ?_
  refine l_rd hx hb hX hbl hbA hS h0 h3 1 (by omega) hL (by decide) dL_law_588 dL_law_589 dL_law_590 dL_law_591 dL_law_592 ?_
  refine l_rd hx hb hX hbl hbA hS h0 h3 2 (by omega) hL (by decide) dL_law_593 dL_law_594 dL_law_595 dL_law_596 dL_law_597 ?_
  refine q_roVl (As := [.int (xs (i + 1)), .int (xs (i + 2))]) (rest := []) (ci := 7) ⟨hx, hb, hml, hown, hts⟩ (kX7_grave l dC dI cI cB cZ o g (aa 8) (S 10) (S 8) (xs (i + 1)) (xs (i + 2)) v e1) (cwV 2 hts gL_law_X7_grave rfl rfl rfl hdX7_grave ⟨Nat.le_of_ble_eq_true rfl, Nat.le_of_ble_eq_true rfl⟩) hK (p_left (w' := ((wcR cI (g 0) (aa 0) (S 0)) ++ (wcT cB (g 1) (aa 1) (S 1)) ++ (wcE (g 2) (g 1) (S 2)) ++ (wcA cI (g 3) (aa 3) (S 3)) ++ (wcB cI (g 4) (aa 4) (S 4)) ++ (wcF (g 5) f) ++ (wcH cI (g 6) (aa 6) (S 6)) ++ (wcH cI (g 7) (aa 7) (S 7)) ++ (wcH cI (g 9) (aa 9) (S 9)) ++ (wcM cI cZ om am sm tm))) (p_perm (b_p1 [(wcX o g (S 10)), (wcR cI (g 0) (aa 0) (S 0)), (wcT cB (g 1) (aa 1) (S 1)), (wcE (g 2) (g 1) (S 2)), (wcA cI (g 3) (aa 3) (S 3)), (wcB cI (g 4) (aa 4) (S 4)), (wcF (g 5) f), (wcH cI (g 6) (aa 6) (S 6)), (wcH cI (g 7) (aa 7) (S 7)), (wcH cI (g 8) (aa 8) (S 8)), (wcH cI (g 9) (aa 9) (S 9)), (wcM cI cZ om am sm tm)] [0, 9] [1, 2, 3, 4, 5, 6, 7, 8, 10, 11] (n := 12) rfl (by decide +kernel)) hP)) rfl rfl rfl hl.1 rfl (Nat.le_of_ble_eq_true rfl) dL_law_598 ⟨Nat.le_of_ble_eq_true rfl, Nat.le_of_ble_eq_true rfl⟩ ?_
  refine lv_aload_n hx hb dL_law_601 rfl (lv_at hl 2 rfl) ?_
  refine l_rd hx hb hX hbl hbA hS h0 h3 1 (by omega) hL (by decide) dL_law_602 dL_law_603 dL_law_604 dL_law_605 dL_law_606 ?_
  refine l_rd hx hb hX hbl hbA hS h0 h3 2 (by omega) hL (by decide) dL_law_607 dL_law_608 dL_law_609 dL_law_610 dL_law_611 ?_
  refine b_rwVl (As := [.int (xs (i + 1)), .int (xs (i + 2))]) (rest := [.long v]) (ci := 8) (wr := (wX cI cB o g aa S f)) (w2 := wW cI cB cZ o om g aa S f am m' tm) ⟨hx, hb, hml, hown, hts⟩ (kX8_grave l dC dI cI cB cZ om am sm tm (xs (i + 1)) (xs (i + 2)) H.size v m' e2) (cwV 2 hts gL_law_X8_grave rfl rfl rfl hdX8_grave ⟨Nat.le_of_ble_eq_true rfl, Nat.le_of_ble_eq_true rfl⟩) hK hP hD hS hA List.perm_append_comm (List.Perm.refl _) rfl rfl rfl hl.1 rfl (Nat.le_of_ble_eq_true rfl) dL_law_612 ⟨Nat.le_of_ble_eq_true rfl, Nat.le_of_ble_eq_true rfl⟩ (fun H locs hP hD hS => ?_)
  refine W.lcmp hx hb dL_law_615 ?_
  refine lv_if_eq (tgt := 1191) hx hb dL_law_616 (by decide) (fun _ => ?_) (fun h => absurd (lg_self v) h)
  exact kk g aa S f am m' tm H locs hP hD hS hR1
set_option maxHeartbeats 4000000 in
set_option maxRecDepth 100000 in
theorem cs_tree (C : lwC p s m c b L xs (dC, dI) cI cB cZ adK adV) {Q : State → Prop} {o om i : Nat} {g : Nat → Nat} {aa : Nat → Nat → Nat} {S : Nat → St} {f : Lt} {am : Nat → Nat} {sm : St} {tm : Lt} {H : Heap} {locs : List Loc} {ls : Array Slot} (hi : i + 6 < L) (hP : va_P (dC, dI) vwCl (wW cI cB cZ o om g aa S f am sm tm) H) (hD : va_D (fun q : Nat => s.heap.size ≤ q) (wW cI cB cZ o om g aa S f am sm tm)) (hS : va_S (fun q : Nat => s.heap.size ≤ q) s.heap H locs) (hR : rW S sm) (hl : lv_has ls 4 [(0, .ref b), (1, .ref o), (2, .ref om), (3, .int (nI i))]) (kk : lwK p l e s m b below meth c ls Q (dC, dI) cI cB cZ o om) : W p l e room_1 s m #[Value.ref b] below meth c H locs 70 3561 Q (F0 m 621 ls []) := by
  obtain ⟨hx, hb, hml, hown, hts, hX, hbl, hL, hK, hN⟩ := C
  have hA : ∀ q : Nat, s.heap.size ≤ q → (fun q : Nat => s.heap.size ≤ q) q := fun _ h => h
  have hbA : ¬ (fun q : Nat => s.heap.size ≤ q) b := Nat.not_le.mpr hbl
  have h0 := lv_at hl 0 rfl
  have h3 := lv_at hl 3 rfl
  obtain ⟨v, m', e1, e2, hR1⟩ := tree_sim hR (xs (i + 1)) (xs (i + 2))
  refine lv_aload_n hx hb dL_law_621 rfl (lv_at hl 1 rfl) ?_
  refine l_rd hx hb hX hbl hbA hS h0 h3 1 (by omega) hL (by decide) dL_law_622 dL_law_623 dL_law_624 dL_law_625 dL_law_626 ?_
  refine l_rd hx hb hX hbl hbA hS h0 h3 2 (by omega) hL (by decide) dL_law_627 dL_law_628 dL_law_629 dL_law_630 dL_law_631 ?_
  refine q_roVl (As := [.int (xs (i + 1)), .int (xs (i + 2))]) (rest := []) (ci := 7) ⟨hx, hb, hml, hown, hts⟩ (kX7_tree l dC dI cI cB cZ o g (aa 8) (S 10) (S 8) (xs (i + 1)) (xs (i + 2)) v e1) (cwV 2 hts gL_law_X7_tree rfl rfl rfl hdX7_tree ⟨Nat.le_of_ble_eq_true rfl, Nat.le_of_ble_eq_true rfl⟩) hK (p_left (w' := ((wcR cI (g 0) (aa 0) (S 0)) ++ (wcT cB (g 1) (aa 1) (S 1)) ++ (wcE (g 2) (g 1) (S 2)) ++ (wcA cI (g 3) (aa 3) (S 3)) ++ (wcB cI (g 4) (aa 4) (S 4)) ++ (wcF (g 5) f) ++ (wcH cI (g 6) (aa 6) (S 6)) ++ (wcH cI (g 7) (aa 7) (S 7)) ++ (wcH cI (g 9) (aa 9) (S 9)) ++ (wcM cI cZ om am sm tm))) (p_perm (b_p1 [(wcX o g (S 10)), (wcR cI (g 0) (aa 0) (S 0)), (wcT cB (g 1) (aa 1) (S 1)), (wcE (g 2) (g 1) (S 2)), (wcA cI (g 3) (aa 3) (S 3)), (wcB cI (g 4) (aa 4) (S 4)), (wcF (g 5) f), (wcH cI (g 6) (aa 6) (S 6)), (wcH cI (g 7) (aa 7) (S 7)), (wcH cI (g 8) (aa 8) (S 8)), (wcH cI (g 9) (aa 9) (S 9)), (wcM cI cZ om am sm tm)] [0, 9] [1, 2, 3, 4, 5, 6, 7, 8, 10, 11] (n := 12) rfl (by decide +kernel)) hP)) rfl rfl rfl hl.1 rfl (Nat.le_of_ble_eq_true rfl) dL_law_632 ⟨Nat.le_of_ble_eq_true rfl, Nat.le_of_ble_eq_true rfl⟩ ?_
  refine lv_aload_n hx hb dL_law_635 rfl (lv_at hl 2 rfl) ?_
  refine l_rd hx hb hX hbl hbA hS h0 h3 1 (by omega) hL (by decide) dL_law_636 dL_law_637 dL_law_638 dL_law_639 dL_law_640 ?_
  refine l_rd hx hb hX hbl hbA hS h0 h3 2 (by omega) hL (by decide) dL_law_641 dL_law_642 dL_law_643 dL_law_644 dL_law_645 ?_
  refine b_rwVl (As := [.int (xs (i + 1)), .int (xs (i + 2))]) (rest := [.long v]) (ci := 8) (wr := (wX cI cB o g aa S f)) (w2 := wW cI cB cZ o om g aa S f am m' tm) ⟨hx, hb, hml, hown, hts⟩ (kX8_tree l dC dI cI cB cZ om am sm tm (xs (i + 1)) (xs (i + 2)) H.size v m' e2) (cwV 2 hts gL_law_X8_tree rfl rfl rfl hdX8_tree ⟨Nat.le_of_ble_eq_true rfl, Nat.le_of_ble_eq_true rfl⟩) hK hP hD hS hA List.perm_append_comm (List.Perm.refl _) rfl rfl rfl hl.1 rfl (Nat.le_of_ble_eq_true rfl) dL_law_646 ⟨Nat.le_of_ble_eq_true rfl, Nat.le_of_ble_eq_true rfl⟩ (fun H locs hP hD hS => ?_)
  refine W.lcmp hx hb dL_law_649 ?_
  refine lv_if_eq (tgt := 1191) hx hb dL_law_650 (by decide) (fun _ => ?_) (fun h => absurd (lg_self v) h)
  exact kk g aa S f am m' tm H locs hP hD hS hR1
set_option maxHeartbeats 4000000 in
set_option maxRecDepth 100000 in
theorem cs_minds (C : lwC p s m c b L xs (dC, dI) cI cB cZ adK adV) {Q : State → Prop} {o om i : Nat} {g : Nat → Nat} {aa : Nat → Nat → Nat} {S : Nat → St} {f : Lt} {am : Nat → Nat} {sm : St} {tm : Lt} {H : Heap} {locs : List Loc} {ls : Array Slot} (hi : i + 6 < L) (hP : va_P (dC, dI) vwCl (wW cI cB cZ o om g aa S f am sm tm) H) (hD : va_D (fun q : Nat => s.heap.size ≤ q) (wW cI cB cZ o om g aa S f am sm tm)) (hS : va_S (fun q : Nat => s.heap.size ≤ q) s.heap H locs) (hR : rW S sm) (hl : lv_has ls 4 [(0, .ref b), (1, .ref o), (2, .ref om), (3, .int (nI i))]) (kk : lwK p l e s m b below meth c ls Q (dC, dI) cI cB cZ o om) : W p l e room_1 s m #[Value.ref b] below meth c H locs 70 3561 Q (F0 m 655 ls []) := by
  obtain ⟨hx, hb, hml, hown, hts, hX, hbl, hL, hK, hN⟩ := C
  have hA : ∀ q : Nat, s.heap.size ≤ q → (fun q : Nat => s.heap.size ≤ q) q := fun _ h => h
  have hbA : ¬ (fun q : Nat => s.heap.size ≤ q) b := Nat.not_le.mpr hbl
  have h0 := lv_at hl 0 rfl
  have h3 := lv_at hl 3 rfl
  obtain ⟨v, m', e1, e2, hR1⟩ := minds_sim hR (xs (i + 1)) (xs (i + 2))
  refine lv_aload_n hx hb dL_law_655 rfl (lv_at hl 1 rfl) ?_
  refine l_rd hx hb hX hbl hbA hS h0 h3 1 (by omega) hL (by decide) dL_law_656 dL_law_657 dL_law_658 dL_law_659 dL_law_660 ?_
  refine l_rd hx hb hX hbl hbA hS h0 h3 2 (by omega) hL (by decide) dL_law_661 dL_law_662 dL_law_663 dL_law_664 dL_law_665 ?_
  refine q_roVl (As := [.int (xs (i + 1)), .int (xs (i + 2))]) (rest := []) (ci := 7) ⟨hx, hb, hml, hown, hts⟩ (kX7_minds l dC dI cI cB cZ o g (aa 8) (S 10) (S 8) (xs (i + 1)) (xs (i + 2)) v e1) (cwV 2 hts gL_law_X7_minds rfl rfl rfl hdX7_minds ⟨Nat.le_of_ble_eq_true rfl, Nat.le_of_ble_eq_true rfl⟩) hK (p_left (w' := ((wcR cI (g 0) (aa 0) (S 0)) ++ (wcT cB (g 1) (aa 1) (S 1)) ++ (wcE (g 2) (g 1) (S 2)) ++ (wcA cI (g 3) (aa 3) (S 3)) ++ (wcB cI (g 4) (aa 4) (S 4)) ++ (wcF (g 5) f) ++ (wcH cI (g 6) (aa 6) (S 6)) ++ (wcH cI (g 7) (aa 7) (S 7)) ++ (wcH cI (g 9) (aa 9) (S 9)) ++ (wcM cI cZ om am sm tm))) (p_perm (b_p1 [(wcX o g (S 10)), (wcR cI (g 0) (aa 0) (S 0)), (wcT cB (g 1) (aa 1) (S 1)), (wcE (g 2) (g 1) (S 2)), (wcA cI (g 3) (aa 3) (S 3)), (wcB cI (g 4) (aa 4) (S 4)), (wcF (g 5) f), (wcH cI (g 6) (aa 6) (S 6)), (wcH cI (g 7) (aa 7) (S 7)), (wcH cI (g 8) (aa 8) (S 8)), (wcH cI (g 9) (aa 9) (S 9)), (wcM cI cZ om am sm tm)] [0, 9] [1, 2, 3, 4, 5, 6, 7, 8, 10, 11] (n := 12) rfl (by decide +kernel)) hP)) rfl rfl rfl hl.1 rfl (Nat.le_of_ble_eq_true rfl) dL_law_666 ⟨Nat.le_of_ble_eq_true rfl, Nat.le_of_ble_eq_true rfl⟩ ?_
  refine lv_aload_n hx hb dL_law_669 rfl (lv_at hl 2 rfl) ?_
  refine l_rd hx hb hX hbl hbA hS h0 h3 1 (by omega) hL (by decide) dL_law_670 dL_law_671 dL_law_672 dL_law_673 dL_law_674 ?_
  refine l_rd hx hb hX hbl hbA hS h0 h3 2 (by omega) hL (by decide) dL_law_675 dL_law_676 dL_law_677 dL_law_678 dL_law_679 ?_
  refine b_rwVl (As := [.int (xs (i + 1)), .int (xs (i + 2))]) (rest := [.long v]) (ci := 8) (wr := (wX cI cB o g aa S f)) (w2 := wW cI cB cZ o om g aa S f am m' tm) ⟨hx, hb, hml, hown, hts⟩ (kX8_minds l dC dI cI cB cZ om am sm tm (xs (i + 1)) (xs (i + 2)) H.size v m' e2) (cwV 2 hts gL_law_X8_minds rfl rfl rfl hdX8_minds ⟨Nat.le_of_ble_eq_true rfl, Nat.le_of_ble_eq_true rfl⟩) hK hP hD hS hA List.perm_append_comm (List.Perm.refl _) rfl rfl rfl hl.1 rfl (Nat.le_of_ble_eq_true rfl) dL_law_680 ⟨Nat.le_of_ble_eq_true rfl, Nat.le_of_ble_eq_true rfl⟩ (fun H locs hP hD hS => ?_)
  refine W.lcmp hx hb dL_law_683 ?_
  refine lv_if_eq (tgt := 1191) hx hb dL_law_684 (by decide) (fun _ => ?_) (fun h => absurd (lg_self v) h)
  exact kk g aa S f am m' tm H locs hP hD hS hR1
set_option maxHeartbeats 4000000 in
set_option maxRecDepth 100000 in
theorem cs_kind (C : lwC p s m c b L xs (dC, dI) cI cB cZ adK adV) {Q : State → Prop} {o om i : Nat} {g : Nat → Nat} {aa : Nat → Nat → Nat} {S : Nat → St} {f : Lt} {am : Nat → Nat} {sm : St} {tm : Lt} {H : Heap} {locs : List Loc} {ls : Array Slot} (hi : i + 6 < L) (hP : va_P (dC, dI) vwCl (wW cI cB cZ o om g aa S f am sm tm) H) (hD : va_D (fun q : Nat => s.heap.size ≤ q) (wW cI cB cZ o om g aa S f am sm tm)) (hS : va_S (fun q : Nat => s.heap.size ≤ q) s.heap H locs) (hR : rW S sm) (hl : lv_has ls 4 [(0, .ref b), (1, .ref o), (2, .ref om), (3, .int (nI i))]) (kk : lwK p l e s m b below meth c ls Q (dC, dI) cI cB cZ o om) : W p l e room_1 s m #[Value.ref b] below meth c H locs 70 3561 Q (F0 m 1039 ls []) := by
  obtain ⟨hx, hb, hml, hown, hts, hX, hbl, hL, hK, hN⟩ := C
  have hA : ∀ q : Nat, s.heap.size ≤ q → (fun q : Nat => s.heap.size ≤ q) q := fun _ h => h
  have hbA : ¬ (fun q : Nat => s.heap.size ≤ q) b := Nat.not_le.mpr hbl
  have h0 := lv_at hl 0 rfl
  have h3 := lv_at hl 3 rfl
  obtain ⟨v, m', e1, e2, hR1⟩ := kind_sim hR (xs (i + 1))
  refine lv_aload_n hx hb dL_law_1039 rfl (lv_at hl 1 rfl) ?_
  refine l_rd hx hb hX hbl hbA hS h0 h3 1 (by omega) hL (by decide) dL_law_1040 dL_law_1041 dL_law_1042 dL_law_1043 dL_law_1044 ?_
  refine q_roVl (As := [.int (xs (i + 1))]) (rest := []) (ci := 7) ⟨hx, hb, hml, hown, hts⟩ (kX7_kind l dC dI cI cB cZ o g (aa 8) (S 10) (S 8) (xs (i + 1)) v e1) (cwV 1 hts gL_law_X7_kind rfl rfl rfl hdX7_kind ⟨Nat.le_of_ble_eq_true rfl, Nat.le_of_ble_eq_true rfl⟩) hK (p_left (w' := ((wcR cI (g 0) (aa 0) (S 0)) ++ (wcT cB (g 1) (aa 1) (S 1)) ++ (wcE (g 2) (g 1) (S 2)) ++ (wcA cI (g 3) (aa 3) (S 3)) ++ (wcB cI (g 4) (aa 4) (S 4)) ++ (wcF (g 5) f) ++ (wcH cI (g 6) (aa 6) (S 6)) ++ (wcH cI (g 7) (aa 7) (S 7)) ++ (wcH cI (g 9) (aa 9) (S 9)) ++ (wcM cI cZ om am sm tm))) (p_perm (b_p1 [(wcX o g (S 10)), (wcR cI (g 0) (aa 0) (S 0)), (wcT cB (g 1) (aa 1) (S 1)), (wcE (g 2) (g 1) (S 2)), (wcA cI (g 3) (aa 3) (S 3)), (wcB cI (g 4) (aa 4) (S 4)), (wcF (g 5) f), (wcH cI (g 6) (aa 6) (S 6)), (wcH cI (g 7) (aa 7) (S 7)), (wcH cI (g 8) (aa 8) (S 8)), (wcH cI (g 9) (aa 9) (S 9)), (wcM cI cZ om am sm tm)] [0, 9] [1, 2, 3, 4, 5, 6, 7, 8, 10, 11] (n := 12) rfl (by decide +kernel)) hP)) rfl rfl rfl hl.1 rfl (Nat.le_of_ble_eq_true rfl) dL_law_1045 ⟨Nat.le_of_ble_eq_true rfl, Nat.le_of_ble_eq_true rfl⟩ ?_
  refine lv_aload_n hx hb dL_law_1048 rfl (lv_at hl 2 rfl) ?_
  refine l_rd hx hb hX hbl hbA hS h0 h3 1 (by omega) hL (by decide) dL_law_1049 dL_law_1050 dL_law_1051 dL_law_1052 dL_law_1053 ?_
  refine b_rwVl (As := [.int (xs (i + 1))]) (rest := [.long v]) (ci := 8) (wr := (wX cI cB o g aa S f)) (w2 := wW cI cB cZ o om g aa S f am m' tm) ⟨hx, hb, hml, hown, hts⟩ (kX8_kind l dC dI cI cB cZ om am sm tm (xs (i + 1)) H.size v m' e2) (cwV 1 hts gL_law_X8_kind rfl rfl rfl hdX8_kind ⟨Nat.le_of_ble_eq_true rfl, Nat.le_of_ble_eq_true rfl⟩) hK hP hD hS hA List.perm_append_comm (List.Perm.refl _) rfl rfl rfl hl.1 rfl (Nat.le_of_ble_eq_true rfl) dL_law_1054 ⟨Nat.le_of_ble_eq_true rfl, Nat.le_of_ble_eq_true rfl⟩ (fun H locs hP hD hS => ?_)
  refine W.lcmp hx hb dL_law_1057 ?_
  refine lv_if_eq (tgt := 1191) hx hb dL_law_1058 (by decide) (fun _ => ?_) (fun h => absurd (lg_self v) h)
  exact kk g aa S f am m' tm H locs hP hD hS hR1
set_option maxHeartbeats 4000000 in
set_option maxRecDepth 100000 in
theorem cs_trace (C : lwC p s m c b L xs (dC, dI) cI cB cZ adK adV) {Q : State → Prop} {o om i : Nat} {g : Nat → Nat} {aa : Nat → Nat → Nat} {S : Nat → St} {f : Lt} {am : Nat → Nat} {sm : St} {tm : Lt} {H : Heap} {locs : List Loc} {ls : Array Slot} (hi : i + 6 < L) (hP : va_P (dC, dI) vwCl (wW cI cB cZ o om g aa S f am sm tm) H) (hD : va_D (fun q : Nat => s.heap.size ≤ q) (wW cI cB cZ o om g aa S f am sm tm)) (hS : va_S (fun q : Nat => s.heap.size ≤ q) s.heap H locs) (hR : rW S sm) (hl : lv_has ls 4 [(0, .ref b), (1, .ref o), (2, .ref om), (3, .int (nI i))]) (kk : lwK p l e s m b below meth c ls Q (dC, dI) cI cB cZ o om) : W p l e room_1 s m #[Value.ref b] below meth c H locs 70 3561 Q (F0 m 1131 ls []) := by
  obtain ⟨hx, hb, hml, hown, hts, hX, hbl, hL, hK, hN⟩ := C
  have hA : ∀ q : Nat, s.heap.size ≤ q → (fun q : Nat => s.heap.size ≤ q) q := fun _ h => h
  have hbA : ¬ (fun q : Nat => s.heap.size ≤ q) b := Nat.not_le.mpr hbl
  have h0 := lv_at hl 0 rfl
  have h3 := lv_at hl 3 rfl
  obtain ⟨v, m', e1, e2, hR1⟩ := trace_sim hR (xs (i + 1))
  refine lv_aload_n hx hb dL_law_1131 rfl (lv_at hl 1 rfl) ?_
  refine l_rd hx hb hX hbl hbA hS h0 h3 1 (by omega) hL (by decide) dL_law_1132 dL_law_1133 dL_law_1134 dL_law_1135 dL_law_1136 ?_
  refine q_roVi (As := [.int (xs (i + 1))]) (rest := []) (ci := 7) ⟨hx, hb, hml, hown, hts⟩ (kX7_trace l dC dI cI cB cZ o g (aa 4) (S 10) (S 4) (xs (i + 1)) v e1) (cwV 1 hts gL_law_X7_trace rfl rfl rfl hdX7_trace ⟨Nat.le_of_ble_eq_true rfl, Nat.le_of_ble_eq_true rfl⟩) hK (p_left (w' := ((wcR cI (g 0) (aa 0) (S 0)) ++ (wcT cB (g 1) (aa 1) (S 1)) ++ (wcE (g 2) (g 1) (S 2)) ++ (wcA cI (g 3) (aa 3) (S 3)) ++ (wcF (g 5) f) ++ (wcH cI (g 6) (aa 6) (S 6)) ++ (wcH cI (g 7) (aa 7) (S 7)) ++ (wcH cI (g 8) (aa 8) (S 8)) ++ (wcH cI (g 9) (aa 9) (S 9)) ++ (wcM cI cZ om am sm tm))) (p_perm (b_p1 [(wcX o g (S 10)), (wcR cI (g 0) (aa 0) (S 0)), (wcT cB (g 1) (aa 1) (S 1)), (wcE (g 2) (g 1) (S 2)), (wcA cI (g 3) (aa 3) (S 3)), (wcB cI (g 4) (aa 4) (S 4)), (wcF (g 5) f), (wcH cI (g 6) (aa 6) (S 6)), (wcH cI (g 7) (aa 7) (S 7)), (wcH cI (g 8) (aa 8) (S 8)), (wcH cI (g 9) (aa 9) (S 9)), (wcM cI cZ om am sm tm)] [0, 5] [1, 2, 3, 4, 6, 7, 8, 9, 10, 11] (n := 12) rfl (by decide +kernel)) hP)) rfl rfl rfl hl.1 rfl (Nat.le_of_ble_eq_true rfl) dL_law_1137 ⟨Nat.le_of_ble_eq_true rfl, Nat.le_of_ble_eq_true rfl⟩ ?_
  refine lv_aload_n hx hb dL_law_1140 rfl (lv_at hl 2 rfl) ?_
  refine l_rd hx hb hX hbl hbA hS h0 h3 1 (by omega) hL (by decide) dL_law_1141 dL_law_1142 dL_law_1143 dL_law_1144 dL_law_1145 ?_
  refine b_rwVi (As := [.int (xs (i + 1))]) (rest := [.int v]) (ci := 8) (wr := (wX cI cB o g aa S f)) (w2 := wW cI cB cZ o om g aa S f am m' tm) ⟨hx, hb, hml, hown, hts⟩ (kX8_trace l dC dI cI cB cZ om am sm tm (xs (i + 1)) H.size v m' e2) (cwV 1 hts gL_law_X8_trace rfl rfl rfl hdX8_trace ⟨Nat.le_of_ble_eq_true rfl, Nat.le_of_ble_eq_true rfl⟩) hK hP hD hS hA List.perm_append_comm (List.Perm.refl _) rfl rfl rfl hl.1 rfl (Nat.le_of_ble_eq_true rfl) dL_law_1146 ⟨Nat.le_of_ble_eq_true rfl, Nat.le_of_ble_eq_true rfl⟩ (fun H locs hP hD hS => ?_)
  refine lv_icmp_eq (tgt := 1191) hx hb dL_law_1149 (by decide) (fun _ => ?_) (fun h => absurd rfl h)
  exact kk g aa S f am m' tm H locs hP hD hS hR1
set_option maxHeartbeats 4000000 in
set_option maxRecDepth 100000 in
theorem cs_count (C : lwC p s m c b L xs (dC, dI) cI cB cZ adK adV) {Q : State → Prop} {o om i : Nat} {g : Nat → Nat} {aa : Nat → Nat → Nat} {S : Nat → St} {f : Lt} {am : Nat → Nat} {sm : St} {tm : Lt} {H : Heap} {locs : List Loc} {ls : Array Slot} (hi : i + 6 < L) (hP : va_P (dC, dI) vwCl (wW cI cB cZ o om g aa S f am sm tm) H) (hD : va_D (fun q : Nat => s.heap.size ≤ q) (wW cI cB cZ o om g aa S f am sm tm)) (hS : va_S (fun q : Nat => s.heap.size ≤ q) s.heap H locs) (hR : rW S sm) (hl : lv_has ls 4 [(0, .ref b), (1, .ref o), (2, .ref om), (3, .int (nI i))]) (kk : lwK p l e s m b below meth c ls Q (dC, dI) cI cB cZ o om) : W p l e room_1 s m #[Value.ref b] below meth c H locs 70 3561 Q (F0 m 1154 ls []) := by
  obtain ⟨hx, hb, hml, hown, hts, hX, hbl, hL, hK, hN⟩ := C
  have hA : ∀ q : Nat, s.heap.size ≤ q → (fun q : Nat => s.heap.size ≤ q) q := fun _ h => h
  have hbA : ¬ (fun q : Nat => s.heap.size ≤ q) b := Nat.not_le.mpr hbl
  have h0 := lv_at hl 0 rfl
  have h3 := lv_at hl 3 rfl
  obtain ⟨v, m', e1, e2, hR1⟩ := count_sim hR (xs (i + 1))
  refine lv_aload_n hx hb dL_law_1154 rfl (lv_at hl 1 rfl) ?_
  refine l_rd hx hb hX hbl hbA hS h0 h3 1 (by omega) hL (by decide) dL_law_1155 dL_law_1156 dL_law_1157 dL_law_1158 dL_law_1159 ?_
  refine q_roVl (As := [.int (xs (i + 1))]) (rest := []) (ci := 7) ⟨hx, hb, hml, hown, hts⟩ (kX7_count l dC dI cI cB cZ o g (aa 0) (aa 8) (aa 3) (aa 1) (S 10) (S 0) (S 8) (S 3) (S 1) (xs (i + 1)) v e1) (cwV 1 hts gL_law_X7_count rfl rfl rfl hdX7_count ⟨Nat.le_of_ble_eq_true rfl, Nat.le_of_ble_eq_true rfl⟩) hK (p_left (w' := ((wcE (g 2) (g 1) (S 2)) ++ (wcB cI (g 4) (aa 4) (S 4)) ++ (wcF (g 5) f) ++ (wcH cI (g 6) (aa 6) (S 6)) ++ (wcH cI (g 7) (aa 7) (S 7)) ++ (wcH cI (g 9) (aa 9) (S 9)) ++ (wcM cI cZ om am sm tm))) (p_perm (b_p1 [(wcX o g (S 10)), (wcR cI (g 0) (aa 0) (S 0)), (wcT cB (g 1) (aa 1) (S 1)), (wcE (g 2) (g 1) (S 2)), (wcA cI (g 3) (aa 3) (S 3)), (wcB cI (g 4) (aa 4) (S 4)), (wcF (g 5) f), (wcH cI (g 6) (aa 6) (S 6)), (wcH cI (g 7) (aa 7) (S 7)), (wcH cI (g 8) (aa 8) (S 8)), (wcH cI (g 9) (aa 9) (S 9)), (wcM cI cZ om am sm tm)] [0, 1, 9, 4, 2] [3, 5, 6, 7, 8, 10, 11] (n := 12) rfl (by decide +kernel)) hP)) rfl rfl rfl hl.1 rfl (Nat.le_of_ble_eq_true rfl) dL_law_1160 ⟨Nat.le_of_ble_eq_true rfl, Nat.le_of_ble_eq_true rfl⟩ ?_
  refine lv_aload_n hx hb dL_law_1163 rfl (lv_at hl 2 rfl) ?_
  refine l_rd hx hb hX hbl hbA hS h0 h3 1 (by omega) hL (by decide) dL_law_1164 dL_law_1165 dL_law_1166 dL_law_1167 dL_law_1168 ?_
  refine b_rwVl (As := [.int (xs (i + 1))]) (rest := [.long v]) (ci := 8) (wr := (wX cI cB o g aa S f)) (w2 := wW cI cB cZ o om g aa S f am m' tm) ⟨hx, hb, hml, hown, hts⟩ (kX8_count l dC dI cI cB cZ om am sm tm (xs (i + 1)) H.size v m' e2) (cwV 1 hts gL_law_X8_count rfl rfl rfl hdX8_count ⟨Nat.le_of_ble_eq_true rfl, Nat.le_of_ble_eq_true rfl⟩) hK hP hD hS hA List.perm_append_comm (List.Perm.refl _) rfl rfl rfl hl.1 rfl (Nat.le_of_ble_eq_true rfl) dL_law_1169 ⟨Nat.le_of_ble_eq_true rfl, Nat.le_of_ble_eq_true rfl⟩ (fun H locs hP hD hS => ?_)
  refine W.lcmp hx hb dL_law_1172 ?_
  refine lv_if_eq (tgt := 1191) hx hb dL_law_1173 (by decide) (fun _ => ?_) (fun h => absurd (lg_self v) h)
  exact kk g aa S f am m' tm H locs hP hD hS hR1
set_option maxHeartbeats 4000000 in
set_option maxRecDepth 100000 in
theorem cs_how (C : lwC p s m c b L xs (dC, dI) cI cB cZ adK adV) {Q : State → Prop} {o om i : Nat} {g : Nat → Nat} {aa : Nat → Nat → Nat} {S : Nat → St} {f : Lt} {am : Nat → Nat} {sm : St} {tm : Lt} {H : Heap} {locs : List Loc} {ls : Array Slot} (hi : i + 6 < L) (hP : va_P (dC, dI) vwCl (wW cI cB cZ o om g aa S f am sm tm) H) (hD : va_D (fun q : Nat => s.heap.size ≤ q) (wW cI cB cZ o om g aa S f am sm tm)) (hS : va_S (fun q : Nat => s.heap.size ≤ q) s.heap H locs) (hR : rW S sm) (hl : lv_has ls 4 [(0, .ref b), (1, .ref o), (2, .ref om), (3, .int (nI i))]) (kk : lwK p l e s m b below meth c ls Q (dC, dI) cI cB cZ o om) : W p l e room_1 s m #[Value.ref b] below meth c H locs 70 3561 Q (F0 m 743 ls []) := by
  obtain ⟨hx, hb, hml, hown, hts, hX, hbl, hL, hK, hN⟩ := C
  have hA : ∀ q : Nat, s.heap.size ≤ q → (fun q : Nat => s.heap.size ≤ q) q := fun _ h => h
  have hbA : ¬ (fun q : Nat => s.heap.size ≤ q) b := Nat.not_le.mpr hbl
  have h0 := lv_at hl 0 rfl
  have h3 := lv_at hl 3 rfl
  obtain ⟨v, m', t', e1, e2, hR1⟩ := how_sim hR tm (xs (i + 1)) (xs (i + 2)) (xs (i + 3)) (xs (i + 4))
  refine lv_aload_n hx hb dL_law_743 rfl (lv_at hl 1 rfl) ?_
  refine l_rd hx hb hX hbl hbA hS h0 h3 1 (by omega) hL (by decide) dL_law_744 dL_law_745 dL_law_746 dL_law_747 dL_law_748 ?_
  refine l_rd hx hb hX hbl hbA hS h0 h3 2 (by omega) hL (by decide) dL_law_749 dL_law_750 dL_law_751 dL_law_752 dL_law_753 ?_
  refine l_rd hx hb hX hbl hbA hS h0 h3 3 (by omega) hL (by decide) dL_law_754 dL_law_755 dL_law_756 dL_law_757 dL_law_758 ?_
  refine l_rd hx hb hX hbl hbA hS h0 h3 4 (by omega) hL (by decide) dL_law_759 dL_law_760 dL_law_761 dL_law_762 dL_law_763 ?_
  refine q_roVl (As := [.int (xs (i + 1)), .int (xs (i + 2)), .int (xs (i + 3)), .int (xs (i + 4))]) (rest := []) (ci := 7) ⟨hx, hb, hml, hown, hts⟩ (kX7_how l dC dI cI cB cZ o g (aa 8) (S 10) (S 8) (xs (i + 1)) (xs (i + 2)) (xs (i + 3)) (xs (i + 4)) v e1) (cwV 4 hts gL_law_X7_how rfl rfl rfl hdX7_how ⟨Nat.le_of_ble_eq_true rfl, Nat.le_of_ble_eq_true rfl⟩) hK (p_left (w' := ((wcR cI (g 0) (aa 0) (S 0)) ++ (wcT cB (g 1) (aa 1) (S 1)) ++ (wcE (g 2) (g 1) (S 2)) ++ (wcA cI (g 3) (aa 3) (S 3)) ++ (wcB cI (g 4) (aa 4) (S 4)) ++ (wcF (g 5) f) ++ (wcH cI (g 6) (aa 6) (S 6)) ++ (wcH cI (g 7) (aa 7) (S 7)) ++ (wcH cI (g 9) (aa 9) (S 9)) ++ (wcM cI cZ om am sm tm))) (p_perm (b_p1 [(wcX o g (S 10)), (wcR cI (g 0) (aa 0) (S 0)), (wcT cB (g 1) (aa 1) (S 1)), (wcE (g 2) (g 1) (S 2)), (wcA cI (g 3) (aa 3) (S 3)), (wcB cI (g 4) (aa 4) (S 4)), (wcF (g 5) f), (wcH cI (g 6) (aa 6) (S 6)), (wcH cI (g 7) (aa 7) (S 7)), (wcH cI (g 8) (aa 8) (S 8)), (wcH cI (g 9) (aa 9) (S 9)), (wcM cI cZ om am sm tm)] [0, 9] [1, 2, 3, 4, 5, 6, 7, 8, 10, 11] (n := 12) rfl (by decide +kernel)) hP)) rfl rfl rfl hl.1 rfl (Nat.le_of_ble_eq_true rfl) dL_law_764 ⟨Nat.le_of_ble_eq_true rfl, Nat.le_of_ble_eq_true rfl⟩ ?_
  refine lv_aload_n hx hb dL_law_767 rfl (lv_at hl 2 rfl) ?_
  refine l_rd hx hb hX hbl hbA hS h0 h3 1 (by omega) hL (by decide) dL_law_768 dL_law_769 dL_law_770 dL_law_771 dL_law_772 ?_
  refine l_rd hx hb hX hbl hbA hS h0 h3 2 (by omega) hL (by decide) dL_law_773 dL_law_774 dL_law_775 dL_law_776 dL_law_777 ?_
  refine l_rd hx hb hX hbl hbA hS h0 h3 3 (by omega) hL (by decide) dL_law_778 dL_law_779 dL_law_780 dL_law_781 dL_law_782 ?_
  refine l_rd hx hb hX hbl hbA hS h0 h3 4 (by omega) hL (by decide) dL_law_783 dL_law_784 dL_law_785 dL_law_786 dL_law_787 ?_
  refine b_rwVl (As := [.int (xs (i + 1)), .int (xs (i + 2)), .int (xs (i + 3)), .int (xs (i + 4))]) (rest := [.long v]) (ci := 8) (wr := (wX cI cB o g aa S f)) (w2 := wW cI cB cZ o om g aa S f am m' t') ⟨hx, hb, hml, hown, hts⟩ (kX8_how l dC dI cI cB cZ om am sm tm (xs (i + 1)) (xs (i + 2)) (xs (i + 3)) (xs (i + 4)) H.size v m' t' e2) (cwV 4 hts gL_law_X8_how rfl rfl rfl hdX8_how ⟨Nat.le_of_ble_eq_true rfl, Nat.le_of_ble_eq_true rfl⟩) hK hP hD hS hA List.perm_append_comm (List.Perm.refl _) rfl rfl rfl hl.1 rfl (Nat.le_of_ble_eq_true rfl) dL_law_788 ⟨Nat.le_of_ble_eq_true rfl, Nat.le_of_ble_eq_true rfl⟩ (fun H locs hP hD hS => ?_)
  refine W.lcmp hx hb dL_law_791 ?_
  refine lv_if_eq (tgt := 1191) hx hb dL_law_792 (by decide) (fun _ => ?_) (fun h => absurd (lg_self v) h)
  exact kk g aa S f am m' t' H locs hP hD hS hR1
set_option maxHeartbeats 4000000 in
set_option maxRecDepth 100000 in
theorem cs_picks (C : lwC p s m c b L xs (dC, dI) cI cB cZ adK adV) {Q : State → Prop} {o om i : Nat} {g : Nat → Nat} {aa : Nat → Nat → Nat} {S : Nat → St} {f : Lt} {am : Nat → Nat} {sm : St} {tm : Lt} {H : Heap} {locs : List Loc} {ls : Array Slot} (hi : i + 6 < L) (hP : va_P (dC, dI) vwCl (wW cI cB cZ o om g aa S f am sm tm) H) (hD : va_D (fun q : Nat => s.heap.size ≤ q) (wW cI cB cZ o om g aa S f am sm tm)) (hS : va_S (fun q : Nat => s.heap.size ≤ q) s.heap H locs) (hR : rW S sm) (hl : lv_has ls 4 [(0, .ref b), (1, .ref o), (2, .ref om), (3, .int (nI i))]) (kk : lwK p l e s m b below meth c ls Q (dC, dI) cI cB cZ o om) : W p l e room_1 s m #[Value.ref b] below meth c H locs 70 3561 Q (F0 m 861 ls []) := by
  obtain ⟨hx, hb, hml, hown, hts, hX, hbl, hL, hK, hN⟩ := C
  have hA : ∀ q : Nat, s.heap.size ≤ q → (fun q : Nat => s.heap.size ≤ q) q := fun _ h => h
  have hbA : ¬ (fun q : Nat => s.heap.size ≤ q) b := Nat.not_le.mpr hbl
  have h0 := lv_at hl 0 rfl
  have h3 := lv_at hl 3 rfl
  obtain ⟨v, m', t', e1, e2, hR1⟩ := picks_sim hR tm (xs (i + 1)) (xs (i + 2)) (xs (i + 3)) (xs (i + 4))
  refine lv_aload_n hx hb dL_law_861 rfl (lv_at hl 1 rfl) ?_
  refine l_rd hx hb hX hbl hbA hS h0 h3 1 (by omega) hL (by decide) dL_law_862 dL_law_863 dL_law_864 dL_law_865 dL_law_866 ?_
  refine l_rd hx hb hX hbl hbA hS h0 h3 2 (by omega) hL (by decide) dL_law_867 dL_law_868 dL_law_869 dL_law_870 dL_law_871 ?_
  refine l_rd hx hb hX hbl hbA hS h0 h3 3 (by omega) hL (by decide) dL_law_872 dL_law_873 dL_law_874 dL_law_875 dL_law_876 ?_
  refine l_rd hx hb hX hbl hbA hS h0 h3 4 (by omega) hL (by decide) dL_law_877 dL_law_878 dL_law_879 dL_law_880 dL_law_881 ?_
  refine q_roVl (As := [.int (xs (i + 1)), .int (xs (i + 2)), .int (xs (i + 3)), .int (xs (i + 4))]) (rest := []) (ci := 7) ⟨hx, hb, hml, hown, hts⟩ (kX7_picks l dC dI cI cB cZ o g (aa 8) (S 10) (S 8) (xs (i + 1)) (xs (i + 2)) (xs (i + 3)) (xs (i + 4)) v e1) (cwV 4 hts gL_law_X7_picks rfl rfl rfl hdX7_picks ⟨Nat.le_of_ble_eq_true rfl, Nat.le_of_ble_eq_true rfl⟩) hK (p_left (w' := ((wcR cI (g 0) (aa 0) (S 0)) ++ (wcT cB (g 1) (aa 1) (S 1)) ++ (wcE (g 2) (g 1) (S 2)) ++ (wcA cI (g 3) (aa 3) (S 3)) ++ (wcB cI (g 4) (aa 4) (S 4)) ++ (wcF (g 5) f) ++ (wcH cI (g 6) (aa 6) (S 6)) ++ (wcH cI (g 7) (aa 7) (S 7)) ++ (wcH cI (g 9) (aa 9) (S 9)) ++ (wcM cI cZ om am sm tm))) (p_perm (b_p1 [(wcX o g (S 10)), (wcR cI (g 0) (aa 0) (S 0)), (wcT cB (g 1) (aa 1) (S 1)), (wcE (g 2) (g 1) (S 2)), (wcA cI (g 3) (aa 3) (S 3)), (wcB cI (g 4) (aa 4) (S 4)), (wcF (g 5) f), (wcH cI (g 6) (aa 6) (S 6)), (wcH cI (g 7) (aa 7) (S 7)), (wcH cI (g 8) (aa 8) (S 8)), (wcH cI (g 9) (aa 9) (S 9)), (wcM cI cZ om am sm tm)] [0, 9] [1, 2, 3, 4, 5, 6, 7, 8, 10, 11] (n := 12) rfl (by decide +kernel)) hP)) rfl rfl rfl hl.1 rfl (Nat.le_of_ble_eq_true rfl) dL_law_882 ⟨Nat.le_of_ble_eq_true rfl, Nat.le_of_ble_eq_true rfl⟩ ?_
  refine lv_aload_n hx hb dL_law_885 rfl (lv_at hl 2 rfl) ?_
  refine l_rd hx hb hX hbl hbA hS h0 h3 1 (by omega) hL (by decide) dL_law_886 dL_law_887 dL_law_888 dL_law_889 dL_law_890 ?_
  refine l_rd hx hb hX hbl hbA hS h0 h3 2 (by omega) hL (by decide) dL_law_891 dL_law_892 dL_law_893 dL_law_894 dL_law_895 ?_
  refine l_rd hx hb hX hbl hbA hS h0 h3 3 (by omega) hL (by decide) dL_law_896 dL_law_897 dL_law_898 dL_law_899 dL_law_900 ?_
  refine l_rd hx hb hX hbl hbA hS h0 h3 4 (by omega) hL (by decide) dL_law_901 dL_law_902 dL_law_903 dL_law_904 dL_law_905 ?_
  refine b_rwVl (As := [.int (xs (i + 1)), .int (xs (i + 2)), .int (xs (i + 3)), .int (xs (i + 4))]) (rest := [.long v]) (ci := 8) (wr := (wX cI cB o g aa S f)) (w2 := wW cI cB cZ o om g aa S f am m' t') ⟨hx, hb, hml, hown, hts⟩ (kX8_picks l dC dI cI cB cZ om am sm tm (xs (i + 1)) (xs (i + 2)) (xs (i + 3)) (xs (i + 4)) H.size v m' t' e2) (cwV 4 hts gL_law_X8_picks rfl rfl rfl hdX8_picks ⟨Nat.le_of_ble_eq_true rfl, Nat.le_of_ble_eq_true rfl⟩) hK hP hD hS hA List.perm_append_comm (List.Perm.refl _) rfl rfl rfl hl.1 rfl (Nat.le_of_ble_eq_true rfl) dL_law_906 ⟨Nat.le_of_ble_eq_true rfl, Nat.le_of_ble_eq_true rfl⟩ (fun H locs hP hD hS => ?_)
  refine W.lcmp hx hb dL_law_909 ?_
  refine lv_if_eq (tgt := 1191) hx hb dL_law_910 (by decide) (fun _ => ?_) (fun h => absurd (lg_self v) h)
  exact kk g aa S f am m' t' H locs hP hD hS hR1
end CS
