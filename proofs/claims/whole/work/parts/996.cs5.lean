/-! the law's cases: odds, fell, council, as, shape -/
section CS
variable {p : Program} {l : Launch} {e : Env} {s : State} {m : MethodId} {below : List Frame} {meth : Method} {c : Code} {b L : Nat} {xs : Nat → Int32} {dC : Nat → ClassId} {dI : Nat → Nat → Nat} {cI cB cZ : ClassId} {adK adV : Nat → Nat}
set_option maxHeartbeats 4000000 in
set_option maxRecDepth 100000 in
theorem cs_odds (C : lwC p s m c b L xs (dC, dI) cI cB cZ adK adV) {Q : State → Prop} {o om i : Nat} {g : Nat → Nat} {aa : Nat → Nat → Nat} {S : Nat → St} {f : Lt} {am : Nat → Nat} {sm : St} {tm : Lt} {H : Heap} {locs : List Loc} {ls : Array Slot} (hi : i + 6 < L) (hP : va_P (dC, dI) vwCl (wW cI cB cZ o om g aa S f am sm tm) H) (hD : va_D (fun q : Nat => s.heap.size ≤ q) (wW cI cB cZ o om g aa S f am sm tm)) (hS : va_S (fun q : Nat => s.heap.size ≤ q) s.heap H locs) (hR : rW S sm) (hl : lv_has ls 4 [(0, .ref b), (1, .ref o), (2, .ref om), (3, .int (nI i))]) (kk : lwK p l e s m b below meth c ls Q (dC, dI) cI cB cZ o om) : W p l e room_1 s m #[Value.ref b] below meth c H locs 70 3561 Q (F0 m 689 ls []) := by
  obtain ⟨hx, hb, hml, hown, hts, hX, hbl, hL, hK, hN⟩ := C
  have hA : ∀ q : Nat, s.heap.size ≤ q → (fun q : Nat => s.heap.size ≤ q) q := fun _ h => h
  have hbA : ¬ (fun q : Nat => s.heap.size ≤ q) b := Nat.not_le.mpr hbl
  have h0 := lv_at hl 0 rfl
  have h3 := lv_at hl 3 rfl
  obtain ⟨v, f', m', t', e1, e2, hR1⟩ := odds_sim hR f tm (xs (i + 1)) (xs (i + 2)) (xs (i + 3)) (xs (i + 4))
  refine lv_aload_n hx hb dL_law_689 rfl (lv_at hl 1 rfl) ?_
  refine l_rd hx hb hX hbl hbA hS h0 h3 1 (by omega) hL (by decide) dL_law_690 dL_law_691 dL_law_692 dL_law_693 dL_law_694 ?_
  refine l_rd hx hb hX hbl hbA hS h0 h3 2 (by omega) hL (by decide) dL_law_695 dL_law_696 dL_law_697 dL_law_698 dL_law_699 ?_
  refine l_rd hx hb hX hbl hbA hS h0 h3 3 (by omega) hL (by decide) dL_law_700 dL_law_701 dL_law_702 dL_law_703 dL_law_704 ?_
  refine l_rd hx hb hX hbl hbA hS h0 h3 4 (by omega) hL (by decide) dL_law_705 dL_law_706 dL_law_707 dL_law_708 dL_law_709 ?_
  refine b_rwVl (As := [.int (xs (i + 1)), .int (xs (i + 2)), .int (xs (i + 3)), .int (xs (i + 4))]) (rest := []) (ci := 7) (wr := ((wcR cI (g 0) (aa 0) (S 0)) ++ (wcT cB (g 1) (aa 1) (S 1)) ++ (wcE (g 2) (g 1) (S 2)) ++ (wcA cI (g 3) (aa 3) (S 3)) ++ (wcB cI (g 4) (aa 4) (S 4)) ++ (wcH cI (g 6) (aa 6) (S 6)) ++ (wcH cI (g 7) (aa 7) (S 7)) ++ (wcH cI (g 9) (aa 9) (S 9)) ++ (wcM cI cZ om am sm tm))) (w2 := wW cI cB cZ o om g aa S f' am sm tm) ⟨hx, hb, hml, hown, hts⟩ (kX7_odds l dC dI cI cB cZ o g (aa 8) (S 10) (S 8) f (xs (i + 1)) (xs (i + 2)) (xs (i + 3)) (xs (i + 4)) H.size v f' e1) (cwV 4 hts gL_law_X7_odds rfl rfl rfl hdX7_odds ⟨Nat.le_of_ble_eq_true rfl, Nat.le_of_ble_eq_true rfl⟩) hK hP hD hS hA (b_p1 [(wcX o g (S 10)), (wcR cI (g 0) (aa 0) (S 0)), (wcT cB (g 1) (aa 1) (S 1)), (wcE (g 2) (g 1) (S 2)), (wcA cI (g 3) (aa 3) (S 3)), (wcB cI (g 4) (aa 4) (S 4)), (wcF (g 5) f), (wcH cI (g 6) (aa 6) (S 6)), (wcH cI (g 7) (aa 7) (S 7)), (wcH cI (g 8) (aa 8) (S 8)), (wcH cI (g 9) (aa 9) (S 9)), (wcM cI cZ om am sm tm)] [0, 9, 6] [1, 2, 3, 4, 5, 7, 8, 10, 11] (n := 12) rfl (by decide +kernel)) (b_p2 [(wcR cI (g 0) (aa 0) (S 0)), (wcT cB (g 1) (aa 1) (S 1)), (wcE (g 2) (g 1) (S 2)), (wcA cI (g 3) (aa 3) (S 3)), (wcB cI (g 4) (aa 4) (S 4)), (wcH cI (g 6) (aa 6) (S 6)), (wcH cI (g 7) (aa 7) (S 7)), (wcH cI (g 9) (aa 9) (S 9)), (wcM cI cZ om am sm tm)] [(wcX o g (S 10)), (wcH cI (g 8) (aa 8) (S 8)), (wcF (g 5) f')] [9, 0, 1, 2, 3, 4, 11, 5, 6, 10, 7, 8] (n := 12) rfl (by decide +kernel)) rfl rfl rfl hl.1 rfl (Nat.le_of_ble_eq_true rfl) dL_law_710 ⟨Nat.le_of_ble_eq_true rfl, Nat.le_of_ble_eq_true rfl⟩ (fun H locs hP hD hS => ?_)
  refine lv_aload_n hx hb dL_law_713 rfl (lv_at hl 2 rfl) ?_
  refine l_rd hx hb hX hbl hbA hS h0 h3 1 (by omega) hL (by decide) dL_law_714 dL_law_715 dL_law_716 dL_law_717 dL_law_718 ?_
  refine l_rd hx hb hX hbl hbA hS h0 h3 2 (by omega) hL (by decide) dL_law_719 dL_law_720 dL_law_721 dL_law_722 dL_law_723 ?_
  refine l_rd hx hb hX hbl hbA hS h0 h3 3 (by omega) hL (by decide) dL_law_724 dL_law_725 dL_law_726 dL_law_727 dL_law_728 ?_
  refine l_rd hx hb hX hbl hbA hS h0 h3 4 (by omega) hL (by decide) dL_law_729 dL_law_730 dL_law_731 dL_law_732 dL_law_733 ?_
  refine b_rwVl (As := [.int (xs (i + 1)), .int (xs (i + 2)), .int (xs (i + 3)), .int (xs (i + 4))]) (rest := [.long v]) (ci := 8) (wr := (wX cI cB o g aa S f')) (w2 := wW cI cB cZ o om g aa S f' am m' t') ⟨hx, hb, hml, hown, hts⟩ (kX8_odds l dC dI cI cB cZ om am sm tm (xs (i + 1)) (xs (i + 2)) (xs (i + 3)) (xs (i + 4)) H.size v m' t' e2) (cwV 4 hts gL_law_X8_odds rfl rfl rfl hdX8_odds ⟨Nat.le_of_ble_eq_true rfl, Nat.le_of_ble_eq_true rfl⟩) hK hP hD hS hA List.perm_append_comm (List.Perm.refl _) rfl rfl rfl hl.1 rfl (Nat.le_of_ble_eq_true rfl) dL_law_734 ⟨Nat.le_of_ble_eq_true rfl, Nat.le_of_ble_eq_true rfl⟩ (fun H locs hP hD hS => ?_)
  refine W.lcmp hx hb dL_law_737 ?_
  refine lv_if_eq (tgt := 1191) hx hb dL_law_738 (by decide) (fun _ => ?_) (fun h => absurd (lg_self v) h)
  exact kk g aa S f' am m' t' H locs hP hD hS hR1
set_option maxHeartbeats 4000000 in
set_option maxRecDepth 100000 in
theorem cs_fell (C : lwC p s m c b L xs (dC, dI) cI cB cZ adK adV) {Q : State → Prop} {o om i : Nat} {g : Nat → Nat} {aa : Nat → Nat → Nat} {S : Nat → St} {f : Lt} {am : Nat → Nat} {sm : St} {tm : Lt} {H : Heap} {locs : List Loc} {ls : Array Slot} (hi : i + 6 < L) (hP : va_P (dC, dI) vwCl (wW cI cB cZ o om g aa S f am sm tm) H) (hD : va_D (fun q : Nat => s.heap.size ≤ q) (wW cI cB cZ o om g aa S f am sm tm)) (hS : va_S (fun q : Nat => s.heap.size ≤ q) s.heap H locs) (hR : rW S sm) (hl : lv_has ls 4 [(0, .ref b), (1, .ref o), (2, .ref om), (3, .int (nI i))]) (kk : lwK p l e s m b below meth c ls Q (dC, dI) cI cB cZ o om) : W p l e room_1 s m #[Value.ref b] below meth c H locs 70 3561 Q (F0 m 797 ls []) := by
  obtain ⟨hx, hb, hml, hown, hts, hX, hbl, hL, hK, hN⟩ := C
  have hA : ∀ q : Nat, s.heap.size ≤ q → (fun q : Nat => s.heap.size ≤ q) q := fun _ h => h
  have hbA : ¬ (fun q : Nat => s.heap.size ≤ q) b := Nat.not_le.mpr hbl
  have h0 := lv_at hl 0 rfl
  have h3 := lv_at hl 3 rfl
  obtain ⟨v, f', m', t', e1, e2, hR1⟩ := fell_sim hR f tm (xs (i + 1)) (xs (i + 2)) (xs (i + 3)) (xs (i + 4)) (xs (i + 5))
  refine lv_aload_n hx hb dL_law_797 rfl (lv_at hl 1 rfl) ?_
  refine l_rd hx hb hX hbl hbA hS h0 h3 1 (by omega) hL (by decide) dL_law_798 dL_law_799 dL_law_800 dL_law_801 dL_law_802 ?_
  refine l_rd hx hb hX hbl hbA hS h0 h3 2 (by omega) hL (by decide) dL_law_803 dL_law_804 dL_law_805 dL_law_806 dL_law_807 ?_
  refine l_rd hx hb hX hbl hbA hS h0 h3 3 (by omega) hL (by decide) dL_law_808 dL_law_809 dL_law_810 dL_law_811 dL_law_812 ?_
  refine l_rd hx hb hX hbl hbA hS h0 h3 4 (by omega) hL (by decide) dL_law_813 dL_law_814 dL_law_815 dL_law_816 dL_law_817 ?_
  refine l_rd hx hb hX hbl hbA hS h0 h3 5 (by omega) hL (by decide) dL_law_818 dL_law_819 dL_law_820 dL_law_821 dL_law_822 ?_
  refine b_rwVl (As := [.int (xs (i + 1)), .int (xs (i + 2)), .int (xs (i + 3)), .int (xs (i + 4)), .int (xs (i + 5))]) (rest := []) (ci := 7) (wr := ((wcR cI (g 0) (aa 0) (S 0)) ++ (wcT cB (g 1) (aa 1) (S 1)) ++ (wcE (g 2) (g 1) (S 2)) ++ (wcA cI (g 3) (aa 3) (S 3)) ++ (wcB cI (g 4) (aa 4) (S 4)) ++ (wcH cI (g 6) (aa 6) (S 6)) ++ (wcH cI (g 7) (aa 7) (S 7)) ++ (wcH cI (g 9) (aa 9) (S 9)) ++ (wcM cI cZ om am sm tm))) (w2 := wW cI cB cZ o om g aa S f' am sm tm) ⟨hx, hb, hml, hown, hts⟩ (kX7_fell l dC dI cI cB cZ o g (aa 8) (S 10) (S 8) f (xs (i + 1)) (xs (i + 2)) (xs (i + 3)) (xs (i + 4)) (xs (i + 5)) H.size v f' e1) (cwV 5 hts gL_law_X7_fell rfl rfl rfl hdX7_fell ⟨Nat.le_of_ble_eq_true rfl, Nat.le_of_ble_eq_true rfl⟩) hK hP hD hS hA (b_p1 [(wcX o g (S 10)), (wcR cI (g 0) (aa 0) (S 0)), (wcT cB (g 1) (aa 1) (S 1)), (wcE (g 2) (g 1) (S 2)), (wcA cI (g 3) (aa 3) (S 3)), (wcB cI (g 4) (aa 4) (S 4)), (wcF (g 5) f), (wcH cI (g 6) (aa 6) (S 6)), (wcH cI (g 7) (aa 7) (S 7)), (wcH cI (g 8) (aa 8) (S 8)), (wcH cI (g 9) (aa 9) (S 9)), (wcM cI cZ om am sm tm)] [0, 9, 6] [1, 2, 3, 4, 5, 7, 8, 10, 11] (n := 12) rfl (by decide +kernel)) (b_p2 [(wcR cI (g 0) (aa 0) (S 0)), (wcT cB (g 1) (aa 1) (S 1)), (wcE (g 2) (g 1) (S 2)), (wcA cI (g 3) (aa 3) (S 3)), (wcB cI (g 4) (aa 4) (S 4)), (wcH cI (g 6) (aa 6) (S 6)), (wcH cI (g 7) (aa 7) (S 7)), (wcH cI (g 9) (aa 9) (S 9)), (wcM cI cZ om am sm tm)] [(wcX o g (S 10)), (wcH cI (g 8) (aa 8) (S 8)), (wcF (g 5) f')] [9, 0, 1, 2, 3, 4, 11, 5, 6, 10, 7, 8] (n := 12) rfl (by decide +kernel)) rfl rfl rfl hl.1 rfl (Nat.le_of_ble_eq_true rfl) dL_law_823 ⟨Nat.le_of_ble_eq_true rfl, Nat.le_of_ble_eq_true rfl⟩ (fun H locs hP hD hS => ?_)
  refine lv_aload_n hx hb dL_law_826 rfl (lv_at hl 2 rfl) ?_
  refine l_rd hx hb hX hbl hbA hS h0 h3 1 (by omega) hL (by decide) dL_law_827 dL_law_828 dL_law_829 dL_law_830 dL_law_831 ?_
  refine l_rd hx hb hX hbl hbA hS h0 h3 2 (by omega) hL (by decide) dL_law_832 dL_law_833 dL_law_834 dL_law_835 dL_law_836 ?_
  refine l_rd hx hb hX hbl hbA hS h0 h3 3 (by omega) hL (by decide) dL_law_837 dL_law_838 dL_law_839 dL_law_840 dL_law_841 ?_
  refine l_rd hx hb hX hbl hbA hS h0 h3 4 (by omega) hL (by decide) dL_law_842 dL_law_843 dL_law_844 dL_law_845 dL_law_846 ?_
  refine l_rd hx hb hX hbl hbA hS h0 h3 5 (by omega) hL (by decide) dL_law_847 dL_law_848 dL_law_849 dL_law_850 dL_law_851 ?_
  refine b_rwVl (As := [.int (xs (i + 1)), .int (xs (i + 2)), .int (xs (i + 3)), .int (xs (i + 4)), .int (xs (i + 5))]) (rest := [.long v]) (ci := 8) (wr := (wX cI cB o g aa S f')) (w2 := wW cI cB cZ o om g aa S f' am m' t') ⟨hx, hb, hml, hown, hts⟩ (kX8_fell l dC dI cI cB cZ om am sm tm (xs (i + 1)) (xs (i + 2)) (xs (i + 3)) (xs (i + 4)) (xs (i + 5)) H.size v m' t' e2) (cwV 5 hts gL_law_X8_fell rfl rfl rfl hdX8_fell ⟨Nat.le_of_ble_eq_true rfl, Nat.le_of_ble_eq_true rfl⟩) hK hP hD hS hA List.perm_append_comm (List.Perm.refl _) rfl rfl rfl hl.1 rfl (Nat.le_of_ble_eq_true rfl) dL_law_852 ⟨Nat.le_of_ble_eq_true rfl, Nat.le_of_ble_eq_true rfl⟩ (fun H locs hP hD hS => ?_)
  refine W.lcmp hx hb dL_law_855 ?_
  refine lv_if_eq (tgt := 1191) hx hb dL_law_856 (by decide) (fun _ => ?_) (fun h => absurd (lg_self v) h)
  exact kk g aa S f' am m' t' H locs hP hD hS hR1
set_option maxHeartbeats 4000000 in
set_option maxRecDepth 100000 in
theorem cs_council (C : lwC p s m c b L xs (dC, dI) cI cB cZ adK adV) {Q : State → Prop} {o om i : Nat} {g : Nat → Nat} {aa : Nat → Nat → Nat} {S : Nat → St} {f : Lt} {am : Nat → Nat} {sm : St} {tm : Lt} {H : Heap} {locs : List Loc} {ls : Array Slot} (hi : i + 6 < L) (hP : va_P (dC, dI) vwCl (wW cI cB cZ o om g aa S f am sm tm) H) (hD : va_D (fun q : Nat => s.heap.size ≤ q) (wW cI cB cZ o om g aa S f am sm tm)) (hS : va_S (fun q : Nat => s.heap.size ≤ q) s.heap H locs) (hR : rW S sm) (hl : lv_has ls 4 [(0, .ref b), (1, .ref o), (2, .ref om), (3, .int (nI i))]) (kk : lwK p l e s m b below meth c ls Q (dC, dI) cI cB cZ o om) : W p l e room_1 s m #[Value.ref b] below meth c H locs 70 3561 Q (F0 m 915 ls []) := by
  obtain ⟨hx, hb, hml, hown, hts, hX, hbl, hL, hK, hN⟩ := C
  have hA : ∀ q : Nat, s.heap.size ≤ q → (fun q : Nat => s.heap.size ≤ q) q := fun _ h => h
  have hbA : ¬ (fun q : Nat => s.heap.size ≤ q) b := Nat.not_le.mpr hbl
  have h0 := lv_at hl 0 rfl
  have h3 := lv_at hl 3 rfl
  obtain ⟨v, x', m', l', t', e1, e2, hR1⟩ := council_sim hR f tm (xs (i + 1)) (xs (i + 2)) (xs (i + 3)) (xs (i + 4)) (xs (i + 5)) (xs (i + 6))
  refine lv_aload_n hx hb dL_law_915 rfl (lv_at hl 1 rfl) ?_
  refine l_rd hx hb hX hbl hbA hS h0 h3 1 (by omega) hL (by decide) dL_law_916 dL_law_917 dL_law_918 dL_law_919 dL_law_920 ?_
  refine l_rd hx hb hX hbl hbA hS h0 h3 2 (by omega) hL (by decide) dL_law_921 dL_law_922 dL_law_923 dL_law_924 dL_law_925 ?_
  refine l_rd hx hb hX hbl hbA hS h0 h3 3 (by omega) hL (by decide) dL_law_926 dL_law_927 dL_law_928 dL_law_929 dL_law_930 ?_
  refine l_rd hx hb hX hbl hbA hS h0 h3 4 (by omega) hL (by decide) dL_law_931 dL_law_932 dL_law_933 dL_law_934 dL_law_935 ?_
  refine l_rd hx hb hX hbl hbA hS h0 h3 5 (by omega) hL (by decide) dL_law_936 dL_law_937 dL_law_938 dL_law_939 dL_law_940 ?_
  refine l_rdb hx hb hX hbl hbA hS h0 h3 6 (by omega) hL (by decide) dL_law_941 dL_law_942 dL_law_943 dL_law_945 dL_law_946 ?_
  refine b_rwVl (As := [.int (xs (i + 1)), .int (xs (i + 2)), .int (xs (i + 3)), .int (xs (i + 4)), .int (xs (i + 5)), .int (xs (i + 6))]) (rest := []) (ci := 7) (wr := ((wcT cB (g 1) (aa 1) (S 1)) ++ (wcE (g 2) (g 1) (S 2)) ++ (wcA cI (g 3) (aa 3) (S 3)) ++ (wcB cI (g 4) (aa 4) (S 4)) ++ (wcH cI (g 6) (aa 6) (S 6)) ++ (wcH cI (g 7) (aa 7) (S 7)) ++ (wcH cI (g 9) (aa 9) (S 9)) ++ (wcM cI cZ om am sm tm))) (w2 := wW cI cB cZ o om g aa (sU S 10 x') l' am sm tm) ⟨hx, hb, hml, hown, hts⟩ (kX7_council l dC dI cI cB cZ o g (aa 0) (aa 8) (S 10) (S 0) (S 8) f (xs (i + 1)) (xs (i + 2)) (xs (i + 3)) (xs (i + 4)) (xs (i + 5)) (xs (i + 6)) H.size v x' l' e1) (cwV 6 hts gL_law_X7_council rfl rfl rfl hdX7_council ⟨Nat.le_of_ble_eq_true rfl, Nat.le_of_ble_eq_true rfl⟩) hK hP hD hS hA (b_p1 [(wcX o g (S 10)), (wcR cI (g 0) (aa 0) (S 0)), (wcT cB (g 1) (aa 1) (S 1)), (wcE (g 2) (g 1) (S 2)), (wcA cI (g 3) (aa 3) (S 3)), (wcB cI (g 4) (aa 4) (S 4)), (wcF (g 5) f), (wcH cI (g 6) (aa 6) (S 6)), (wcH cI (g 7) (aa 7) (S 7)), (wcH cI (g 8) (aa 8) (S 8)), (wcH cI (g 9) (aa 9) (S 9)), (wcM cI cZ om am sm tm)] [0, 1, 9, 6] [2, 3, 4, 5, 7, 8, 10, 11] (n := 12) rfl (by decide +kernel)) (b_p2 [(wcT cB (g 1) (aa 1) (S 1)), (wcE (g 2) (g 1) (S 2)), (wcA cI (g 3) (aa 3) (S 3)), (wcB cI (g 4) (aa 4) (S 4)), (wcH cI (g 6) (aa 6) (S 6)), (wcH cI (g 7) (aa 7) (S 7)), (wcH cI (g 9) (aa 9) (S 9)), (wcM cI cZ om am sm tm)] [(wcX o g x'), (wcR cI (g 0) (aa 0) (S 0)), (wcH cI (g 8) (aa 8) (S 8)), (wcF (g 5) l')] [8, 9, 0, 1, 2, 3, 11, 4, 5, 10, 6, 7] (n := 12) rfl (by decide +kernel)) rfl rfl rfl hl.1 rfl (Nat.le_of_ble_eq_true rfl) dL_law_947 ⟨Nat.le_of_ble_eq_true rfl, Nat.le_of_ble_eq_true rfl⟩ (fun H locs hP hD hS => ?_)
  refine lv_aload_n hx hb dL_law_950 rfl (lv_at hl 2 rfl) ?_
  refine l_rd hx hb hX hbl hbA hS h0 h3 1 (by omega) hL (by decide) dL_law_951 dL_law_952 dL_law_953 dL_law_954 dL_law_955 ?_
  refine l_rd hx hb hX hbl hbA hS h0 h3 2 (by omega) hL (by decide) dL_law_956 dL_law_957 dL_law_958 dL_law_959 dL_law_960 ?_
  refine l_rd hx hb hX hbl hbA hS h0 h3 3 (by omega) hL (by decide) dL_law_961 dL_law_962 dL_law_963 dL_law_964 dL_law_965 ?_
  refine l_rd hx hb hX hbl hbA hS h0 h3 4 (by omega) hL (by decide) dL_law_966 dL_law_967 dL_law_968 dL_law_969 dL_law_970 ?_
  refine l_rd hx hb hX hbl hbA hS h0 h3 5 (by omega) hL (by decide) dL_law_971 dL_law_972 dL_law_973 dL_law_974 dL_law_975 ?_
  refine l_rdb hx hb hX hbl hbA hS h0 h3 6 (by omega) hL (by decide) dL_law_976 dL_law_977 dL_law_978 dL_law_980 dL_law_981 ?_
  refine b_rwVl (As := [.int (xs (i + 1)), .int (xs (i + 2)), .int (xs (i + 3)), .int (xs (i + 4)), .int (xs (i + 5)), .int (xs (i + 6))]) (rest := [.long v]) (ci := 8) (wr := (wX cI cB o g aa (sU S 10 x') l')) (w2 := wW cI cB cZ o om g aa (sU S 10 x') l' am m' t') ⟨hx, hb, hml, hown, hts⟩ (kX8_council l dC dI cI cB cZ om am sm tm (xs (i + 1)) (xs (i + 2)) (xs (i + 3)) (xs (i + 4)) (xs (i + 5)) (xs (i + 6)) H.size v m' t' e2) (cwV 6 hts gL_law_X8_council rfl rfl rfl hdX8_council ⟨Nat.le_of_ble_eq_true rfl, Nat.le_of_ble_eq_true rfl⟩) hK hP hD hS hA List.perm_append_comm (List.Perm.refl _) rfl rfl rfl hl.1 rfl (Nat.le_of_ble_eq_true rfl) dL_law_982 ⟨Nat.le_of_ble_eq_true rfl, Nat.le_of_ble_eq_true rfl⟩ (fun H locs hP hD hS => ?_)
  refine W.lcmp hx hb dL_law_985 ?_
  refine lv_if_eq (tgt := 1191) hx hb dL_law_986 (by decide) (fun _ => ?_) (fun h => absurd (lg_self v) h)
  exact kk g aa (sU S 10 x') l' am m' t' H locs hP hD hS hR1
set_option maxHeartbeats 4000000 in
set_option maxRecDepth 100000 in
theorem cs_as (C : lwC p s m c b L xs (dC, dI) cI cB cZ adK adV) {Q : State → Prop} {o om i : Nat} {g : Nat → Nat} {aa : Nat → Nat → Nat} {S : Nat → St} {f : Lt} {am : Nat → Nat} {sm : St} {tm : Lt} {H : Heap} {locs : List Loc} {ls : Array Slot} (hi : i + 6 < L) (hP : va_P (dC, dI) vwCl (wW cI cB cZ o om g aa S f am sm tm) H) (hD : va_D (fun q : Nat => s.heap.size ≤ q) (wW cI cB cZ o om g aa S f am sm tm)) (hS : va_S (fun q : Nat => s.heap.size ≤ q) s.heap H locs) (hR : rW S sm) (hl : lv_has ls 4 [(0, .ref b), (1, .ref o), (2, .ref om), (3, .int (nI i))]) (kk : lwK p l e s m b below meth c ls Q (dC, dI) cI cB cZ o om) : W p l e room_1 s m #[Value.ref b] below meth c H locs 70 3561 Q (F0 m 1063 ls []) := by
  obtain ⟨hx, hb, hml, hown, hts, hX, hbl, hL, hK, hN⟩ := C
  have hA : ∀ q : Nat, s.heap.size ≤ q → (fun q : Nat => s.heap.size ≤ q) q := fun _ h => h
  have hbA : ¬ (fun q : Nat => s.heap.size ≤ q) b := Nat.not_le.mpr hbl
  have h0 := lv_at hl 0 rfl
  have h3 := lv_at hl 3 rfl
  obtain ⟨v, x', m', e1, e2, hR1⟩ := as_sim hR (xs (i + 1)) (xs (i + 2))
  refine lv_aload_n hx hb dL_law_1063 rfl (lv_at hl 1 rfl) ?_
  refine l_rd hx hb hX hbl hbA hS h0 h3 1 (by omega) hL (by decide) dL_law_1064 dL_law_1065 dL_law_1066 dL_law_1067 dL_law_1068 ?_
  refine l_rd hx hb hX hbl hbA hS h0 h3 2 (by omega) hL (by decide) dL_law_1069 dL_law_1070 dL_law_1071 dL_law_1072 dL_law_1073 ?_
  refine b_rwVl (As := [.int (xs (i + 1)), .int (xs (i + 2))]) (rest := []) (ci := 7) (wr := ((wcR cI (g 0) (aa 0) (S 0)) ++ (wcT cB (g 1) (aa 1) (S 1)) ++ (wcE (g 2) (g 1) (S 2)) ++ (wcA cI (g 3) (aa 3) (S 3)) ++ (wcB cI (g 4) (aa 4) (S 4)) ++ (wcF (g 5) f) ++ (wcH cI (g 6) (aa 6) (S 6)) ++ (wcH cI (g 7) (aa 7) (S 7)) ++ (wcH cI (g 9) (aa 9) (S 9)) ++ (wcM cI cZ om am sm tm))) (w2 := wW cI cB cZ o om g aa (sU S 10 x') f am sm tm) ⟨hx, hb, hml, hown, hts⟩ (kX7_as l dC dI cI cB cZ o g (aa 8) (S 10) (S 8) (xs (i + 1)) (xs (i + 2)) H.size v x' e1) (cwV 2 hts gL_law_X7_as rfl rfl rfl hdX7_as ⟨Nat.le_of_ble_eq_true rfl, Nat.le_of_ble_eq_true rfl⟩) hK hP hD hS hA (b_p1 [(wcX o g (S 10)), (wcR cI (g 0) (aa 0) (S 0)), (wcT cB (g 1) (aa 1) (S 1)), (wcE (g 2) (g 1) (S 2)), (wcA cI (g 3) (aa 3) (S 3)), (wcB cI (g 4) (aa 4) (S 4)), (wcF (g 5) f), (wcH cI (g 6) (aa 6) (S 6)), (wcH cI (g 7) (aa 7) (S 7)), (wcH cI (g 8) (aa 8) (S 8)), (wcH cI (g 9) (aa 9) (S 9)), (wcM cI cZ om am sm tm)] [0, 9] [1, 2, 3, 4, 5, 6, 7, 8, 10, 11] (n := 12) rfl (by decide +kernel)) (b_p2 [(wcR cI (g 0) (aa 0) (S 0)), (wcT cB (g 1) (aa 1) (S 1)), (wcE (g 2) (g 1) (S 2)), (wcA cI (g 3) (aa 3) (S 3)), (wcB cI (g 4) (aa 4) (S 4)), (wcF (g 5) f), (wcH cI (g 6) (aa 6) (S 6)), (wcH cI (g 7) (aa 7) (S 7)), (wcH cI (g 9) (aa 9) (S 9)), (wcM cI cZ om am sm tm)] [(wcX o g x'), (wcH cI (g 8) (aa 8) (S 8))] [10, 0, 1, 2, 3, 4, 5, 6, 7, 11, 8, 9] (n := 12) rfl (by decide +kernel)) rfl rfl rfl hl.1 rfl (Nat.le_of_ble_eq_true rfl) dL_law_1074 ⟨Nat.le_of_ble_eq_true rfl, Nat.le_of_ble_eq_true rfl⟩ (fun H locs hP hD hS => ?_)
  refine lv_aload_n hx hb dL_law_1077 rfl (lv_at hl 2 rfl) ?_
  refine l_rd hx hb hX hbl hbA hS h0 h3 1 (by omega) hL (by decide) dL_law_1078 dL_law_1079 dL_law_1080 dL_law_1081 dL_law_1082 ?_
  refine l_rd hx hb hX hbl hbA hS h0 h3 2 (by omega) hL (by decide) dL_law_1083 dL_law_1084 dL_law_1085 dL_law_1086 dL_law_1087 ?_
  refine b_rwVl (As := [.int (xs (i + 1)), .int (xs (i + 2))]) (rest := [.long v]) (ci := 8) (wr := (wX cI cB o g aa (sU S 10 x') f)) (w2 := wW cI cB cZ o om g aa (sU S 10 x') f am m' tm) ⟨hx, hb, hml, hown, hts⟩ (kX8_as l dC dI cI cB cZ om am sm tm (xs (i + 1)) (xs (i + 2)) H.size v m' e2) (cwV 2 hts gL_law_X8_as rfl rfl rfl hdX8_as ⟨Nat.le_of_ble_eq_true rfl, Nat.le_of_ble_eq_true rfl⟩) hK hP hD hS hA List.perm_append_comm (List.Perm.refl _) rfl rfl rfl hl.1 rfl (Nat.le_of_ble_eq_true rfl) dL_law_1088 ⟨Nat.le_of_ble_eq_true rfl, Nat.le_of_ble_eq_true rfl⟩ (fun H locs hP hD hS => ?_)
  refine W.lcmp hx hb dL_law_1091 ?_
  refine lv_if_eq (tgt := 1191) hx hb dL_law_1092 (by decide) (fun _ => ?_) (fun h => absurd (lg_self v) h)
  exact kk g aa (sU S 10 x') f am m' tm H locs hP hD hS hR1
set_option maxHeartbeats 4000000 in
set_option maxRecDepth 100000 in
theorem cs_shape (C : lwC p s m c b L xs (dC, dI) cI cB cZ adK adV) {Q : State → Prop} {o om i : Nat} {g : Nat → Nat} {aa : Nat → Nat → Nat} {S : Nat → St} {f : Lt} {am : Nat → Nat} {sm : St} {tm : Lt} {H : Heap} {locs : List Loc} {ls : Array Slot} (hi : i + 6 < L) (hP : va_P (dC, dI) vwCl (wW cI cB cZ o om g aa S f am sm tm) H) (hD : va_D (fun q : Nat => s.heap.size ≤ q) (wW cI cB cZ o om g aa S f am sm tm)) (hS : va_S (fun q : Nat => s.heap.size ≤ q) s.heap H locs) (hR : rW S sm) (hl : lv_has ls 4 [(0, .ref b), (1, .ref o), (2, .ref om), (3, .int (nI i))]) (kk : lwK p l e s m b below meth c ls Q (dC, dI) cI cB cZ o om) : W p l e room_1 s m #[Value.ref b] below meth c H locs 70 3561 Q (F0 m 1097 ls []) := by
  obtain ⟨hx, hb, hml, hown, hts, hX, hbl, hL, hK, hN⟩ := C
  have hA : ∀ q : Nat, s.heap.size ≤ q → (fun q : Nat => s.heap.size ≤ q) q := fun _ h => h
  have hbA : ¬ (fun q : Nat => s.heap.size ≤ q) b := Nat.not_le.mpr hbl
  have h0 := lv_at hl 0 rfl
  have h3 := lv_at hl 3 rfl
  obtain ⟨v, bo', m', e1, e2, hR1⟩ := shape_sim hR (xs (i + 1)) (xs (i + 2))
  refine lv_aload_n hx hb dL_law_1097 rfl (lv_at hl 1 rfl) ?_
  refine l_rd hx hb hX hbl hbA hS h0 h3 1 (by omega) hL (by decide) dL_law_1098 dL_law_1099 dL_law_1100 dL_law_1101 dL_law_1102 ?_
  refine l_rd hx hb hX hbl hbA hS h0 h3 2 (by omega) hL (by decide) dL_law_1103 dL_law_1104 dL_law_1105 dL_law_1106 dL_law_1107 ?_
  refine b_rwVl (As := [.int (xs (i + 1)), .int (xs (i + 2))]) (rest := []) (ci := 7) (wr := ((wcR cI (g 0) (aa 0) (S 0)) ++ (wcT cB (g 1) (aa 1) (S 1)) ++ (wcE (g 2) (g 1) (S 2)) ++ (wcA cI (g 3) (aa 3) (S 3)) ++ (wcF (g 5) f) ++ (wcH cI (g 6) (aa 6) (S 6)) ++ (wcH cI (g 7) (aa 7) (S 7)) ++ (wcH cI (g 9) (aa 9) (S 9)) ++ (wcM cI cZ om am sm tm))) (w2 := wW cI cB cZ o om g aa (sU S 4 bo') f am sm tm) ⟨hx, hb, hml, hown, hts⟩ (kX7_shape l dC dI cI cB cZ o g (aa 8) (aa 4) (S 10) (S 8) (S 4) (xs (i + 1)) (xs (i + 2)) H.size v bo' e1) (cwV 2 hts gL_law_X7_shape rfl rfl rfl hdX7_shape ⟨Nat.le_of_ble_eq_true rfl, Nat.le_of_ble_eq_true rfl⟩) hK hP hD hS hA (b_p1 [(wcX o g (S 10)), (wcR cI (g 0) (aa 0) (S 0)), (wcT cB (g 1) (aa 1) (S 1)), (wcE (g 2) (g 1) (S 2)), (wcA cI (g 3) (aa 3) (S 3)), (wcB cI (g 4) (aa 4) (S 4)), (wcF (g 5) f), (wcH cI (g 6) (aa 6) (S 6)), (wcH cI (g 7) (aa 7) (S 7)), (wcH cI (g 8) (aa 8) (S 8)), (wcH cI (g 9) (aa 9) (S 9)), (wcM cI cZ om am sm tm)] [0, 9, 5] [1, 2, 3, 4, 6, 7, 8, 10, 11] (n := 12) rfl (by decide +kernel)) (b_p2 [(wcR cI (g 0) (aa 0) (S 0)), (wcT cB (g 1) (aa 1) (S 1)), (wcE (g 2) (g 1) (S 2)), (wcA cI (g 3) (aa 3) (S 3)), (wcF (g 5) f), (wcH cI (g 6) (aa 6) (S 6)), (wcH cI (g 7) (aa 7) (S 7)), (wcH cI (g 9) (aa 9) (S 9)), (wcM cI cZ om am sm tm)] [(wcX o g (S 10)), (wcH cI (g 8) (aa 8) (S 8)), (wcB cI (g 4) (aa 4) bo')] [9, 0, 1, 2, 3, 11, 4, 5, 6, 10, 7, 8] (n := 12) rfl (by decide +kernel)) rfl rfl rfl hl.1 rfl (Nat.le_of_ble_eq_true rfl) dL_law_1108 ⟨Nat.le_of_ble_eq_true rfl, Nat.le_of_ble_eq_true rfl⟩ (fun H locs hP hD hS => ?_)
  refine lv_aload_n hx hb dL_law_1111 rfl (lv_at hl 2 rfl) ?_
  refine l_rd hx hb hX hbl hbA hS h0 h3 1 (by omega) hL (by decide) dL_law_1112 dL_law_1113 dL_law_1114 dL_law_1115 dL_law_1116 ?_
  refine l_rd hx hb hX hbl hbA hS h0 h3 2 (by omega) hL (by decide) dL_law_1117 dL_law_1118 dL_law_1119 dL_law_1120 dL_law_1121 ?_
  refine b_rwVl (As := [.int (xs (i + 1)), .int (xs (i + 2))]) (rest := [.long v]) (ci := 8) (wr := (wX cI cB o g aa (sU S 4 bo') f)) (w2 := wW cI cB cZ o om g aa (sU S 4 bo') f am m' tm) ⟨hx, hb, hml, hown, hts⟩ (kX8_shape l dC dI cI cB cZ om am sm tm (xs (i + 1)) (xs (i + 2)) H.size v m' e2) (cwV 2 hts gL_law_X8_shape rfl rfl rfl hdX8_shape ⟨Nat.le_of_ble_eq_true rfl, Nat.le_of_ble_eq_true rfl⟩) hK hP hD hS hA List.perm_append_comm (List.Perm.refl _) rfl rfl rfl hl.1 rfl (Nat.le_of_ble_eq_true rfl) dL_law_1122 ⟨Nat.le_of_ble_eq_true rfl, Nat.le_of_ble_eq_true rfl⟩ (fun H locs hP hD hS => ?_)
  refine W.lcmp hx hb dL_law_1125 ?_
  refine lv_if_eq (tgt := 1191) hx hb dL_law_1126 (by decide) (fun _ => ?_) (fun h => absurd (lg_self v) h)
  exact kk g aa (sU S 4 bo') f am m' tm H locs hP hD hS hR1
end CS
