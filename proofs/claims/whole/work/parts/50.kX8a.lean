variable (l : Launch) (dC : Nat → ClassId) (dI : Nat → Nat → Nat) (cI cB cZ : ClassId)
theorem hdX8_in : yX8_in.cls ≠ "java/lang/invoke/MethodHandle" ∧ yX8_in.cls ≠ "java/lang/invoke/VarHandle" ∧ (parseMethodDescriptor yX8_in.desc).map (fun d => d.parameters.length) = some 3 := by decide +kernel
set_option maxHeartbeats 4000000 in
set_option maxRecDepth 100000 in
theorem kX8_in (p0 : Int64) (p2 : Int64) (p4 : Int64) (r : Int32) (hf : fX8_in p0 p2 p4 = some r) : Met l yX8_in wsX8_in ({ frames := 0, cells := 0, slots := 0, locals := 0 } : Room) (pcS [.long p0, .long p2, .long p4]) (qiR r) 0 0 (fun _ => False) := by
  refine q_roS (cc := cX8_in) (maxL := 6) (ret := (some .boolean)) (by decide +kernel) rfl (Nat.le_of_ble_eq_true rfl) ?_
  intro p e s m below meth c hx hb hr hlk hml hown hts ls hl
  have hown : s.vm.findClass RX8 = some m.cls := hown
  have hl : lv_has ls 6 [(0, .long p0), (2, .long p2), (4, .long p4)] := hl
  unfold fX8_in at hf
  refine lv_lload_n hx hb dX8_in_0 rfl (lv_at hl 0 rfl) ?_
  refine lv_lload_n hx hb dX8_in_1 rfl (lv_at hl 1 rfl) ?_
  refine W.lcmp hx hb dX8_in_2 ?_
  refine lv_if_lt (tgt := 17) hx hb dX8_in_3 (by decide) (fun c1 => ?_) (fun c1 => ?_)
  · have hf := q_t c1 hf
    refine lv_iconst (v := 0) hx hb dX8_in_17 (by decide) ?_
    have ee0 := q_s1 hf
    exact q_retZ hx hb hr hlk rfl ee0 dX8_in_18
  · have hf := q_f c1 hf
    refine lv_lload_n hx hb dX8_in_6 rfl (lv_at hl 0 rfl) ?_
    refine lv_lload hx hb dX8_in_7 (lv_at hl 2 rfl) ?_
    refine W.lcmp hx hb dX8_in_9 ?_
    refine lv_if_gt (tgt := 17) hx hb dX8_in_10 (by decide) (fun c2 => ?_) (fun c2 => ?_)
    · have hf := q_t c2 hf
      refine lv_iconst (v := 0) hx hb dX8_in_17 (by decide) ?_
      have ee0 := q_s1 hf
      exact q_retZ hx hb hr hlk rfl ee0 dX8_in_18
    · have hf := q_f c2 hf
      refine lv_iconst (v := 1) hx hb dX8_in_13 (by decide) ?_
      refine lv_goto (tgt := 18) hx hb dX8_in_14 (by decide) ?_
      have ee0 := q_s1 hf
      exact q_retZ hx hb hr hlk rfl ee0 dX8_in_18
theorem hdX8_finding : yX8_finding.cls = RX8 ∧ yX8_finding.cls ≠ "java/lang/invoke/MethodHandle" ∧ yX8_finding.cls ≠ "java/lang/invoke/VarHandle" ∧ (parseMethodDescriptor yX8_finding.desc).map (fun d => d.parameters.length) = some 1 := by decide +kernel
theorem qX8_finding_1 : (Cond.fieldLink RX8 45 "DeadAskedModel" "status" "I") ∈ wsX8_finding := List.mem_of_getElem? (i := 1) (by decide +kernel)
theorem qX8_finding_2 : (Cond.constantLong RX8 48 (-9000000000000000010)) ∈ wsX8_finding := List.mem_of_getElem? (i := 2) (by decide +kernel)
theorem nX8_finding_8 : ∀ w ∈ u_ws RX8 TX8 27, w ∈ wsX8_finding := fun _ h => (List.mem_cons_of_mem _ (List.mem_append_right _ h))
set_option maxHeartbeats 4000000 in
set_option maxRecDepth 100000 in
theorem kX8_finding (o0 : Nat) (a0 : Nat → Nat) (s0 : St) (t0 : Lt) (p1 : Int32) (sz : Nat) (r : Int64) (z0 : St) (hf : fX8_finding s0 p1 = some (r, z0)) : Met l yX8_finding wsX8_finding ({ frames := 0, cells := 0, slots := 0, locals := 0 } : Room) (pcW (dC, dI) (q_ty cI cB cZ) [.ref o0, .int p1] (wcM cI cZ o0 a0 s0 t0) sz) (qlW (dC, dI) (q_ty cI cB cZ) (wcM cI cZ o0 a0 s0 t0) (wcM cI cZ o0 a0 z0 t0) sz r) 0 0 (va_A (wcM cI cZ o0 a0 s0 t0) sz) := by
  refine q_rwM (cc := cX8_finding) (maxL := 2) (ret := (some .long)) (by decide +kernel) rfl (Nat.le_of_ble_eq_true rfl) ?_
  intro p e s m below meth c hx hb hr hlk hml hown hts hK A H hAe hH hsz hP hD hA hS ls hl
  have hown : s.vm.findClass RX8 = some m.cls := hown
  have hl : lv_has ls 2 [(0, .ref o0), (1, .int p1)] := hl
  unfold fX8_finding at hf
  refine lv_aload_n hx hb dX8_finding_0 rfl (lv_at hl 0 rfl) ?_
  refine lv_iload_n hx hb dX8_finding_1 rfl (lv_at hl 1 rfl) ?_
  obtain ⟨sn1, esn1, hf⟩ := q_lto hf
  refine va_put (D := (dC, dI)) (ci := 8) (v := .int p1) (ty := .int) (C := RX8) (T := TX8) (N := 27) hx hb hts nX8_finding_8 tyX8 tyX8_ok nmX8 hown hK hP hD hS 0 rfl rfl 1 (by decide) (hts _ qX8_finding_1) (fun _ h9 => h9) rfl (by decide +kernel) rfl rfl (Nat.le_of_ble_eq_true rfl) dX8_finding_2 (fun H locs hP hD hS => ?_)
  have hP : va_P (dC, dI) vwCl (wcM cI cZ o0 a0 sn1 t0) H := by rw [esn1]; exact hP
  have hD : va_D A (wcM cI cZ o0 a0 sn1 t0) := by rw [esn1]; exact hD
  refine lv_ldc2 (v := -9000000000000000010) hx hb hown (hts _ qX8_finding_2) dX8_finding_5 ?_
  refine lv_iload_n hx hb dX8_finding_8 rfl (lv_at hl 1 rfl) ?_
  refine lv_i2l (v := p1.toInt64) hx hb dX8_finding_9 rfl ?_
  refine lv_lsub hx hb dX8_finding_10 ?_
  obtain ⟨ee0, ee1⟩ := q_s2 hf
  subst ee1
  exact q_wretL hx hb hr hlk hAe hK hP hD hS ee0 dX8_finding_11
theorem hdX8_isRow : yX8_isRow.cls ≠ "java/lang/invoke/MethodHandle" ∧ yX8_isRow.cls ≠ "java/lang/invoke/VarHandle" ∧ (parseMethodDescriptor yX8_isRow.desc).map (fun d => d.parameters.length) = some 1 := by decide +kernel
theorem qX8_isRow_1 : (Cond.constantLong RX8 50 7) ∈ wsX8_isRow := List.mem_of_getElem? (i := 1) (by decide +kernel)
set_option maxHeartbeats 4000000 in
set_option maxRecDepth 100000 in
theorem kX8_isRow (p0 : Int32) (r : Int32) (hf : fX8_isRow p0 = some r) : Met l yX8_isRow wsX8_isRow ({ frames := 1, cells := 0, slots := 0, locals := 25 } : Room) (pcS [.int p0]) (qiR r) 0 0 (fun _ => False) := by
  refine q_roS (cc := cX8_isRow) (maxL := 1) (ret := (some .boolean)) (by decide +kernel) rfl (Nat.le_of_ble_eq_true rfl) ?_
  intro p e s m below meth c hx hb hr hlk hml hown hts ls hl
  have hown : s.vm.findClass RX8 = some m.cls := hown
  have hl : lv_has ls 1 [(0, .int p0)] := hl
  unfold fX8_isRow at hf
  refine lv_iload_n hx hb dX8_isRow_0 rfl (lv_at hl 0 rfl) ?_
  refine lv_i2l (v := p0.toInt64) hx hb dX8_isRow_1 rfl ?_
  refine lv_lconst (v := 0) hx hb dX8_isRow_2 (by decide) ?_
  refine lv_ldc2 (v := 7) hx hb hown (hts _ qX8_isRow_1) dX8_isRow_3 ?_
  obtain ⟨r1, h2, hf⟩ := q_b1o hf
  refine q_roSi (As := [.long p0.toInt64, .long (0 : Int64), .long (7 : Int64)]) (rest := []) ⟨hx, hb, hml, hown, hts⟩ (kX8_in l p0.toInt64 (0 : Int64) (7 : Int64) r1 h2) (va_cwS 3 hts gX8_isRow_X8_in rfl rfl rfl hdX8_in ⟨Nat.le_of_ble_eq_true rfl, Nat.le_of_ble_eq_true rfl⟩) rfl hl.1 rfl (Nat.le_of_ble_eq_true rfl) dX8_isRow_6 ⟨Nat.zero_le _, Nat.zero_le _⟩ ?_
  obtain ⟨c3, hf⟩ := q_ck hf
  have ee0 := q_s1 hf
  exact q_retZ hx hb hr hlk (q_nb c3) ee0 dX8_isRow_9
theorem hdX8_row : yX8_row.cls = RX8 ∧ yX8_row.cls ≠ "java/lang/invoke/MethodHandle" ∧ yX8_row.cls ≠ "java/lang/invoke/VarHandle" ∧ (parseMethodDescriptor yX8_row.desc).map (fun d => d.parameters.length) = some 3 := by decide +kernel
theorem qX8_row_1 : (Cond.fieldLink RX8 41 "DeadAskedModel" "thrown" "I") ∈ wsX8_row := List.mem_of_getElem? (i := 1) (by decide +kernel)
theorem qX8_row_2 : (Cond.constantLong RX8 60 2) ∈ wsX8_row := List.mem_of_getElem? (i := 2) (by decide +kernel)
theorem qX8_row_3 : (Cond.constantLong RX8 62 (-9000000000000000001)) ∈ wsX8_row := List.mem_of_getElem? (i := 3) (by decide +kernel)
theorem qX8_row_4 : (Cond.fieldLink RX8 45 "DeadAskedModel" "status" "I") ∈ wsX8_row := List.mem_of_getElem? (i := 4) (by decide +kernel)
theorem qX8_row_5 : (Cond.fieldLink RX8 9 "DeadAskedModel" "lane" "[I") ∈ wsX8_row := List.mem_of_getElem? (i := 5) (by decide +kernel)
theorem qX8_row_6 : (Cond.fieldLink RX8 13 "DeadAskedModel" "many" "[I") ∈ wsX8_row := List.mem_of_getElem? (i := 6) (by decide +kernel)
theorem qX8_row_7 : (Cond.fieldLink RX8 16 "DeadAskedModel" "item" "[I") ∈ wsX8_row := List.mem_of_getElem? (i := 7) (by decide +kernel)
theorem nX8_row_8 : ∀ w ∈ u_ws RX8 TX8 27, w ∈ wsX8_row := fun _ h => (List.mem_cons_of_mem _ (List.mem_append_right _ h))
set_option maxHeartbeats 4000000 in
set_option maxRecDepth 100000 in
theorem kX8_row (o0 : Nat) (a0 : Nat → Nat) (s0 : St) (t0 : Lt) (p1 : Int32) (p2 : Int32) (p3 : Int32) (sz : Nat) (r : Int64) (z0 : St) (hf : fX8_row s0 p1 p2 p3 = some (r, z0)) : Met l yX8_row wsX8_row ({ frames := 2, cells := 0, slots := 0, locals := 45 } : Room) (pcW (dC, dI) (q_ty cI cB cZ) [.ref o0, .int p1, .int p2, .int p3] (wcM cI cZ o0 a0 s0 t0) sz) (qlW (dC, dI) (q_ty cI cB cZ) (wcM cI cZ o0 a0 s0 t0) (wcM cI cZ o0 a0 z0 t0) sz r) 0 0 (va_A (wcM cI cZ o0 a0 s0 t0) sz) := by
  refine q_rwM (cc := cX8_row) (maxL := 5) (ret := (some .long)) (by decide +kernel) rfl (Nat.le_of_ble_eq_true rfl) ?_
  intro p e s m below meth c hx hb hr hlk hml hown hts hK A H hAe hH hsz hP hD hA hS ls hl
  have hown : s.vm.findClass RX8 = some m.cls := hown
  have hl : lv_has ls 5 [(0, .ref o0), (1, .int p1), (2, .int p2), (3, .int p3)] := hl
  unfold fX8_row at hf
  refine lv_aload_n hx hb dX8_row_0 rfl (lv_at hl 0 rfl) ?_
  refine lv_iconst (v := 0) hx hb dX8_row_1 (by decide) ?_
  obtain ⟨sn1, esn1, hf⟩ := q_lto hf
  refine va_put (D := (dC, dI)) (ci := 8) (v := .int (0 : Int32)) (ty := .int) (C := RX8) (T := TX8) (N := 27) hx hb hts nX8_row_8 tyX8 tyX8_ok nmX8 hown hK hP hD hS 0 rfl rfl 0 (by decide) (hts _ qX8_row_1) (fun _ h9 => h9) rfl (by decide +kernel) rfl rfl (Nat.le_of_ble_eq_true rfl) dX8_row_2 (fun H locs hP hD hS => ?_)
  have hP : va_P (dC, dI) vwCl (wcM cI cZ o0 a0 sn1 t0) H := by rw [esn1]; exact hP
  have hD : va_D A (wcM cI cZ o0 a0 sn1 t0) := by rw [esn1]; exact hD
  refine lv_iload_n hx hb dX8_row_5 rfl (lv_at hl 1 rfl) ?_
  obtain ⟨r2, h3, hf⟩ := q_b1o hf
  refine q_roSi (As := [.int p1]) (rest := []) ⟨hx, hb, hml, hown, hts⟩ (kX8_isRow l p1 r2 h3) (va_cwS 1 hts gX8_row_X8_isRow rfl rfl rfl hdX8_isRow ⟨Nat.le_of_ble_eq_true rfl, Nat.le_of_ble_eq_true rfl⟩) rfl hl.1 rfl (Nat.le_of_ble_eq_true rfl) dX8_row_6 ⟨Nat.zero_le _, Nat.zero_le _⟩ ?_
  refine lv_if_eq (tgt := 30) hx hb dX8_row_9 (by decide) (fun c4 => ?_) (fun c4 => ?_)
  · have hf := q_t c4 hf
    refine lv_ldc2 (v := -9000000000000000001) hx hb hown (hts _ qX8_row_3) dX8_row_30 ?_
    obtain ⟨ee0, ee1⟩ := q_s2 hf
    subst ee1
    exact q_wretL hx hb hr hlk hAe hK hP hD hS ee0 dX8_row_33
  · have hf := q_f c4 hf
    refine lv_iload_n hx hb dX8_row_12 rfl (lv_at hl 2 rfl) ?_
    refine lv_i2l (v := p2.toInt64) hx hb dX8_row_13 rfl ?_
    refine lv_lconst (v := 0) hx hb dX8_row_14 (by decide) ?_
    refine lv_ldc2 (v := 2) hx hb hown (hts _ qX8_row_2) dX8_row_15 ?_
    obtain ⟨r5, h6, hf⟩ := q_b1o hf
    refine q_roSi (As := [.long p2.toInt64, .long (0 : Int64), .long (2 : Int64)]) (rest := []) ⟨hx, hb, hml, hown, hts⟩ (kX8_in l p2.toInt64 (0 : Int64) (2 : Int64) r5 h6) (va_cwS 3 hts gX8_row_X8_in rfl rfl rfl hdX8_in ⟨Nat.le_of_ble_eq_true rfl, Nat.le_of_ble_eq_true rfl⟩) rfl hl.1 rfl (Nat.le_of_ble_eq_true rfl) dX8_row_18 ⟨Nat.zero_le _, Nat.zero_le _⟩ ?_
    refine lv_if_eq (tgt := 30) hx hb dX8_row_21 (by decide) (fun c7 => ?_) (fun c7 => ?_)
    · have hf := q_t c7 hf
      refine lv_ldc2 (v := -9000000000000000001) hx hb hown (hts _ qX8_row_3) dX8_row_30 ?_
      obtain ⟨ee0, ee1⟩ := q_s2 hf
      subst ee1
      exact q_wretL hx hb hr hlk hAe hK hP hD hS ee0 dX8_row_33
    · have hf := q_f c7 hf
      refine lv_iload_n hx hb dX8_row_24 rfl (lv_at hl 3 rfl) ?_
      refine lv_bipush (v := 40) hx hb dX8_row_25 (by decide) ?_
      refine lv_icmp_le (tgt := 34) hx hb dX8_row_27 (by decide) (fun c8 => ?_) (fun c8 => ?_)
      · have hf := q_t c8 hf
        refine lv_aload_n hx hb dX8_row_34 rfl (lv_at hl 0 rfl) ?_
        refine lv_iconst (v := 0) hx hb dX8_row_35 (by decide) ?_
        obtain ⟨sn9, esn9, hf⟩ := q_lto hf
        refine va_put (D := (dC, dI)) (ci := 8) (v := .int (0 : Int32)) (ty := .int) (C := RX8) (T := TX8) (N := 27) hx hb hts nX8_row_8 tyX8 tyX8_ok nmX8 hown hK hP hD hS 0 rfl rfl 1 (by decide) (hts _ qX8_row_4) (fun _ h9 => h9) rfl (by decide +kernel) rfl rfl (Nat.le_of_ble_eq_true rfl) dX8_row_36 (fun H locs hP hD hS => ?_)
        have hP : va_P (dC, dI) vwCl (wcM cI cZ o0 a0 sn9 t0) H := by rw [esn9]; exact hP
        have hD : va_D A (wcM cI cZ o0 a0 sn9 t0) := by rw [esn9]; exact hD
        refine lv_iload_n hx hb dX8_row_39 rfl (lv_at hl 3 rfl) ?_
        refine lv_if_ge (tgt := 49) hx hb dX8_row_40 (by decide) (fun c10 => ?_) (fun c10 => ?_)
        · have hf := q_t c10 hf
          refine lv_aload_n hx hb dX8_row_49 rfl (lv_at hl 0 rfl) ?_
          refine va_get (D := (dC, dI)) (ci := 8) (v := .ref (a0 2)) (C := RX8) (T := TX8) (N := 27) hx hb hts nX8_row_8 hown hK hP 0 rfl rfl 2 (by decide) (hts _ qX8_row_5) (fun _ h9 => h9) rfl dX8_row_50 ?_
          refine lv_iload_n hx hb dX8_row_53 rfl (lv_at hl 1 rfl) ?_
          refine lv_iload_n hx hb dX8_row_54 rfl (lv_at hl 2 rfl) ?_
          obtain ⟨c11, hf⟩ := q_ck hf
          obtain ⟨sn12, esn12, hf⟩ := q_lto hf
          refine va_iast hx hb hK hP hD hS 1 0 rfl rfl c11 dX8_row_55 (fun H locs hP hD hS => ?_)
          have hP : va_P (dC, dI) vwCl (wcM cI cZ o0 a0 sn12 t0) H := by rw [esn12]; exact hP
          have hD : va_D A (wcM cI cZ o0 a0 sn12 t0) := by rw [esn12]; exact hD
          refine lv_aload_n hx hb dX8_row_56 rfl (lv_at hl 0 rfl) ?_
          refine va_get (D := (dC, dI)) (ci := 8) (v := .ref (a0 3)) (C := RX8) (T := TX8) (N := 27) hx hb hts nX8_row_8 hown hK hP 0 rfl rfl 3 (by decide) (hts _ qX8_row_6) (fun _ h9 => h9) rfl dX8_row_57 ?_
          refine lv_iload_n hx hb dX8_row_60 rfl (lv_at hl 1 rfl) ?_
          refine lv_iload_n hx hb dX8_row_61 rfl (lv_at hl 3 rfl) ?_
          obtain ⟨c13, hf⟩ := q_ck hf
          obtain ⟨sn14, esn14, hf⟩ := q_lto hf
          refine va_iast hx hb hK hP hD hS 2 0 rfl rfl c13 dX8_row_62 (fun H locs hP hD hS => ?_)
          have hP : va_P (dC, dI) vwCl (wcM cI cZ o0 a0 sn14 t0) H := by rw [esn14]; exact hP
          have hD : va_D A (wcM cI cZ o0 a0 sn14 t0) := by rw [esn14]; exact hD
          refine lv_iconst (v := 0) hx hb dX8_row_63 (by decide) ?_
          refine lv_istore (lv' := [(4, .int (0 : Int32)), (0, .ref o0), (1, .int p1), (2, .int p2), (3, .int p3)]) hx hb dX8_row_64 hl (by decide) rfl (fun ls hl => ?_)
          obtain ⟨oz18, hqn17, hf⟩ := q_b1o hf
          have kxn17 : ∀ z18 : St, z18 = oz18 → ∀ (H : Heap) (locs : List Loc), va_P (dC, dI) vwCl (wcM cI cZ o0 a0 z18 t0) H → va_D A (wcM cI cZ o0 a0 z18 t0) → va_S A s.heap H locs → ∀ ls : Array Slot, lv_has ls 5 [(3, .int p3)] → W p l e ({ frames := 2, cells := 0, slots := 0, locals := 45 } : Room) s m [.ref o0, .int p1, .int p2, .int p3].toArray below meth c H locs 0 0 (MQ below (qlW (dC, dI) (q_ty cI cB cZ) (wcM cI cZ o0 a0 s0 t0) (wcM cI cZ o0 a0 z0 t0) sz r) [.ref o0, .int p1, .int p2, .int p3].toArray s 0 0 (va_A (wcM cI cZ o0 a0 s0 t0) sz)) (F0 m 92 ls []) := by
            intro z18 ez18 H locs hP hD hS ls hl
            subst ez18
            refine lv_iload_n hx hb dX8_row_92 rfl (lv_at hl 0 rfl) ?_
            refine lv_i2l (v := p3.toInt64) hx hb dX8_row_93 rfl ?_
            obtain ⟨ee0, ee1⟩ := q_s2 hf
            subst ee1
            exact q_wretL hx hb hr hlk hAe hK hP hD hS ee0 dX8_row_94
          have aihn17 : ∀ n17 : Nat, ∀ l4_15 : Int32, ∀ sl16 : St, fX8_row_L66 p1 n17 l4_15 sl16 = some oz18 → ∀ (H : Heap) (locs : List Loc), va_P (dC, dI) vwCl (wcM cI cZ o0 a0 sl16 t0) H → va_D A (wcM cI cZ o0 a0 sl16 t0) → va_S A s.heap H locs → ∀ ls : Array Slot, lv_has ls 5 [(4, .int l4_15), (0, .ref o0), (1, .int p1), (3, .int p3)] → W p l e ({ frames := 2, cells := 0, slots := 0, locals := 45 } : Room) s m [.ref o0, .int p1, .int p2, .int p3].toArray below meth c H locs 0 0 (MQ below (qlW (dC, dI) (q_ty cI cB cZ) (wcM cI cZ o0 a0 s0 t0) (wcM cI cZ o0 a0 z0 t0) sz r) [.ref o0, .int p1, .int p2, .int p3].toArray s 0 0 (va_A (wcM cI cZ o0 a0 s0 t0) sz)) (F0 m 66 ls []) := by
            intro n17
            induction n17 with
            | zero =>
              intro l4_15 sl16 hf
              exact q_no hf
            | succ n17 ihn17 =>
              intro l4_15 sl16 hf H locs hP hD hS ls hl
              rw [fX8_row_L66] at hf
              refine lv_iload hx hb dX8_row_66 (lv_at hl 0 rfl) ?_
              refine lv_bipush (v := 40) hx hb dX8_row_68 (by decide) ?_
              refine lv_icmp_ge (tgt := 92) hx hb dX8_row_70 (by decide) (fun c19 => ?_) (fun c19 => ?_)
              · have hf := q_t c19 hf
                exact kxn17 sl16 (q_s1 hf) _ _ hP hD hS _ (lv_sub hl [3] rfl)
              · have hf := q_f c19 hf
                refine lv_aload_n hx hb dX8_row_73 rfl (lv_at hl 1 rfl) ?_
                refine va_get (D := (dC, dI)) (ci := 8) (v := .ref (a0 4)) (C := RX8) (T := TX8) (N := 27) hx hb hts nX8_row_8 hown hK hP 0 rfl rfl 4 (by decide) (hts _ qX8_row_7) (fun _ h9 => h9) rfl dX8_row_74 ?_
                refine lv_bipush (v := 40) hx hb dX8_row_77 (by decide) ?_
                refine lv_iload_n hx hb dX8_row_79 rfl (lv_at hl 2 rfl) ?_
                refine lv_imul hx hb dX8_row_80 ?_
                refine lv_iload hx hb dX8_row_81 (lv_at hl 0 rfl) ?_
                refine lv_iadd hx hb dX8_row_83 ?_
                refine lv_iconst (v := 0) hx hb dX8_row_84 (by decide) ?_
                obtain ⟨c20, hf⟩ := q_ck hf
                obtain ⟨sn21, esn21, hf⟩ := q_lto hf
                refine va_iast hx hb hK hP hD hS 3 0 rfl rfl c20 dX8_row_85 (fun H locs hP hD hS => ?_)
                have hP : va_P (dC, dI) vwCl (wcM cI cZ o0 a0 sn21 t0) H := by rw [esn21]; exact hP
                have hD : va_D A (wcM cI cZ o0 a0 sn21 t0) := by rw [esn21]; exact hD
                refine lv_iinc (v := l4_15 + (1 : Int32)) (lv' := [(4, .int (l4_15 + (1 : Int32))), (0, .ref o0), (1, .int p1), (3, .int p3)]) hx hb dX8_row_86 hl (k := 0) rfl rfl (by decide) rfl (fun ls hl => ?_)
                refine lv_goto (tgt := 66) hx hb dX8_row_89 (by decide) ?_
                exact ihn17 (l4_15 + (1 : Int32)) sn21 hf _ _ hP hD hS _ hl
          exact aihn17 5000 (0 : Int32) sn14 hqn17 _ _ hP hD hS _ (lv_sub hl [0, 1, 2, 4] rfl)
        · have hf := q_f c10 hf
          refine lv_aload_n hx hb dX8_row_43 rfl (lv_at hl 0 rfl) ?_
          refine lv_iconst (v := 4) hx hb dX8_row_44 (by decide) ?_
          obtain ⟨r22, sc23, h24, hf⟩ := q_b2o hf
          refine q_rwVl (As := [.int (4 : Int32)]) (rest := []) (ci := 8) (wr := []) (w2 := (wcM cI cZ o0 a0 sc23 t0)) ⟨hx, hb, hml, hown, hts⟩ (kX8_finding l dC dI cI cB cZ o0 a0 sn9 t0 (4 : Int32) H.size r22 sc23 h24) (cwV 1 hts gX8_row_X8_finding rfl rfl rfl hdX8_finding ⟨Nat.le_of_ble_eq_true rfl, Nat.le_of_ble_eq_true rfl⟩) hK hP hD hS hA [0, 1, 2, 3, 4, 5, 6, 7, 8, 9, 10] [] [0, 1, 2, 3, 4, 5, 6, 7, 8, 9, 10] rfl rfl (by decide) (by decide) (by decide) rfl (by decide) rfl rfl rfl hl.1 rfl (Nat.le_of_ble_eq_true rfl) dX8_row_45 ⟨Nat.zero_le _, Nat.zero_le _⟩ (fun H locs hP hD hS => ?_)
          obtain ⟨ee0, ee1⟩ := q_s2 hf
          subst ee1
          exact q_wretL hx hb hr hlk hAe hK hP hD hS ee0 dX8_row_48
      · have hf := q_f c8 hf
        refine lv_ldc2 (v := -9000000000000000001) hx hb hown (hts _ qX8_row_3) dX8_row_30 ?_
        obtain ⟨ee0, ee1⟩ := q_s2 hf
        subst ee1
        exact q_wretL hx hb hr hlk hAe hK hP hD hS ee0 dX8_row_33
theorem hdX8_set : yX8_set.cls = RX8 ∧ yX8_set.cls ≠ "java/lang/invoke/MethodHandle" ∧ yX8_set.cls ≠ "java/lang/invoke/VarHandle" ∧ (parseMethodDescriptor yX8_set.desc).map (fun d => d.parameters.length) = some 3 := by decide +kernel
theorem qX8_set_1 : (Cond.fieldLink RX8 41 "DeadAskedModel" "thrown" "I") ∈ wsX8_set := List.mem_of_getElem? (i := 1) (by decide +kernel)
theorem qX8_set_2 : (Cond.constantLong RX8 62 (-9000000000000000001)) ∈ wsX8_set := List.mem_of_getElem? (i := 2) (by decide +kernel)
theorem qX8_set_3 : (Cond.fieldLink RX8 45 "DeadAskedModel" "status" "I") ∈ wsX8_set := List.mem_of_getElem? (i := 3) (by decide +kernel)
theorem qX8_set_4 : (Cond.fieldLink RX8 9 "DeadAskedModel" "lane" "[I") ∈ wsX8_set := List.mem_of_getElem? (i := 4) (by decide +kernel)
theorem qX8_set_5 : (Cond.fieldLink RX8 13 "DeadAskedModel" "many" "[I") ∈ wsX8_set := List.mem_of_getElem? (i := 5) (by decide +kernel)
theorem qX8_set_6 : (Cond.fieldLink RX8 16 "DeadAskedModel" "item" "[I") ∈ wsX8_set := List.mem_of_getElem? (i := 6) (by decide +kernel)
theorem nX8_set_8 : ∀ w ∈ u_ws RX8 TX8 27, w ∈ wsX8_set := fun _ h => (List.mem_cons_of_mem _ (List.mem_append_right _ h))
set_option maxHeartbeats 4000000 in
set_option maxRecDepth 100000 in
theorem kX8_set (o0 : Nat) (a0 : Nat → Nat) (s0 : St) (t0 : Lt) (p1 : Int32) (p2 : Int32) (p3 : Int32) (sz : Nat) (r : Int64) (z0 : St) (hf : fX8_set s0 p1 p2 p3 = some (r, z0)) : Met l yX8_set wsX8_set ({ frames := 2, cells := 0, slots := 0, locals := 45 } : Room) (pcW (dC, dI) (q_ty cI cB cZ) [.ref o0, .int p1, .int p2, .int p3] (wcM cI cZ o0 a0 s0 t0) sz) (qlW (dC, dI) (q_ty cI cB cZ) (wcM cI cZ o0 a0 s0 t0) (wcM cI cZ o0 a0 z0 t0) sz r) 0 0 (va_A (wcM cI cZ o0 a0 s0 t0) sz) := by
  refine q_rwM (cc := cX8_set) (maxL := 4) (ret := (some .long)) (by decide +kernel) rfl (Nat.le_of_ble_eq_true rfl) ?_
  intro p e s m below meth c hx hb hr hlk hml hown hts hK A H hAe hH hsz hP hD hA hS ls hl
  have hown : s.vm.findClass RX8 = some m.cls := hown
  have hl : lv_has ls 4 [(0, .ref o0), (1, .int p1), (2, .int p2), (3, .int p3)] := hl
  unfold fX8_set at hf
  refine lv_aload_n hx hb dX8_set_0 rfl (lv_at hl 0 rfl) ?_
  refine lv_iconst (v := 0) hx hb dX8_set_1 (by decide) ?_
  obtain ⟨sn1, esn1, hf⟩ := q_lto hf
  refine va_put (D := (dC, dI)) (ci := 8) (v := .int (0 : Int32)) (ty := .int) (C := RX8) (T := TX8) (N := 27) hx hb hts nX8_set_8 tyX8 tyX8_ok nmX8 hown hK hP hD hS 0 rfl rfl 0 (by decide) (hts _ qX8_set_1) (fun _ h9 => h9) rfl (by decide +kernel) rfl rfl (Nat.le_of_ble_eq_true rfl) dX8_set_2 (fun H locs hP hD hS => ?_)
  have hP : va_P (dC, dI) vwCl (wcM cI cZ o0 a0 sn1 t0) H := by rw [esn1]; exact hP
  have hD : va_D A (wcM cI cZ o0 a0 sn1 t0) := by rw [esn1]; exact hD
  refine lv_iload_n hx hb dX8_set_5 rfl (lv_at hl 1 rfl) ?_
  obtain ⟨r2, h3, hf⟩ := q_b1o hf
  refine q_roSi (As := [.int p1]) (rest := []) ⟨hx, hb, hml, hown, hts⟩ (kX8_isRow l p1 r2 h3) (va_cwS 1 hts gX8_set_X8_isRow rfl rfl rfl hdX8_isRow ⟨Nat.le_of_ble_eq_true rfl, Nat.le_of_ble_eq_true rfl⟩) rfl hl.1 rfl (Nat.le_of_ble_eq_true rfl) dX8_set_6 ⟨Nat.zero_le _, Nat.zero_le _⟩ ?_
  refine lv_if_ne (tgt := 16) hx hb dX8_set_9 (by decide) (fun c4 => ?_) (fun c4 => ?_)
  · have hf := q_f c4 hf
    refine lv_aload_n hx hb dX8_set_16 rfl (lv_at hl 0 rfl) ?_
    refine lv_iconst (v := 0) hx hb dX8_set_17 (by decide) ?_
    obtain ⟨sn5, esn5, hf⟩ := q_lto hf
    refine va_put (D := (dC, dI)) (ci := 8) (v := .int (0 : Int32)) (ty := .int) (C := RX8) (T := TX8) (N := 27) hx hb hts nX8_set_8 tyX8 tyX8_ok nmX8 hown hK hP hD hS 0 rfl rfl 1 (by decide) (hts _ qX8_set_3) (fun _ h9 => h9) rfl (by decide +kernel) rfl rfl (Nat.le_of_ble_eq_true rfl) dX8_set_18 (fun H locs hP hD hS => ?_)
    have hP : va_P (dC, dI) vwCl (wcM cI cZ o0 a0 sn5 t0) H := by rw [esn5]; exact hP
    have hD : va_D A (wcM cI cZ o0 a0 sn5 t0) := by rw [esn5]; exact hD
    refine lv_aload_n hx hb dX8_set_21 rfl (lv_at hl 0 rfl) ?_
    refine va_get (D := (dC, dI)) (ci := 8) (v := .ref (a0 2)) (C := RX8) (T := TX8) (N := 27) hx hb hts nX8_set_8 hown hK hP 0 rfl rfl 2 (by decide) (hts _ qX8_set_4) (fun _ h9 => h9) rfl dX8_set_22 ?_
    refine lv_iload_n hx hb dX8_set_25 rfl (lv_at hl 1 rfl) ?_
    obtain ⟨c6, hf⟩ := q_ck hf
    refine va_iald hx hb hK hP 1 0 rfl rfl c6 dX8_set_26 ?_
    refine lv_if_ge (tgt := 36) hx hb dX8_set_27 (by decide) (fun c7 => ?_) (fun c7 => ?_)
    · have hf := q_t c7 hf
      refine lv_iload_n hx hb dX8_set_36 rfl (lv_at hl 2 rfl) ?_
      refine lv_i2l (v := p2.toInt64) hx hb dX8_set_37 rfl ?_
      refine lv_lconst (v := 0) hx hb dX8_set_38 (by decide) ?_
      refine lv_aload_n hx hb dX8_set_39 rfl (lv_at hl 0 rfl) ?_
      refine va_get (D := (dC, dI)) (ci := 8) (v := .ref (a0 3)) (C := RX8) (T := TX8) (N := 27) hx hb hts nX8_set_8 hown hK hP 0 rfl rfl 3 (by decide) (hts _ qX8_set_5) (fun _ h9 => h9) rfl dX8_set_40 ?_
      refine lv_iload_n hx hb dX8_set_43 rfl (lv_at hl 1 rfl) ?_
      obtain ⟨c8, hf⟩ := q_ck hf
      refine va_iald hx hb hK hP 2 0 rfl rfl c8 dX8_set_44 ?_
      refine lv_iconst (v := 1) hx hb dX8_set_45 (by decide) ?_
      refine lv_isub hx hb dX8_set_46 ?_
      refine lv_i2l (v := ((sn5 3 p1.toNatClampNeg) - (1 : Int32)).toInt64) hx hb dX8_set_47 rfl ?_
      obtain ⟨r9, h10, hf⟩ := q_b1o hf
      refine q_roSi (As := [.long p2.toInt64, .long (0 : Int64), .long (((sn5 3 p1.toNatClampNeg) - (1 : Int32)).toInt64)]) (rest := []) ⟨hx, hb, hml, hown, hts⟩ (kX8_in l p2.toInt64 (0 : Int64) (((sn5 3 p1.toNatClampNeg) - (1 : Int32)).toInt64) r9 h10) (va_cwS 3 hts gX8_set_X8_in rfl rfl rfl hdX8_in ⟨Nat.le_of_ble_eq_true rfl, Nat.le_of_ble_eq_true rfl⟩) rfl hl.1 rfl (Nat.le_of_ble_eq_true rfl) dX8_set_48 ⟨Nat.zero_le _, Nat.zero_le _⟩ ?_
      refine lv_if_ne (tgt := 60) hx hb dX8_set_51 (by decide) (fun c11 => ?_) (fun c11 => ?_)
      · have hf := q_f c11 hf
        refine lv_aload_n hx hb dX8_set_60 rfl (lv_at hl 0 rfl) ?_
        refine va_get (D := (dC, dI)) (ci := 8) (v := .ref (a0 4)) (C := RX8) (T := TX8) (N := 27) hx hb hts nX8_set_8 hown hK hP 0 rfl rfl 4 (by decide) (hts _ qX8_set_6) (fun _ h9 => h9) rfl dX8_set_61 ?_
        refine lv_bipush (v := 40) hx hb dX8_set_64 (by decide) ?_
        refine lv_iload_n hx hb dX8_set_66 rfl (lv_at hl 1 rfl) ?_
        refine lv_imul hx hb dX8_set_67 ?_
        refine lv_iload_n hx hb dX8_set_68 rfl (lv_at hl 2 rfl) ?_
        refine lv_iadd hx hb dX8_set_69 ?_
        refine lv_aload_n hx hb dX8_set_70 rfl (lv_at hl 0 rfl) ?_
        refine va_get (D := (dC, dI)) (ci := 8) (v := .ref (a0 2)) (C := RX8) (T := TX8) (N := 27) hx hb hts nX8_set_8 hown hK hP 0 rfl rfl 2 (by decide) (hts _ qX8_set_4) (fun _ h9 => h9) rfl dX8_set_71 ?_
        refine lv_iload_n hx hb dX8_set_74 rfl (lv_at hl 1 rfl) ?_
        obtain ⟨c12, hf⟩ := q_ck hf
        refine va_iald hx hb hK hP 1 0 rfl rfl c12 dX8_set_75 ?_
        obtain ⟨ov13, hqj14, hf⟩ := q_b1o hf
        have kj14 : ∀ v13 : Int32, v13 = ov13 → ∀ (H : Heap) (locs : List Loc), va_P (dC, dI) vwCl (wcM cI cZ o0 a0 sn5 t0) H → va_D A (wcM cI cZ o0 a0 sn5 t0) → va_S A s.heap H locs → ∀ ls : Array Slot, lv_has ls 4 [(0, .ref o0), (1, .int p1), (2, .int p2)] → W p l e ({ frames := 2, cells := 0, slots := 0, locals := 45 } : Room) s m [.ref o0, .int p1, .int p2, .int p3].toArray below meth c H locs 0 0 (MQ below (qlW (dC, dI) (q_ty cI cB cZ) (wcM cI cZ o0 a0 s0 t0) (wcM cI cZ o0 a0 z0 t0) sz r) [.ref o0, .int p1, .int p2, .int p3].toArray s 0 0 (va_A (wcM cI cZ o0 a0 s0 t0) sz)) (F0 m 100 ls [.int v13, .int (((40 : Int32) * p1) + p2), .ref (a0 4)]) := by
          intro v13 ev13 H locs hP hD hS ls hl
          subst ev13
          obtain ⟨c15, hf⟩ := q_ck hf
          obtain ⟨sn16, esn16, hf⟩ := q_lto hf
          refine va_iast hx hb hK hP hD hS 3 0 rfl rfl c15 dX8_set_100 (fun H locs hP hD hS => ?_)
          have hP : va_P (dC, dI) vwCl (wcM cI cZ o0 a0 sn16 t0) H := by rw [esn16]; exact hP
          have hD : va_D A (wcM cI cZ o0 a0 sn16 t0) := by rw [esn16]; exact hD
          refine lv_aload_n hx hb dX8_set_101 rfl (lv_at hl 0 rfl) ?_
          refine va_get (D := (dC, dI)) (ci := 8) (v := .ref (a0 4)) (C := RX8) (T := TX8) (N := 27) hx hb hts nX8_set_8 hown hK hP 0 rfl rfl 4 (by decide) (hts _ qX8_set_6) (fun _ h9 => h9) rfl dX8_set_102 ?_
          refine lv_bipush (v := 40) hx hb dX8_set_105 (by decide) ?_
          refine lv_iload_n hx hb dX8_set_107 rfl (lv_at hl 1 rfl) ?_
          refine lv_imul hx hb dX8_set_108 ?_
          refine lv_iload_n hx hb dX8_set_109 rfl (lv_at hl 2 rfl) ?_
          refine lv_iadd hx hb dX8_set_110 ?_
          obtain ⟨c17, hf⟩ := q_ck hf
          refine va_iald hx hb hK hP 3 0 rfl rfl c17 dX8_set_111 ?_
          refine lv_i2l (v := (sn16 4 (((40 : Int32) * p1) + p2).toNatClampNeg).toInt64) hx hb dX8_set_112 rfl ?_
          obtain ⟨ee0, ee1⟩ := q_s2 hf
          subst ee1
          exact q_wretL hx hb hr hlk hAe hK hP hD hS ee0 dX8_set_113
        have hf := hqj14
        refine lv_if_ne (tgt := 84) hx hb dX8_set_76 (by decide) (fun c18 => ?_) (fun c18 => ?_)
        · have hf := q_f c18 hf
          refine lv_aload_n hx hb dX8_set_84 rfl (lv_at hl 0 rfl) ?_
          refine va_get (D := (dC, dI)) (ci := 8) (v := .ref (a0 2)) (C := RX8) (T := TX8) (N := 27) hx hb hts nX8_set_8 hown hK hP 0 rfl rfl 2 (by decide) (hts _ qX8_set_4) (fun _ h9 => h9) rfl dX8_set_85 ?_
          refine lv_iload_n hx hb dX8_set_88 rfl (lv_at hl 1 rfl) ?_
          obtain ⟨c19, hf⟩ := q_ck hf
          refine va_iald hx hb hK hP 1 0 rfl rfl c19 dX8_set_89 ?_
          refine lv_iconst (v := 1) hx hb dX8_set_90 (by decide) ?_
          refine lv_icmp_ne (tgt := 99) hx hb dX8_set_91 (by decide) (fun c20 => ?_) (fun c20 => ?_)
          · have hf := q_f c20 hf
            refine lv_iload_n hx hb dX8_set_99 rfl (lv_at hl 3 rfl) ?_
            exact kj14 p3 (q_s1 hf) _ _ hP hD hS _ (lv_sub hl [0, 1, 2] rfl)
          · have hf := q_t c20 hf
            refine lv_iload_n hx hb dX8_set_94 rfl (lv_at hl 3 rfl) ?_
            refine lv_i2s (v := p3.toInt16.toInt32) hx hb dX8_set_95 rfl ?_
            refine lv_goto (tgt := 100) hx hb dX8_set_96 (by decide) ?_
            exact kj14 p3.toInt16.toInt32 (q_s1 hf) _ _ hP hD hS _ (lv_sub hl [0, 1, 2] rfl)
        · have hf := q_t c18 hf
          refine lv_iload_n hx hb dX8_set_79 rfl (lv_at hl 3 rfl) ?_
          refine lv_i2b (v := p3.toInt8.toInt32) hx hb dX8_set_80 rfl ?_
          refine lv_goto (tgt := 100) hx hb dX8_set_81 (by decide) ?_
          exact kj14 p3.toInt8.toInt32 (q_s1 hf) _ _ hP hD hS _ (lv_sub hl [0, 1, 2] rfl)
      · have hf := q_t c11 hf
        refine lv_aload_n hx hb dX8_set_54 rfl (lv_at hl 0 rfl) ?_
        refine lv_iconst (v := 2) hx hb dX8_set_55 (by decide) ?_
        obtain ⟨r21, sc22, h23, hf⟩ := q_b2o hf
        refine q_rwVl (As := [.int (2 : Int32)]) (rest := []) (ci := 8) (wr := []) (w2 := (wcM cI cZ o0 a0 sc22 t0)) ⟨hx, hb, hml, hown, hts⟩ (kX8_finding l dC dI cI cB cZ o0 a0 sn5 t0 (2 : Int32) H.size r21 sc22 h23) (cwV 1 hts gX8_set_X8_finding rfl rfl rfl hdX8_finding ⟨Nat.le_of_ble_eq_true rfl, Nat.le_of_ble_eq_true rfl⟩) hK hP hD hS hA [0, 1, 2, 3, 4, 5, 6, 7, 8, 9, 10] [] [0, 1, 2, 3, 4, 5, 6, 7, 8, 9, 10] rfl rfl (by decide) (by decide) (by decide) rfl (by decide) rfl rfl rfl hl.1 rfl (Nat.le_of_ble_eq_true rfl) dX8_set_56 ⟨Nat.zero_le _, Nat.zero_le _⟩ (fun H locs hP hD hS => ?_)
        obtain ⟨ee0, ee1⟩ := q_s2 hf
        subst ee1
        exact q_wretL hx hb hr hlk hAe hK hP hD hS ee0 dX8_set_59
    · have hf := q_f c7 hf
      refine lv_aload_n hx hb dX8_set_30 rfl (lv_at hl 0 rfl) ?_
      refine lv_iconst (v := 1) hx hb dX8_set_31 (by decide) ?_
      obtain ⟨r24, sc25, h26, hf⟩ := q_b2o hf
      refine q_rwVl (As := [.int (1 : Int32)]) (rest := []) (ci := 8) (wr := []) (w2 := (wcM cI cZ o0 a0 sc25 t0)) ⟨hx, hb, hml, hown, hts⟩ (kX8_finding l dC dI cI cB cZ o0 a0 sn5 t0 (1 : Int32) H.size r24 sc25 h26) (cwV 1 hts gX8_set_X8_finding rfl rfl rfl hdX8_finding ⟨Nat.le_of_ble_eq_true rfl, Nat.le_of_ble_eq_true rfl⟩) hK hP hD hS hA [0, 1, 2, 3, 4, 5, 6, 7, 8, 9, 10] [] [0, 1, 2, 3, 4, 5, 6, 7, 8, 9, 10] rfl rfl (by decide) (by decide) (by decide) rfl (by decide) rfl rfl rfl hl.1 rfl (Nat.le_of_ble_eq_true rfl) dX8_set_32 ⟨Nat.zero_le _, Nat.zero_le _⟩ (fun H locs hP hD hS => ?_)
      obtain ⟨ee0, ee1⟩ := q_s2 hf
      subst ee1
      exact q_wretL hx hb hr hlk hAe hK hP hD hS ee0 dX8_set_35
  · have hf := q_t c4 hf
    refine lv_ldc2 (v := -9000000000000000001) hx hb hown (hts _ qX8_set_2) dX8_set_12 ?_
    obtain ⟨ee0, ee1⟩ := q_s2 hf
    subst ee1
    exact q_wretL hx hb hr hlk hAe hK hP hD hS ee0 dX8_set_15
theorem hdX8_copy : yX8_copy.cls = RX8 ∧ yX8_copy.cls ≠ "java/lang/invoke/MethodHandle" ∧ yX8_copy.cls ≠ "java/lang/invoke/VarHandle" ∧ (parseMethodDescriptor yX8_copy.desc).map (fun d => d.parameters.length) = some 5 := by decide +kernel
theorem qX8_copy_1 : (Cond.fieldLink RX8 41 "DeadAskedModel" "thrown" "I") ∈ wsX8_copy := List.mem_of_getElem? (i := 1) (by decide +kernel)
theorem qX8_copy_2 : (Cond.constantLong RX8 62 (-9000000000000000001)) ∈ wsX8_copy := List.mem_of_getElem? (i := 2) (by decide +kernel)
theorem qX8_copy_3 : (Cond.fieldLink RX8 45 "DeadAskedModel" "status" "I") ∈ wsX8_copy := List.mem_of_getElem? (i := 3) (by decide +kernel)
theorem qX8_copy_4 : (Cond.fieldLink RX8 9 "DeadAskedModel" "lane" "[I") ∈ wsX8_copy := List.mem_of_getElem? (i := 4) (by decide +kernel)
theorem qX8_copy_5 : (Cond.fieldLink RX8 13 "DeadAskedModel" "many" "[I") ∈ wsX8_copy := List.mem_of_getElem? (i := 5) (by decide +kernel)
theorem qX8_copy_6 : (Cond.fieldLink RX8 16 "DeadAskedModel" "item" "[I") ∈ wsX8_copy := List.mem_of_getElem? (i := 6) (by decide +kernel)
theorem nX8_copy_8 : ∀ w ∈ u_ws RX8 TX8 27, w ∈ wsX8_copy := fun _ h => (List.mem_cons_of_mem _ (List.mem_append_right _ h))
set_option maxHeartbeats 4000000 in
set_option maxRecDepth 100000 in
theorem kX8_copy (o0 : Nat) (a0 : Nat → Nat) (s0 : St) (t0 : Lt) (p1 : Int32) (p2 : Int32) (p3 : Int32) (p4 : Int32) (p5 : Int32) (sz : Nat) (r : Int64) (z0 : St) (hf : fX8_copy s0 p1 p2 p3 p4 p5 = some (r, z0)) : Met l yX8_copy wsX8_copy ({ frames := 2, cells := 0, slots := 0, locals := 45 } : Room) (pcW (dC, dI) (q_ty cI cB cZ) [.ref o0, .int p1, .int p2, .int p3, .int p4, .int p5] (wcM cI cZ o0 a0 s0 t0) sz) (qlW (dC, dI) (q_ty cI cB cZ) (wcM cI cZ o0 a0 s0 t0) (wcM cI cZ o0 a0 z0 t0) sz r) 0 0 (va_A (wcM cI cZ o0 a0 s0 t0) sz) := by
  refine q_rwM (cc := cX8_copy) (maxL := 9) (ret := (some .long)) (by decide +kernel) rfl (Nat.le_of_ble_eq_true rfl) ?_
  intro p e s m below meth c hx hb hr hlk hml hown hts hK A H hAe hH hsz hP hD hA hS ls hl
  have hown : s.vm.findClass RX8 = some m.cls := hown
  have hl : lv_has ls 9 [(0, .ref o0), (1, .int p1), (2, .int p2), (3, .int p3), (4, .int p4), (5, .int p5)] := hl
  unfold fX8_copy at hf
  refine lv_aload_n hx hb dX8_copy_0 rfl (lv_at hl 0 rfl) ?_
  refine lv_iconst (v := 0) hx hb dX8_copy_1 (by decide) ?_
  obtain ⟨sn1, esn1, hf⟩ := q_lto hf
  refine va_put (D := (dC, dI)) (ci := 8) (v := .int (0 : Int32)) (ty := .int) (C := RX8) (T := TX8) (N := 27) hx hb hts nX8_copy_8 tyX8 tyX8_ok nmX8 hown hK hP hD hS 0 rfl rfl 0 (by decide) (hts _ qX8_copy_1) (fun _ h9 => h9) rfl (by decide +kernel) rfl rfl (Nat.le_of_ble_eq_true rfl) dX8_copy_2 (fun H locs hP hD hS => ?_)
  have hP : va_P (dC, dI) vwCl (wcM cI cZ o0 a0 sn1 t0) H := by rw [esn1]; exact hP
  have hD : va_D A (wcM cI cZ o0 a0 sn1 t0) := by rw [esn1]; exact hD
  refine lv_iload_n hx hb dX8_copy_5 rfl (lv_at hl 1 rfl) ?_
  obtain ⟨r2, h3, hf⟩ := q_b1o hf
  refine q_roSi (As := [.int p1]) (rest := []) ⟨hx, hb, hml, hown, hts⟩ (kX8_isRow l p1 r2 h3) (va_cwS 1 hts gX8_copy_X8_isRow rfl rfl rfl hdX8_isRow ⟨Nat.le_of_ble_eq_true rfl, Nat.le_of_ble_eq_true rfl⟩) rfl hl.1 rfl (Nat.le_of_ble_eq_true rfl) dX8_copy_6 ⟨Nat.zero_le _, Nat.zero_le _⟩ ?_
  refine lv_if_eq (tgt := 19) hx hb dX8_copy_9 (by decide) (fun c4 => ?_) (fun c4 => ?_)
  · have hf := q_t c4 hf
    refine lv_ldc2 (v := -9000000000000000001) hx hb hown (hts _ qX8_copy_2) dX8_copy_19 ?_
    obtain ⟨ee0, ee1⟩ := q_s2 hf
    subst ee1
    exact q_wretL hx hb hr hlk hAe hK hP hD hS ee0 dX8_copy_22
  · have hf := q_f c4 hf
    refine lv_iload_n hx hb dX8_copy_12 rfl (lv_at hl 3 rfl) ?_
    obtain ⟨r5, h6, hf⟩ := q_b1o hf
    refine q_roSi (As := [.int p3]) (rest := []) ⟨hx, hb, hml, hown, hts⟩ (kX8_isRow l p3 r5 h6) (va_cwS 1 hts gX8_copy_X8_isRow rfl rfl rfl hdX8_isRow ⟨Nat.le_of_ble_eq_true rfl, Nat.le_of_ble_eq_true rfl⟩) rfl hl.1 rfl (Nat.le_of_ble_eq_true rfl) dX8_copy_13 ⟨Nat.zero_le _, Nat.zero_le _⟩ ?_
    refine lv_if_ne (tgt := 23) hx hb dX8_copy_16 (by decide) (fun c7 => ?_) (fun c7 => ?_)
    · have hf := q_f c7 hf
      refine lv_aload_n hx hb dX8_copy_23 rfl (lv_at hl 0 rfl) ?_
      refine lv_iconst (v := 0) hx hb dX8_copy_24 (by decide) ?_
      obtain ⟨sn8, esn8, hf⟩ := q_lto hf
      refine va_put (D := (dC, dI)) (ci := 8) (v := .int (0 : Int32)) (ty := .int) (C := RX8) (T := TX8) (N := 27) hx hb hts nX8_copy_8 tyX8 tyX8_ok nmX8 hown hK hP hD hS 0 rfl rfl 1 (by decide) (hts _ qX8_copy_3) (fun _ h9 => h9) rfl (by decide +kernel) rfl rfl (Nat.le_of_ble_eq_true rfl) dX8_copy_25 (fun H locs hP hD hS => ?_)
      have hP : va_P (dC, dI) vwCl (wcM cI cZ o0 a0 sn8 t0) H := by rw [esn8]; exact hP
      have hD : va_D A (wcM cI cZ o0 a0 sn8 t0) := by rw [esn8]; exact hD
      refine lv_aload_n hx hb dX8_copy_28 rfl (lv_at hl 0 rfl) ?_
      refine va_get (D := (dC, dI)) (ci := 8) (v := .ref (a0 2)) (C := RX8) (T := TX8) (N := 27) hx hb hts nX8_copy_8 hown hK hP 0 rfl rfl 2 (by decide) (hts _ qX8_copy_4) (fun _ h9 => h9) rfl dX8_copy_29 ?_
      refine lv_iload_n hx hb dX8_copy_32 rfl (lv_at hl 1 rfl) ?_
      obtain ⟨c9, hf⟩ := q_ck hf
      refine va_iald hx hb hK hP 1 0 rfl rfl c9 dX8_copy_33 ?_
      refine lv_if_lt (tgt := 46) hx hb dX8_copy_34 (by decide) (fun c10 => ?_) (fun c10 => ?_)
      · have hf := q_t c10 hf
        refine lv_aload_n hx hb dX8_copy_46 rfl (lv_at hl 0 rfl) ?_
        refine lv_iconst (v := 1) hx hb dX8_copy_47 (by decide) ?_
        obtain ⟨r11, sc12, h13, hf⟩ := q_b2o hf
        refine q_rwVl (As := [.int (1 : Int32)]) (rest := []) (ci := 8) (wr := []) (w2 := (wcM cI cZ o0 a0 sc12 t0)) ⟨hx, hb, hml, hown, hts⟩ (kX8_finding l dC dI cI cB cZ o0 a0 sn8 t0 (1 : Int32) H.size r11 sc12 h13) (cwV 1 hts gX8_copy_X8_finding rfl rfl rfl hdX8_finding ⟨Nat.le_of_ble_eq_true rfl, Nat.le_of_ble_eq_true rfl⟩) hK hP hD hS hA [0, 1, 2, 3, 4, 5, 6, 7, 8, 9, 10] [] [0, 1, 2, 3, 4, 5, 6, 7, 8, 9, 10] rfl rfl (by decide) (by decide) (by decide) rfl (by decide) rfl rfl rfl hl.1 rfl (Nat.le_of_ble_eq_true rfl) dX8_copy_48 ⟨Nat.zero_le _, Nat.zero_le _⟩ (fun H locs hP hD hS => ?_)
        obtain ⟨ee0, ee1⟩ := q_s2 hf
        subst ee1
        exact q_wretL hx hb hr hlk hAe hK hP hD hS ee0 dX8_copy_51
      · have hf := q_f c10 hf
        refine lv_aload_n hx hb dX8_copy_37 rfl (lv_at hl 0 rfl) ?_
        refine va_get (D := (dC, dI)) (ci := 8) (v := .ref (a0 2)) (C := RX8) (T := TX8) (N := 27) hx hb hts nX8_copy_8 hown hK hP 0 rfl rfl 2 (by decide) (hts _ qX8_copy_4) (fun _ h9 => h9) rfl dX8_copy_38 ?_
        refine lv_iload_n hx hb dX8_copy_41 rfl (lv_at hl 3 rfl) ?_
        obtain ⟨c14, hf⟩ := q_ck hf
        refine va_iald hx hb hK hP 1 0 rfl rfl c14 dX8_copy_42 ?_
        refine lv_if_ge (tgt := 52) hx hb dX8_copy_43 (by decide) (fun c15 => ?_) (fun c15 => ?_)
        · have hf := q_t c15 hf
          refine lv_aload_n hx hb dX8_copy_52 rfl (lv_at hl 0 rfl) ?_
          refine va_get (D := (dC, dI)) (ci := 8) (v := .ref (a0 2)) (C := RX8) (T := TX8) (N := 27) hx hb hts nX8_copy_8 hown hK hP 0 rfl rfl 2 (by decide) (hts _ qX8_copy_4) (fun _ h9 => h9) rfl dX8_copy_53 ?_
          refine lv_iload_n hx hb dX8_copy_56 rfl (lv_at hl 1 rfl) ?_
          obtain ⟨c16, hf⟩ := q_ck hf
          refine va_iald hx hb hK hP 1 0 rfl rfl c16 dX8_copy_57 ?_
          refine lv_aload_n hx hb dX8_copy_58 rfl (lv_at hl 0 rfl) ?_
          refine va_get (D := (dC, dI)) (ci := 8) (v := .ref (a0 2)) (C := RX8) (T := TX8) (N := 27) hx hb hts nX8_copy_8 hown hK hP 0 rfl rfl 2 (by decide) (hts _ qX8_copy_4) (fun _ h9 => h9) rfl dX8_copy_59 ?_
          refine lv_iload_n hx hb dX8_copy_62 rfl (lv_at hl 3 rfl) ?_
          obtain ⟨c17, hf⟩ := q_ck hf
          refine va_iald hx hb hK hP 1 0 rfl rfl c17 dX8_copy_63 ?_
          refine lv_icmp_eq (tgt := 73) hx hb dX8_copy_64 (by decide) (fun c18 => ?_) (fun c18 => ?_)
          · have hf := q_t c18 hf
            refine lv_iload_n hx hb dX8_copy_73 rfl (lv_at hl 2 rfl) ?_
            refine lv_if_lt (tgt := 122) hx hb dX8_copy_74 (by decide) (fun c19 => ?_) (fun c19 => ?_)
            · have hf := q_t c19 hf
              refine lv_aload_n hx hb dX8_copy_122 rfl (lv_at hl 0 rfl) ?_
              refine lv_iconst (v := 2) hx hb dX8_copy_123 (by decide) ?_
              obtain ⟨r20, sc21, h22, hf⟩ := q_b2o hf
              refine q_rwVl (As := [.int (2 : Int32)]) (rest := []) (ci := 8) (wr := []) (w2 := (wcM cI cZ o0 a0 sc21 t0)) ⟨hx, hb, hml, hown, hts⟩ (kX8_finding l dC dI cI cB cZ o0 a0 sn8 t0 (2 : Int32) H.size r20 sc21 h22) (cwV 1 hts gX8_copy_X8_finding rfl rfl rfl hdX8_finding ⟨Nat.le_of_ble_eq_true rfl, Nat.le_of_ble_eq_true rfl⟩) hK hP hD hS hA [0, 1, 2, 3, 4, 5, 6, 7, 8, 9, 10] [] [0, 1, 2, 3, 4, 5, 6, 7, 8, 9, 10] rfl rfl (by decide) (by decide) (by decide) rfl (by decide) rfl rfl rfl hl.1 rfl (Nat.le_of_ble_eq_true rfl) dX8_copy_124 ⟨Nat.zero_le _, Nat.zero_le _⟩ (fun H locs hP hD hS => ?_)
              obtain ⟨ee0, ee1⟩ := q_s2 hf
              subst ee1
              exact q_wretL hx hb hr hlk hAe hK hP hD hS ee0 dX8_copy_127
            · have hf := q_f c19 hf
              refine lv_iload hx hb dX8_copy_77 (lv_at hl 4 rfl) ?_
              refine lv_if_lt (tgt := 122) hx hb dX8_copy_79 (by decide) (fun c23 => ?_) (fun c23 => ?_)
              · have hf := q_t c23 hf
                refine lv_aload_n hx hb dX8_copy_122 rfl (lv_at hl 0 rfl) ?_
                refine lv_iconst (v := 2) hx hb dX8_copy_123 (by decide) ?_
                obtain ⟨r24, sc25, h26, hf⟩ := q_b2o hf
                refine q_rwVl (As := [.int (2 : Int32)]) (rest := []) (ci := 8) (wr := []) (w2 := (wcM cI cZ o0 a0 sc25 t0)) ⟨hx, hb, hml, hown, hts⟩ (kX8_finding l dC dI cI cB cZ o0 a0 sn8 t0 (2 : Int32) H.size r24 sc25 h26) (cwV 1 hts gX8_copy_X8_finding rfl rfl rfl hdX8_finding ⟨Nat.le_of_ble_eq_true rfl, Nat.le_of_ble_eq_true rfl⟩) hK hP hD hS hA [0, 1, 2, 3, 4, 5, 6, 7, 8, 9, 10] [] [0, 1, 2, 3, 4, 5, 6, 7, 8, 9, 10] rfl rfl (by decide) (by decide) (by decide) rfl (by decide) rfl rfl rfl hl.1 rfl (Nat.le_of_ble_eq_true rfl) dX8_copy_124 ⟨Nat.zero_le _, Nat.zero_le _⟩ (fun H locs hP hD hS => ?_)
                obtain ⟨ee0, ee1⟩ := q_s2 hf
                subst ee1
                exact q_wretL hx hb hr hlk hAe hK hP hD hS ee0 dX8_copy_127
              · have hf := q_f c23 hf
                refine lv_iload hx hb dX8_copy_82 (lv_at hl 5 rfl) ?_
                refine lv_if_lt (tgt := 122) hx hb dX8_copy_84 (by decide) (fun c27 => ?_) (fun c27 => ?_)
                · have hf := q_t c27 hf
                  refine lv_aload_n hx hb dX8_copy_122 rfl (lv_at hl 0 rfl) ?_
                  refine lv_iconst (v := 2) hx hb dX8_copy_123 (by decide) ?_
                  obtain ⟨r28, sc29, h30, hf⟩ := q_b2o hf
                  refine q_rwVl (As := [.int (2 : Int32)]) (rest := []) (ci := 8) (wr := []) (w2 := (wcM cI cZ o0 a0 sc29 t0)) ⟨hx, hb, hml, hown, hts⟩ (kX8_finding l dC dI cI cB cZ o0 a0 sn8 t0 (2 : Int32) H.size r28 sc29 h30) (cwV 1 hts gX8_copy_X8_finding rfl rfl rfl hdX8_finding ⟨Nat.le_of_ble_eq_true rfl, Nat.le_of_ble_eq_true rfl⟩) hK hP hD hS hA [0, 1, 2, 3, 4, 5, 6, 7, 8, 9, 10] [] [0, 1, 2, 3, 4, 5, 6, 7, 8, 9, 10] rfl rfl (by decide) (by decide) (by decide) rfl (by decide) rfl rfl rfl hl.1 rfl (Nat.le_of_ble_eq_true rfl) dX8_copy_124 ⟨Nat.zero_le _, Nat.zero_le _⟩ (fun H locs hP hD hS => ?_)
                  obtain ⟨ee0, ee1⟩ := q_s2 hf
                  subst ee1
                  exact q_wretL hx hb hr hlk hAe hK hP hD hS ee0 dX8_copy_127
                · have hf := q_f c27 hf
                  refine lv_iload_n hx hb dX8_copy_87 rfl (lv_at hl 2 rfl) ?_
                  refine lv_i2l (v := p2.toInt64) hx hb dX8_copy_88 rfl ?_
                  refine lv_iload hx hb dX8_copy_89 (lv_at hl 5 rfl) ?_
                  refine lv_i2l (v := p5.toInt64) hx hb dX8_copy_91 rfl ?_
                  refine lv_ladd hx hb dX8_copy_92 ?_
                  refine lv_aload_n hx hb dX8_copy_93 rfl (lv_at hl 0 rfl) ?_
                  refine va_get (D := (dC, dI)) (ci := 8) (v := .ref (a0 3)) (C := RX8) (T := TX8) (N := 27) hx hb hts nX8_copy_8 hown hK hP 0 rfl rfl 3 (by decide) (hts _ qX8_copy_5) (fun _ h9 => h9) rfl dX8_copy_94 ?_
                  refine lv_iload_n hx hb dX8_copy_97 rfl (lv_at hl 1 rfl) ?_
                  obtain ⟨c31, hf⟩ := q_ck hf
                  refine va_iald hx hb hK hP 2 0 rfl rfl c31 dX8_copy_98 ?_
                  refine lv_i2l (v := (sn8 3 p1.toNatClampNeg).toInt64) hx hb dX8_copy_99 rfl ?_
                  refine W.lcmp hx hb dX8_copy_100 ?_
                  refine lv_if_gt (tgt := 122) hx hb dX8_copy_101 (by decide) (fun c32 => ?_) (fun c32 => ?_)
                  · have hf := q_t c32 hf
                    refine lv_aload_n hx hb dX8_copy_122 rfl (lv_at hl 0 rfl) ?_
                    refine lv_iconst (v := 2) hx hb dX8_copy_123 (by decide) ?_
                    obtain ⟨r33, sc34, h35, hf⟩ := q_b2o hf
                    refine q_rwVl (As := [.int (2 : Int32)]) (rest := []) (ci := 8) (wr := []) (w2 := (wcM cI cZ o0 a0 sc34 t0)) ⟨hx, hb, hml, hown, hts⟩ (kX8_finding l dC dI cI cB cZ o0 a0 sn8 t0 (2 : Int32) H.size r33 sc34 h35) (cwV 1 hts gX8_copy_X8_finding rfl rfl rfl hdX8_finding ⟨Nat.le_of_ble_eq_true rfl, Nat.le_of_ble_eq_true rfl⟩) hK hP hD hS hA [0, 1, 2, 3, 4, 5, 6, 7, 8, 9, 10] [] [0, 1, 2, 3, 4, 5, 6, 7, 8, 9, 10] rfl rfl (by decide) (by decide) (by decide) rfl (by decide) rfl rfl rfl hl.1 rfl (Nat.le_of_ble_eq_true rfl) dX8_copy_124 ⟨Nat.zero_le _, Nat.zero_le _⟩ (fun H locs hP hD hS => ?_)
                    obtain ⟨ee0, ee1⟩ := q_s2 hf
                    subst ee1
                    exact q_wretL hx hb hr hlk hAe hK hP hD hS ee0 dX8_copy_127
                  · have hf := q_f c32 hf
                    refine lv_iload hx hb dX8_copy_104 (lv_at hl 4 rfl) ?_
                    refine lv_i2l (v := p4.toInt64) hx hb dX8_copy_106 rfl ?_
                    refine lv_iload hx hb dX8_copy_107 (lv_at hl 5 rfl) ?_
                    refine lv_i2l (v := p5.toInt64) hx hb dX8_copy_109 rfl ?_
                    refine lv_ladd hx hb dX8_copy_110 ?_
                    refine lv_aload_n hx hb dX8_copy_111 rfl (lv_at hl 0 rfl) ?_
                    refine va_get (D := (dC, dI)) (ci := 8) (v := .ref (a0 3)) (C := RX8) (T := TX8) (N := 27) hx hb hts nX8_copy_8 hown hK hP 0 rfl rfl 3 (by decide) (hts _ qX8_copy_5) (fun _ h9 => h9) rfl dX8_copy_112 ?_
                    refine lv_iload_n hx hb dX8_copy_115 rfl (lv_at hl 3 rfl) ?_
                    obtain ⟨c36, hf⟩ := q_ck hf
                    refine va_iald hx hb hK hP 2 0 rfl rfl c36 dX8_copy_116 ?_
                    refine lv_i2l (v := (sn8 3 p3.toNatClampNeg).toInt64) hx hb dX8_copy_117 rfl ?_
                    refine W.lcmp hx hb dX8_copy_118 ?_
                    refine lv_if_le (tgt := 128) hx hb dX8_copy_119 (by decide) (fun c37 => ?_) (fun c37 => ?_)
                    · have hf := q_t c37 hf
                      refine lv_iload_n hx hb dX8_copy_128 rfl (lv_at hl 2 rfl) ?_
                      refine lv_iload hx hb dX8_copy_129 (lv_at hl 4 rfl) ?_
                      obtain ⟨ov38, hqj39, hf⟩ := q_b1o hf
                      have kj39 : ∀ v38 : Int32, v38 = ov38 → ∀ (H : Heap) (locs : List Loc), va_P (dC, dI) vwCl (wcM cI cZ o0 a0 sn8 t0) H → va_D A (wcM cI cZ o0 a0 sn8 t0) → va_S A s.heap H locs → ∀ ls : Array Slot, lv_has ls 9 [(0, .ref o0), (1, .int p1), (2, .int p2), (3, .int p3), (4, .int p4), (5, .int p5)] → W p l e ({ frames := 2, cells := 0, slots := 0, locals := 45 } : Room) s m [.ref o0, .int p1, .int p2, .int p3, .int p4, .int p5].toArray below meth c H locs 0 0 (MQ below (qlW (dC, dI) (q_ty cI cB cZ) (wcM cI cZ o0 a0 s0 t0) (wcM cI cZ o0 a0 z0 t0) sz r) [.ref o0, .int p1, .int p2, .int p3, .int p4, .int p5].toArray s 0 0 (va_A (wcM cI cZ o0 a0 s0 t0) sz)) (F0 m 139 ls [.int v38]) := by
                        intro v38 ev38 H locs hP hD hS ls hl
                        subst ev38
                        refine lv_istore (lv' := [(6, .int v38), (0, .ref o0), (1, .int p1), (2, .int p2), (3, .int p3), (4, .int p4), (5, .int p5)]) hx hb dX8_copy_139 hl (by decide) rfl (fun ls hl => ?_)
                        refine lv_iconst (v := 0) hx hb dX8_copy_141 (by decide) ?_
                        refine lv_istore (lv' := [(7, .int (0 : Int32)), (6, .int v38), (0, .ref o0), (1, .int p1), (2, .int p2), (3, .int p3), (4, .int p4), (5, .int p5)]) hx hb dX8_copy_142 hl (by decide) rfl (fun ls hl => ?_)
                        obtain ⟨oz43, hqn42, hf⟩ := q_b1o hf
                        have kxn42 : ∀ z43 : St, z43 = oz43 → ∀ (H : Heap) (locs : List Loc), va_P (dC, dI) vwCl (wcM cI cZ o0 a0 z43 t0) H → va_D A (wcM cI cZ o0 a0 z43 t0) → va_S A s.heap H locs → ∀ ls : Array Slot, lv_has ls 9 [(5, .int p5)] → W p l e ({ frames := 2, cells := 0, slots := 0, locals := 45 } : Room) s m [.ref o0, .int p1, .int p2, .int p3, .int p4, .int p5].toArray below meth c H locs 0 0 (MQ below (qlW (dC, dI) (q_ty cI cB cZ) (wcM cI cZ o0 a0 s0 t0) (wcM cI cZ o0 a0 z0 t0) sz r) [.ref o0, .int p1, .int p2, .int p3, .int p4, .int p5].toArray s 0 0 (va_A (wcM cI cZ o0 a0 s0 t0) sz)) (F0 m 205 ls []) := by
                          intro z43 ez43 H locs hP hD hS ls hl
                          subst ez43
                          refine lv_iload hx hb dX8_copy_205 (lv_at hl 0 rfl) ?_
                          refine lv_i2l (v := p5.toInt64) hx hb dX8_copy_207 rfl ?_
                          obtain ⟨ee0, ee1⟩ := q_s2 hf
                          subst ee1
                          exact q_wretL hx hb hr hlk hAe hK hP hD hS ee0 dX8_copy_208
                        have aihn42 : ∀ n42 : Nat, ∀ l7_40 : Int32, ∀ sl41 : St, fX8_copy_L144 p1 p2 p3 p4 p5 v38 n42 l7_40 sl41 = some oz43 → ∀ (H : Heap) (locs : List Loc), va_P (dC, dI) vwCl (wcM cI cZ o0 a0 sl41 t0) H → va_D A (wcM cI cZ o0 a0 sl41 t0) → va_S A s.heap H locs → ∀ ls : Array Slot, lv_has ls 9 [(7, .int l7_40), (6, .int v38), (0, .ref o0), (1, .int p1), (2, .int p2), (3, .int p3), (4, .int p4), (5, .int p5)] → W p l e ({ frames := 2, cells := 0, slots := 0, locals := 45 } : Room) s m [.ref o0, .int p1, .int p2, .int p3, .int p4, .int p5].toArray below meth c H locs 0 0 (MQ below (qlW (dC, dI) (q_ty cI cB cZ) (wcM cI cZ o0 a0 s0 t0) (wcM cI cZ o0 a0 z0 t0) sz r) [.ref o0, .int p1, .int p2, .int p3, .int p4, .int p5].toArray s 0 0 (va_A (wcM cI cZ o0 a0 s0 t0) sz)) (F0 m 144 ls []) := by
                          intro n42
                          induction n42 with
                          | zero =>
                            intro l7_40 sl41 hf
                            exact q_no hf
                          | succ n42 ihn42 =>
                            intro l7_40 sl41 hf H locs hP hD hS ls hl
                            rw [fX8_copy_L144] at hf
                            refine lv_iload hx hb dX8_copy_144 (lv_at hl 0 rfl) ?_
                            refine lv_iload hx hb dX8_copy_146 (lv_at hl 7 rfl) ?_
                            refine lv_icmp_ge (tgt := 205) hx hb dX8_copy_148 (by decide) (fun c44 => ?_) (fun c44 => ?_)
                            · have hf := q_t c44 hf
                              exact kxn42 sl41 (q_s1 hf) _ _ hP hD hS _ (lv_sub hl [7] rfl)
                            · have hf := q_f c44 hf
                              refine lv_iload hx hb dX8_copy_151 (lv_at hl 1 rfl) ?_
                              obtain ⟨ov45, hqj46, hf⟩ := q_b1o hf
                              have kj46 : ∀ v45 : Int32, v45 = ov45 → ∀ (H : Heap) (locs : List Loc), va_P (dC, dI) vwCl (wcM cI cZ o0 a0 sl41 t0) H → va_D A (wcM cI cZ o0 a0 sl41 t0) → va_S A s.heap H locs → ∀ ls : Array Slot, lv_has ls 9 [(7, .int l7_40), (6, .int v38), (0, .ref o0), (1, .int p1), (2, .int p2), (3, .int p3), (4, .int p4), (5, .int p5)] → W p l e ({ frames := 2, cells := 0, slots := 0, locals := 45 } : Room) s m [.ref o0, .int p1, .int p2, .int p3, .int p4, .int p5].toArray below meth c H locs 0 0 (MQ below (qlW (dC, dI) (q_ty cI cB cZ) (wcM cI cZ o0 a0 s0 t0) (wcM cI cZ o0 a0 z0 t0) sz r) [.ref o0, .int p1, .int p2, .int p3, .int p4, .int p5].toArray s 0 0 (va_A (wcM cI cZ o0 a0 s0 t0) sz)) (F0 m 168 ls [.int v45]) := by
                                intro v45 ev45 H locs hP hD hS ls hl
                                subst ev45
                                refine lv_istore (lv' := [(8, .int v45), (7, .int l7_40), (6, .int v38), (0, .ref o0), (1, .int p1), (2, .int p2), (3, .int p3), (4, .int p4), (5, .int p5)]) hx hb dX8_copy_168 hl (by decide) rfl (fun ls hl => ?_)
                                refine lv_aload_n hx hb dX8_copy_170 rfl (lv_at hl 3 rfl) ?_
                                refine va_get (D := (dC, dI)) (ci := 8) (v := .ref (a0 4)) (C := RX8) (T := TX8) (N := 27) hx hb hts nX8_copy_8 hown hK hP 0 rfl rfl 4 (by decide) (hts _ qX8_copy_6) (fun _ h9 => h9) rfl dX8_copy_171 ?_
                                refine lv_bipush (v := 40) hx hb dX8_copy_174 (by decide) ?_
                                refine lv_iload_n hx hb dX8_copy_176 rfl (lv_at hl 6 rfl) ?_
                                refine lv_imul hx hb dX8_copy_177 ?_
                                refine lv_iload hx hb dX8_copy_178 (lv_at hl 7 rfl) ?_
                                refine lv_iadd hx hb dX8_copy_180 ?_
                                refine lv_iload hx hb dX8_copy_181 (lv_at hl 0 rfl) ?_
                                refine lv_iadd hx hb dX8_copy_183 ?_
                                refine lv_aload_n hx hb dX8_copy_184 rfl (lv_at hl 3 rfl) ?_
                                refine va_get (D := (dC, dI)) (ci := 8) (v := .ref (a0 4)) (C := RX8) (T := TX8) (N := 27) hx hb hts nX8_copy_8 hown hK hP 0 rfl rfl 4 (by decide) (hts _ qX8_copy_6) (fun _ h9 => h9) rfl dX8_copy_185 ?_
                                refine lv_bipush (v := 40) hx hb dX8_copy_188 (by decide) ?_
                                refine lv_iload_n hx hb dX8_copy_190 rfl (lv_at hl 4 rfl) ?_
                                refine lv_imul hx hb dX8_copy_191 ?_
                                refine lv_iload_n hx hb dX8_copy_192 rfl (lv_at hl 5 rfl) ?_
                                refine lv_iadd hx hb dX8_copy_193 ?_
                                refine lv_iload hx hb dX8_copy_194 (lv_at hl 0 rfl) ?_
                                refine lv_iadd hx hb dX8_copy_196 ?_
                                obtain ⟨c47, hf⟩ := q_ck hf
                                refine va_iald hx hb hK hP 3 0 rfl rfl c47 dX8_copy_197 ?_
                                obtain ⟨c48, hf⟩ := q_ck hf
                                obtain ⟨sn49, esn49, hf⟩ := q_lto hf
                                refine va_iast hx hb hK hP hD hS 3 0 rfl rfl c48 dX8_copy_198 (fun H locs hP hD hS => ?_)
                                have hP : va_P (dC, dI) vwCl (wcM cI cZ o0 a0 sn49 t0) H := by rw [esn49]; exact hP
                                have hD : va_D A (wcM cI cZ o0 a0 sn49 t0) := by rw [esn49]; exact hD
                                refine lv_iinc (v := l7_40 + (1 : Int32)) (lv' := [(7, .int (l7_40 + (1 : Int32))), (8, .int v45), (6, .int v38), (0, .ref o0), (1, .int p1), (2, .int p2), (3, .int p3), (4, .int p4), (5, .int p5)]) hx hb dX8_copy_199 hl (k := 1) rfl rfl (by decide) rfl (fun ls hl => ?_)
                                refine lv_goto (tgt := 144) hx hb dX8_copy_202 (by decide) ?_
                                exact ihn42 (l7_40 + (1 : Int32)) sn49 hf _ _ hP hD hS _ (lv_sub hl [0, 2, 3, 4, 5, 6, 7, 8] rfl)
                              have hf := hqj46
                              refine lv_if_eq (tgt := 161) hx hb dX8_copy_153 (by decide) (fun c50 => ?_) (fun c50 => ?_)
                              · have hf := q_t c50 hf
                                refine lv_iload hx hb dX8_copy_161 (lv_at hl 7 rfl) ?_
                                refine lv_iconst (v := 1) hx hb dX8_copy_163 (by decide) ?_
                                refine lv_isub hx hb dX8_copy_164 ?_
                                refine lv_iload hx hb dX8_copy_165 (lv_at hl 0 rfl) ?_
                                refine lv_isub hx hb dX8_copy_167 ?_
                                exact kj46 ((p5 - (1 : Int32)) - l7_40) (q_s1 hf) _ _ hP hD hS _ hl
                              · have hf := q_f c50 hf
                                refine lv_iload hx hb dX8_copy_156 (lv_at hl 0 rfl) ?_
                                refine lv_goto (tgt := 168) hx hb dX8_copy_158 (by decide) ?_
                                exact kj46 l7_40 (q_s1 hf) _ _ hP hD hS _ hl
                        exact aihn42 5000 (0 : Int32) sn8 hqn42 _ _ hP hD hS _ hl
                      have hf := hqj39
                      refine lv_icmp_lt (tgt := 138) hx hb dX8_copy_131 (by decide) (fun c51 => ?_) (fun c51 => ?_)
                      · have hf := q_t c51 hf
                        refine lv_iconst (v := 0) hx hb dX8_copy_138 (by decide) ?_
                        exact kj39 (0 : Int32) (q_s1 hf) _ _ hP hD hS _ hl
                      · have hf := q_f c51 hf
                        refine lv_iconst (v := 1) hx hb dX8_copy_134 (by decide) ?_
                        refine lv_goto (tgt := 139) hx hb dX8_copy_135 (by decide) ?_
                        exact kj39 (1 : Int32) (q_s1 hf) _ _ hP hD hS _ hl
                    · have hf := q_f c37 hf
                      refine lv_aload_n hx hb dX8_copy_122 rfl (lv_at hl 0 rfl) ?_
                      refine lv_iconst (v := 2) hx hb dX8_copy_123 (by decide) ?_
                      obtain ⟨r52, sc53, h54, hf⟩ := q_b2o hf
                      refine q_rwVl (As := [.int (2 : Int32)]) (rest := []) (ci := 8) (wr := []) (w2 := (wcM cI cZ o0 a0 sc53 t0)) ⟨hx, hb, hml, hown, hts⟩ (kX8_finding l dC dI cI cB cZ o0 a0 sn8 t0 (2 : Int32) H.size r52 sc53 h54) (cwV 1 hts gX8_copy_X8_finding rfl rfl rfl hdX8_finding ⟨Nat.le_of_ble_eq_true rfl, Nat.le_of_ble_eq_true rfl⟩) hK hP hD hS hA [0, 1, 2, 3, 4, 5, 6, 7, 8, 9, 10] [] [0, 1, 2, 3, 4, 5, 6, 7, 8, 9, 10] rfl rfl (by decide) (by decide) (by decide) rfl (by decide) rfl rfl rfl hl.1 rfl (Nat.le_of_ble_eq_true rfl) dX8_copy_124 ⟨Nat.zero_le _, Nat.zero_le _⟩ (fun H locs hP hD hS => ?_)
                      obtain ⟨ee0, ee1⟩ := q_s2 hf
                      subst ee1
                      exact q_wretL hx hb hr hlk hAe hK hP hD hS ee0 dX8_copy_127
          · have hf := q_f c18 hf
            refine lv_aload_n hx hb dX8_copy_67 rfl (lv_at hl 0 rfl) ?_
            refine lv_iconst (v := 5) hx hb dX8_copy_68 (by decide) ?_
            obtain ⟨r55, sc56, h57, hf⟩ := q_b2o hf
            refine q_rwVl (As := [.int (5 : Int32)]) (rest := []) (ci := 8) (wr := []) (w2 := (wcM cI cZ o0 a0 sc56 t0)) ⟨hx, hb, hml, hown, hts⟩ (kX8_finding l dC dI cI cB cZ o0 a0 sn8 t0 (5 : Int32) H.size r55 sc56 h57) (cwV 1 hts gX8_copy_X8_finding rfl rfl rfl hdX8_finding ⟨Nat.le_of_ble_eq_true rfl, Nat.le_of_ble_eq_true rfl⟩) hK hP hD hS hA [0, 1, 2, 3, 4, 5, 6, 7, 8, 9, 10] [] [0, 1, 2, 3, 4, 5, 6, 7, 8, 9, 10] rfl rfl (by decide) (by decide) (by decide) rfl (by decide) rfl rfl rfl hl.1 rfl (Nat.le_of_ble_eq_true rfl) dX8_copy_69 ⟨Nat.zero_le _, Nat.zero_le _⟩ (fun H locs hP hD hS => ?_)
            obtain ⟨ee0, ee1⟩ := q_s2 hf
            subst ee1
            exact q_wretL hx hb hr hlk hAe hK hP hD hS ee0 dX8_copy_72
        · have hf := q_f c15 hf
          refine lv_aload_n hx hb dX8_copy_46 rfl (lv_at hl 0 rfl) ?_
          refine lv_iconst (v := 1) hx hb dX8_copy_47 (by decide) ?_
          obtain ⟨r58, sc59, h60, hf⟩ := q_b2o hf
          refine q_rwVl (As := [.int (1 : Int32)]) (rest := []) (ci := 8) (wr := []) (w2 := (wcM cI cZ o0 a0 sc59 t0)) ⟨hx, hb, hml, hown, hts⟩ (kX8_finding l dC dI cI cB cZ o0 a0 sn8 t0 (1 : Int32) H.size r58 sc59 h60) (cwV 1 hts gX8_copy_X8_finding rfl rfl rfl hdX8_finding ⟨Nat.le_of_ble_eq_true rfl, Nat.le_of_ble_eq_true rfl⟩) hK hP hD hS hA [0, 1, 2, 3, 4, 5, 6, 7, 8, 9, 10] [] [0, 1, 2, 3, 4, 5, 6, 7, 8, 9, 10] rfl rfl (by decide) (by decide) (by decide) rfl (by decide) rfl rfl rfl hl.1 rfl (Nat.le_of_ble_eq_true rfl) dX8_copy_48 ⟨Nat.zero_le _, Nat.zero_le _⟩ (fun H locs hP hD hS => ?_)
          obtain ⟨ee0, ee1⟩ := q_s2 hf
          subst ee1
          exact q_wretL hx hb hr hlk hAe hK hP hD hS ee0 dX8_copy_51
    · have hf := q_t c7 hf
      refine lv_ldc2 (v := -9000000000000000001) hx hb hown (hts _ qX8_copy_2) dX8_copy_19 ?_
      obtain ⟨ee0, ee1⟩ := q_s2 hf
      subst ee1
      exact q_wretL hx hb hr hlk hAe hK hP hD hS ee0 dX8_copy_22
theorem hdX8_drop : yX8_drop.cls = RX8 ∧ yX8_drop.cls ≠ "java/lang/invoke/MethodHandle" ∧ yX8_drop.cls ≠ "java/lang/invoke/VarHandle" ∧ (parseMethodDescriptor yX8_drop.desc).map (fun d => d.parameters.length) = some 1 := by decide +kernel
theorem qX8_drop_1 : (Cond.fieldLink RX8 41 "DeadAskedModel" "thrown" "I") ∈ wsX8_drop := List.mem_of_getElem? (i := 1) (by decide +kernel)
theorem qX8_drop_2 : (Cond.constantLong RX8 62 (-9000000000000000001)) ∈ wsX8_drop := List.mem_of_getElem? (i := 2) (by decide +kernel)
theorem qX8_drop_3 : (Cond.fieldLink RX8 45 "DeadAskedModel" "status" "I") ∈ wsX8_drop := List.mem_of_getElem? (i := 3) (by decide +kernel)
theorem qX8_drop_4 : (Cond.fieldLink RX8 9 "DeadAskedModel" "lane" "[I") ∈ wsX8_drop := List.mem_of_getElem? (i := 4) (by decide +kernel)
theorem qX8_drop_5 : (Cond.fieldLink RX8 13 "DeadAskedModel" "many" "[I") ∈ wsX8_drop := List.mem_of_getElem? (i := 5) (by decide +kernel)
theorem nX8_drop_8 : ∀ w ∈ u_ws RX8 TX8 27, w ∈ wsX8_drop := fun _ h => (List.mem_cons_of_mem _ (List.mem_append_right _ h))
set_option maxHeartbeats 4000000 in
set_option maxRecDepth 100000 in
theorem kX8_drop (o0 : Nat) (a0 : Nat → Nat) (s0 : St) (t0 : Lt) (p1 : Int32) (sz : Nat) (r : Int64) (z0 : St) (hf : fX8_drop s0 p1 = some (r, z0)) : Met l yX8_drop wsX8_drop ({ frames := 2, cells := 0, slots := 0, locals := 45 } : Room) (pcW (dC, dI) (q_ty cI cB cZ) [.ref o0, .int p1] (wcM cI cZ o0 a0 s0 t0) sz) (qlW (dC, dI) (q_ty cI cB cZ) (wcM cI cZ o0 a0 s0 t0) (wcM cI cZ o0 a0 z0 t0) sz r) 0 0 (va_A (wcM cI cZ o0 a0 s0 t0) sz) := by
  refine q_rwM (cc := cX8_drop) (maxL := 2) (ret := (some .long)) (by decide +kernel) rfl (Nat.le_of_ble_eq_true rfl) ?_
  intro p e s m below meth c hx hb hr hlk hml hown hts hK A H hAe hH hsz hP hD hA hS ls hl
  have hown : s.vm.findClass RX8 = some m.cls := hown
  have hl : lv_has ls 2 [(0, .ref o0), (1, .int p1)] := hl
  unfold fX8_drop at hf
  refine lv_aload_n hx hb dX8_drop_0 rfl (lv_at hl 0 rfl) ?_
  refine lv_iconst (v := 0) hx hb dX8_drop_1 (by decide) ?_
  obtain ⟨sn1, esn1, hf⟩ := q_lto hf
  refine va_put (D := (dC, dI)) (ci := 8) (v := .int (0 : Int32)) (ty := .int) (C := RX8) (T := TX8) (N := 27) hx hb hts nX8_drop_8 tyX8 tyX8_ok nmX8 hown hK hP hD hS 0 rfl rfl 0 (by decide) (hts _ qX8_drop_1) (fun _ h9 => h9) rfl (by decide +kernel) rfl rfl (Nat.le_of_ble_eq_true rfl) dX8_drop_2 (fun H locs hP hD hS => ?_)
  have hP : va_P (dC, dI) vwCl (wcM cI cZ o0 a0 sn1 t0) H := by rw [esn1]; exact hP
  have hD : va_D A (wcM cI cZ o0 a0 sn1 t0) := by rw [esn1]; exact hD
  refine lv_iload_n hx hb dX8_drop_5 rfl (lv_at hl 1 rfl) ?_
  obtain ⟨r2, h3, hf⟩ := q_b1o hf
  refine q_roSi (As := [.int p1]) (rest := []) ⟨hx, hb, hml, hown, hts⟩ (kX8_isRow l p1 r2 h3) (va_cwS 1 hts gX8_drop_X8_isRow rfl rfl rfl hdX8_isRow ⟨Nat.le_of_ble_eq_true rfl, Nat.le_of_ble_eq_true rfl⟩) rfl hl.1 rfl (Nat.le_of_ble_eq_true rfl) dX8_drop_6 ⟨Nat.zero_le _, Nat.zero_le _⟩ ?_
  refine lv_if_ne (tgt := 16) hx hb dX8_drop_9 (by decide) (fun c4 => ?_) (fun c4 => ?_)
  · have hf := q_f c4 hf
    refine lv_aload_n hx hb dX8_drop_16 rfl (lv_at hl 0 rfl) ?_
    refine lv_iconst (v := 0) hx hb dX8_drop_17 (by decide) ?_
    obtain ⟨sn5, esn5, hf⟩ := q_lto hf
    refine va_put (D := (dC, dI)) (ci := 8) (v := .int (0 : Int32)) (ty := .int) (C := RX8) (T := TX8) (N := 27) hx hb hts nX8_drop_8 tyX8 tyX8_ok nmX8 hown hK hP hD hS 0 rfl rfl 1 (by decide) (hts _ qX8_drop_3) (fun _ h9 => h9) rfl (by decide +kernel) rfl rfl (Nat.le_of_ble_eq_true rfl) dX8_drop_18 (fun H locs hP hD hS => ?_)
    have hP : va_P (dC, dI) vwCl (wcM cI cZ o0 a0 sn5 t0) H := by rw [esn5]; exact hP
    have hD : va_D A (wcM cI cZ o0 a0 sn5 t0) := by rw [esn5]; exact hD
    refine lv_aload_n hx hb dX8_drop_21 rfl (lv_at hl 0 rfl) ?_
    refine va_get (D := (dC, dI)) (ci := 8) (v := .ref (a0 2)) (C := RX8) (T := TX8) (N := 27) hx hb hts nX8_drop_8 hown hK hP 0 rfl rfl 2 (by decide) (hts _ qX8_drop_4) (fun _ h9 => h9) rfl dX8_drop_22 ?_
    refine lv_iload_n hx hb dX8_drop_25 rfl (lv_at hl 1 rfl) ?_
    obtain ⟨c6, hf⟩ := q_ck hf
    refine va_iald hx hb hK hP 1 0 rfl rfl c6 dX8_drop_26 ?_
    refine lv_if_ge (tgt := 36) hx hb dX8_drop_27 (by decide) (fun c7 => ?_) (fun c7 => ?_)
    · have hf := q_t c7 hf
      refine lv_aload_n hx hb dX8_drop_36 rfl (lv_at hl 0 rfl) ?_
      refine va_get (D := (dC, dI)) (ci := 8) (v := .ref (a0 2)) (C := RX8) (T := TX8) (N := 27) hx hb hts nX8_drop_8 hown hK hP 0 rfl rfl 2 (by decide) (hts _ qX8_drop_4) (fun _ h9 => h9) rfl dX8_drop_37 ?_
      refine lv_iload_n hx hb dX8_drop_40 rfl (lv_at hl 1 rfl) ?_
      refine lv_iconst (v := -1) hx hb dX8_drop_41 (by decide) ?_
      obtain ⟨c8, hf⟩ := q_ck hf
      obtain ⟨sn9, esn9, hf⟩ := q_lto hf
      refine va_iast hx hb hK hP hD hS 1 0 rfl rfl c8 dX8_drop_42 (fun H locs hP hD hS => ?_)
      have hP : va_P (dC, dI) vwCl (wcM cI cZ o0 a0 sn9 t0) H := by rw [esn9]; exact hP
      have hD : va_D A (wcM cI cZ o0 a0 sn9 t0) := by rw [esn9]; exact hD
      refine lv_aload_n hx hb dX8_drop_43 rfl (lv_at hl 0 rfl) ?_
      refine va_get (D := (dC, dI)) (ci := 8) (v := .ref (a0 3)) (C := RX8) (T := TX8) (N := 27) hx hb hts nX8_drop_8 hown hK hP 0 rfl rfl 3 (by decide) (hts _ qX8_drop_5) (fun _ h9 => h9) rfl dX8_drop_44 ?_
      refine lv_iload_n hx hb dX8_drop_47 rfl (lv_at hl 1 rfl) ?_
      obtain ⟨c10, hf⟩ := q_ck hf
      refine va_iald hx hb hK hP 2 0 rfl rfl c10 dX8_drop_48 ?_
      refine lv_i2l (v := (sn9 3 p1.toNatClampNeg).toInt64) hx hb dX8_drop_49 rfl ?_
      obtain ⟨ee0, ee1⟩ := q_s2 hf
      subst ee1
      exact q_wretL hx hb hr hlk hAe hK hP hD hS ee0 dX8_drop_50
    · have hf := q_f c7 hf
      refine lv_aload_n hx hb dX8_drop_30 rfl (lv_at hl 0 rfl) ?_
      refine lv_iconst (v := 1) hx hb dX8_drop_31 (by decide) ?_
      obtain ⟨r11, sc12, h13, hf⟩ := q_b2o hf
      refine q_rwVl (As := [.int (1 : Int32)]) (rest := []) (ci := 8) (wr := []) (w2 := (wcM cI cZ o0 a0 sc12 t0)) ⟨hx, hb, hml, hown, hts⟩ (kX8_finding l dC dI cI cB cZ o0 a0 sn5 t0 (1 : Int32) H.size r11 sc12 h13) (cwV 1 hts gX8_drop_X8_finding rfl rfl rfl hdX8_finding ⟨Nat.le_of_ble_eq_true rfl, Nat.le_of_ble_eq_true rfl⟩) hK hP hD hS hA [0, 1, 2, 3, 4, 5, 6, 7, 8, 9, 10] [] [0, 1, 2, 3, 4, 5, 6, 7, 8, 9, 10] rfl rfl (by decide) (by decide) (by decide) rfl (by decide) rfl rfl rfl hl.1 rfl (Nat.le_of_ble_eq_true rfl) dX8_drop_32 ⟨Nat.zero_le _, Nat.zero_le _⟩ (fun H locs hP hD hS => ?_)
      obtain ⟨ee0, ee1⟩ := q_s2 hf
      subst ee1
      exact q_wretL hx hb hr hlk hAe hK hP hD hS ee0 dX8_drop_35
  · have hf := q_t c4 hf
    refine lv_ldc2 (v := -9000000000000000001) hx hb hown (hts _ qX8_drop_2) dX8_drop_12 ?_
    obtain ⟨ee0, ee1⟩ := q_s2 hf
    subst ee1
    exact q_wretL hx hb hr hlk hAe hK hP hD hS ee0 dX8_drop_15
theorem hdX8_feed : yX8_feed.cls = RX8 ∧ yX8_feed.cls ≠ "java/lang/invoke/MethodHandle" ∧ yX8_feed.cls ≠ "java/lang/invoke/VarHandle" ∧ (parseMethodDescriptor yX8_feed.desc).map (fun d => d.parameters.length) = some 2 := by decide +kernel
theorem qX8_feed_1 : (Cond.fieldLink RX8 41 "DeadAskedModel" "thrown" "I") ∈ wsX8_feed := List.mem_of_getElem? (i := 1) (by decide +kernel)
theorem qX8_feed_2 : (Cond.constantLong RX8 68 8) ∈ wsX8_feed := List.mem_of_getElem? (i := 2) (by decide +kernel)
theorem qX8_feed_3 : (Cond.constantLong RX8 62 (-9000000000000000001)) ∈ wsX8_feed := List.mem_of_getElem? (i := 3) (by decide +kernel)
theorem qX8_feed_4 : (Cond.fieldLink RX8 70 "DeadAskedModel" "taped" "I") ∈ wsX8_feed := List.mem_of_getElem? (i := 4) (by decide +kernel)
theorem qX8_feed_5 : (Cond.constantLong RX8 73 (-9000000000000000003)) ∈ wsX8_feed := List.mem_of_getElem? (i := 5) (by decide +kernel)
theorem qX8_feed_6 : (Cond.fieldLink RX8 28 "DeadAskedModel" "tape" "[I") ∈ wsX8_feed := List.mem_of_getElem? (i := 6) (by decide +kernel)
theorem qX8_feed_7 : (Cond.constantLong RX8 75 255) ∈ wsX8_feed := List.mem_of_getElem? (i := 7) (by decide +kernel)
theorem nX8_feed_8 : ∀ w ∈ u_ws RX8 TX8 27, w ∈ wsX8_feed := fun _ h => (List.mem_cons_of_mem _ (List.mem_append_right _ h))
set_option maxHeartbeats 4000000 in
set_option maxRecDepth 100000 in
theorem kX8_feed (o0 : Nat) (a0 : Nat → Nat) (s0 : St) (t0 : Lt) (p1 : Int64) (p3 : Int32) (sz : Nat) (r : Int64) (z0 : St) (hf : fX8_feed s0 p1 p3 = some (r, z0)) : Met l yX8_feed wsX8_feed ({ frames := 1, cells := 0, slots := 0, locals := 25 } : Room) (pcW (dC, dI) (q_ty cI cB cZ) [.ref o0, .long p1, .int p3] (wcM cI cZ o0 a0 s0 t0) sz) (qlW (dC, dI) (q_ty cI cB cZ) (wcM cI cZ o0 a0 s0 t0) (wcM cI cZ o0 a0 z0 t0) sz r) 0 0 (va_A (wcM cI cZ o0 a0 s0 t0) sz) := by
  refine q_rwM (cc := cX8_feed) (maxL := 5) (ret := (some .long)) (by decide +kernel) rfl (Nat.le_of_ble_eq_true rfl) ?_
  intro p e s m below meth c hx hb hr hlk hml hown hts hK A H hAe hH hsz hP hD hA hS ls hl
  have hown : s.vm.findClass RX8 = some m.cls := hown
  have hl : lv_has ls 5 [(0, .ref o0), (1, .long p1), (3, .int p3)] := hl
  unfold fX8_feed at hf
  refine lv_aload_n hx hb dX8_feed_0 rfl (lv_at hl 0 rfl) ?_
  refine lv_iconst (v := 0) hx hb dX8_feed_1 (by decide) ?_
  obtain ⟨sn1, esn1, hf⟩ := q_lto hf
  refine va_put (D := (dC, dI)) (ci := 8) (v := .int (0 : Int32)) (ty := .int) (C := RX8) (T := TX8) (N := 27) hx hb hts nX8_feed_8 tyX8 tyX8_ok nmX8 hown hK hP hD hS 0 rfl rfl 0 (by decide) (hts _ qX8_feed_1) (fun _ h9 => h9) rfl (by decide +kernel) rfl rfl (Nat.le_of_ble_eq_true rfl) dX8_feed_2 (fun H locs hP hD hS => ?_)
  have hP : va_P (dC, dI) vwCl (wcM cI cZ o0 a0 sn1 t0) H := by rw [esn1]; exact hP
  have hD : va_D A (wcM cI cZ o0 a0 sn1 t0) := by rw [esn1]; exact hD
  refine lv_iload_n hx hb dX8_feed_5 rfl (lv_at hl 2 rfl) ?_
  refine lv_i2l (v := p3.toInt64) hx hb dX8_feed_6 rfl ?_
  refine lv_lconst (v := 1) hx hb dX8_feed_7 (by decide) ?_
  refine lv_ldc2 (v := 8) hx hb hown (hts _ qX8_feed_2) dX8_feed_8 ?_
  obtain ⟨r2, h3, hf⟩ := q_b1o hf
  refine q_roSi (As := [.long p3.toInt64, .long (1 : Int64), .long (8 : Int64)]) (rest := []) ⟨hx, hb, hml, hown, hts⟩ (kX8_in l p3.toInt64 (1 : Int64) (8 : Int64) r2 h3) (va_cwS 3 hts gX8_feed_X8_in rfl rfl rfl hdX8_in ⟨Nat.le_of_ble_eq_true rfl, Nat.le_of_ble_eq_true rfl⟩) rfl hl.1 rfl (Nat.le_of_ble_eq_true rfl) dX8_feed_11 ⟨Nat.zero_le _, Nat.zero_le _⟩ ?_
  refine lv_if_ne (tgt := 21) hx hb dX8_feed_14 (by decide) (fun c4 => ?_) (fun c4 => ?_)
  · have hf := q_f c4 hf
    refine lv_aload_n hx hb dX8_feed_21 rfl (lv_at hl 0 rfl) ?_
    refine va_get (D := (dC, dI)) (ci := 8) (v := .int (sn1 11 0)) (C := RX8) (T := TX8) (N := 27) hx hb hts nX8_feed_8 hown hK hP 0 rfl rfl 11 (by decide) (hts _ qX8_feed_4) (fun _ h9 => h9) rfl dX8_feed_22 ?_
    refine lv_iload_n hx hb dX8_feed_25 rfl (lv_at hl 2 rfl) ?_
    refine lv_iadd hx hb dX8_feed_26 ?_
    refine lv_sipush (v := 400) hx hb dX8_feed_27 (by decide) ?_
    refine lv_icmp_le (tgt := 37) hx hb dX8_feed_30 (by decide) (fun c5 => ?_) (fun c5 => ?_)
    · have hf := q_t c5 hf
      refine lv_iload_n hx hb dX8_feed_37 rfl (lv_at hl 2 rfl) ?_
      refine lv_iconst (v := 1) hx hb dX8_feed_38 (by decide) ?_
      refine lv_isub hx hb dX8_feed_39 ?_
      obtain ⟨x6, ex6, hf⟩ := q_lto hf
      refine W.eq (g2 := F0 m 40 ls [.int x6]) (by rw [ex6]) ?_
      refine lv_istore (lv' := [(4, .int x6), (0, .ref o0), (1, .long p1), (3, .int p3)]) hx hb dX8_feed_40 hl (by decide) rfl (fun ls hl => ?_)
      obtain ⟨oz10, hqn9, hf⟩ := q_b1o hf
      have kxn9 : ∀ z10 : St, z10 = oz10 → ∀ (H : Heap) (locs : List Loc), va_P (dC, dI) vwCl (wcM cI cZ o0 a0 z10 t0) H → va_D A (wcM cI cZ o0 a0 z10 t0) → va_S A s.heap H locs → ∀ ls : Array Slot, lv_has ls 5 [(0, .ref o0)] → W p l e ({ frames := 1, cells := 0, slots := 0, locals := 25 } : Room) s m [.ref o0, .long p1, .int p3].toArray below meth c H locs 0 0 (MQ below (qlW (dC, dI) (q_ty cI cB cZ) (wcM cI cZ o0 a0 s0 t0) (wcM cI cZ o0 a0 z0 t0) sz r) [.ref o0, .long p1, .int p3].toArray s 0 0 (va_A (wcM cI cZ o0 a0 s0 t0) sz)) (F0 m 84 ls []) := by
        intro z10 ez10 H locs hP hD hS ls hl
        subst ez10
        refine lv_aload_n hx hb dX8_feed_84 rfl (lv_at hl 0 rfl) ?_
        refine va_get (D := (dC, dI)) (ci := 8) (v := .int (z10 11 0)) (C := RX8) (T := TX8) (N := 27) hx hb hts nX8_feed_8 hown hK hP 0 rfl rfl 11 (by decide) (hts _ qX8_feed_4) (fun _ h9 => h9) rfl dX8_feed_85 ?_
        refine lv_i2l (v := (z10 11 0).toInt64) hx hb dX8_feed_88 rfl ?_
        obtain ⟨ee0, ee1⟩ := q_s2 hf
        subst ee1
        exact q_wretL hx hb hr hlk hAe hK hP hD hS ee0 dX8_feed_89
      have aihn9 : ∀ n9 : Nat, ∀ l4_7 : Int32, ∀ sl8 : St, fX8_feed_L42 p1 n9 l4_7 sl8 = some oz10 → ∀ (H : Heap) (locs : List Loc), va_P (dC, dI) vwCl (wcM cI cZ o0 a0 sl8 t0) H → va_D A (wcM cI cZ o0 a0 sl8 t0) → va_S A s.heap H locs → ∀ ls : Array Slot, lv_has ls 5 [(4, .int l4_7), (0, .ref o0), (1, .long p1)] → W p l e ({ frames := 1, cells := 0, slots := 0, locals := 25 } : Room) s m [.ref o0, .long p1, .int p3].toArray below meth c H locs 0 0 (MQ below (qlW (dC, dI) (q_ty cI cB cZ) (wcM cI cZ o0 a0 s0 t0) (wcM cI cZ o0 a0 z0 t0) sz r) [.ref o0, .long p1, .int p3].toArray s 0 0 (va_A (wcM cI cZ o0 a0 s0 t0) sz)) (F0 m 42 ls []) := by
        intro n9
        induction n9 with
        | zero =>
          intro l4_7 sl8 hf
          exact q_no hf
        | succ n9 ihn9 =>
          intro l4_7 sl8 hf H locs hP hD hS ls hl
          rw [fX8_feed_L42] at hf
          refine lv_iload hx hb dX8_feed_42 (lv_at hl 0 rfl) ?_
          refine lv_if_lt (tgt := 84) hx hb dX8_feed_44 (by decide) (fun c11 => ?_) (fun c11 => ?_)
          · have hf := q_t c11 hf
            exact kxn9 sl8 (q_s1 hf) _ _ hP hD hS _ (lv_sub hl [1] rfl)
          · have hf := q_f c11 hf
            refine lv_aload_n hx hb dX8_feed_47 rfl (lv_at hl 1 rfl) ?_
            refine va_get (D := (dC, dI)) (ci := 8) (v := .ref (a0 10)) (C := RX8) (T := TX8) (N := 27) hx hb hts nX8_feed_8 hown hK hP 0 rfl rfl 10 (by decide) (hts _ qX8_feed_6) (fun _ h9 => h9) rfl dX8_feed_48 ?_
            refine lv_aload_n hx hb dX8_feed_51 rfl (lv_at hl 1 rfl) ?_
            refine va_get (D := (dC, dI)) (ci := 8) (v := .int (sl8 11 0)) (C := RX8) (T := TX8) (N := 27) hx hb hts nX8_feed_8 hown hK hP 0 rfl rfl 11 (by decide) (hts _ qX8_feed_4) (fun _ h9 => h9) rfl dX8_feed_52 ?_
            refine lv_lload_n hx hb dX8_feed_55 rfl (lv_at hl 2 rfl) ?_
            refine lv_bipush (v := 8) hx hb dX8_feed_56 (by decide) ?_
            refine lv_iload hx hb dX8_feed_58 (lv_at hl 0 rfl) ?_
            refine lv_imul hx hb dX8_feed_60 ?_
            refine lv_lshr (v := p1 >>> (((8 : Int32) * l4_7).toInt64 &&& 63)) hx hb dX8_feed_61 rfl ?_
            refine lv_ldc2 (v := 255) hx hb hown (hts _ qX8_feed_7) dX8_feed_62 ?_
            refine lv_land hx hb dX8_feed_65 ?_
            refine lv_l2i (v := ((p1 >>> (((8 : Int32) * l4_7).toInt64 &&& 63)) &&& (255 : Int64)).toInt32) hx hb dX8_feed_66 rfl ?_
            obtain ⟨c12, hf⟩ := q_ck hf
            obtain ⟨sn13, esn13, hf⟩ := q_lto hf
            refine va_iast hx hb hK hP hD hS 7 0 rfl rfl c12 dX8_feed_67 (fun H locs hP hD hS => ?_)
            have hP : va_P (dC, dI) vwCl (wcM cI cZ o0 a0 sn13 t0) H := by rw [esn13]; exact hP
            have hD : va_D A (wcM cI cZ o0 a0 sn13 t0) := by rw [esn13]; exact hD
            refine lv_aload_n hx hb dX8_feed_68 rfl (lv_at hl 1 rfl) ?_
            refine lv_dup hx hb dX8_feed_69 rfl ?_
            refine va_get (D := (dC, dI)) (ci := 8) (v := .int (sn13 11 0)) (C := RX8) (T := TX8) (N := 27) hx hb hts nX8_feed_8 hown hK hP 0 rfl rfl 11 (by decide) (hts _ qX8_feed_4) (fun _ h9 => h9) rfl dX8_feed_70 ?_
            refine lv_iconst (v := 1) hx hb dX8_feed_73 (by decide) ?_
            refine lv_iadd hx hb dX8_feed_74 ?_
            obtain ⟨sn14, esn14, hf⟩ := q_lto hf
            refine va_put (D := (dC, dI)) (ci := 8) (v := .int ((sn13 11 0) + (1 : Int32))) (ty := .int) (C := RX8) (T := TX8) (N := 27) hx hb hts nX8_feed_8 tyX8 tyX8_ok nmX8 hown hK hP hD hS 0 rfl rfl 11 (by decide) (hts _ qX8_feed_4) (fun _ h9 => h9) rfl (by decide +kernel) rfl rfl (Nat.le_of_ble_eq_true rfl) dX8_feed_75 (fun H locs hP hD hS => ?_)
            have hP : va_P (dC, dI) vwCl (wcM cI cZ o0 a0 sn14 t0) H := by rw [esn14]; exact hP
            have hD : va_D A (wcM cI cZ o0 a0 sn14 t0) := by rw [esn14]; exact hD
            refine lv_iinc (v := l4_7 + (-1 : Int32)) (lv' := [(4, .int (l4_7 + (-1 : Int32))), (0, .ref o0), (1, .long p1)]) hx hb dX8_feed_78 hl (k := 0) rfl rfl (by decide) rfl (fun ls hl => ?_)
            refine lv_goto (tgt := 42) hx hb dX8_feed_81 (by decide) ?_
            exact ihn9 (l4_7 + (-1 : Int32)) sn14 hf _ _ hP hD hS _ hl
      exact aihn9 5000 x6 sn1 hqn9 _ _ hP hD hS _ (lv_sub hl [0, 1, 2] rfl)
    · have hf := q_f c5 hf
      refine lv_ldc2 (v := -9000000000000000003) hx hb hown (hts _ qX8_feed_5) dX8_feed_33 ?_
      obtain ⟨ee0, ee1⟩ := q_s2 hf
      subst ee1
      exact q_wretL hx hb hr hlk hAe hK hP hD hS ee0 dX8_feed_36
  · have hf := q_t c4 hf
    refine lv_ldc2 (v := -9000000000000000001) hx hb hown (hts _ qX8_feed_3) dX8_feed_17 ?_
    obtain ⟨ee0, ee1⟩ := q_s2 hf
    subst ee1
    exact q_wretL hx hb hr hlk hAe hK hP hD hS ee0 dX8_feed_20
theorem hdX8_byteAt : yX8_byteAt.cls = RX8 ∧ yX8_byteAt.cls ≠ "java/lang/invoke/MethodHandle" ∧ yX8_byteAt.cls ≠ "java/lang/invoke/VarHandle" ∧ (parseMethodDescriptor yX8_byteAt.desc).map (fun d => d.parameters.length) = some 1 := by decide +kernel
theorem qX8_byteAt_1 : (Cond.fieldLink RX8 77 "DeadAskedModel" "length" "I") ∈ wsX8_byteAt := List.mem_of_getElem? (i := 1) (by decide +kernel)
theorem qX8_byteAt_2 : (Cond.fieldLink RX8 28 "DeadAskedModel" "tape" "[I") ∈ wsX8_byteAt := List.mem_of_getElem? (i := 2) (by decide +kernel)
theorem qX8_byteAt_3 : (Cond.constant RX8 80 (-1000000)) ∈ wsX8_byteAt := List.mem_of_getElem? (i := 3) (by decide +kernel)
theorem nX8_byteAt_8 : ∀ w ∈ u_ws RX8 TX8 27, w ∈ wsX8_byteAt := fun _ h => (List.mem_cons_of_mem _ (List.mem_append_right _ h))
set_option maxHeartbeats 4000000 in
set_option maxRecDepth 100000 in
theorem kX8_byteAt (o0 : Nat) (a0 : Nat → Nat) (s0 : St) (t0 : Lt) (p1 : Int32) (r : Int32) (hf : fX8_byteAt s0 p1 = some r) : Met l yX8_byteAt wsX8_byteAt ({ frames := 0, cells := 0, slots := 0, locals := 0 } : Room) (pcR (dC, dI) (q_ty cI cB cZ) [.ref o0, .int p1] (wcM cI cZ o0 a0 s0 t0)) (qiR r) 0 0 (fun _ => False) := by
  refine q_roM (cc := cX8_byteAt) (maxL := 2) (ret := (some .int)) (by decide +kernel) rfl (Nat.le_of_ble_eq_true rfl) ?_
  intro p e s m below meth c hx hb hr hlk hml hown hts hK hP ls hl
  have hown : s.vm.findClass RX8 = some m.cls := hown
  have hl : lv_has ls 2 [(0, .ref o0), (1, .int p1)] := hl
  unfold fX8_byteAt at hf
  refine lv_iload_n hx hb dX8_byteAt_0 rfl (lv_at hl 1 rfl) ?_
  refine lv_aload_n hx hb dX8_byteAt_1 rfl (lv_at hl 0 rfl) ?_
  refine va_get (D := (dC, dI)) (ci := 8) (v := .int (s0 13 0)) (C := RX8) (T := TX8) (N := 27) hx hb hts nX8_byteAt_8 hown hK hP 0 rfl rfl 13 (by decide) (hts _ qX8_byteAt_1) (fun _ h9 => h9) rfl dX8_byteAt_2 ?_
  refine lv_icmp_ge (tgt := 17) hx hb dX8_byteAt_5 (by decide) (fun c1 => ?_) (fun c1 => ?_)
  · have hf := q_t c1 hf
    refine lv_ldc (v := -1000000) hx hb hown (hts _ qX8_byteAt_3) dX8_byteAt_17 ?_
    have ee0 := q_s1 hf
    exact q_retI hx hb hr hlk ee0 dX8_byteAt_19
  · have hf := q_f c1 hf
    refine lv_aload_n hx hb dX8_byteAt_8 rfl (lv_at hl 0 rfl) ?_
    refine va_get (D := (dC, dI)) (ci := 8) (v := .ref (a0 10)) (C := RX8) (T := TX8) (N := 27) hx hb hts nX8_byteAt_8 hown hK hP 0 rfl rfl 10 (by decide) (hts _ qX8_byteAt_2) (fun _ h9 => h9) rfl dX8_byteAt_9 ?_
    refine lv_iload_n hx hb dX8_byteAt_12 rfl (lv_at hl 1 rfl) ?_
    obtain ⟨c2, hf⟩ := q_ck hf
    refine va_iald hx hb hK hP 7 0 rfl rfl c2 dX8_byteAt_13 ?_
    refine lv_goto (tgt := 19) hx hb dX8_byteAt_14 (by decide) ?_
    have ee0 := q_s1 hf
    exact q_retI hx hb hr hlk ee0 dX8_byteAt_19
theorem hdX8_isLetter : yX8_isLetter.cls ≠ "java/lang/invoke/MethodHandle" ∧ yX8_isLetter.cls ≠ "java/lang/invoke/VarHandle" ∧ (parseMethodDescriptor yX8_isLetter.desc).map (fun d => d.parameters.length) = some 1 := by decide +kernel
set_option maxHeartbeats 4000000 in
set_option maxRecDepth 100000 in
theorem kX8_isLetter (p0 : Int32) (r : Int32) (hf : fX8_isLetter p0 = some r) : Met l yX8_isLetter wsX8_isLetter ({ frames := 0, cells := 0, slots := 0, locals := 0 } : Room) (pcS [.int p0]) (qiR r) 0 0 (fun _ => False) := by
  refine q_roS (cc := cX8_isLetter) (maxL := 1) (ret := (some .boolean)) (by decide +kernel) rfl (Nat.le_of_ble_eq_true rfl) ?_
  intro p e s m below meth c hx hb hr hlk hml hown hts ls hl
  have hown : s.vm.findClass RX8 = some m.cls := hown
  have hl : lv_has ls 1 [(0, .int p0)] := hl
  unfold fX8_isLetter at hf
  refine lv_iload_n hx hb dX8_isLetter_0 rfl (lv_at hl 0 rfl) ?_
  refine lv_bipush (v := 97) hx hb dX8_isLetter_1 (by decide) ?_
  refine lv_icmp_lt (tgt := 16) hx hb dX8_isLetter_3 (by decide) (fun c1 => ?_) (fun c1 => ?_)
  · have hf := q_t c1 hf
    refine lv_iconst (v := 0) hx hb dX8_isLetter_16 (by decide) ?_
    have ee0 := q_s1 hf
    exact q_retZ hx hb hr hlk rfl ee0 dX8_isLetter_17
  · have hf := q_f c1 hf
    refine lv_iload_n hx hb dX8_isLetter_6 rfl (lv_at hl 0 rfl) ?_
    refine lv_bipush (v := 122) hx hb dX8_isLetter_7 (by decide) ?_
    refine lv_icmp_gt (tgt := 16) hx hb dX8_isLetter_9 (by decide) (fun c2 => ?_) (fun c2 => ?_)
    · have hf := q_t c2 hf
      refine lv_iconst (v := 0) hx hb dX8_isLetter_16 (by decide) ?_
      have ee0 := q_s1 hf
      exact q_retZ hx hb hr hlk rfl ee0 dX8_isLetter_17
    · have hf := q_f c2 hf
      refine lv_iconst (v := 1) hx hb dX8_isLetter_12 (by decide) ?_
      refine lv_goto (tgt := 17) hx hb dX8_isLetter_13 (by decide) ?_
      have ee0 := q_s1 hf
      exact q_retZ hx hb hr hlk rfl ee0 dX8_isLetter_17
theorem hdX8_isFigure : yX8_isFigure.cls ≠ "java/lang/invoke/MethodHandle" ∧ yX8_isFigure.cls ≠ "java/lang/invoke/VarHandle" ∧ (parseMethodDescriptor yX8_isFigure.desc).map (fun d => d.parameters.length) = some 1 := by decide +kernel
set_option maxHeartbeats 4000000 in
set_option maxRecDepth 100000 in
theorem kX8_isFigure (p0 : Int32) (r : Int32) (hf : fX8_isFigure p0 = some r) : Met l yX8_isFigure wsX8_isFigure ({ frames := 0, cells := 0, slots := 0, locals := 0 } : Room) (pcS [.int p0]) (qiR r) 0 0 (fun _ => False) := by
  refine q_roS (cc := cX8_isFigure) (maxL := 1) (ret := (some .boolean)) (by decide +kernel) rfl (Nat.le_of_ble_eq_true rfl) ?_
  intro p e s m below meth c hx hb hr hlk hml hown hts ls hl
  have hown : s.vm.findClass RX8 = some m.cls := hown
  have hl : lv_has ls 1 [(0, .int p0)] := hl
  unfold fX8_isFigure at hf
  refine lv_iload_n hx hb dX8_isFigure_0 rfl (lv_at hl 0 rfl) ?_
  refine lv_bipush (v := 48) hx hb dX8_isFigure_1 (by decide) ?_
  refine lv_icmp_lt (tgt := 16) hx hb dX8_isFigure_3 (by decide) (fun c1 => ?_) (fun c1 => ?_)
  · have hf := q_t c1 hf
    refine lv_iconst (v := 0) hx hb dX8_isFigure_16 (by decide) ?_
    have ee0 := q_s1 hf
    exact q_retZ hx hb hr hlk rfl ee0 dX8_isFigure_17
  · have hf := q_f c1 hf
    refine lv_iload_n hx hb dX8_isFigure_6 rfl (lv_at hl 0 rfl) ?_
    refine lv_bipush (v := 57) hx hb dX8_isFigure_7 (by decide) ?_
    refine lv_icmp_gt (tgt := 16) hx hb dX8_isFigure_9 (by decide) (fun c2 => ?_) (fun c2 => ?_)
    · have hf := q_t c2 hf
      refine lv_iconst (v := 0) hx hb dX8_isFigure_16 (by decide) ?_
      have ee0 := q_s1 hf
      exact q_retZ hx hb hr hlk rfl ee0 dX8_isFigure_17
    · have hf := q_f c2 hf
      refine lv_iconst (v := 1) hx hb dX8_isFigure_12 (by decide) ?_
      refine lv_goto (tgt := 17) hx hb dX8_isFigure_13 (by decide) ?_
      have ee0 := q_s1 hf
      exact q_retZ hx hb hr hlk rfl ee0 dX8_isFigure_17
theorem hdX8_next : yX8_next.cls = RX8 ∧ yX8_next.cls ≠ "java/lang/invoke/MethodHandle" ∧ yX8_next.cls ≠ "java/lang/invoke/VarHandle" ∧ (parseMethodDescriptor yX8_next.desc).map (fun d => d.parameters.length) = some 0 := by decide +kernel
theorem qX8_next_1 : (Cond.fieldLink RX8 81 "DeadAskedModel" "cursor" "I") ∈ wsX8_next := List.mem_of_getElem? (i := 1) (by decide +kernel)
theorem qX8_next_2 : (Cond.fieldLink RX8 88 "DeadAskedModel" "start" "I") ∈ wsX8_next := List.mem_of_getElem? (i := 2) (by decide +kernel)
theorem qX8_next_3 : (Cond.constant RX8 80 (-1000000)) ∈ wsX8_next := List.mem_of_getElem? (i := 3) (by decide +kernel)
theorem qX8_next_4 : (Cond.fieldLink RX8 91 "DeadAskedModel" "token" "I") ∈ wsX8_next := List.mem_of_getElem? (i := 4) (by decide +kernel)
theorem qX8_next_5 : (Cond.fieldLink RX8 100 "DeadAskedModel" "till" "I") ∈ wsX8_next := List.mem_of_getElem? (i := 5) (by decide +kernel)
theorem nX8_next_8 : ∀ w ∈ u_ws RX8 TX8 27, w ∈ wsX8_next := fun _ h => (List.mem_cons_of_mem _ (List.mem_append_right _ h))
set_option maxHeartbeats 4000000 in
set_option maxRecDepth 100000 in
theorem kX8_next (o0 : Nat) (a0 : Nat → Nat) (s0 : St) (t0 : Lt) (sz : Nat) (z0 : St) (hf : fX8_next s0 = some z0) : Met l yX8_next wsX8_next ({ frames := 1, cells := 0, slots := 0, locals := 21 } : Room) (pcW (dC, dI) (q_ty cI cB cZ) [.ref o0] (wcM cI cZ o0 a0 s0 t0) sz) (qvW (dC, dI) (q_ty cI cB cZ) (wcM cI cZ o0 a0 s0 t0) (wcM cI cZ o0 a0 z0 t0) sz) 0 0 (va_A (wcM cI cZ o0 a0 s0 t0) sz) := by
  refine q_rwM (cc := cX8_next) (maxL := 2) (ret := none) (by decide +kernel) rfl (Nat.le_of_ble_eq_true rfl) ?_
  intro p e s m below meth c hx hb hr hlk hml hown hts hK A H hAe hH hsz hP hD hA hS ls hl
  have hown : s.vm.findClass RX8 = some m.cls := hown
  have hl : lv_has ls 2 [(0, .ref o0)] := hl
  unfold fX8_next at hf
  obtain ⟨oz3, hqn2, hf⟩ := q_b1o hf
  have kxn2 : ∀ z3 : St, z3 = oz3 → ∀ (H : Heap) (locs : List Loc), va_P (dC, dI) vwCl (wcM cI cZ o0 a0 z3 t0) H → va_D A (wcM cI cZ o0 a0 z3 t0) → va_S A s.heap H locs → ∀ ls : Array Slot, lv_has ls 2 [(0, .ref o0)] → W p l e ({ frames := 1, cells := 0, slots := 0, locals := 21 } : Room) s m [.ref o0].toArray below meth c H locs 0 0 (MQ below (qvW (dC, dI) (q_ty cI cB cZ) (wcM cI cZ o0 a0 s0 t0) (wcM cI cZ o0 a0 z0 t0) sz) [.ref o0].toArray s 0 0 (va_A (wcM cI cZ o0 a0 s0 t0) sz)) (F0 m 39 ls []) := by
    intro z3 ez3 H locs hP hD hS ls hl
    subst ez3
    refine lv_aload_n hx hb dX8_next_39 rfl (lv_at hl 0 rfl) ?_
    refine lv_aload_n hx hb dX8_next_40 rfl (lv_at hl 0 rfl) ?_
    refine va_get (D := (dC, dI)) (ci := 8) (v := .int (z3 14 0)) (C := RX8) (T := TX8) (N := 27) hx hb hts nX8_next_8 hown hK hP 0 rfl rfl 14 (by decide) (hts _ qX8_next_1) (fun _ h9 => h9) rfl dX8_next_41 ?_
    obtain ⟨sn12, esn12, hf⟩ := q_lto hf
    refine va_put (D := (dC, dI)) (ci := 8) (v := .int (z3 14 0)) (ty := .int) (C := RX8) (T := TX8) (N := 27) hx hb hts nX8_next_8 tyX8 tyX8_ok nmX8 hown hK hP hD hS 0 rfl rfl 16 (by decide) (hts _ qX8_next_2) (fun _ h9 => h9) rfl (by decide +kernel) rfl rfl (Nat.le_of_ble_eq_true rfl) dX8_next_44 (fun H locs hP hD hS => ?_)
    have hP : va_P (dC, dI) vwCl (wcM cI cZ o0 a0 sn12 t0) H := by rw [esn12]; exact hP
    have hD : va_D A (wcM cI cZ o0 a0 sn12 t0) := by rw [esn12]; exact hD
    refine lv_aload_n hx hb dX8_next_47 rfl (lv_at hl 0 rfl) ?_
    refine lv_aload_n hx hb dX8_next_48 rfl (lv_at hl 0 rfl) ?_
    refine va_get (D := (dC, dI)) (ci := 8) (v := .int (sn12 14 0)) (C := RX8) (T := TX8) (N := 27) hx hb hts nX8_next_8 hown hK hP 0 rfl rfl 14 (by decide) (hts _ qX8_next_1) (fun _ h9 => h9) rfl dX8_next_49 ?_
    obtain ⟨r13, h14, hf⟩ := q_b1o hf
    refine q_roVi (As := [.int (sn12 14 0)]) (rest := []) (ci := 8) ⟨hx, hb, hml, hown, hts⟩ (kX8_byteAt l dC dI cI cB cZ o0 a0 sn12 t0 (sn12 14 0) r13 h14) (cwV 1 hts gX8_next_X8_byteAt rfl rfl rfl hdX8_byteAt ⟨Nat.le_of_ble_eq_true rfl, Nat.le_of_ble_eq_true rfl⟩) hK hP rfl rfl rfl hl.1 rfl (Nat.le_of_ble_eq_true rfl) dX8_next_52 ⟨Nat.zero_le _, Nat.zero_le _⟩ ?_
    refine lv_istore_n (lv' := [(1, .int r13), (0, .ref o0)]) hx hb dX8_next_55 rfl hl (by decide) rfl (fun ls hl => ?_)
    refine lv_iload_n hx hb dX8_next_56 rfl (lv_at hl 0 rfl) ?_
    refine lv_ldc (v := -1000000) hx hb hown (hts _ qX8_next_3) dX8_next_57 ?_
    obtain ⟨osj15, hqj16, hf⟩ := q_b1o hf
    have kj16 : ∀ sj15 : St, sj15 = osj15 → ∀ (H : Heap) (locs : List Loc), va_P (dC, dI) vwCl (wcM cI cZ o0 a0 sj15 t0) H → va_D A (wcM cI cZ o0 a0 sj15 t0) → va_S A s.heap H locs → ∀ ls : Array Slot, lv_has ls 2 [(0, .ref o0)] → W p l e ({ frames := 1, cells := 0, slots := 0, locals := 21 } : Room) s m [.ref o0].toArray below meth c H locs 0 0 (MQ below (qvW (dC, dI) (q_ty cI cB cZ) (wcM cI cZ o0 a0 s0 t0) (wcM cI cZ o0 a0 z0 t0) sz) [.ref o0].toArray s 0 0 (va_A (wcM cI cZ o0 a0 s0 t0) sz)) (F0 m 196 ls []) := by
      intro sj15 esj15 H locs hP hD hS ls hl
      subst esj15
      refine lv_aload_n hx hb dX8_next_196 rfl (lv_at hl 0 rfl) ?_
      refine lv_aload_n hx hb dX8_next_197 rfl (lv_at hl 0 rfl) ?_
      refine va_get (D := (dC, dI)) (ci := 8) (v := .int (sj15 14 0)) (C := RX8) (T := TX8) (N := 27) hx hb hts nX8_next_8 hown hK hP 0 rfl rfl 14 (by decide) (hts _ qX8_next_1) (fun _ h9 => h9) rfl dX8_next_198 ?_
      obtain ⟨sn17, esn17, hf⟩ := q_lto hf
      refine va_put (D := (dC, dI)) (ci := 8) (v := .int (sj15 14 0)) (ty := .int) (C := RX8) (T := TX8) (N := 27) hx hb hts nX8_next_8 tyX8 tyX8_ok nmX8 hown hK hP hD hS 0 rfl rfl 17 (by decide) (hts _ qX8_next_5) (fun _ h9 => h9) rfl (by decide +kernel) rfl rfl (Nat.le_of_ble_eq_true rfl) dX8_next_201 (fun H locs hP hD hS => ?_)
      have hP : va_P (dC, dI) vwCl (wcM cI cZ o0 a0 sn17 t0) H := by rw [esn17]; exact hP
      have hD : va_D A (wcM cI cZ o0 a0 sn17 t0) := by rw [esn17]; exact hD
      have ee0 := q_s1 hf
      subst ee0
      exact q_wretV hx hb hr hlk hAe hK hP hD hS dX8_next_204
    have hf := hqj16
    refine lv_icmp_ne (tgt := 70) hx hb dX8_next_59 (by decide) (fun c18 => ?_) (fun c18 => ?_)
    · have hf := q_f c18 hf
      refine lv_iload_n hx hb dX8_next_70 rfl (lv_at hl 0 rfl) ?_
      obtain ⟨r19, h20, hf⟩ := q_b1o hf
      refine q_roSi (As := [.int r13]) (rest := []) ⟨hx, hb, hml, hown, hts⟩ (kX8_isLetter l r13 r19 h20) (va_cwS 1 hts gX8_next_X8_isLetter rfl rfl rfl hdX8_isLetter ⟨Nat.le_of_ble_eq_true rfl, Nat.le_of_ble_eq_true rfl⟩) rfl hl.1 rfl (Nat.le_of_ble_eq_true rfl) dX8_next_71 ⟨Nat.zero_le _, Nat.zero_le _⟩ ?_
      refine lv_if_eq (tgt := 112) hx hb dX8_next_74 (by decide) (fun c21 => ?_) (fun c21 => ?_)
      · have hf := q_t c21 hf
        refine lv_iload_n hx hb dX8_next_112 rfl (lv_at hl 0 rfl) ?_
        obtain ⟨r22, h23, hf⟩ := q_b1o hf
        refine q_roSi (As := [.int r13]) (rest := []) ⟨hx, hb, hml, hown, hts⟩ (kX8_isFigure l r13 r22 h23) (va_cwS 1 hts gX8_next_X8_isFigure rfl rfl rfl hdX8_isFigure ⟨Nat.le_of_ble_eq_true rfl, Nat.le_of_ble_eq_true rfl⟩) rfl hl.1 rfl (Nat.le_of_ble_eq_true rfl) dX8_next_113 ⟨Nat.zero_le _, Nat.zero_le _⟩ ?_
        refine lv_if_eq (tgt := 171) hx hb dX8_next_116 (by decide) (fun c24 => ?_) (fun c24 => ?_)
        · have hf := q_t c24 hf
          refine lv_aload_n hx hb dX8_next_171 rfl (lv_at hl 1 rfl) ?_
          refine lv_dup hx hb dX8_next_172 rfl ?_
          refine va_get (D := (dC, dI)) (ci := 8) (v := .int (sn12 14 0)) (C := RX8) (T := TX8) (N := 27) hx hb hts nX8_next_8 hown hK hP 0 rfl rfl 14 (by decide) (hts _ qX8_next_1) (fun _ h9 => h9) rfl dX8_next_173 ?_
          refine lv_iconst (v := 1) hx hb dX8_next_176 (by decide) ?_
          refine lv_iadd hx hb dX8_next_177 ?_
          obtain ⟨sn25, esn25, hf⟩ := q_lto hf
          refine va_put (D := (dC, dI)) (ci := 8) (v := .int ((sn12 14 0) + (1 : Int32))) (ty := .int) (C := RX8) (T := TX8) (N := 27) hx hb hts nX8_next_8 tyX8 tyX8_ok nmX8 hown hK hP hD hS 0 rfl rfl 14 (by decide) (hts _ qX8_next_1) (fun _ h9 => h9) rfl (by decide +kernel) rfl rfl (Nat.le_of_ble_eq_true rfl) dX8_next_178 (fun H locs hP hD hS => ?_)
          have hP : va_P (dC, dI) vwCl (wcM cI cZ o0 a0 sn25 t0) H := by rw [esn25]; exact hP
          have hD : va_D A (wcM cI cZ o0 a0 sn25 t0) := by rw [esn25]; exact hD
          refine lv_aload_n hx hb dX8_next_181 rfl (lv_at hl 1 rfl) ?_
          refine lv_iload_n hx hb dX8_next_182 rfl (lv_at hl 0 rfl) ?_
          refine lv_bipush (v := 59) hx hb dX8_next_183 (by decide) ?_
          obtain ⟨ov26, hqj27, hf⟩ := q_b1o hf
          have kj27 : ∀ v26 : Int32, v26 = ov26 → ∀ (H : Heap) (locs : List Loc), va_P (dC, dI) vwCl (wcM cI cZ o0 a0 sn25 t0) H → va_D A (wcM cI cZ o0 a0 sn25 t0) → va_S A s.heap H locs → ∀ ls : Array Slot, lv_has ls 2 [(0, .ref o0)] → W p l e ({ frames := 1, cells := 0, slots := 0, locals := 21 } : Room) s m [.ref o0].toArray below meth c H locs 0 0 (MQ below (qvW (dC, dI) (q_ty cI cB cZ) (wcM cI cZ o0 a0 s0 t0) (wcM cI cZ o0 a0 z0 t0) sz) [.ref o0].toArray s 0 0 (va_A (wcM cI cZ o0 a0 s0 t0) sz)) (F0 m 193 ls [.int v26, .ref o0]) := by
            intro v26 ev26 H locs hP hD hS ls hl
            subst ev26
            obtain ⟨sn28, esn28, hf⟩ := q_lto hf
            refine va_put (D := (dC, dI)) (ci := 8) (v := .int v26) (ty := .int) (C := RX8) (T := TX8) (N := 27) hx hb hts nX8_next_8 tyX8 tyX8_ok nmX8 hown hK hP hD hS 0 rfl rfl 15 (by decide) (hts _ qX8_next_4) (fun _ h9 => h9) rfl (by decide +kernel) rfl rfl (Nat.le_of_ble_eq_true rfl) dX8_next_193 (fun H locs hP hD hS => ?_)
            have hP : va_P (dC, dI) vwCl (wcM cI cZ o0 a0 sn28 t0) H := by rw [esn28]; exact hP
            have hD : va_D A (wcM cI cZ o0 a0 sn28 t0) := by rw [esn28]; exact hD
            exact kj16 sn28 (q_s1 hf) _ _ hP hD hS _ hl
          have hf := hqj27
          refine lv_icmp_ne (tgt := 192) hx hb dX8_next_185 (by decide) (fun c29 => ?_) (fun c29 => ?_)
          · have hf := q_f c29 hf
            refine lv_iconst (v := 0) hx hb dX8_next_192 (by decide) ?_
            exact kj27 (0 : Int32) (q_s1 hf) _ _ hP hD hS _ (lv_sub hl [1] rfl)
          · have hf := q_t c29 hf
            refine lv_iconst (v := 4) hx hb dX8_next_188 (by decide) ?_
            refine lv_goto (tgt := 193) hx hb dX8_next_189 (by decide) ?_
            exact kj27 (4 : Int32) (q_s1 hf) _ _ hP hD hS _ (lv_sub hl [1] rfl)
        · have hf := q_f c24 hf
          obtain ⟨oz32, hqn31, hf⟩ := q_b1o hf
          have kxn31 : ∀ z32 : St, z32 = oz32 → ∀ (H : Heap) (locs : List Loc), va_P (dC, dI) vwCl (wcM cI cZ o0 a0 z32 t0) H → va_D A (wcM cI cZ o0 a0 z32 t0) → va_S A s.heap H locs → ∀ ls : Array Slot, lv_has ls 2 [(0, .ref o0)] → W p l e ({ frames := 1, cells := 0, slots := 0, locals := 21 } : Room) s m [.ref o0].toArray below meth c H locs 0 0 (MQ below (qvW (dC, dI) (q_ty cI cB cZ) (wcM cI cZ o0 a0 s0 t0) (wcM cI cZ o0 a0 z0 t0) sz) [.ref o0].toArray s 0 0 (va_A (wcM cI cZ o0 a0 s0 t0) sz)) (F0 m 146 ls []) := by
            intro z32 ez32 H locs hP hD hS ls hl
            subst ez32
            refine lv_aload_n hx hb dX8_next_146 rfl (lv_at hl 0 rfl) ?_
            refine lv_aload_n hx hb dX8_next_147 rfl (lv_at hl 0 rfl) ?_
            refine va_get (D := (dC, dI)) (ci := 8) (v := .int (z32 14 0)) (C := RX8) (T := TX8) (N := 27) hx hb hts nX8_next_8 hown hK hP 0 rfl rfl 14 (by decide) (hts _ qX8_next_1) (fun _ h9 => h9) rfl dX8_next_148 ?_
            refine lv_aload_n hx hb dX8_next_151 rfl (lv_at hl 0 rfl) ?_
            refine va_get (D := (dC, dI)) (ci := 8) (v := .int (z32 16 0)) (C := RX8) (T := TX8) (N := 27) hx hb hts nX8_next_8 hown hK hP 0 rfl rfl 16 (by decide) (hts _ qX8_next_2) (fun _ h9 => h9) rfl dX8_next_152 ?_
            refine lv_isub hx hb dX8_next_155 ?_
            refine lv_iconst (v := 3) hx hb dX8_next_156 (by decide) ?_
            obtain ⟨ov39, hqj40, hf⟩ := q_b1o hf
            have kj40 : ∀ v39 : Int32, v39 = ov39 → ∀ (H : Heap) (locs : List Loc), va_P (dC, dI) vwCl (wcM cI cZ o0 a0 z32 t0) H → va_D A (wcM cI cZ o0 a0 z32 t0) → va_S A s.heap H locs → ∀ ls : Array Slot, lv_has ls 2 [(0, .ref o0)] → W p l e ({ frames := 1, cells := 0, slots := 0, locals := 21 } : Room) s m [.ref o0].toArray below meth c H locs 0 0 (MQ below (qvW (dC, dI) (q_ty cI cB cZ) (wcM cI cZ o0 a0 s0 t0) (wcM cI cZ o0 a0 z0 t0) sz) [.ref o0].toArray s 0 0 (va_A (wcM cI cZ o0 a0 s0 t0) sz)) (F0 m 165 ls [.int v39, .ref o0]) := by
              intro v39 ev39 H locs hP hD hS ls hl
              subst ev39
              obtain ⟨sn41, esn41, hf⟩ := q_lto hf
              refine va_put (D := (dC, dI)) (ci := 8) (v := .int v39) (ty := .int) (C := RX8) (T := TX8) (N := 27) hx hb hts nX8_next_8 tyX8 tyX8_ok nmX8 hown hK hP hD hS 0 rfl rfl 15 (by decide) (hts _ qX8_next_4) (fun _ h9 => h9) rfl (by decide +kernel) rfl rfl (Nat.le_of_ble_eq_true rfl) dX8_next_165 (fun H locs hP hD hS => ?_)
              have hP : va_P (dC, dI) vwCl (wcM cI cZ o0 a0 sn41 t0) H := by rw [esn41]; exact hP
              have hD : va_D A (wcM cI cZ o0 a0 sn41 t0) := by rw [esn41]; exact hD
              refine lv_goto (tgt := 196) hx hb dX8_next_168 (by decide) ?_
              exact kj16 sn41 (q_s1 hf) _ _ hP hD hS _ hl
            have hf := hqj40
            refine lv_icmp_le (tgt := 164) hx hb dX8_next_157 (by decide) (fun c42 => ?_) (fun c42 => ?_)
            · have hf := q_t c42 hf
              refine lv_iconst (v := 3) hx hb dX8_next_164 (by decide) ?_
              exact kj40 (3 : Int32) (q_s1 hf) _ _ hP hD hS _ hl
            · have hf := q_f c42 hf
              refine lv_iconst (v := 0) hx hb dX8_next_160 (by decide) ?_
              refine lv_goto (tgt := 165) hx hb dX8_next_161 (by decide) ?_
              exact kj40 (0 : Int32) (q_s1 hf) _ _ hP hD hS _ hl
          have aihn31 : ∀ n31 : Nat, ∀ sl30 : St, fX8_next_L119 n31 sl30 = some oz32 → ∀ (H : Heap) (locs : List Loc), va_P (dC, dI) vwCl (wcM cI cZ o0 a0 sl30 t0) H → va_D A (wcM cI cZ o0 a0 sl30 t0) → va_S A s.heap H locs → ∀ ls : Array Slot, lv_has ls 2 [(0, .ref o0)] → W p l e ({ frames := 1, cells := 0, slots := 0, locals := 21 } : Room) s m [.ref o0].toArray below meth c H locs 0 0 (MQ below (qvW (dC, dI) (q_ty cI cB cZ) (wcM cI cZ o0 a0 s0 t0) (wcM cI cZ o0 a0 z0 t0) sz) [.ref o0].toArray s 0 0 (va_A (wcM cI cZ o0 a0 s0 t0) sz)) (F0 m 119 ls []) := by
            intro n31
            induction n31 with
            | zero =>
              intro sl30 hf
              exact q_no hf
            | succ n31 ihn31 =>
              intro sl30 hf H locs hP hD hS ls hl
              rw [fX8_next_L119] at hf
              refine lv_aload_n hx hb dX8_next_119 rfl (lv_at hl 0 rfl) ?_
              refine lv_aload_n hx hb dX8_next_120 rfl (lv_at hl 0 rfl) ?_
              refine va_get (D := (dC, dI)) (ci := 8) (v := .int (sl30 14 0)) (C := RX8) (T := TX8) (N := 27) hx hb hts nX8_next_8 hown hK hP 0 rfl rfl 14 (by decide) (hts _ qX8_next_1) (fun _ h9 => h9) rfl dX8_next_121 ?_
              obtain ⟨r33, h34, hf⟩ := q_b1o hf
              refine q_roVi (As := [.int (sl30 14 0)]) (rest := []) (ci := 8) ⟨hx, hb, hml, hown, hts⟩ (kX8_byteAt l dC dI cI cB cZ o0 a0 sl30 t0 (sl30 14 0) r33 h34) (cwV 1 hts gX8_next_X8_byteAt rfl rfl rfl hdX8_byteAt ⟨Nat.le_of_ble_eq_true rfl, Nat.le_of_ble_eq_true rfl⟩) hK hP rfl rfl rfl hl.1 rfl (Nat.le_of_ble_eq_true rfl) dX8_next_124 ⟨Nat.zero_le _, Nat.zero_le _⟩ ?_
              obtain ⟨r35, h36, hf⟩ := q_b1o hf
              refine q_roSi (As := [.int r33]) (rest := []) ⟨hx, hb, hml, hown, hts⟩ (kX8_isFigure l r33 r35 h36) (va_cwS 1 hts gX8_next_X8_isFigure rfl rfl rfl hdX8_isFigure ⟨Nat.le_of_ble_eq_true rfl, Nat.le_of_ble_eq_true rfl⟩) rfl hl.1 rfl (Nat.le_of_ble_eq_true rfl) dX8_next_127 ⟨Nat.zero_le _, Nat.zero_le _⟩ ?_
              refine lv_if_eq (tgt := 146) hx hb dX8_next_130 (by decide) (fun c37 => ?_) (fun c37 => ?_)
              · have hf := q_t c37 hf
                exact kxn31 sl30 (q_s1 hf) _ _ hP hD hS _ hl
              · have hf := q_f c37 hf
                refine lv_aload_n hx hb dX8_next_133 rfl (lv_at hl 0 rfl) ?_
                refine lv_dup hx hb dX8_next_134 rfl ?_
                refine va_get (D := (dC, dI)) (ci := 8) (v := .int (sl30 14 0)) (C := RX8) (T := TX8) (N := 27) hx hb hts nX8_next_8 hown hK hP 0 rfl rfl 14 (by decide) (hts _ qX8_next_1) (fun _ h9 => h9) rfl dX8_next_135 ?_
                refine lv_iconst (v := 1) hx hb dX8_next_138 (by decide) ?_
                refine lv_iadd hx hb dX8_next_139 ?_
                obtain ⟨sn38, esn38, hf⟩ := q_lto hf
                refine va_put (D := (dC, dI)) (ci := 8) (v := .int ((sl30 14 0) + (1 : Int32))) (ty := .int) (C := RX8) (T := TX8) (N := 27) hx hb hts nX8_next_8 tyX8 tyX8_ok nmX8 hown hK hP hD hS 0 rfl rfl 14 (by decide) (hts _ qX8_next_1) (fun _ h9 => h9) rfl (by decide +kernel) rfl rfl (Nat.le_of_ble_eq_true rfl) dX8_next_140 (fun H locs hP hD hS => ?_)
                have hP : va_P (dC, dI) vwCl (wcM cI cZ o0 a0 sn38 t0) H := by rw [esn38]; exact hP
                have hD : va_D A (wcM cI cZ o0 a0 sn38 t0) := by rw [esn38]; exact hD
                refine lv_goto (tgt := 119) hx hb dX8_next_143 (by decide) ?_
                exact ihn31 sn38 hf _ _ hP hD hS _ hl
          exact aihn31 5000 sn12 hqn31 _ _ hP hD hS _ (lv_sub hl [1] rfl)
      · have hf := q_f c21 hf
        obtain ⟨oz45, hqn44, hf⟩ := q_b1o hf
        have kxn44 : ∀ z45 : St, z45 = oz45 → ∀ (H : Heap) (locs : List Loc), va_P (dC, dI) vwCl (wcM cI cZ o0 a0 z45 t0) H → va_D A (wcM cI cZ o0 a0 z45 t0) → va_S A s.heap H locs → ∀ ls : Array Slot, lv_has ls 2 [(0, .ref o0)] → W p l e ({ frames := 1, cells := 0, slots := 0, locals := 21 } : Room) s m [.ref o0].toArray below meth c H locs 0 0 (MQ below (qvW (dC, dI) (q_ty cI cB cZ) (wcM cI cZ o0 a0 s0 t0) (wcM cI cZ o0 a0 z0 t0) sz) [.ref o0].toArray s 0 0 (va_A (wcM cI cZ o0 a0 s0 t0) sz)) (F0 m 104 ls []) := by
          intro z45 ez45 H locs hP hD hS ls hl
          subst ez45
          refine lv_aload_n hx hb dX8_next_104 rfl (lv_at hl 0 rfl) ?_
          refine lv_iconst (v := 2) hx hb dX8_next_105 (by decide) ?_
          obtain ⟨sn52, esn52, hf⟩ := q_lto hf
          refine va_put (D := (dC, dI)) (ci := 8) (v := .int (2 : Int32)) (ty := .int) (C := RX8) (T := TX8) (N := 27) hx hb hts nX8_next_8 tyX8 tyX8_ok nmX8 hown hK hP hD hS 0 rfl rfl 15 (by decide) (hts _ qX8_next_4) (fun _ h9 => h9) rfl (by decide +kernel) rfl rfl (Nat.le_of_ble_eq_true rfl) dX8_next_106 (fun H locs hP hD hS => ?_)
          have hP : va_P (dC, dI) vwCl (wcM cI cZ o0 a0 sn52 t0) H := by rw [esn52]; exact hP
          have hD : va_D A (wcM cI cZ o0 a0 sn52 t0) := by rw [esn52]; exact hD
          refine lv_goto (tgt := 196) hx hb dX8_next_109 (by decide) ?_
          exact kj16 sn52 (q_s1 hf) _ _ hP hD hS _ hl
        have aihn44 : ∀ n44 : Nat, ∀ sl43 : St, fX8_next_L77 n44 sl43 = some oz45 → ∀ (H : Heap) (locs : List Loc), va_P (dC, dI) vwCl (wcM cI cZ o0 a0 sl43 t0) H → va_D A (wcM cI cZ o0 a0 sl43 t0) → va_S A s.heap H locs → ∀ ls : Array Slot, lv_has ls 2 [(0, .ref o0)] → W p l e ({ frames := 1, cells := 0, slots := 0, locals := 21 } : Room) s m [.ref o0].toArray below meth c H locs 0 0 (MQ below (qvW (dC, dI) (q_ty cI cB cZ) (wcM cI cZ o0 a0 s0 t0) (wcM cI cZ o0 a0 z0 t0) sz) [.ref o0].toArray s 0 0 (va_A (wcM cI cZ o0 a0 s0 t0) sz)) (F0 m 77 ls []) := by
          intro n44
          induction n44 with
          | zero =>
            intro sl43 hf
            exact q_no hf
          | succ n44 ihn44 =>
            intro sl43 hf H locs hP hD hS ls hl
            rw [fX8_next_L77] at hf
            refine lv_aload_n hx hb dX8_next_77 rfl (lv_at hl 0 rfl) ?_
            refine lv_aload_n hx hb dX8_next_78 rfl (lv_at hl 0 rfl) ?_
            refine va_get (D := (dC, dI)) (ci := 8) (v := .int (sl43 14 0)) (C := RX8) (T := TX8) (N := 27) hx hb hts nX8_next_8 hown hK hP 0 rfl rfl 14 (by decide) (hts _ qX8_next_1) (fun _ h9 => h9) rfl dX8_next_79 ?_
            obtain ⟨r46, h47, hf⟩ := q_b1o hf
            refine q_roVi (As := [.int (sl43 14 0)]) (rest := []) (ci := 8) ⟨hx, hb, hml, hown, hts⟩ (kX8_byteAt l dC dI cI cB cZ o0 a0 sl43 t0 (sl43 14 0) r46 h47) (cwV 1 hts gX8_next_X8_byteAt rfl rfl rfl hdX8_byteAt ⟨Nat.le_of_ble_eq_true rfl, Nat.le_of_ble_eq_true rfl⟩) hK hP rfl rfl rfl hl.1 rfl (Nat.le_of_ble_eq_true rfl) dX8_next_82 ⟨Nat.zero_le _, Nat.zero_le _⟩ ?_
            obtain ⟨r48, h49, hf⟩ := q_b1o hf
            refine q_roSi (As := [.int r46]) (rest := []) ⟨hx, hb, hml, hown, hts⟩ (kX8_isLetter l r46 r48 h49) (va_cwS 1 hts gX8_next_X8_isLetter rfl rfl rfl hdX8_isLetter ⟨Nat.le_of_ble_eq_true rfl, Nat.le_of_ble_eq_true rfl⟩) rfl hl.1 rfl (Nat.le_of_ble_eq_true rfl) dX8_next_85 ⟨Nat.zero_le _, Nat.zero_le _⟩ ?_
            refine lv_if_eq (tgt := 104) hx hb dX8_next_88 (by decide) (fun c50 => ?_) (fun c50 => ?_)
            · have hf := q_t c50 hf
              exact kxn44 sl43 (q_s1 hf) _ _ hP hD hS _ hl
            · have hf := q_f c50 hf
              refine lv_aload_n hx hb dX8_next_91 rfl (lv_at hl 0 rfl) ?_
              refine lv_dup hx hb dX8_next_92 rfl ?_
              refine va_get (D := (dC, dI)) (ci := 8) (v := .int (sl43 14 0)) (C := RX8) (T := TX8) (N := 27) hx hb hts nX8_next_8 hown hK hP 0 rfl rfl 14 (by decide) (hts _ qX8_next_1) (fun _ h9 => h9) rfl dX8_next_93 ?_
              refine lv_iconst (v := 1) hx hb dX8_next_96 (by decide) ?_
              refine lv_iadd hx hb dX8_next_97 ?_
              obtain ⟨sn51, esn51, hf⟩ := q_lto hf
              refine va_put (D := (dC, dI)) (ci := 8) (v := .int ((sl43 14 0) + (1 : Int32))) (ty := .int) (C := RX8) (T := TX8) (N := 27) hx hb hts nX8_next_8 tyX8 tyX8_ok nmX8 hown hK hP hD hS 0 rfl rfl 14 (by decide) (hts _ qX8_next_1) (fun _ h9 => h9) rfl (by decide +kernel) rfl rfl (Nat.le_of_ble_eq_true rfl) dX8_next_98 (fun H locs hP hD hS => ?_)
              have hP : va_P (dC, dI) vwCl (wcM cI cZ o0 a0 sn51 t0) H := by rw [esn51]; exact hP
              have hD : va_D A (wcM cI cZ o0 a0 sn51 t0) := by rw [esn51]; exact hD
              refine lv_goto (tgt := 77) hx hb dX8_next_101 (by decide) ?_
              exact ihn44 sn51 hf _ _ hP hD hS _ hl
        exact aihn44 5000 sn12 hqn44 _ _ hP hD hS _ (lv_sub hl [1] rfl)
    · have hf := q_t c18 hf
      refine lv_aload_n hx hb dX8_next_62 rfl (lv_at hl 1 rfl) ?_
      refine lv_iconst (v := 1) hx hb dX8_next_63 (by decide) ?_
      obtain ⟨sn53, esn53, hf⟩ := q_lto hf
      refine va_put (D := (dC, dI)) (ci := 8) (v := .int (1 : Int32)) (ty := .int) (C := RX8) (T := TX8) (N := 27) hx hb hts nX8_next_8 tyX8 tyX8_ok nmX8 hown hK hP hD hS 0 rfl rfl 15 (by decide) (hts _ qX8_next_4) (fun _ h9 => h9) rfl (by decide +kernel) rfl rfl (Nat.le_of_ble_eq_true rfl) dX8_next_64 (fun H locs hP hD hS => ?_)
      have hP : va_P (dC, dI) vwCl (wcM cI cZ o0 a0 sn53 t0) H := by rw [esn53]; exact hP
      have hD : va_D A (wcM cI cZ o0 a0 sn53 t0) := by rw [esn53]; exact hD
      refine lv_goto (tgt := 196) hx hb dX8_next_67 (by decide) ?_
      exact kj16 sn53 (q_s1 hf) _ _ hP hD hS _ (lv_sub hl [1] rfl)
  have aihn2 : ∀ n2 : Nat, ∀ sl1 : St, fX8_next_L0 n2 sl1 = some oz3 → ∀ (H : Heap) (locs : List Loc), va_P (dC, dI) vwCl (wcM cI cZ o0 a0 sl1 t0) H → va_D A (wcM cI cZ o0 a0 sl1 t0) → va_S A s.heap H locs → ∀ ls : Array Slot, lv_has ls 2 [(0, .ref o0)] → W p l e ({ frames := 1, cells := 0, slots := 0, locals := 21 } : Room) s m [.ref o0].toArray below meth c H locs 0 0 (MQ below (qvW (dC, dI) (q_ty cI cB cZ) (wcM cI cZ o0 a0 s0 t0) (wcM cI cZ o0 a0 z0 t0) sz) [.ref o0].toArray s 0 0 (va_A (wcM cI cZ o0 a0 s0 t0) sz)) (F0 m 0 ls []) := by
    intro n2
    induction n2 with
    | zero =>
      intro sl1 hf
      exact q_no hf
    | succ n2 ihn2 =>
      intro sl1 hf H locs hP hD hS ls hl
      rw [fX8_next_L0] at hf
      refine lv_aload_n hx hb dX8_next_0 rfl (lv_at hl 0 rfl) ?_
      refine lv_aload_n hx hb dX8_next_1 rfl (lv_at hl 0 rfl) ?_
      refine va_get (D := (dC, dI)) (ci := 8) (v := .int (sl1 14 0)) (C := RX8) (T := TX8) (N := 27) hx hb hts nX8_next_8 hown hK hP 0 rfl rfl 14 (by decide) (hts _ qX8_next_1) (fun _ h9 => h9) rfl dX8_next_2 ?_
      obtain ⟨r4, h5, hf⟩ := q_b1o hf
      refine q_roVi (As := [.int (sl1 14 0)]) (rest := []) (ci := 8) ⟨hx, hb, hml, hown, hts⟩ (kX8_byteAt l dC dI cI cB cZ o0 a0 sl1 t0 (sl1 14 0) r4 h5) (cwV 1 hts gX8_next_X8_byteAt rfl rfl rfl hdX8_byteAt ⟨Nat.le_of_ble_eq_true rfl, Nat.le_of_ble_eq_true rfl⟩) hK hP rfl rfl rfl hl.1 rfl (Nat.le_of_ble_eq_true rfl) dX8_next_5 ⟨Nat.zero_le _, Nat.zero_le _⟩ ?_
      refine lv_bipush (v := 32) hx hb dX8_next_8 (by decide) ?_
      refine lv_icmp_eq (tgt := 26) hx hb dX8_next_10 (by decide) (fun c6 => ?_) (fun c6 => ?_)
      · have hf := q_t c6 hf
        refine lv_aload_n hx hb dX8_next_26 rfl (lv_at hl 0 rfl) ?_
        refine lv_dup hx hb dX8_next_27 rfl ?_
        refine va_get (D := (dC, dI)) (ci := 8) (v := .int (sl1 14 0)) (C := RX8) (T := TX8) (N := 27) hx hb hts nX8_next_8 hown hK hP 0 rfl rfl 14 (by decide) (hts _ qX8_next_1) (fun _ h9 => h9) rfl dX8_next_28 ?_
        refine lv_iconst (v := 1) hx hb dX8_next_31 (by decide) ?_
        refine lv_iadd hx hb dX8_next_32 ?_
        obtain ⟨sn7, esn7, hf⟩ := q_lto hf
        refine va_put (D := (dC, dI)) (ci := 8) (v := .int ((sl1 14 0) + (1 : Int32))) (ty := .int) (C := RX8) (T := TX8) (N := 27) hx hb hts nX8_next_8 tyX8 tyX8_ok nmX8 hown hK hP hD hS 0 rfl rfl 14 (by decide) (hts _ qX8_next_1) (fun _ h9 => h9) rfl (by decide +kernel) rfl rfl (Nat.le_of_ble_eq_true rfl) dX8_next_33 (fun H locs hP hD hS => ?_)
        have hP : va_P (dC, dI) vwCl (wcM cI cZ o0 a0 sn7 t0) H := by rw [esn7]; exact hP
        have hD : va_D A (wcM cI cZ o0 a0 sn7 t0) := by rw [esn7]; exact hD
        refine lv_goto (tgt := 0) hx hb dX8_next_36 (by decide) ?_
        exact ihn2 sn7 hf _ _ hP hD hS _ hl
      · have hf := q_f c6 hf
        refine lv_aload_n hx hb dX8_next_13 rfl (lv_at hl 0 rfl) ?_
        refine lv_aload_n hx hb dX8_next_14 rfl (lv_at hl 0 rfl) ?_
        refine va_get (D := (dC, dI)) (ci := 8) (v := .int (sl1 14 0)) (C := RX8) (T := TX8) (N := 27) hx hb hts nX8_next_8 hown hK hP 0 rfl rfl 14 (by decide) (hts _ qX8_next_1) (fun _ h9 => h9) rfl dX8_next_15 ?_
        obtain ⟨r8, h9, hf⟩ := q_b1o hf
        refine q_roVi (As := [.int (sl1 14 0)]) (rest := []) (ci := 8) ⟨hx, hb, hml, hown, hts⟩ (kX8_byteAt l dC dI cI cB cZ o0 a0 sl1 t0 (sl1 14 0) r8 h9) (cwV 1 hts gX8_next_X8_byteAt rfl rfl rfl hdX8_byteAt ⟨Nat.le_of_ble_eq_true rfl, Nat.le_of_ble_eq_true rfl⟩) hK hP rfl rfl rfl hl.1 rfl (Nat.le_of_ble_eq_true rfl) dX8_next_18 ⟨Nat.zero_le _, Nat.zero_le _⟩ ?_
        refine lv_bipush (v := 10) hx hb dX8_next_21 (by decide) ?_
        refine lv_icmp_ne (tgt := 39) hx hb dX8_next_23 (by decide) (fun c10 => ?_) (fun c10 => ?_)
        · have hf := q_f c10 hf
          exact kxn2 sl1 (q_s1 hf) _ _ hP hD hS _ hl
        · have hf := q_t c10 hf
          refine lv_aload_n hx hb dX8_next_26 rfl (lv_at hl 0 rfl) ?_
          refine lv_dup hx hb dX8_next_27 rfl ?_
          refine va_get (D := (dC, dI)) (ci := 8) (v := .int (sl1 14 0)) (C := RX8) (T := TX8) (N := 27) hx hb hts nX8_next_8 hown hK hP 0 rfl rfl 14 (by decide) (hts _ qX8_next_1) (fun _ h9 => h9) rfl dX8_next_28 ?_
          refine lv_iconst (v := 1) hx hb dX8_next_31 (by decide) ?_
          refine lv_iadd hx hb dX8_next_32 ?_
          obtain ⟨sn11, esn11, hf⟩ := q_lto hf
          refine va_put (D := (dC, dI)) (ci := 8) (v := .int ((sl1 14 0) + (1 : Int32))) (ty := .int) (C := RX8) (T := TX8) (N := 27) hx hb hts nX8_next_8 tyX8 tyX8_ok nmX8 hown hK hP hD hS 0 rfl rfl 14 (by decide) (hts _ qX8_next_1) (fun _ h9 => h9) rfl (by decide +kernel) rfl rfl (Nat.le_of_ble_eq_true rfl) dX8_next_33 (fun H locs hP hD hS => ?_)
          have hP : va_P (dC, dI) vwCl (wcM cI cZ o0 a0 sn11 t0) H := by rw [esn11]; exact hP
          have hD : va_D A (wcM cI cZ o0 a0 sn11 t0) := by rw [esn11]; exact hD
          refine lv_goto (tgt := 0) hx hb dX8_next_36 (by decide) ?_
          exact ihn2 sn11 hf _ _ hP hD hS _ hl
  exact aihn2 5000 s0 hqn2 _ _ hP hD hS _ hl
theorem hdX8_begin : yX8_begin.cls = RX8 ∧ yX8_begin.cls ≠ "java/lang/invoke/MethodHandle" ∧ yX8_begin.cls ≠ "java/lang/invoke/VarHandle" ∧ (parseMethodDescriptor yX8_begin.desc).map (fun d => d.parameters.length) = some 0 := by decide +kernel
theorem qX8_begin_1 : (Cond.fieldLink RX8 70 "DeadAskedModel" "taped" "I") ∈ wsX8_begin := List.mem_of_getElem? (i := 1) (by decide +kernel)
theorem qX8_begin_2 : (Cond.fieldLink RX8 77 "DeadAskedModel" "length" "I") ∈ wsX8_begin := List.mem_of_getElem? (i := 2) (by decide +kernel)
theorem qX8_begin_3 : (Cond.fieldLink RX8 81 "DeadAskedModel" "cursor" "I") ∈ wsX8_begin := List.mem_of_getElem? (i := 3) (by decide +kernel)
theorem qX8_begin_4 : (Cond.fieldLink RX8 103 "DeadAskedModel" "fault" "I") ∈ wsX8_begin := List.mem_of_getElem? (i := 4) (by decide +kernel)
theorem nX8_begin_8 : ∀ w ∈ u_ws RX8 TX8 27, w ∈ wsX8_begin := fun _ h => (List.mem_cons_of_mem _ (List.mem_append_right _ h))
set_option maxHeartbeats 4000000 in
set_option maxRecDepth 100000 in
theorem kX8_begin (o0 : Nat) (a0 : Nat → Nat) (s0 : St) (t0 : Lt) (sz : Nat) (z0 : St) (hf : fX8_begin s0 = some z0) : Met l yX8_begin wsX8_begin ({ frames := 2, cells := 0, slots := 0, locals := 42 } : Room) (pcW (dC, dI) (q_ty cI cB cZ) [.ref o0] (wcM cI cZ o0 a0 s0 t0) sz) (qvW (dC, dI) (q_ty cI cB cZ) (wcM cI cZ o0 a0 s0 t0) (wcM cI cZ o0 a0 z0 t0) sz) 0 0 (va_A (wcM cI cZ o0 a0 s0 t0) sz) := by
  refine q_rwM (cc := cX8_begin) (maxL := 1) (ret := none) (by decide +kernel) rfl (Nat.le_of_ble_eq_true rfl) ?_
  intro p e s m below meth c hx hb hr hlk hml hown hts hK A H hAe hH hsz hP hD hA hS ls hl
  have hown : s.vm.findClass RX8 = some m.cls := hown
  have hl : lv_has ls 1 [(0, .ref o0)] := hl
  unfold fX8_begin at hf
  refine lv_aload_n hx hb dX8_begin_0 rfl (lv_at hl 0 rfl) ?_
  refine lv_aload_n hx hb dX8_begin_1 rfl (lv_at hl 0 rfl) ?_
  refine va_get (D := (dC, dI)) (ci := 8) (v := .int (s0 11 0)) (C := RX8) (T := TX8) (N := 27) hx hb hts nX8_begin_8 hown hK hP 0 rfl rfl 11 (by decide) (hts _ qX8_begin_1) (fun _ h9 => h9) rfl dX8_begin_2 ?_
  obtain ⟨sn1, esn1, hf⟩ := q_lto hf
  refine va_put (D := (dC, dI)) (ci := 8) (v := .int (s0 11 0)) (ty := .int) (C := RX8) (T := TX8) (N := 27) hx hb hts nX8_begin_8 tyX8 tyX8_ok nmX8 hown hK hP hD hS 0 rfl rfl 13 (by decide) (hts _ qX8_begin_2) (fun _ h9 => h9) rfl (by decide +kernel) rfl rfl (Nat.le_of_ble_eq_true rfl) dX8_begin_5 (fun H locs hP hD hS => ?_)
  have hP : va_P (dC, dI) vwCl (wcM cI cZ o0 a0 sn1 t0) H := by rw [esn1]; exact hP
  have hD : va_D A (wcM cI cZ o0 a0 sn1 t0) := by rw [esn1]; exact hD
  refine lv_aload_n hx hb dX8_begin_8 rfl (lv_at hl 0 rfl) ?_
  refine lv_iconst (v := 0) hx hb dX8_begin_9 (by decide) ?_
  obtain ⟨sn2, esn2, hf⟩ := q_lto hf
  refine va_put (D := (dC, dI)) (ci := 8) (v := .int (0 : Int32)) (ty := .int) (C := RX8) (T := TX8) (N := 27) hx hb hts nX8_begin_8 tyX8 tyX8_ok nmX8 hown hK hP hD hS 0 rfl rfl 11 (by decide) (hts _ qX8_begin_1) (fun _ h9 => h9) rfl (by decide +kernel) rfl rfl (Nat.le_of_ble_eq_true rfl) dX8_begin_10 (fun H locs hP hD hS => ?_)
  have hP : va_P (dC, dI) vwCl (wcM cI cZ o0 a0 sn2 t0) H := by rw [esn2]; exact hP
  have hD : va_D A (wcM cI cZ o0 a0 sn2 t0) := by rw [esn2]; exact hD
  refine lv_aload_n hx hb dX8_begin_13 rfl (lv_at hl 0 rfl) ?_
  refine lv_iconst (v := 0) hx hb dX8_begin_14 (by decide) ?_
  obtain ⟨sn3, esn3, hf⟩ := q_lto hf
  refine va_put (D := (dC, dI)) (ci := 8) (v := .int (0 : Int32)) (ty := .int) (C := RX8) (T := TX8) (N := 27) hx hb hts nX8_begin_8 tyX8 tyX8_ok nmX8 hown hK hP hD hS 0 rfl rfl 14 (by decide) (hts _ qX8_begin_3) (fun _ h9 => h9) rfl (by decide +kernel) rfl rfl (Nat.le_of_ble_eq_true rfl) dX8_begin_15 (fun H locs hP hD hS => ?_)
  have hP : va_P (dC, dI) vwCl (wcM cI cZ o0 a0 sn3 t0) H := by rw [esn3]; exact hP
  have hD : va_D A (wcM cI cZ o0 a0 sn3 t0) := by rw [esn3]; exact hD
  refine lv_aload_n hx hb dX8_begin_18 rfl (lv_at hl 0 rfl) ?_
  refine lv_iconst (v := 0) hx hb dX8_begin_19 (by decide) ?_
  obtain ⟨sn4, esn4, hf⟩ := q_lto hf
  refine va_put (D := (dC, dI)) (ci := 8) (v := .int (0 : Int32)) (ty := .int) (C := RX8) (T := TX8) (N := 27) hx hb hts nX8_begin_8 tyX8 tyX8_ok nmX8 hown hK hP hD hS 0 rfl rfl 18 (by decide) (hts _ qX8_begin_4) (fun _ h9 => h9) rfl (by decide +kernel) rfl rfl (Nat.le_of_ble_eq_true rfl) dX8_begin_20 (fun H locs hP hD hS => ?_)
  have hP : va_P (dC, dI) vwCl (wcM cI cZ o0 a0 sn4 t0) H := by rw [esn4]; exact hP
  have hD : va_D A (wcM cI cZ o0 a0 sn4 t0) := by rw [esn4]; exact hD
  refine lv_aload_n hx hb dX8_begin_23 rfl (lv_at hl 0 rfl) ?_
  obtain ⟨sc5, h6, hf⟩ := q_b1o hf
  refine q_rwVv (As := []) (rest := []) (ci := 8) (wr := []) (w2 := (wcM cI cZ o0 a0 sc5 t0)) ⟨hx, hb, hml, hown, hts⟩ (kX8_next l dC dI cI cB cZ o0 a0 sn4 t0 H.size sc5 h6) (cwV 0 hts gX8_begin_X8_next rfl rfl rfl hdX8_next ⟨Nat.le_of_ble_eq_true rfl, Nat.le_of_ble_eq_true rfl⟩) hK hP hD hS hA [0, 1, 2, 3, 4, 5, 6, 7, 8, 9, 10] [] [0, 1, 2, 3, 4, 5, 6, 7, 8, 9, 10] rfl rfl (by decide) (by decide) (by decide) rfl (by decide) rfl rfl rfl hl.1 rfl (Nat.le_of_ble_eq_true rfl) dX8_begin_24 ⟨Nat.zero_le _, Nat.zero_le _⟩ (fun H locs hP hD hS => ?_)
  have ee0 := q_s1 hf
  subst ee0
  exact q_wretV hx hb hr hlk hAe hK hP hD hS dX8_begin_27
theorem hdX8_bad : yX8_bad.cls = RX8 ∧ yX8_bad.cls ≠ "java/lang/invoke/MethodHandle" ∧ yX8_bad.cls ≠ "java/lang/invoke/VarHandle" ∧ (parseMethodDescriptor yX8_bad.desc).map (fun d => d.parameters.length) = some 1 := by decide +kernel
theorem qX8_bad_1 : (Cond.fieldLink RX8 103 "DeadAskedModel" "fault" "I") ∈ wsX8_bad := List.mem_of_getElem? (i := 1) (by decide +kernel)
theorem qX8_bad_2 : (Cond.fieldLink RX8 88 "DeadAskedModel" "start" "I") ∈ wsX8_bad := List.mem_of_getElem? (i := 2) (by decide +kernel)
theorem qX8_bad_3 : (Cond.fieldLink RX8 109 "DeadAskedModel" "faultAt" "I") ∈ wsX8_bad := List.mem_of_getElem? (i := 3) (by decide +kernel)
theorem nX8_bad_8 : ∀ w ∈ u_ws RX8 TX8 27, w ∈ wsX8_bad := fun _ h => (List.mem_cons_of_mem _ (List.mem_append_right _ h))
set_option maxHeartbeats 4000000 in
set_option maxRecDepth 100000 in
theorem kX8_bad (o0 : Nat) (a0 : Nat → Nat) (s0 : St) (t0 : Lt) (p1 : Int32) (sz : Nat) (z0 : St) (hf : fX8_bad s0 p1 = some z0) : Met l yX8_bad wsX8_bad ({ frames := 0, cells := 0, slots := 0, locals := 0 } : Room) (pcW (dC, dI) (q_ty cI cB cZ) [.ref o0, .int p1] (wcM cI cZ o0 a0 s0 t0) sz) (qvW (dC, dI) (q_ty cI cB cZ) (wcM cI cZ o0 a0 s0 t0) (wcM cI cZ o0 a0 z0 t0) sz) 0 0 (va_A (wcM cI cZ o0 a0 s0 t0) sz) := by
  refine q_rwM (cc := cX8_bad) (maxL := 2) (ret := none) (by decide +kernel) rfl (Nat.le_of_ble_eq_true rfl) ?_
  intro p e s m below meth c hx hb hr hlk hml hown hts hK A H hAe hH hsz hP hD hA hS ls hl
  have hown : s.vm.findClass RX8 = some m.cls := hown
  have hl : lv_has ls 2 [(0, .ref o0), (1, .int p1)] := hl
  unfold fX8_bad at hf
  refine lv_aload_n hx hb dX8_bad_0 rfl (lv_at hl 0 rfl) ?_
  refine va_get (D := (dC, dI)) (ci := 8) (v := .int (s0 18 0)) (C := RX8) (T := TX8) (N := 27) hx hb hts nX8_bad_8 hown hK hP 0 rfl rfl 18 (by decide) (hts _ qX8_bad_1) (fun _ h9 => h9) rfl dX8_bad_1 ?_
  refine lv_if_ne (tgt := 20) hx hb dX8_bad_4 (by decide) (fun c1 => ?_) (fun c1 => ?_)
  · have hf := q_f c1 hf
    have ee0 := q_s1 hf
    subst ee0
    exact q_wretV hx hb hr hlk hAe hK hP hD hS dX8_bad_20
  · have hf := q_t c1 hf
    refine lv_aload_n hx hb dX8_bad_7 rfl (lv_at hl 0 rfl) ?_
    refine lv_iload_n hx hb dX8_bad_8 rfl (lv_at hl 1 rfl) ?_
    obtain ⟨sn2, esn2, hf⟩ := q_lto hf
    refine va_put (D := (dC, dI)) (ci := 8) (v := .int p1) (ty := .int) (C := RX8) (T := TX8) (N := 27) hx hb hts nX8_bad_8 tyX8 tyX8_ok nmX8 hown hK hP hD hS 0 rfl rfl 18 (by decide) (hts _ qX8_bad_1) (fun _ h9 => h9) rfl (by decide +kernel) rfl rfl (Nat.le_of_ble_eq_true rfl) dX8_bad_9 (fun H locs hP hD hS => ?_)
    have hP : va_P (dC, dI) vwCl (wcM cI cZ o0 a0 sn2 t0) H := by rw [esn2]; exact hP
    have hD : va_D A (wcM cI cZ o0 a0 sn2 t0) := by rw [esn2]; exact hD
    refine lv_aload_n hx hb dX8_bad_12 rfl (lv_at hl 0 rfl) ?_
    refine lv_aload_n hx hb dX8_bad_13 rfl (lv_at hl 0 rfl) ?_
    refine va_get (D := (dC, dI)) (ci := 8) (v := .int (sn2 16 0)) (C := RX8) (T := TX8) (N := 27) hx hb hts nX8_bad_8 hown hK hP 0 rfl rfl 16 (by decide) (hts _ qX8_bad_2) (fun _ h9 => h9) rfl dX8_bad_14 ?_
    obtain ⟨sn3, esn3, hf⟩ := q_lto hf
    refine va_put (D := (dC, dI)) (ci := 8) (v := .int (sn2 16 0)) (ty := .int) (C := RX8) (T := TX8) (N := 27) hx hb hts nX8_bad_8 tyX8 tyX8_ok nmX8 hown hK hP hD hS 0 rfl rfl 19 (by decide) (hts _ qX8_bad_3) (fun _ h9 => h9) rfl (by decide +kernel) rfl rfl (Nat.le_of_ble_eq_true rfl) dX8_bad_17 (fun H locs hP hD hS => ?_)
    have hP : va_P (dC, dI) vwCl (wcM cI cZ o0 a0 sn3 t0) H := by rw [esn3]; exact hP
    have hD : va_D A (wcM cI cZ o0 a0 sn3 t0) := by rw [esn3]; exact hD
    have ee0 := q_s1 hf
    subst ee0
    exact q_wretV hx hb hr hlk hAe hK hP hD hS dX8_bad_20
theorem hdX8_must : yX8_must.cls = RX8 ∧ yX8_must.cls ≠ "java/lang/invoke/MethodHandle" ∧ yX8_must.cls ≠ "java/lang/invoke/VarHandle" ∧ (parseMethodDescriptor yX8_must.desc).map (fun d => d.parameters.length) = some 1 := by decide +kernel
theorem qX8_must_1 : (Cond.fieldLink RX8 103 "DeadAskedModel" "fault" "I") ∈ wsX8_must := List.mem_of_getElem? (i := 1) (by decide +kernel)
theorem nX8_must_8 : ∀ w ∈ u_ws RX8 TX8 27, w ∈ wsX8_must := fun _ h => (List.mem_cons_of_mem _ (List.mem_append_right _ h))
set_option maxHeartbeats 4000000 in
set_option maxRecDepth 100000 in
theorem kX8_must (o0 : Nat) (a0 : Nat → Nat) (s0 : St) (t0 : Lt) (p1 : Int32) (sz : Nat) (z0 : St) (hf : fX8_must s0 p1 = some z0) : Met l yX8_must wsX8_must ({ frames := 2, cells := 0, slots := 0, locals := 42 } : Room) (pcW (dC, dI) (q_ty cI cB cZ) [.ref o0, .int p1] (wcM cI cZ o0 a0 s0 t0) sz) (qvW (dC, dI) (q_ty cI cB cZ) (wcM cI cZ o0 a0 s0 t0) (wcM cI cZ o0 a0 z0 t0) sz) 0 0 (va_A (wcM cI cZ o0 a0 s0 t0) sz) := by
  refine q_rwM (cc := cX8_must) (maxL := 2) (ret := none) (by decide +kernel) rfl (Nat.le_of_ble_eq_true rfl) ?_
  intro p e s m below meth c hx hb hr hlk hml hown hts hK A H hAe hH hsz hP hD hA hS ls hl
  have hown : s.vm.findClass RX8 = some m.cls := hown
  have hl : lv_has ls 2 [(0, .ref o0), (1, .int p1)] := hl
  unfold fX8_must at hf
  refine lv_iload_n hx hb dX8_must_0 rfl (lv_at hl 1 rfl) ?_
  obtain ⟨osj1, hqj2, hf⟩ := q_b1o hf
  have kj2 : ∀ sj1 : St, sj1 = osj1 → ∀ (H : Heap) (locs : List Loc), va_P (dC, dI) vwCl (wcM cI cZ o0 a0 sj1 t0) H → va_D A (wcM cI cZ o0 a0 sj1 t0) → va_S A s.heap H locs → ∀ ls : Array Slot, lv_has ls 2 [(0, .ref o0)] → W p l e ({ frames := 2, cells := 0, slots := 0, locals := 42 } : Room) s m [.ref o0, .int p1].toArray below meth c H locs 0 0 (MQ below (qvW (dC, dI) (q_ty cI cB cZ) (wcM cI cZ o0 a0 s0 t0) (wcM cI cZ o0 a0 z0 t0) sz) [.ref o0, .int p1].toArray s 0 0 (va_A (wcM cI cZ o0 a0 s0 t0) sz)) (F0 m 9 ls []) := by
    intro sj1 esj1 H locs hP hD hS ls hl
    subst esj1
    refine lv_aload_n hx hb dX8_must_9 rfl (lv_at hl 0 rfl) ?_
    refine va_get (D := (dC, dI)) (ci := 8) (v := .int (sj1 18 0)) (C := RX8) (T := TX8) (N := 27) hx hb hts nX8_must_8 hown hK hP 0 rfl rfl 18 (by decide) (hts _ qX8_must_1) (fun _ h9 => h9) rfl dX8_must_10 ?_
    refine lv_if_ne (tgt := 20) hx hb dX8_must_13 (by decide) (fun c3 => ?_) (fun c3 => ?_)
    · have hf := q_f c3 hf
      have ee0 := q_s1 hf
      subst ee0
      exact q_wretV hx hb hr hlk hAe hK hP hD hS dX8_must_20
    · have hf := q_t c3 hf
      refine lv_aload_n hx hb dX8_must_16 rfl (lv_at hl 0 rfl) ?_
      obtain ⟨sc4, h5, hf⟩ := q_b1o hf
      refine q_rwVv (As := []) (rest := []) (ci := 8) (wr := []) (w2 := (wcM cI cZ o0 a0 sc4 t0)) ⟨hx, hb, hml, hown, hts⟩ (kX8_next l dC dI cI cB cZ o0 a0 sj1 t0 H.size sc4 h5) (cwV 0 hts gX8_must_X8_next rfl rfl rfl hdX8_next ⟨Nat.le_of_ble_eq_true rfl, Nat.le_of_ble_eq_true rfl⟩) hK hP hD hS hA [0, 1, 2, 3, 4, 5, 6, 7, 8, 9, 10] [] [0, 1, 2, 3, 4, 5, 6, 7, 8, 9, 10] rfl rfl (by decide) (by decide) (by decide) rfl (by decide) rfl rfl rfl hl.1 rfl (Nat.le_of_ble_eq_true rfl) dX8_must_17 ⟨Nat.zero_le _, Nat.zero_le _⟩ (fun H locs hP hD hS => ?_)
      have ee0 := q_s1 hf
      subst ee0
      exact q_wretV hx hb hr hlk hAe hK hP hD hS dX8_must_20
  have hf := hqj2
  refine lv_if_ne (tgt := 9) hx hb dX8_must_1 (by decide) (fun c6 => ?_) (fun c6 => ?_)
  · have hf := q_f c6 hf
    exact kj2 s0 (q_s1 hf) _ _ hP hD hS _ (lv_sub hl [0] rfl)
  · have hf := q_t c6 hf
    refine lv_aload_n hx hb dX8_must_4 rfl (lv_at hl 0 rfl) ?_
    refine lv_iconst (v := 1) hx hb dX8_must_5 (by decide) ?_
    obtain ⟨sc7, h8, hf⟩ := q_b1o hf
    refine q_rwVv (As := [.int (1 : Int32)]) (rest := []) (ci := 8) (wr := []) (w2 := (wcM cI cZ o0 a0 sc7 t0)) ⟨hx, hb, hml, hown, hts⟩ (kX8_bad l dC dI cI cB cZ o0 a0 s0 t0 (1 : Int32) H.size sc7 h8) (cwV 1 hts gX8_must_X8_bad rfl rfl rfl hdX8_bad ⟨Nat.le_of_ble_eq_true rfl, Nat.le_of_ble_eq_true rfl⟩) hK hP hD hS hA [0, 1, 2, 3, 4, 5, 6, 7, 8, 9, 10] [] [0, 1, 2, 3, 4, 5, 6, 7, 8, 9, 10] rfl rfl (by decide) (by decide) (by decide) rfl (by decide) rfl rfl rfl hl.1 rfl (Nat.le_of_ble_eq_true rfl) dX8_must_6 ⟨Nat.zero_le _, Nat.zero_le _⟩ (fun H locs hP hD hS => ?_)
    exact kj2 sc7 (q_s1 hf) _ _ hP hD hS _ (lv_sub hl [0] rfl)
theorem hdX8_name : yX8_name.cls = RX8 ∧ yX8_name.cls ≠ "java/lang/invoke/MethodHandle" ∧ yX8_name.cls ≠ "java/lang/invoke/VarHandle" ∧ (parseMethodDescriptor yX8_name.desc).map (fun d => d.parameters.length) = some 0 := by decide +kernel
theorem qX8_name_1 : (Cond.fieldLink RX8 88 "DeadAskedModel" "start" "I") ∈ wsX8_name := List.mem_of_getElem? (i := 1) (by decide +kernel)
theorem qX8_name_2 : (Cond.fieldLink RX8 100 "DeadAskedModel" "till" "I") ∈ wsX8_name := List.mem_of_getElem? (i := 2) (by decide +kernel)
theorem qX8_name_3 : (Cond.fieldLink RX8 91 "DeadAskedModel" "token" "I") ∈ wsX8_name := List.mem_of_getElem? (i := 3) (by decide +kernel)
theorem qX8_name_4 : (Cond.fieldLink RX8 28 "DeadAskedModel" "tape" "[I") ∈ wsX8_name := List.mem_of_getElem? (i := 4) (by decide +kernel)
theorem qX8_name_5 : (Cond.fieldLink RX8 103 "DeadAskedModel" "fault" "I") ∈ wsX8_name := List.mem_of_getElem? (i := 5) (by decide +kernel)
theorem nX8_name_8 : ∀ w ∈ u_ws RX8 TX8 27, w ∈ wsX8_name := fun _ h => (List.mem_cons_of_mem _ (List.mem_append_right _ h))
set_option maxHeartbeats 4000000 in
set_option maxRecDepth 100000 in
theorem kX8_name (o0 : Nat) (a0 : Nat → Nat) (s0 : St) (t0 : Lt) (r : Int64) (hf : fX8_name s0 = some r) : Met l yX8_name wsX8_name ({ frames := 0, cells := 0, slots := 0, locals := 0 } : Room) (pcR (dC, dI) (q_ty cI cB cZ) [.ref o0] (wcM cI cZ o0 a0 s0 t0)) (qlR r) 0 0 (fun _ => False) := by
  refine q_roM (cc := cX8_name) (maxL := 4) (ret := (some .long)) (by decide +kernel) rfl (Nat.le_of_ble_eq_true rfl) ?_
  intro p e s m below meth c hx hb hr hlk hml hown hts hK hP ls hl
  have hown : s.vm.findClass RX8 = some m.cls := hown
  have hl : lv_has ls 4 [(0, .ref o0)] := hl
  unfold fX8_name at hf
  refine lv_lconst (v := 0) hx hb dX8_name_0 (by decide) ?_
  refine lv_lstore_n (lv' := [(1, .long (0 : Int64)), (0, .ref o0)]) hx hb dX8_name_1 rfl hl (by decide) rfl (fun ls hl => ?_)
  refine lv_aload_n hx hb dX8_name_2 rfl (lv_at hl 1 rfl) ?_
  refine va_get (D := (dC, dI)) (ci := 8) (v := .int (s0 16 0)) (C := RX8) (T := TX8) (N := 27) hx hb hts nX8_name_8 hown hK hP 0 rfl rfl 16 (by decide) (hts _ qX8_name_1) (fun _ h9 => h9) rfl dX8_name_3 ?_
  refine lv_istore_n (lv' := [(3, .int (s0 16 0)), (1, .long (0 : Int64)), (0, .ref o0)]) hx hb dX8_name_6 rfl hl (by decide) rfl (fun ls hl => ?_)
  obtain ⟨oz4, hqn3, hf⟩ := q_b1o hf
  have kxn3 : ∀ z4 : Int64, z4 = oz4 → ∀ ls : Array Slot, lv_has ls 4 [(1, .long z4), (0, .ref o0)] → W p l e ({ frames := 0, cells := 0, slots := 0, locals := 0 } : Room) s m [.ref o0].toArray below meth c s.heap [] 0 0 (MQ below (qlR r) [.ref o0].toArray s 0 0 (fun _ => False)) (F0 m 56 ls []) := by
    intro z4 ez4 ls hl
    subst ez4
    refine lv_aload_n hx hb dX8_name_56 rfl (lv_at hl 1 rfl) ?_
    refine va_get (D := (dC, dI)) (ci := 8) (v := .int (s0 18 0)) (C := RX8) (T := TX8) (N := 27) hx hb hts nX8_name_8 hown hK hP 0 rfl rfl 18 (by decide) (hts _ qX8_name_5) (fun _ h9 => h9) rfl dX8_name_57 ?_
    refine lv_if_ne (tgt := 67) hx hb dX8_name_60 (by decide) (fun c10 => ?_) (fun c10 => ?_)
    · have hf := q_f c10 hf
      refine lv_lconst (v := 0) hx hb dX8_name_67 (by decide) ?_
      have ee0 := q_s1 hf
      exact q_retL hx hb hr hlk ee0 dX8_name_68
    · have hf := q_t c10 hf
      refine lv_lload_n hx hb dX8_name_63 rfl (lv_at hl 0 rfl) ?_
      refine lv_goto (tgt := 68) hx hb dX8_name_64 (by decide) ?_
      have ee0 := q_s1 hf
      exact q_retL hx hb hr hlk ee0 dX8_name_68
  have aihn3 : ∀ n3 : Nat, ∀ l1_1 : Int64, ∀ l3_2 : Int32, fX8_name_L7 s0 n3 l1_1 l3_2 = some oz4 → ∀ ls : Array Slot, lv_has ls 4 [(3, .int l3_2), (1, .long l1_1), (0, .ref o0)] → W p l e ({ frames := 0, cells := 0, slots := 0, locals := 0 } : Room) s m [.ref o0].toArray below meth c s.heap [] 0 0 (MQ below (qlR r) [.ref o0].toArray s 0 0 (fun _ => False)) (F0 m 7 ls []) := by
    intro n3
    induction n3 with
    | zero =>
      intro l1_1 l3_2 hf
      exact q_no hf
    | succ n3 ihn3 =>
      intro l1_1 l3_2 hf ls hl
      rw [fX8_name_L7] at hf
      refine lv_iload_n hx hb dX8_name_7 rfl (lv_at hl 0 rfl) ?_
      refine lv_aload_n hx hb dX8_name_8 rfl (lv_at hl 2 rfl) ?_
      refine va_get (D := (dC, dI)) (ci := 8) (v := .int (s0 17 0)) (C := RX8) (T := TX8) (N := 27) hx hb hts nX8_name_8 hown hK hP 0 rfl rfl 17 (by decide) (hts _ qX8_name_2) (fun _ h9 => h9) rfl dX8_name_9 ?_
      refine lv_icmp_ge (tgt := 56) hx hb dX8_name_12 (by decide) (fun c5 => ?_) (fun c5 => ?_)
      · have hf := q_t c5 hf
        exact kxn3 l1_1 (q_s1 hf) _ (lv_sub hl [1, 2] rfl)
      · have hf := q_f c5 hf
        refine lv_aload_n hx hb dX8_name_15 rfl (lv_at hl 2 rfl) ?_
        refine va_get (D := (dC, dI)) (ci := 8) (v := .int (s0 15 0)) (C := RX8) (T := TX8) (N := 27) hx hb hts nX8_name_8 hown hK hP 0 rfl rfl 15 (by decide) (hts _ qX8_name_3) (fun _ h9 => h9) rfl dX8_name_16 ?_
        refine lv_iconst (v := 2) hx hb dX8_name_19 (by decide) ?_
        refine lv_icmp_ne (tgt := 56) hx hb dX8_name_20 (by decide) (fun c6 => ?_) (fun c6 => ?_)
        · have hf := q_f c6 hf
          exact kxn3 l1_1 (q_s1 hf) _ (lv_sub hl [1, 2] rfl)
        · have hf := q_t c6 hf
          refine lv_aload_n hx hb dX8_name_23 rfl (lv_at hl 2 rfl) ?_
          refine va_get (D := (dC, dI)) (ci := 8) (v := .int (s0 17 0)) (C := RX8) (T := TX8) (N := 27) hx hb hts nX8_name_8 hown hK hP 0 rfl rfl 17 (by decide) (hts _ qX8_name_2) (fun _ h9 => h9) rfl dX8_name_24 ?_
          refine lv_aload_n hx hb dX8_name_27 rfl (lv_at hl 2 rfl) ?_
          refine va_get (D := (dC, dI)) (ci := 8) (v := .int (s0 16 0)) (C := RX8) (T := TX8) (N := 27) hx hb hts nX8_name_8 hown hK hP 0 rfl rfl 16 (by decide) (hts _ qX8_name_1) (fun _ h9 => h9) rfl dX8_name_28 ?_
          refine lv_isub hx hb dX8_name_31 ?_
          refine lv_bipush (v := 8) hx hb dX8_name_32 (by decide) ?_
          refine lv_icmp_ge (tgt := 56) hx hb dX8_name_34 (by decide) (fun c7 => ?_) (fun c7 => ?_)
          · have hf := q_t c7 hf
            exact kxn3 l1_1 (q_s1 hf) _ (lv_sub hl [1, 2] rfl)
          · have hf := q_f c7 hf
            refine lv_lload_n hx hb dX8_name_37 rfl (lv_at hl 1 rfl) ?_
            refine lv_bipush (v := 8) hx hb dX8_name_38 (by decide) ?_
            refine lv_lshl (v := l1_1 <<< ((8 : Int32).toInt64 &&& 63)) hx hb dX8_name_40 rfl ?_
            refine lv_aload_n hx hb dX8_name_41 rfl (lv_at hl 2 rfl) ?_
            refine va_get (D := (dC, dI)) (ci := 8) (v := .ref (a0 10)) (C := RX8) (T := TX8) (N := 27) hx hb hts nX8_name_8 hown hK hP 0 rfl rfl 10 (by decide) (hts _ qX8_name_4) (fun _ h9 => h9) rfl dX8_name_42 ?_
            refine lv_iload_n hx hb dX8_name_45 rfl (lv_at hl 0 rfl) ?_
            obtain ⟨c8, hf⟩ := q_ck hf
            refine va_iald hx hb hK hP 7 0 rfl rfl c8 dX8_name_46 ?_
            refine lv_i2l (v := (s0 10 l3_2.toNatClampNeg).toInt64) hx hb dX8_name_47 rfl ?_
            refine lv_lor hx hb dX8_name_48 ?_
            obtain ⟨x9, ex9, hf⟩ := q_lto hf
            refine W.eq (g2 := F0 m 49 ls [.long x9]) (by rw [ex9]) ?_
            refine lv_lstore_n (lv' := [(1, .long x9), (3, .int l3_2), (0, .ref o0)]) hx hb dX8_name_49 rfl hl (by decide) rfl (fun ls hl => ?_)
            refine lv_iinc (v := l3_2 + (1 : Int32)) (lv' := [(3, .int (l3_2 + (1 : Int32))), (1, .long x9), (0, .ref o0)]) hx hb dX8_name_50 hl (k := 1) rfl rfl (by decide) rfl (fun ls hl => ?_)
            refine lv_goto (tgt := 7) hx hb dX8_name_53 (by decide) ?_
            exact ihn3 x9 (l3_2 + (1 : Int32)) hf _ hl
  exact aihn3 5000 (0 : Int64) (s0 16 0) hqn3 _ hl
theorem hdX8_figures : yX8_figures.cls = RX8 ∧ yX8_figures.cls ≠ "java/lang/invoke/MethodHandle" ∧ yX8_figures.cls ≠ "java/lang/invoke/VarHandle" ∧ (parseMethodDescriptor yX8_figures.desc).map (fun d => d.parameters.length) = some 0 := by decide +kernel
theorem qX8_figures_1 : (Cond.fieldLink RX8 88 "DeadAskedModel" "start" "I") ∈ wsX8_figures := List.mem_of_getElem? (i := 1) (by decide +kernel)
theorem qX8_figures_2 : (Cond.fieldLink RX8 100 "DeadAskedModel" "till" "I") ∈ wsX8_figures := List.mem_of_getElem? (i := 2) (by decide +kernel)
theorem qX8_figures_3 : (Cond.fieldLink RX8 91 "DeadAskedModel" "token" "I") ∈ wsX8_figures := List.mem_of_getElem? (i := 3) (by decide +kernel)
theorem qX8_figures_4 : (Cond.fieldLink RX8 28 "DeadAskedModel" "tape" "[I") ∈ wsX8_figures := List.mem_of_getElem? (i := 4) (by decide +kernel)
theorem nX8_figures_8 : ∀ w ∈ u_ws RX8 TX8 27, w ∈ wsX8_figures := fun _ h => (List.mem_cons_of_mem _ (List.mem_append_right _ h))
set_option maxHeartbeats 4000000 in
set_option maxRecDepth 100000 in
theorem kX8_figures (o0 : Nat) (a0 : Nat → Nat) (s0 : St) (t0 : Lt) (r : Int32) (hf : fX8_figures s0 = some r) : Met l yX8_figures wsX8_figures ({ frames := 0, cells := 0, slots := 0, locals := 0 } : Room) (pcR (dC, dI) (q_ty cI cB cZ) [.ref o0] (wcM cI cZ o0 a0 s0 t0)) (qiR r) 0 0 (fun _ => False) := by
  refine q_roM (cc := cX8_figures) (maxL := 3) (ret := (some .int)) (by decide +kernel) rfl (Nat.le_of_ble_eq_true rfl) ?_
  intro p e s m below meth c hx hb hr hlk hml hown hts hK hP ls hl
  have hown : s.vm.findClass RX8 = some m.cls := hown
  have hl : lv_has ls 3 [(0, .ref o0)] := hl
  unfold fX8_figures at hf
  refine lv_iconst (v := 0) hx hb dX8_figures_0 (by decide) ?_
  refine lv_istore_n (lv' := [(1, .int (0 : Int32)), (0, .ref o0)]) hx hb dX8_figures_1 rfl hl (by decide) rfl (fun ls hl => ?_)
  refine lv_aload_n hx hb dX8_figures_2 rfl (lv_at hl 1 rfl) ?_
  refine va_get (D := (dC, dI)) (ci := 8) (v := .int (s0 16 0)) (C := RX8) (T := TX8) (N := 27) hx hb hts nX8_figures_8 hown hK hP 0 rfl rfl 16 (by decide) (hts _ qX8_figures_1) (fun _ h9 => h9) rfl dX8_figures_3 ?_
  refine lv_istore_n (lv' := [(2, .int (s0 16 0)), (1, .int (0 : Int32)), (0, .ref o0)]) hx hb dX8_figures_6 rfl hl (by decide) rfl (fun ls hl => ?_)
  obtain ⟨oz4, hqn3, hf⟩ := q_b1o hf
  have kxn3 : ∀ z4 : Int32, z4 = oz4 → ∀ ls : Array Slot, lv_has ls 3 [(1, .int z4)] → W p l e ({ frames := 0, cells := 0, slots := 0, locals := 0 } : Room) s m [.ref o0].toArray below meth c s.heap [] 0 0 (MQ below (qiR r) [.ref o0].toArray s 0 0 (fun _ => False)) (F0 m 44 ls []) := by
    intro z4 ez4 ls hl
    subst ez4
    refine lv_iload_n hx hb dX8_figures_44 rfl (lv_at hl 0 rfl) ?_
    have ee0 := q_s1 hf
    exact q_retI hx hb hr hlk ee0 dX8_figures_45
  have aihn3 : ∀ n3 : Nat, ∀ l1_1 : Int32, ∀ l2_2 : Int32, fX8_figures_L7 s0 n3 l1_1 l2_2 = some oz4 → ∀ ls : Array Slot, lv_has ls 3 [(2, .int l2_2), (1, .int l1_1), (0, .ref o0)] → W p l e ({ frames := 0, cells := 0, slots := 0, locals := 0 } : Room) s m [.ref o0].toArray below meth c s.heap [] 0 0 (MQ below (qiR r) [.ref o0].toArray s 0 0 (fun _ => False)) (F0 m 7 ls []) := by
    intro n3
    induction n3 with
    | zero =>
      intro l1_1 l2_2 hf
      exact q_no hf
    | succ n3 ihn3 =>
      intro l1_1 l2_2 hf ls hl
      rw [fX8_figures_L7] at hf
      refine lv_iload_n hx hb dX8_figures_7 rfl (lv_at hl 0 rfl) ?_
      refine lv_aload_n hx hb dX8_figures_8 rfl (lv_at hl 2 rfl) ?_
      refine va_get (D := (dC, dI)) (ci := 8) (v := .int (s0 17 0)) (C := RX8) (T := TX8) (N := 27) hx hb hts nX8_figures_8 hown hK hP 0 rfl rfl 17 (by decide) (hts _ qX8_figures_2) (fun _ h9 => h9) rfl dX8_figures_9 ?_
      refine lv_icmp_ge (tgt := 44) hx hb dX8_figures_12 (by decide) (fun c5 => ?_) (fun c5 => ?_)
      · have hf := q_t c5 hf
        exact kxn3 l1_1 (q_s1 hf) _ (lv_sub hl [1] rfl)
      · have hf := q_f c5 hf
        refine lv_aload_n hx hb dX8_figures_15 rfl (lv_at hl 2 rfl) ?_
        refine va_get (D := (dC, dI)) (ci := 8) (v := .int (s0 15 0)) (C := RX8) (T := TX8) (N := 27) hx hb hts nX8_figures_8 hown hK hP 0 rfl rfl 15 (by decide) (hts _ qX8_figures_3) (fun _ h9 => h9) rfl dX8_figures_16 ?_
        refine lv_iconst (v := 3) hx hb dX8_figures_19 (by decide) ?_
        refine lv_icmp_ne (tgt := 44) hx hb dX8_figures_20 (by decide) (fun c6 => ?_) (fun c6 => ?_)
        · have hf := q_f c6 hf
          exact kxn3 l1_1 (q_s1 hf) _ (lv_sub hl [1] rfl)
        · have hf := q_t c6 hf
          refine lv_bipush (v := 10) hx hb dX8_figures_23 (by decide) ?_
          refine lv_iload_n hx hb dX8_figures_25 rfl (lv_at hl 1 rfl) ?_
          refine lv_imul hx hb dX8_figures_26 ?_
          refine lv_aload_n hx hb dX8_figures_27 rfl (lv_at hl 2 rfl) ?_
          refine va_get (D := (dC, dI)) (ci := 8) (v := .ref (a0 10)) (C := RX8) (T := TX8) (N := 27) hx hb hts nX8_figures_8 hown hK hP 0 rfl rfl 10 (by decide) (hts _ qX8_figures_4) (fun _ h9 => h9) rfl dX8_figures_28 ?_
          refine lv_iload_n hx hb dX8_figures_31 rfl (lv_at hl 0 rfl) ?_
          obtain ⟨c7, hf⟩ := q_ck hf
          refine va_iald hx hb hK hP 7 0 rfl rfl c7 dX8_figures_32 ?_
          refine lv_iadd hx hb dX8_figures_33 ?_
          refine lv_bipush (v := 48) hx hb dX8_figures_34 (by decide) ?_
          refine lv_isub hx hb dX8_figures_36 ?_
          obtain ⟨x8, ex8, hf⟩ := q_lto hf
          refine W.eq (g2 := F0 m 37 ls [.int x8]) (by rw [ex8]) ?_
          refine lv_istore_n (lv' := [(1, .int x8), (2, .int l2_2), (0, .ref o0)]) hx hb dX8_figures_37 rfl hl (by decide) rfl (fun ls hl => ?_)
          refine lv_iinc (v := l2_2 + (1 : Int32)) (lv' := [(2, .int (l2_2 + (1 : Int32))), (1, .int x8), (0, .ref o0)]) hx hb dX8_figures_38 hl (k := 1) rfl rfl (by decide) rfl (fun ls hl => ?_)
          refine lv_goto (tgt := 7) hx hb dX8_figures_41 (by decide) ?_
          exact ihn3 x8 (l2_2 + (1 : Int32)) hf _ hl
  exact aihn3 5000 (0 : Int32) (s0 16 0) hqn3 _ hl
theorem hdX8_number : yX8_number.cls = RX8 ∧ yX8_number.cls ≠ "java/lang/invoke/MethodHandle" ∧ yX8_number.cls ≠ "java/lang/invoke/VarHandle" ∧ (parseMethodDescriptor yX8_number.desc).map (fun d => d.parameters.length) = some 2 := by decide +kernel
theorem qX8_number_1 : (Cond.fieldLink RX8 103 "DeadAskedModel" "fault" "I") ∈ wsX8_number := List.mem_of_getElem? (i := 1) (by decide +kernel)
theorem qX8_number_2 : (Cond.fieldLink RX8 91 "DeadAskedModel" "token" "I") ∈ wsX8_number := List.mem_of_getElem? (i := 2) (by decide +kernel)
theorem nX8_number_8 : ∀ w ∈ u_ws RX8 TX8 27, w ∈ wsX8_number := fun _ h => (List.mem_cons_of_mem _ (List.mem_append_right _ h))
set_option maxHeartbeats 4000000 in
set_option maxRecDepth 100000 in
theorem kX8_number (o0 : Nat) (a0 : Nat → Nat) (s0 : St) (t0 : Lt) (p1 : Int32) (p2 : Int32) (sz : Nat) (r : Int32) (z0 : St) (hf : fX8_number s0 p1 p2 = some (r, z0)) : Met l yX8_number wsX8_number ({ frames := 3, cells := 0, slots := 0, locals := 63 } : Room) (pcW (dC, dI) (q_ty cI cB cZ) [.ref o0, .int p1, .int p2] (wcM cI cZ o0 a0 s0 t0) sz) (qiW (dC, dI) (q_ty cI cB cZ) (wcM cI cZ o0 a0 s0 t0) (wcM cI cZ o0 a0 z0 t0) sz r) 0 0 (va_A (wcM cI cZ o0 a0 s0 t0) sz) := by
  refine q_rwM (cc := cX8_number) (maxL := 4) (ret := (some .int)) (by decide +kernel) rfl (Nat.le_of_ble_eq_true rfl) ?_
  intro p e s m below meth c hx hb hr hlk hml hown hts hK A H hAe hH hsz hP hD hA hS ls hl
  have hown : s.vm.findClass RX8 = some m.cls := hown
  have hl : lv_has ls 4 [(0, .ref o0), (1, .int p1), (2, .int p2)] := hl
  unfold fX8_number at hf
  refine lv_aload_n hx hb dX8_number_0 rfl (lv_at hl 0 rfl) ?_
  refine va_get (D := (dC, dI)) (ci := 8) (v := .int (s0 18 0)) (C := RX8) (T := TX8) (N := 27) hx hb hts nX8_number_8 hown hK hP 0 rfl rfl 18 (by decide) (hts _ qX8_number_1) (fun _ h9 => h9) rfl dX8_number_1 ?_
  refine lv_if_le (tgt := 9) hx hb dX8_number_4 (by decide) (fun c1 => ?_) (fun c1 => ?_)
  · have hf := q_t c1 hf
    refine lv_aload_n hx hb dX8_number_9 rfl (lv_at hl 0 rfl) ?_
    obtain ⟨r2, h3, hf⟩ := q_b1o hf
    refine q_roVi (As := []) (rest := []) (ci := 8) ⟨hx, hb, hml, hown, hts⟩ (kX8_figures l dC dI cI cB cZ o0 a0 s0 t0 r2 h3) (cwV 0 hts gX8_number_X8_figures rfl rfl rfl hdX8_figures ⟨Nat.le_of_ble_eq_true rfl, Nat.le_of_ble_eq_true rfl⟩) hK hP rfl rfl rfl hl.1 rfl (Nat.le_of_ble_eq_true rfl) dX8_number_10 ⟨Nat.zero_le _, Nat.zero_le _⟩ ?_
    refine lv_istore_n (lv' := [(3, .int r2), (0, .ref o0), (1, .int p1), (2, .int p2)]) hx hb dX8_number_13 rfl hl (by decide) rfl (fun ls hl => ?_)
    refine lv_aload_n hx hb dX8_number_14 rfl (lv_at hl 1 rfl) ?_
    refine va_get (D := (dC, dI)) (ci := 8) (v := .int (s0 15 0)) (C := RX8) (T := TX8) (N := 27) hx hb hts nX8_number_8 hown hK hP 0 rfl rfl 15 (by decide) (hts _ qX8_number_2) (fun _ h9 => h9) rfl dX8_number_15 ?_
    refine lv_iconst (v := 3) hx hb dX8_number_18 (by decide) ?_
    obtain ⟨osj4, hqj5, hf⟩ := q_b1o hf
    have kj5 : ∀ sj4 : St, sj4 = osj4 → ∀ (H : Heap) (locs : List Loc), va_P (dC, dI) vwCl (wcM cI cZ o0 a0 sj4 t0) H → va_D A (wcM cI cZ o0 a0 sj4 t0) → va_S A s.heap H locs → ∀ ls : Array Slot, lv_has ls 4 [(3, .int r2), (0, .ref o0)] → W p l e ({ frames := 3, cells := 0, slots := 0, locals := 63 } : Room) s m [.ref o0, .int p1, .int p2].toArray below meth c H locs 0 0 (MQ below (qiW (dC, dI) (q_ty cI cB cZ) (wcM cI cZ o0 a0 s0 t0) (wcM cI cZ o0 a0 z0 t0) sz r) [.ref o0, .int p1, .int p2].toArray s 0 0 (va_A (wcM cI cZ o0 a0 s0 t0) sz)) (F0 m 39 ls []) := by
      intro sj4 esj4 H locs hP hD hS ls hl
      subst esj4
      refine lv_aload_n hx hb dX8_number_39 rfl (lv_at hl 1 rfl) ?_
      refine lv_aload_n hx hb dX8_number_40 rfl (lv_at hl 1 rfl) ?_
      refine va_get (D := (dC, dI)) (ci := 8) (v := .int (sj4 15 0)) (C := RX8) (T := TX8) (N := 27) hx hb hts nX8_number_8 hown hK hP 0 rfl rfl 15 (by decide) (hts _ qX8_number_2) (fun _ h9 => h9) rfl dX8_number_41 ?_
      refine lv_iconst (v := 3) hx hb dX8_number_44 (by decide) ?_
      obtain ⟨ov6, hqj7, hf⟩ := q_b1o hf
      have kj7 : ∀ v6 : Int32, v6 = ov6 → ∀ (H : Heap) (locs : List Loc), va_P (dC, dI) vwCl (wcM cI cZ o0 a0 sj4 t0) H → va_D A (wcM cI cZ o0 a0 sj4 t0) → va_S A s.heap H locs → ∀ ls : Array Slot, lv_has ls 4 [(3, .int r2)] → W p l e ({ frames := 3, cells := 0, slots := 0, locals := 63 } : Room) s m [.ref o0, .int p1, .int p2].toArray below meth c H locs 0 0 (MQ below (qiW (dC, dI) (q_ty cI cB cZ) (wcM cI cZ o0 a0 s0 t0) (wcM cI cZ o0 a0 z0 t0) sz r) [.ref o0, .int p1, .int p2].toArray s 0 0 (va_A (wcM cI cZ o0 a0 s0 t0) sz)) (F0 m 53 ls [.int v6, .ref o0]) := by
        intro v6 ev6 H locs hP hD hS ls hl
        subst ev6
        obtain ⟨sc8, h9, hf⟩ := q_b1o hf
        refine q_rwVv (As := [.int v6]) (rest := []) (ci := 8) (wr := []) (w2 := (wcM cI cZ o0 a0 sc8 t0)) ⟨hx, hb, hml, hown, hts⟩ (kX8_must l dC dI cI cB cZ o0 a0 sj4 t0 v6 H.size sc8 h9) (cwV 1 hts gX8_number_X8_must rfl rfl rfl hdX8_must ⟨Nat.le_of_ble_eq_true rfl, Nat.le_of_ble_eq_true rfl⟩) hK hP hD hS hA [0, 1, 2, 3, 4, 5, 6, 7, 8, 9, 10] [] [0, 1, 2, 3, 4, 5, 6, 7, 8, 9, 10] rfl rfl (by decide) (by decide) (by decide) rfl (by decide) rfl rfl rfl hl.1 rfl (Nat.le_of_ble_eq_true rfl) dX8_number_53 ⟨Nat.zero_le _, Nat.zero_le _⟩ (fun H locs hP hD hS => ?_)
        refine lv_iload_n hx hb dX8_number_56 rfl (lv_at hl 0 rfl) ?_
        obtain ⟨ee0, ee1⟩ := q_s2 hf
        subst ee1
        exact q_wretI hx hb hr hlk hAe hK hP hD hS ee0 dX8_number_57
      have hf := hqj7
      refine lv_icmp_ne (tgt := 52) hx hb dX8_number_45 (by decide) (fun c10 => ?_) (fun c10 => ?_)
      · have hf := q_f c10 hf
        refine lv_iconst (v := 0) hx hb dX8_number_52 (by decide) ?_
        exact kj7 (0 : Int32) (q_s1 hf) _ _ hP hD hS _ (lv_sub hl [0] rfl)
      · have hf := q_t c10 hf
        refine lv_iconst (v := 1) hx hb dX8_number_48 (by decide) ?_
        refine lv_goto (tgt := 53) hx hb dX8_number_49 (by decide) ?_
        exact kj7 (1 : Int32) (q_s1 hf) _ _ hP hD hS _ (lv_sub hl [0] rfl)
    have hf := hqj5
    refine lv_icmp_ne (tgt := 39) hx hb dX8_number_19 (by decide) (fun c11 => ?_) (fun c11 => ?_)
    · have hf := q_f c11 hf
      exact kj5 s0 (q_s1 hf) _ _ hP hD hS _ (lv_sub hl [0, 1] rfl)
    · have hf := q_t c11 hf
      refine lv_iload_n hx hb dX8_number_22 rfl (lv_at hl 0 rfl) ?_
      refine lv_i2l (v := r2.toInt64) hx hb dX8_number_23 rfl ?_
      refine lv_iload_n hx hb dX8_number_24 rfl (lv_at hl 2 rfl) ?_
      refine lv_i2l (v := p1.toInt64) hx hb dX8_number_25 rfl ?_
      refine lv_iload_n hx hb dX8_number_26 rfl (lv_at hl 3 rfl) ?_
      refine lv_i2l (v := p2.toInt64) hx hb dX8_number_27 rfl ?_
      obtain ⟨r12, h13, hf⟩ := q_b1o hf
      refine q_roSi (As := [.long r2.toInt64, .long p1.toInt64, .long p2.toInt64]) (rest := []) ⟨hx, hb, hml, hown, hts⟩ (kX8_in l r2.toInt64 p1.toInt64 p2.toInt64 r12 h13) (va_cwS 3 hts gX8_number_X8_in rfl rfl rfl hdX8_in ⟨Nat.le_of_ble_eq_true rfl, Nat.le_of_ble_eq_true rfl⟩) rfl hl.1 rfl (Nat.le_of_ble_eq_true rfl) dX8_number_28 ⟨Nat.zero_le _, Nat.zero_le _⟩ ?_
      refine lv_if_ne (tgt := 39) hx hb dX8_number_31 (by decide) (fun c14 => ?_) (fun c14 => ?_)
      · have hf := q_f c14 hf
        exact kj5 s0 (q_s1 hf) _ _ hP hD hS _ (lv_sub hl [0, 1] rfl)
      · have hf := q_t c14 hf
        refine lv_aload_n hx hb dX8_number_34 rfl (lv_at hl 1 rfl) ?_
        refine lv_iconst (v := 2) hx hb dX8_number_35 (by decide) ?_
        obtain ⟨sc15, h16, hf⟩ := q_b1o hf
        refine q_rwVv (As := [.int (2 : Int32)]) (rest := []) (ci := 8) (wr := []) (w2 := (wcM cI cZ o0 a0 sc15 t0)) ⟨hx, hb, hml, hown, hts⟩ (kX8_bad l dC dI cI cB cZ o0 a0 s0 t0 (2 : Int32) H.size sc15 h16) (cwV 1 hts gX8_number_X8_bad rfl rfl rfl hdX8_bad ⟨Nat.le_of_ble_eq_true rfl, Nat.le_of_ble_eq_true rfl⟩) hK hP hD hS hA [0, 1, 2, 3, 4, 5, 6, 7, 8, 9, 10] [] [0, 1, 2, 3, 4, 5, 6, 7, 8, 9, 10] rfl rfl (by decide) (by decide) (by decide) rfl (by decide) rfl rfl rfl hl.1 rfl (Nat.le_of_ble_eq_true rfl) dX8_number_36 ⟨Nat.zero_le _, Nat.zero_le _⟩ (fun H locs hP hD hS => ?_)
        exact kj5 sc15 (q_s1 hf) _ _ hP hD hS _ (lv_sub hl [0, 1] rfl)
  · have hf := q_f c1 hf
    refine lv_iconst (v := 0) hx hb dX8_number_7 (by decide) ?_
    obtain ⟨ee0, ee1⟩ := q_s2 hf
    subst ee1
    exact q_wretI hx hb hr hlk hAe hK hP hD hS ee0 dX8_number_8
theorem hdX8_kindBy : yX8_kindBy.cls ≠ "java/lang/invoke/MethodHandle" ∧ yX8_kindBy.cls ≠ "java/lang/invoke/VarHandle" ∧ (parseMethodDescriptor yX8_kindBy.desc).map (fun d => d.parameters.length) = some 1 := by decide +kernel
theorem qX8_kindBy_1 : (Cond.constantLong RX8 124 1885692274) ∈ wsX8_kindBy := List.mem_of_getElem? (i := 1) (by decide +kernel)
theorem qX8_kindBy_2 : (Cond.constantLong RX8 126 7239028) ∈ wsX8_kindBy := List.mem_of_getElem? (i := 2) (by decide +kernel)
theorem qX8_kindBy_3 : (Cond.constantLong RX8 128 7299435) ∈ wsX8_kindBy := List.mem_of_getElem? (i := 3) (by decide +kernel)
theorem qX8_kindBy_4 : (Cond.constantLong RX8 130 6386536) ∈ wsX8_kindBy := List.mem_of_getElem? (i := 4) (by decide +kernel)
theorem qX8_kindBy_5 : (Cond.constantLong RX8 132 6711666) ∈ wsX8_kindBy := List.mem_of_getElem? (i := 5) (by decide +kernel)
theorem qX8_kindBy_6 : (Cond.constant RX8 80 (-1000000)) ∈ wsX8_kindBy := List.mem_of_getElem? (i := 6) (by decide +kernel)
set_option maxHeartbeats 4000000 in
set_option maxRecDepth 100000 in
theorem kX8_kindBy (p0 : Int64) (r : Int32) (hf : fX8_kindBy p0 = some r) : Met l yX8_kindBy wsX8_kindBy ({ frames := 0, cells := 0, slots := 0, locals := 0 } : Room) (pcS [.long p0]) (qiR r) 0 0 (fun _ => False) := by
  refine q_roS (cc := cX8_kindBy) (maxL := 2) (ret := (some .int)) (by decide +kernel) rfl (Nat.le_of_ble_eq_true rfl) ?_
  intro p e s m below meth c hx hb hr hlk hml hown hts ls hl
  have hown : s.vm.findClass RX8 = some m.cls := hown
  have hl : lv_has ls 2 [(0, .long p0)] := hl
  unfold fX8_kindBy at hf
  refine lv_lload_n hx hb dX8_kindBy_0 rfl (lv_at hl 0 rfl) ?_
  refine lv_ldc2 (v := 1885692274) hx hb hown (hts _ qX8_kindBy_1) dX8_kindBy_1 ?_
  refine W.lcmp hx hb dX8_kindBy_4 ?_
  refine lv_if_ne (tgt := 12) hx hb dX8_kindBy_5 (by decide) (fun c1 => ?_) (fun c1 => ?_)
  · have hf := q_f c1 hf
    refine lv_lload_n hx hb dX8_kindBy_12 rfl (lv_at hl 0 rfl) ?_
    refine lv_ldc2 (v := 7239028) hx hb hown (hts _ qX8_kindBy_2) dX8_kindBy_13 ?_
    refine W.lcmp hx hb dX8_kindBy_16 ?_
    refine lv_if_ne (tgt := 24) hx hb dX8_kindBy_17 (by decide) (fun c2 => ?_) (fun c2 => ?_)
    · have hf := q_f c2 hf
      refine lv_lload_n hx hb dX8_kindBy_24 rfl (lv_at hl 0 rfl) ?_
      refine lv_ldc2 (v := 7299435) hx hb hown (hts _ qX8_kindBy_3) dX8_kindBy_25 ?_
      refine W.lcmp hx hb dX8_kindBy_28 ?_
      refine lv_if_ne (tgt := 36) hx hb dX8_kindBy_29 (by decide) (fun c3 => ?_) (fun c3 => ?_)
      · have hf := q_f c3 hf
        refine lv_lload_n hx hb dX8_kindBy_36 rfl (lv_at hl 0 rfl) ?_
        refine lv_ldc2 (v := 6386536) hx hb hown (hts _ qX8_kindBy_4) dX8_kindBy_37 ?_
        refine W.lcmp hx hb dX8_kindBy_40 ?_
        refine lv_if_ne (tgt := 48) hx hb dX8_kindBy_41 (by decide) (fun c4 => ?_) (fun c4 => ?_)
        · have hf := q_f c4 hf
          refine lv_lload_n hx hb dX8_kindBy_48 rfl (lv_at hl 0 rfl) ?_
          refine lv_ldc2 (v := 6711666) hx hb hown (hts _ qX8_kindBy_5) dX8_kindBy_49 ?_
          refine W.lcmp hx hb dX8_kindBy_52 ?_
          refine lv_if_ne (tgt := 60) hx hb dX8_kindBy_53 (by decide) (fun c5 => ?_) (fun c5 => ?_)
          · have hf := q_f c5 hf
            refine lv_ldc (v := -1000000) hx hb hown (hts _ qX8_kindBy_6) dX8_kindBy_60 ?_
            have ee0 := q_s1 hf
            exact q_retI hx hb hr hlk ee0 dX8_kindBy_62
          · have hf := q_t c5 hf
            refine lv_iconst (v := 5) hx hb dX8_kindBy_56 (by decide) ?_
            refine lv_goto (tgt := 62) hx hb dX8_kindBy_57 (by decide) ?_
            have ee0 := q_s1 hf
            exact q_retI hx hb hr hlk ee0 dX8_kindBy_62
        · have hf := q_t c4 hf
          refine lv_iconst (v := 4) hx hb dX8_kindBy_44 (by decide) ?_
          refine lv_goto (tgt := 62) hx hb dX8_kindBy_45 (by decide) ?_
          have ee0 := q_s1 hf
          exact q_retI hx hb hr hlk ee0 dX8_kindBy_62
      · have hf := q_t c3 hf
        refine lv_iconst (v := 3) hx hb dX8_kindBy_32 (by decide) ?_
        refine lv_goto (tgt := 62) hx hb dX8_kindBy_33 (by decide) ?_
        have ee0 := q_s1 hf
        exact q_retI hx hb hr hlk ee0 dX8_kindBy_62
    · have hf := q_t c2 hf
      refine lv_iconst (v := 2) hx hb dX8_kindBy_20 (by decide) ?_
      refine lv_goto (tgt := 62) hx hb dX8_kindBy_21 (by decide) ?_
      have ee0 := q_s1 hf
      exact q_retI hx hb hr hlk ee0 dX8_kindBy_62
  · have hf := q_t c1 hf
    refine lv_iconst (v := 1) hx hb dX8_kindBy_8 (by decide) ?_
    refine lv_goto (tgt := 62) hx hb dX8_kindBy_9 (by decide) ?_
    have ee0 := q_s1 hf
    exact q_retI hx hb hr hlk ee0 dX8_kindBy_62
theorem hdX8_mustEnd : yX8_mustEnd.cls = RX8 ∧ yX8_mustEnd.cls ≠ "java/lang/invoke/MethodHandle" ∧ yX8_mustEnd.cls ≠ "java/lang/invoke/VarHandle" ∧ (parseMethodDescriptor yX8_mustEnd.desc).map (fun d => d.parameters.length) = some 0 := by decide +kernel
theorem qX8_mustEnd_1 : (Cond.fieldLink RX8 103 "DeadAskedModel" "fault" "I") ∈ wsX8_mustEnd := List.mem_of_getElem? (i := 1) (by decide +kernel)
theorem qX8_mustEnd_2 : (Cond.fieldLink RX8 91 "DeadAskedModel" "token" "I") ∈ wsX8_mustEnd := List.mem_of_getElem? (i := 2) (by decide +kernel)
theorem nX8_mustEnd_8 : ∀ w ∈ u_ws RX8 TX8 27, w ∈ wsX8_mustEnd := fun _ h => (List.mem_cons_of_mem _ (List.mem_append_right _ h))
set_option maxHeartbeats 4000000 in
set_option maxRecDepth 100000 in
theorem kX8_mustEnd (o0 : Nat) (a0 : Nat → Nat) (s0 : St) (t0 : Lt) (sz : Nat) (z0 : St) (hf : fX8_mustEnd s0 = some z0) : Met l yX8_mustEnd wsX8_mustEnd ({ frames := 3, cells := 0, slots := 0, locals := 63 } : Room) (pcW (dC, dI) (q_ty cI cB cZ) [.ref o0] (wcM cI cZ o0 a0 s0 t0) sz) (qvW (dC, dI) (q_ty cI cB cZ) (wcM cI cZ o0 a0 s0 t0) (wcM cI cZ o0 a0 z0 t0) sz) 0 0 (va_A (wcM cI cZ o0 a0 s0 t0) sz) := by
  refine q_rwM (cc := cX8_mustEnd) (maxL := 1) (ret := none) (by decide +kernel) rfl (Nat.le_of_ble_eq_true rfl) ?_
  intro p e s m below meth c hx hb hr hlk hml hown hts hK A H hAe hH hsz hP hD hA hS ls hl
  have hown : s.vm.findClass RX8 = some m.cls := hown
  have hl : lv_has ls 1 [(0, .ref o0)] := hl
  unfold fX8_mustEnd at hf
  refine lv_aload_n hx hb dX8_mustEnd_0 rfl (lv_at hl 0 rfl) ?_
  refine va_get (D := (dC, dI)) (ci := 8) (v := .int (s0 18 0)) (C := RX8) (T := TX8) (N := 27) hx hb hts nX8_mustEnd_8 hown hK hP 0 rfl rfl 18 (by decide) (hts _ qX8_mustEnd_1) (fun _ h9 => h9) rfl dX8_mustEnd_1 ?_
  refine lv_if_ne (tgt := 24) hx hb dX8_mustEnd_4 (by decide) (fun c1 => ?_) (fun c1 => ?_)
  · have hf := q_f c1 hf
    have ee0 := q_s1 hf
    subst ee0
    exact q_wretV hx hb hr hlk hAe hK hP hD hS dX8_mustEnd_24
  · have hf := q_t c1 hf
    refine lv_aload_n hx hb dX8_mustEnd_7 rfl (lv_at hl 0 rfl) ?_
    refine lv_aload_n hx hb dX8_mustEnd_8 rfl (lv_at hl 0 rfl) ?_
    refine va_get (D := (dC, dI)) (ci := 8) (v := .int (s0 15 0)) (C := RX8) (T := TX8) (N := 27) hx hb hts nX8_mustEnd_8 hown hK hP 0 rfl rfl 15 (by decide) (hts _ qX8_mustEnd_2) (fun _ h9 => h9) rfl dX8_mustEnd_9 ?_
    refine lv_iconst (v := 4) hx hb dX8_mustEnd_12 (by decide) ?_
    obtain ⟨ov2, hqj3, hf⟩ := q_b1o hf
    have kj3 : ∀ v2 : Int32, v2 = ov2 → ∀ (H : Heap) (locs : List Loc), va_P (dC, dI) vwCl (wcM cI cZ o0 a0 s0 t0) H → va_D A (wcM cI cZ o0 a0 s0 t0) → va_S A s.heap H locs → ∀ ls : Array Slot, lv_has ls 1 [] → W p l e ({ frames := 3, cells := 0, slots := 0, locals := 63 } : Room) s m [.ref o0].toArray below meth c H locs 0 0 (MQ below (qvW (dC, dI) (q_ty cI cB cZ) (wcM cI cZ o0 a0 s0 t0) (wcM cI cZ o0 a0 z0 t0) sz) [.ref o0].toArray s 0 0 (va_A (wcM cI cZ o0 a0 s0 t0) sz)) (F0 m 21 ls [.int v2, .ref o0]) := by
      intro v2 ev2 H locs hP hD hS ls hl
      subst ev2
      obtain ⟨sc4, h5, hf⟩ := q_b1o hf
      refine q_rwVv (As := [.int v2]) (rest := []) (ci := 8) (wr := []) (w2 := (wcM cI cZ o0 a0 sc4 t0)) ⟨hx, hb, hml, hown, hts⟩ (kX8_must l dC dI cI cB cZ o0 a0 s0 t0 v2 H.size sc4 h5) (cwV 1 hts gX8_mustEnd_X8_must rfl rfl rfl hdX8_must ⟨Nat.le_of_ble_eq_true rfl, Nat.le_of_ble_eq_true rfl⟩) hK hP hD hS hA [0, 1, 2, 3, 4, 5, 6, 7, 8, 9, 10] [] [0, 1, 2, 3, 4, 5, 6, 7, 8, 9, 10] rfl rfl (by decide) (by decide) (by decide) rfl (by decide) rfl rfl rfl hl.1 rfl (Nat.le_of_ble_eq_true rfl) dX8_mustEnd_21 ⟨Nat.zero_le _, Nat.zero_le _⟩ (fun H locs hP hD hS => ?_)
      have ee0 := q_s1 hf
      subst ee0
      exact q_wretV hx hb hr hlk hAe hK hP hD hS dX8_mustEnd_24
    have hf := hqj3
    refine lv_icmp_ne (tgt := 20) hx hb dX8_mustEnd_13 (by decide) (fun c6 => ?_) (fun c6 => ?_)
    · have hf := q_f c6 hf
      refine lv_iconst (v := 0) hx hb dX8_mustEnd_20 (by decide) ?_
      exact kj3 (0 : Int32) (q_s1 hf) _ _ hP hD hS _ (lv_sub hl [] rfl)
    · have hf := q_t c6 hf
      refine lv_iconst (v := 1) hx hb dX8_mustEnd_16 (by decide) ?_
      refine lv_goto (tgt := 21) hx hb dX8_mustEnd_17 (by decide) ?_
      exact kj3 (1 : Int32) (q_s1 hf) _ _ hP hD hS _ (lv_sub hl [] rfl)
theorem hdX8_begins : yX8_begins.cls = RX8 ∧ yX8_begins.cls ≠ "java/lang/invoke/MethodHandle" ∧ yX8_begins.cls ≠ "java/lang/invoke/VarHandle" ∧ (parseMethodDescriptor yX8_begins.desc).map (fun d => d.parameters.length) = some 2 := by decide +kernel
theorem qX8_begins_1 : (Cond.fieldLink RX8 22 "DeadAskedModel" "fresh" "[I") ∈ wsX8_begins := List.mem_of_getElem? (i := 1) (by decide +kernel)
theorem nX8_begins_8 : ∀ w ∈ u_ws RX8 TX8 27, w ∈ wsX8_begins := fun _ h => (List.mem_cons_of_mem _ (List.mem_append_right _ h))
set_option maxHeartbeats 4000000 in
set_option maxRecDepth 100000 in
theorem kX8_begins (o0 : Nat) (a0 : Nat → Nat) (s0 : St) (t0 : Lt) (p1 : Int32) (p2 : Int32) (sz : Nat) (z0 : St) (hf : fX8_begins s0 p1 p2 = some z0) : Met l yX8_begins wsX8_begins ({ frames := 3, cells := 0, slots := 0, locals := 63 } : Room) (pcW (dC, dI) (q_ty cI cB cZ) [.ref o0, .int p1, .int p2] (wcM cI cZ o0 a0 s0 t0) sz) (qvW (dC, dI) (q_ty cI cB cZ) (wcM cI cZ o0 a0 s0 t0) (wcM cI cZ o0 a0 z0 t0) sz) 0 0 (va_A (wcM cI cZ o0 a0 s0 t0) sz) := by
  refine q_rwM (cc := cX8_begins) (maxL := 3) (ret := none) (by decide +kernel) rfl (Nat.le_of_ble_eq_true rfl) ?_
  intro p e s m below meth c hx hb hr hlk hml hown hts hK A H hAe hH hsz hP hD hA hS ls hl
  have hown : s.vm.findClass RX8 = some m.cls := hown
  have hl : lv_has ls 3 [(0, .ref o0), (1, .int p1), (2, .int p2)] := hl
  unfold fX8_begins at hf
  refine lv_aload_n hx hb dX8_begins_0 rfl (lv_at hl 0 rfl) ?_
  refine va_get (D := (dC, dI)) (ci := 8) (v := .ref (a0 6)) (C := RX8) (T := TX8) (N := 27) hx hb hts nX8_begins_8 hown hK hP 0 rfl rfl 6 (by decide) (hts _ qX8_begins_1) (fun _ h9 => h9) rfl dX8_begins_1 ?_
  refine lv_iload_n hx hb dX8_begins_4 rfl (lv_at hl 1 rfl) ?_
  obtain ⟨c1, hf⟩ := q_ck hf
  refine va_iald hx hb hK hP 5 0 rfl rfl c1 dX8_begins_5 ?_
  refine lv_iload_n hx hb dX8_begins_6 rfl (lv_at hl 2 rfl) ?_
  obtain ⟨osj2, hqj3, hf⟩ := q_b1o hf
  have kj3 : ∀ sj2 : St, sj2 = osj2 → ∀ (H : Heap) (locs : List Loc), va_P (dC, dI) vwCl (wcM cI cZ o0 a0 sj2 t0) H → va_D A (wcM cI cZ o0 a0 sj2 t0) → va_S A s.heap H locs → ∀ ls : Array Slot, lv_has ls 3 [(0, .ref o0)] → W p l e ({ frames := 3, cells := 0, slots := 0, locals := 63 } : Room) s m [.ref o0, .int p1, .int p2].toArray below meth c H locs 0 0 (MQ below (qvW (dC, dI) (q_ty cI cB cZ) (wcM cI cZ o0 a0 s0 t0) (wcM cI cZ o0 a0 z0 t0) sz) [.ref o0, .int p1, .int p2].toArray s 0 0 (va_A (wcM cI cZ o0 a0 s0 t0) sz)) (F0 m 15 ls []) := by
    intro sj2 esj2 H locs hP hD hS ls hl
    subst esj2
    refine lv_aload_n hx hb dX8_begins_15 rfl (lv_at hl 0 rfl) ?_
    refine lv_iconst (v := 1) hx hb dX8_begins_16 (by decide) ?_
    obtain ⟨sc4, h5, hf⟩ := q_b1o hf
    refine q_rwVv (As := [.int (1 : Int32)]) (rest := []) (ci := 8) (wr := []) (w2 := (wcM cI cZ o0 a0 sc4 t0)) ⟨hx, hb, hml, hown, hts⟩ (kX8_must l dC dI cI cB cZ o0 a0 sj2 t0 (1 : Int32) H.size sc4 h5) (cwV 1 hts gX8_begins_X8_must rfl rfl rfl hdX8_must ⟨Nat.le_of_ble_eq_true rfl, Nat.le_of_ble_eq_true rfl⟩) hK hP hD hS hA [0, 1, 2, 3, 4, 5, 6, 7, 8, 9, 10] [] [0, 1, 2, 3, 4, 5, 6, 7, 8, 9, 10] rfl rfl (by decide) (by decide) (by decide) rfl (by decide) rfl rfl rfl hl.1 rfl (Nat.le_of_ble_eq_true rfl) dX8_begins_17 ⟨Nat.zero_le _, Nat.zero_le _⟩ (fun H locs hP hD hS => ?_)
    have ee0 := q_s1 hf
    subst ee0
    exact q_wretV hx hb hr hlk hAe hK hP hD hS dX8_begins_20
  have hf := hqj3
  refine lv_icmp_ne (tgt := 15) hx hb dX8_begins_7 (by decide) (fun c6 => ?_) (fun c6 => ?_)
  · have hf := q_f c6 hf
    exact kj3 s0 (q_s1 hf) _ _ hP hD hS _ (lv_sub hl [0] rfl)
  · have hf := q_t c6 hf
    refine lv_aload_n hx hb dX8_begins_10 rfl (lv_at hl 0 rfl) ?_
    refine lv_iconst (v := 3) hx hb dX8_begins_11 (by decide) ?_
    obtain ⟨sc7, h8, hf⟩ := q_b1o hf
    refine q_rwVv (As := [.int (3 : Int32)]) (rest := []) (ci := 8) (wr := []) (w2 := (wcM cI cZ o0 a0 sc7 t0)) ⟨hx, hb, hml, hown, hts⟩ (kX8_bad l dC dI cI cB cZ o0 a0 s0 t0 (3 : Int32) H.size sc7 h8) (cwV 1 hts gX8_begins_X8_bad rfl rfl rfl hdX8_bad ⟨Nat.le_of_ble_eq_true rfl, Nat.le_of_ble_eq_true rfl⟩) hK hP hD hS hA [0, 1, 2, 3, 4, 5, 6, 7, 8, 9, 10] [] [0, 1, 2, 3, 4, 5, 6, 7, 8, 9, 10] rfl rfl (by decide) (by decide) (by decide) rfl (by decide) rfl rfl rfl hl.1 rfl (Nat.le_of_ble_eq_true rfl) dX8_begins_12 ⟨Nat.zero_le _, Nat.zero_le _⟩ (fun H locs hP hD hS => ?_)
    exact kj3 sc7 (q_s1 hf) _ _ hP hD hS _ (lv_sub hl [0] rfl)
theorem hdX8_readWinds : yX8_readWinds.cls = RX8 ∧ yX8_readWinds.cls ≠ "java/lang/invoke/MethodHandle" ∧ yX8_readWinds.cls ≠ "java/lang/invoke/VarHandle" ∧ (parseMethodDescriptor yX8_readWinds.desc).map (fun d => d.parameters.length) = some 0 := by decide +kernel
theorem qX8_readWinds_1 : (Cond.constantLong RX8 138 512869950579) ∈ wsX8_readWinds := List.mem_of_getElem? (i := 1) (by decide +kernel)
theorem qX8_readWinds_2 : (Cond.fieldLink RX8 22 "DeadAskedModel" "fresh" "[I") ∈ wsX8_readWinds := List.mem_of_getElem? (i := 2) (by decide +kernel)
theorem nX8_readWinds_8 : ∀ w ∈ u_ws RX8 TX8 27, w ∈ wsX8_readWinds := fun _ h => (List.mem_cons_of_mem _ (List.mem_append_right _ h))
set_option maxHeartbeats 4000000 in
set_option maxRecDepth 100000 in
theorem kX8_readWinds (o0 : Nat) (a0 : Nat → Nat) (s0 : St) (t0 : Lt) (sz : Nat) (z0 : St) (hf : fX8_readWinds s0 = some z0) : Met l yX8_readWinds wsX8_readWinds ({ frames := 4, cells := 0, slots := 0, locals := 86 } : Room) (pcW (dC, dI) (q_ty cI cB cZ) [.ref o0] (wcM cI cZ o0 a0 s0 t0) sz) (qvW (dC, dI) (q_ty cI cB cZ) (wcM cI cZ o0 a0 s0 t0) (wcM cI cZ o0 a0 z0 t0) sz) 0 0 (va_A (wcM cI cZ o0 a0 s0 t0) sz) := by
  refine q_rwM (cc := cX8_readWinds) (maxL := 2) (ret := none) (by decide +kernel) rfl (Nat.le_of_ble_eq_true rfl) ?_
  intro p e s m below meth c hx hb hr hlk hml hown hts hK A H hAe hH hsz hP hD hA hS ls hl
  have hown : s.vm.findClass RX8 = some m.cls := hown
  have hl : lv_has ls 2 [(0, .ref o0)] := hl
  unfold fX8_readWinds at hf
  refine lv_aload_n hx hb dX8_readWinds_0 rfl (lv_at hl 0 rfl) ?_
  refine lv_aload_n hx hb dX8_readWinds_1 rfl (lv_at hl 0 rfl) ?_
  obtain ⟨r1, h2, hf⟩ := q_b1o hf
  refine q_roVl (As := []) (rest := [.ref o0]) (ci := 8) ⟨hx, hb, hml, hown, hts⟩ (kX8_name l dC dI cI cB cZ o0 a0 s0 t0 r1 h2) (cwV 0 hts gX8_readWinds_X8_name rfl rfl rfl hdX8_name ⟨Nat.le_of_ble_eq_true rfl, Nat.le_of_ble_eq_true rfl⟩) hK hP rfl rfl rfl hl.1 rfl (Nat.le_of_ble_eq_true rfl) dX8_readWinds_2 ⟨Nat.zero_le _, Nat.zero_le _⟩ ?_
  refine lv_ldc2 (v := 512869950579) hx hb hown (hts _ qX8_readWinds_1) dX8_readWinds_5 ?_
  refine W.lcmp hx hb dX8_readWinds_8 ?_
  obtain ⟨ov3, hqj4, hf⟩ := q_b1o hf
  have kj4 : ∀ v3 : Int32, v3 = ov3 → ∀ (H : Heap) (locs : List Loc), va_P (dC, dI) vwCl (wcM cI cZ o0 a0 s0 t0) H → va_D A (wcM cI cZ o0 a0 s0 t0) → va_S A s.heap H locs → ∀ ls : Array Slot, lv_has ls 2 [(0, .ref o0)] → W p l e ({ frames := 4, cells := 0, slots := 0, locals := 86 } : Room) s m [.ref o0].toArray below meth c H locs 0 0 (MQ below (qvW (dC, dI) (q_ty cI cB cZ) (wcM cI cZ o0 a0 s0 t0) (wcM cI cZ o0 a0 z0 t0) sz) [.ref o0].toArray s 0 0 (va_A (wcM cI cZ o0 a0 s0 t0) sz)) (F0 m 17 ls [.int v3, .ref o0]) := by
    intro v3 ev3 H locs hP hD hS ls hl
    subst ev3
    obtain ⟨sc5, h6, hf⟩ := q_b1o hf
    refine q_rwVv (As := [.int v3]) (rest := []) (ci := 8) (wr := []) (w2 := (wcM cI cZ o0 a0 sc5 t0)) ⟨hx, hb, hml, hown, hts⟩ (kX8_must l dC dI cI cB cZ o0 a0 s0 t0 v3 H.size sc5 h6) (cwV 1 hts gX8_readWinds_X8_must rfl rfl rfl hdX8_must ⟨Nat.le_of_ble_eq_true rfl, Nat.le_of_ble_eq_true rfl⟩) hK hP hD hS hA [0, 1, 2, 3, 4, 5, 6, 7, 8, 9, 10] [] [0, 1, 2, 3, 4, 5, 6, 7, 8, 9, 10] rfl rfl (by decide) (by decide) (by decide) rfl (by decide) rfl rfl rfl hl.1 rfl (Nat.le_of_ble_eq_true rfl) dX8_readWinds_17 ⟨Nat.zero_le _, Nat.zero_le _⟩ (fun H locs hP hD hS => ?_)
    refine lv_iconst (v := 0) hx hb dX8_readWinds_20 (by decide) ?_
    refine lv_istore_n (lv' := [(1, .int (0 : Int32)), (0, .ref o0)]) hx hb dX8_readWinds_21 rfl hl (by decide) rfl (fun ls hl => ?_)
    obtain ⟨oz10, hqn9, hf⟩ := q_b1o hf
    have kxn9 : ∀ z10 : St, z10 = oz10 → ∀ (H : Heap) (locs : List Loc), va_P (dC, dI) vwCl (wcM cI cZ o0 a0 z10 t0) H → va_D A (wcM cI cZ o0 a0 z10 t0) → va_S A s.heap H locs → ∀ ls : Array Slot, lv_has ls 2 [(0, .ref o0)] → W p l e ({ frames := 4, cells := 0, slots := 0, locals := 86 } : Room) s m [.ref o0].toArray below meth c H locs 0 0 (MQ below (qvW (dC, dI) (q_ty cI cB cZ) (wcM cI cZ o0 a0 s0 t0) (wcM cI cZ o0 a0 z0 t0) sz) [.ref o0].toArray s 0 0 (va_A (wcM cI cZ o0 a0 s0 t0) sz)) (F0 m 48 ls []) := by
      intro z10 ez10 H locs hP hD hS ls hl
      subst ez10
      refine lv_aload_n hx hb dX8_readWinds_48 rfl (lv_at hl 0 rfl) ?_
      obtain ⟨sc17, h18, hf⟩ := q_b1o hf
      refine q_rwVv (As := []) (rest := []) (ci := 8) (wr := []) (w2 := (wcM cI cZ o0 a0 sc17 t0)) ⟨hx, hb, hml, hown, hts⟩ (kX8_mustEnd l dC dI cI cB cZ o0 a0 z10 t0 H.size sc17 h18) (cwV 0 hts gX8_readWinds_X8_mustEnd rfl rfl rfl hdX8_mustEnd ⟨Nat.le_of_ble_eq_true rfl, Nat.le_of_ble_eq_true rfl⟩) hK hP hD hS hA [0, 1, 2, 3, 4, 5, 6, 7, 8, 9, 10] [] [0, 1, 2, 3, 4, 5, 6, 7, 8, 9, 10] rfl rfl (by decide) (by decide) (by decide) rfl (by decide) rfl rfl rfl hl.1 rfl (Nat.le_of_ble_eq_true rfl) dX8_readWinds_49 ⟨Nat.zero_le _, Nat.zero_le _⟩ (fun H locs hP hD hS => ?_)
      have ee0 := q_s1 hf
      subst ee0
      exact q_wretV hx hb hr hlk hAe hK hP hD hS dX8_readWinds_52
    have aihn9 : ∀ n9 : Nat, ∀ l1_7 : Int32, ∀ sl8 : St, fX8_readWinds_L22 n9 l1_7 sl8 = some oz10 → ∀ (H : Heap) (locs : List Loc), va_P (dC, dI) vwCl (wcM cI cZ o0 a0 sl8 t0) H → va_D A (wcM cI cZ o0 a0 sl8 t0) → va_S A s.heap H locs → ∀ ls : Array Slot, lv_has ls 2 [(1, .int l1_7), (0, .ref o0)] → W p l e ({ frames := 4, cells := 0, slots := 0, locals := 86 } : Room) s m [.ref o0].toArray below meth c H locs 0 0 (MQ below (qvW (dC, dI) (q_ty cI cB cZ) (wcM cI cZ o0 a0 s0 t0) (wcM cI cZ o0 a0 z0 t0) sz) [.ref o0].toArray s 0 0 (va_A (wcM cI cZ o0 a0 s0 t0) sz)) (F0 m 22 ls []) := by
      intro n9
      induction n9 with
      | zero =>
        intro l1_7 sl8 hf
        exact q_no hf
      | succ n9 ihn9 =>
        intro l1_7 sl8 hf H locs hP hD hS ls hl
        rw [fX8_readWinds_L22] at hf
        refine lv_iload_n hx hb dX8_readWinds_22 rfl (lv_at hl 0 rfl) ?_
        refine lv_bipush (v := 12) hx hb dX8_readWinds_23 (by decide) ?_
        refine lv_icmp_ge (tgt := 48) hx hb dX8_readWinds_25 (by decide) (fun c11 => ?_) (fun c11 => ?_)
        · have hf := q_t c11 hf
          exact kxn9 sl8 (q_s1 hf) _ _ hP hD hS _ (lv_sub hl [1] rfl)
        · have hf := q_f c11 hf
          refine lv_aload_n hx hb dX8_readWinds_28 rfl (lv_at hl 1 rfl) ?_
          refine va_get (D := (dC, dI)) (ci := 8) (v := .ref (a0 6)) (C := RX8) (T := TX8) (N := 27) hx hb hts nX8_readWinds_8 hown hK hP 0 rfl rfl 6 (by decide) (hts _ qX8_readWinds_2) (fun _ h9 => h9) rfl dX8_readWinds_29 ?_
          refine lv_iconst (v := 3) hx hb dX8_readWinds_32 (by decide) ?_
          refine lv_iload_n hx hb dX8_readWinds_33 rfl (lv_at hl 0 rfl) ?_
          refine lv_iadd hx hb dX8_readWinds_34 ?_
          refine lv_aload_n hx hb dX8_readWinds_35 rfl (lv_at hl 1 rfl) ?_
          refine lv_iconst (v := 0) hx hb dX8_readWinds_36 (by decide) ?_
          refine lv_iconst (v := 3) hx hb dX8_readWinds_37 (by decide) ?_
          obtain ⟨r12, sc13, h14, hf⟩ := q_b2o hf
          refine q_rwVi (As := [.int (0 : Int32), .int (3 : Int32)]) (rest := [.int ((3 : Int32) + l1_7), .ref (a0 6)]) (ci := 8) (wr := []) (w2 := (wcM cI cZ o0 a0 sc13 t0)) ⟨hx, hb, hml, hown, hts⟩ (kX8_number l dC dI cI cB cZ o0 a0 sl8 t0 (0 : Int32) (3 : Int32) H.size r12 sc13 h14) (cwV 2 hts gX8_readWinds_X8_number rfl rfl rfl hdX8_number ⟨Nat.le_of_ble_eq_true rfl, Nat.le_of_ble_eq_true rfl⟩) hK hP hD hS hA [0, 1, 2, 3, 4, 5, 6, 7, 8, 9, 10] [] [0, 1, 2, 3, 4, 5, 6, 7, 8, 9, 10] rfl rfl (by decide) (by decide) (by decide) rfl (by decide) rfl rfl rfl hl.1 rfl (Nat.le_of_ble_eq_true rfl) dX8_readWinds_38 ⟨Nat.zero_le _, Nat.zero_le _⟩ (fun H locs hP hD hS => ?_)
          obtain ⟨c15, hf⟩ := q_ck hf
          obtain ⟨sn16, esn16, hf⟩ := q_lto hf
          refine va_iast hx hb hK hP hD hS 5 0 rfl rfl c15 dX8_readWinds_41 (fun H locs hP hD hS => ?_)
          have hP : va_P (dC, dI) vwCl (wcM cI cZ o0 a0 sn16 t0) H := by rw [esn16]; exact hP
          have hD : va_D A (wcM cI cZ o0 a0 sn16 t0) := by rw [esn16]; exact hD
          refine lv_iinc (v := l1_7 + (1 : Int32)) (lv' := [(1, .int (l1_7 + (1 : Int32))), (0, .ref o0)]) hx hb dX8_readWinds_42 hl (k := 0) rfl rfl (by decide) rfl (fun ls hl => ?_)
          refine lv_goto (tgt := 22) hx hb dX8_readWinds_45 (by decide) ?_
          exact ihn9 (l1_7 + (1 : Int32)) sn16 hf _ _ hP hD hS _ hl
    exact aihn9 5000 (0 : Int32) sc5 hqn9 _ _ hP hD hS _ hl
  have hf := hqj4
  refine lv_if_ne (tgt := 16) hx hb dX8_readWinds_9 (by decide) (fun c19 => ?_) (fun c19 => ?_)
  · have hf := q_f c19 hf
    refine lv_iconst (v := 0) hx hb dX8_readWinds_16 (by decide) ?_
    exact kj4 (0 : Int32) (q_s1 hf) _ _ hP hD hS _ hl
  · have hf := q_t c19 hf
    refine lv_iconst (v := 1) hx hb dX8_readWinds_12 (by decide) ?_
    refine lv_goto (tgt := 17) hx hb dX8_readWinds_13 (by decide) ?_
    exact kj4 (1 : Int32) (q_s1 hf) _ _ hP hD hS _ hl
theorem hdX8_readGrave : yX8_readGrave.cls = RX8 ∧ yX8_readGrave.cls ≠ "java/lang/invoke/MethodHandle" ∧ yX8_readGrave.cls ≠ "java/lang/invoke/VarHandle" ∧ (parseMethodDescriptor yX8_readGrave.desc).map (fun d => d.parameters.length) = some 0 := by decide +kernel
theorem qX8_readGrave_1 : (Cond.fieldLink RX8 103 "DeadAskedModel" "fault" "I") ∈ wsX8_readGrave := List.mem_of_getElem? (i := 1) (by decide +kernel)
theorem qX8_readGrave_2 : (Cond.fieldLink RX8 22 "DeadAskedModel" "fresh" "[I") ∈ wsX8_readGrave := List.mem_of_getElem? (i := 2) (by decide +kernel)
theorem nX8_readGrave_8 : ∀ w ∈ u_ws RX8 TX8 27, w ∈ wsX8_readGrave := fun _ h => (List.mem_cons_of_mem _ (List.mem_append_right _ h))
set_option maxHeartbeats 4000000 in
set_option maxRecDepth 100000 in
theorem kX8_readGrave (o0 : Nat) (a0 : Nat → Nat) (s0 : St) (t0 : Lt) (sz : Nat) (z0 : St) (hf : fX8_readGrave s0 = some z0) : Met l yX8_readGrave wsX8_readGrave ({ frames := 4, cells := 0, slots := 0, locals := 86 } : Room) (pcW (dC, dI) (q_ty cI cB cZ) [.ref o0] (wcM cI cZ o0 a0 s0 t0) sz) (qvW (dC, dI) (q_ty cI cB cZ) (wcM cI cZ o0 a0 s0 t0) (wcM cI cZ o0 a0 z0 t0) sz) 0 0 (va_A (wcM cI cZ o0 a0 s0 t0) sz) := by
  refine q_rwM (cc := cX8_readGrave) (maxL := 6) (ret := none) (by decide +kernel) rfl (Nat.le_of_ble_eq_true rfl) ?_
  intro p e s m below meth c hx hb hr hlk hml hown hts hK A H hAe hH hsz hP hD hA hS ls hl
  have hown : s.vm.findClass RX8 = some m.cls := hown
  have hl : lv_has ls 6 [(0, .ref o0)] := hl
  unfold fX8_readGrave at hf
  refine lv_aload_n hx hb dX8_readGrave_0 rfl (lv_at hl 0 rfl) ?_
  refine lv_iconst (v := 0) hx hb dX8_readGrave_1 (by decide) ?_
  refine lv_iconst (v := 5) hx hb dX8_readGrave_2 (by decide) ?_
  obtain ⟨sc1, h2, hf⟩ := q_b1o hf
  refine q_rwVv (As := [.int (0 : Int32), .int (5 : Int32)]) (rest := []) (ci := 8) (wr := []) (w2 := (wcM cI cZ o0 a0 sc1 t0)) ⟨hx, hb, hml, hown, hts⟩ (kX8_begins l dC dI cI cB cZ o0 a0 s0 t0 (0 : Int32) (5 : Int32) H.size sc1 h2) (cwV 2 hts gX8_readGrave_X8_begins rfl rfl rfl hdX8_begins ⟨Nat.le_of_ble_eq_true rfl, Nat.le_of_ble_eq_true rfl⟩) hK hP hD hS hA [0, 1, 2, 3, 4, 5, 6, 7, 8, 9, 10] [] [0, 1, 2, 3, 4, 5, 6, 7, 8, 9, 10] rfl rfl (by decide) (by decide) (by decide) rfl (by decide) rfl rfl rfl hl.1 rfl (Nat.le_of_ble_eq_true rfl) dX8_readGrave_3 ⟨Nat.zero_le _, Nat.zero_le _⟩ (fun H locs hP hD hS => ?_)
  refine lv_aload_n hx hb dX8_readGrave_6 rfl (lv_at hl 0 rfl) ?_
  refine lv_iconst (v := 0) hx hb dX8_readGrave_7 (by decide) ?_
  refine lv_bipush (v := 30) hx hb dX8_readGrave_8 (by decide) ?_
  obtain ⟨r3, sc4, h5, hf⟩ := q_b2o hf
  refine q_rwVi (As := [.int (0 : Int32), .int (30 : Int32)]) (rest := []) (ci := 8) (wr := []) (w2 := (wcM cI cZ o0 a0 sc4 t0)) ⟨hx, hb, hml, hown, hts⟩ (kX8_number l dC dI cI cB cZ o0 a0 sc1 t0 (0 : Int32) (30 : Int32) H.size r3 sc4 h5) (cwV 2 hts gX8_readGrave_X8_number rfl rfl rfl hdX8_number ⟨Nat.le_of_ble_eq_true rfl, Nat.le_of_ble_eq_true rfl⟩) hK hP hD hS hA [0, 1, 2, 3, 4, 5, 6, 7, 8, 9, 10] [] [0, 1, 2, 3, 4, 5, 6, 7, 8, 9, 10] rfl rfl (by decide) (by decide) (by decide) rfl (by decide) rfl rfl rfl hl.1 rfl (Nat.le_of_ble_eq_true rfl) dX8_readGrave_10 ⟨Nat.zero_le _, Nat.zero_le _⟩ (fun H locs hP hD hS => ?_)
  refine lv_istore_n (lv' := [(1, .int r3), (0, .ref o0)]) hx hb dX8_readGrave_13 rfl hl (by decide) rfl (fun ls hl => ?_)
  refine lv_aload_n hx hb dX8_readGrave_14 rfl (lv_at hl 1 rfl) ?_
  refine lv_iconst (v := 0) hx hb dX8_readGrave_15 (by decide) ?_
  refine lv_bipush (v := 9) hx hb dX8_readGrave_16 (by decide) ?_
  obtain ⟨r6, sc7, h8, hf⟩ := q_b2o hf
  refine q_rwVi (As := [.int (0 : Int32), .int (9 : Int32)]) (rest := []) (ci := 8) (wr := []) (w2 := (wcM cI cZ o0 a0 sc7 t0)) ⟨hx, hb, hml, hown, hts⟩ (kX8_number l dC dI cI cB cZ o0 a0 sc4 t0 (0 : Int32) (9 : Int32) H.size r6 sc7 h8) (cwV 2 hts gX8_readGrave_X8_number rfl rfl rfl hdX8_number ⟨Nat.le_of_ble_eq_true rfl, Nat.le_of_ble_eq_true rfl⟩) hK hP hD hS hA [0, 1, 2, 3, 4, 5, 6, 7, 8, 9, 10] [] [0, 1, 2, 3, 4, 5, 6, 7, 8, 9, 10] rfl rfl (by decide) (by decide) (by decide) rfl (by decide) rfl rfl rfl hl.1 rfl (Nat.le_of_ble_eq_true rfl) dX8_readGrave_18 ⟨Nat.zero_le _, Nat.zero_le _⟩ (fun H locs hP hD hS => ?_)
  refine lv_istore_n (lv' := [(2, .int r6), (1, .int r3), (0, .ref o0)]) hx hb dX8_readGrave_21 rfl hl (by decide) rfl (fun ls hl => ?_)
  refine lv_aload_n hx hb dX8_readGrave_22 rfl (lv_at hl 2 rfl) ?_
  refine lv_iconst (v := 0) hx hb dX8_readGrave_23 (by decide) ?_
  refine lv_bipush (v := 9) hx hb dX8_readGrave_24 (by decide) ?_
  obtain ⟨r9, sc10, h11, hf⟩ := q_b2o hf
  refine q_rwVi (As := [.int (0 : Int32), .int (9 : Int32)]) (rest := []) (ci := 8) (wr := []) (w2 := (wcM cI cZ o0 a0 sc10 t0)) ⟨hx, hb, hml, hown, hts⟩ (kX8_number l dC dI cI cB cZ o0 a0 sc7 t0 (0 : Int32) (9 : Int32) H.size r9 sc10 h11) (cwV 2 hts gX8_readGrave_X8_number rfl rfl rfl hdX8_number ⟨Nat.le_of_ble_eq_true rfl, Nat.le_of_ble_eq_true rfl⟩) hK hP hD hS hA [0, 1, 2, 3, 4, 5, 6, 7, 8, 9, 10] [] [0, 1, 2, 3, 4, 5, 6, 7, 8, 9, 10] rfl rfl (by decide) (by decide) (by decide) rfl (by decide) rfl rfl rfl hl.1 rfl (Nat.le_of_ble_eq_true rfl) dX8_readGrave_26 ⟨Nat.zero_le _, Nat.zero_le _⟩ (fun H locs hP hD hS => ?_)
  refine lv_istore_n (lv' := [(3, .int r9), (2, .int r6), (1, .int r3), (0, .ref o0)]) hx hb dX8_readGrave_29 rfl hl (by decide) rfl (fun ls hl => ?_)
  refine lv_aload_n hx hb dX8_readGrave_30 rfl (lv_at hl 3 rfl) ?_
  refine lv_iconst (v := 0) hx hb dX8_readGrave_31 (by decide) ?_
  refine lv_bipush (v := 15) hx hb dX8_readGrave_32 (by decide) ?_
  obtain ⟨r12, sc13, h14, hf⟩ := q_b2o hf
  refine q_rwVi (As := [.int (0 : Int32), .int (15 : Int32)]) (rest := []) (ci := 8) (wr := []) (w2 := (wcM cI cZ o0 a0 sc13 t0)) ⟨hx, hb, hml, hown, hts⟩ (kX8_number l dC dI cI cB cZ o0 a0 sc10 t0 (0 : Int32) (15 : Int32) H.size r12 sc13 h14) (cwV 2 hts gX8_readGrave_X8_number rfl rfl rfl hdX8_number ⟨Nat.le_of_ble_eq_true rfl, Nat.le_of_ble_eq_true rfl⟩) hK hP hD hS hA [0, 1, 2, 3, 4, 5, 6, 7, 8, 9, 10] [] [0, 1, 2, 3, 4, 5, 6, 7, 8, 9, 10] rfl rfl (by decide) (by decide) (by decide) rfl (by decide) rfl rfl rfl hl.1 rfl (Nat.le_of_ble_eq_true rfl) dX8_readGrave_34 ⟨Nat.zero_le _, Nat.zero_le _⟩ (fun H locs hP hD hS => ?_)
  refine lv_istore (lv' := [(4, .int r12), (3, .int r9), (2, .int r6), (1, .int r3), (0, .ref o0)]) hx hb dX8_readGrave_37 hl (by decide) rfl (fun ls hl => ?_)
  refine lv_aload_n hx hb dX8_readGrave_39 rfl (lv_at hl 4 rfl) ?_
  obtain ⟨sc15, h16, hf⟩ := q_b1o hf
  refine q_rwVv (As := []) (rest := []) (ci := 8) (wr := []) (w2 := (wcM cI cZ o0 a0 sc15 t0)) ⟨hx, hb, hml, hown, hts⟩ (kX8_mustEnd l dC dI cI cB cZ o0 a0 sc13 t0 H.size sc15 h16) (cwV 0 hts gX8_readGrave_X8_mustEnd rfl rfl rfl hdX8_mustEnd ⟨Nat.le_of_ble_eq_true rfl, Nat.le_of_ble_eq_true rfl⟩) hK hP hD hS hA [0, 1, 2, 3, 4, 5, 6, 7, 8, 9, 10] [] [0, 1, 2, 3, 4, 5, 6, 7, 8, 9, 10] rfl rfl (by decide) (by decide) (by decide) rfl (by decide) rfl rfl rfl hl.1 rfl (Nat.le_of_ble_eq_true rfl) dX8_readGrave_40 ⟨Nat.zero_le _, Nat.zero_le _⟩ (fun H locs hP hD hS => ?_)
  refine lv_aload_n hx hb dX8_readGrave_43 rfl (lv_at hl 4 rfl) ?_
  refine va_get (D := (dC, dI)) (ci := 8) (v := .int (sc15 18 0)) (C := RX8) (T := TX8) (N := 27) hx hb hts nX8_readGrave_8 hown hK hP 0 rfl rfl 18 (by decide) (hts _ qX8_readGrave_1) (fun _ h9 => h9) rfl dX8_readGrave_44 ?_
  refine lv_if_ne (tgt := 112) hx hb dX8_readGrave_47 (by decide) (fun c17 => ?_) (fun c17 => ?_)
  · have hf := q_f c17 hf
    have ee0 := q_s1 hf
    subst ee0
    exact q_wretV hx hb hr hlk hAe hK hP hD hS dX8_readGrave_112
  · have hf := q_t c17 hf
    refine lv_bipush (v := 15) hx hb dX8_readGrave_50 (by decide) ?_
    refine lv_iconst (v := 4) hx hb dX8_readGrave_52 (by decide) ?_
    refine lv_aload_n hx hb dX8_readGrave_53 rfl (lv_at hl 4 rfl) ?_
    refine va_get (D := (dC, dI)) (ci := 8) (v := .ref (a0 6)) (C := RX8) (T := TX8) (N := 27) hx hb hts nX8_readGrave_8 hown hK hP 0 rfl rfl 6 (by decide) (hts _ qX8_readGrave_2) (fun _ h9 => h9) rfl dX8_readGrave_54 ?_
    refine lv_iconst (v := 0) hx hb dX8_readGrave_57 (by decide) ?_
    obtain ⟨c18, hf⟩ := q_ck hf
    refine va_iald hx hb hK hP 5 0 rfl rfl c18 dX8_readGrave_58 ?_
    refine lv_imul hx hb dX8_readGrave_59 ?_
    refine lv_iadd hx hb dX8_readGrave_60 ?_
    obtain ⟨x19, ex19, hf⟩ := q_lto hf
    refine W.eq (g2 := F0 m 61 ls [.int x19]) (by rw [ex19]) ?_
    refine lv_istore (lv' := [(5, .int x19), (4, .int r12), (3, .int r9), (2, .int r6), (1, .int r3), (0, .ref o0)]) hx hb dX8_readGrave_61 hl (by decide) rfl (fun ls hl => ?_)
    refine lv_aload_n hx hb dX8_readGrave_63 rfl (lv_at hl 5 rfl) ?_
    refine va_get (D := (dC, dI)) (ci := 8) (v := .ref (a0 6)) (C := RX8) (T := TX8) (N := 27) hx hb hts nX8_readGrave_8 hown hK hP 0 rfl rfl 6 (by decide) (hts _ qX8_readGrave_2) (fun _ h9 => h9) rfl dX8_readGrave_64 ?_
    refine lv_iload hx hb dX8_readGrave_67 (lv_at hl 0 rfl) ?_
    refine lv_iload_n hx hb dX8_readGrave_69 rfl (lv_at hl 4 rfl) ?_
    obtain ⟨c20, hf⟩ := q_ck hf
    obtain ⟨sn21, esn21, hf⟩ := q_lto hf
    refine va_iast hx hb hK hP hD hS 5 0 rfl rfl c20 dX8_readGrave_70 (fun H locs hP hD hS => ?_)
    have hP : va_P (dC, dI) vwCl (wcM cI cZ o0 a0 sn21 t0) H := by rw [esn21]; exact hP
    have hD : va_D A (wcM cI cZ o0 a0 sn21 t0) := by rw [esn21]; exact hD
    refine lv_aload_n hx hb dX8_readGrave_71 rfl (lv_at hl 5 rfl) ?_
    refine va_get (D := (dC, dI)) (ci := 8) (v := .ref (a0 6)) (C := RX8) (T := TX8) (N := 27) hx hb hts nX8_readGrave_8 hown hK hP 0 rfl rfl 6 (by decide) (hts _ qX8_readGrave_2) (fun _ h9 => h9) rfl dX8_readGrave_72 ?_
    refine lv_iload hx hb dX8_readGrave_75 (lv_at hl 0 rfl) ?_
    refine lv_iconst (v := 1) hx hb dX8_readGrave_77 (by decide) ?_
    refine lv_iadd hx hb dX8_readGrave_78 ?_
    refine lv_iload_n hx hb dX8_readGrave_79 rfl (lv_at hl 3 rfl) ?_
    obtain ⟨c22, hf⟩ := q_ck hf
    obtain ⟨sn23, esn23, hf⟩ := q_lto hf
    refine va_iast hx hb hK hP hD hS 5 0 rfl rfl c22 dX8_readGrave_80 (fun H locs hP hD hS => ?_)
    have hP : va_P (dC, dI) vwCl (wcM cI cZ o0 a0 sn23 t0) H := by rw [esn23]; exact hP
    have hD : va_D A (wcM cI cZ o0 a0 sn23 t0) := by rw [esn23]; exact hD
    refine lv_aload_n hx hb dX8_readGrave_81 rfl (lv_at hl 5 rfl) ?_
    refine va_get (D := (dC, dI)) (ci := 8) (v := .ref (a0 6)) (C := RX8) (T := TX8) (N := 27) hx hb hts nX8_readGrave_8 hown hK hP 0 rfl rfl 6 (by decide) (hts _ qX8_readGrave_2) (fun _ h9 => h9) rfl dX8_readGrave_82 ?_
    refine lv_iload hx hb dX8_readGrave_85 (lv_at hl 0 rfl) ?_
    refine lv_iconst (v := 2) hx hb dX8_readGrave_87 (by decide) ?_
    refine lv_iadd hx hb dX8_readGrave_88 ?_
    refine lv_iload_n hx hb dX8_readGrave_89 rfl (lv_at hl 2 rfl) ?_
    obtain ⟨c24, hf⟩ := q_ck hf
    obtain ⟨sn25, esn25, hf⟩ := q_lto hf
    refine va_iast hx hb hK hP hD hS 5 0 rfl rfl c24 dX8_readGrave_90 (fun H locs hP hD hS => ?_)
    have hP : va_P (dC, dI) vwCl (wcM cI cZ o0 a0 sn25 t0) H := by rw [esn25]; exact hP
    have hD : va_D A (wcM cI cZ o0 a0 sn25 t0) := by rw [esn25]; exact hD
    refine lv_aload_n hx hb dX8_readGrave_91 rfl (lv_at hl 5 rfl) ?_
    refine va_get (D := (dC, dI)) (ci := 8) (v := .ref (a0 6)) (C := RX8) (T := TX8) (N := 27) hx hb hts nX8_readGrave_8 hown hK hP 0 rfl rfl 6 (by decide) (hts _ qX8_readGrave_2) (fun _ h9 => h9) rfl dX8_readGrave_92 ?_
    refine lv_iload hx hb dX8_readGrave_95 (lv_at hl 0 rfl) ?_
    refine lv_iconst (v := 3) hx hb dX8_readGrave_97 (by decide) ?_
    refine lv_iadd hx hb dX8_readGrave_98 ?_
    refine lv_iload hx hb dX8_readGrave_99 (lv_at hl 1 rfl) ?_
    obtain ⟨c26, hf⟩ := q_ck hf
    obtain ⟨sn27, esn27, hf⟩ := q_lto hf
    refine va_iast hx hb hK hP hD hS 5 0 rfl rfl c26 dX8_readGrave_101 (fun H locs hP hD hS => ?_)
    have hP : va_P (dC, dI) vwCl (wcM cI cZ o0 a0 sn27 t0) H := by rw [esn27]; exact hP
    have hD : va_D A (wcM cI cZ o0 a0 sn27 t0) := by rw [esn27]; exact hD
    refine lv_aload_n hx hb dX8_readGrave_102 rfl (lv_at hl 5 rfl) ?_
    refine va_get (D := (dC, dI)) (ci := 8) (v := .ref (a0 6)) (C := RX8) (T := TX8) (N := 27) hx hb hts nX8_readGrave_8 hown hK hP 0 rfl rfl 6 (by decide) (hts _ qX8_readGrave_2) (fun _ h9 => h9) rfl dX8_readGrave_103 ?_
    refine lv_iconst (v := 0) hx hb dX8_readGrave_106 (by decide) ?_
    refine lv_dup2_11 hx hb dX8_readGrave_107 rfl rfl ?_
    obtain ⟨c28, hf⟩ := q_ck hf
    refine va_iald hx hb hK hP 5 0 rfl rfl c28 dX8_readGrave_108 ?_
    refine lv_iconst (v := 1) hx hb dX8_readGrave_109 (by decide) ?_
    refine lv_iadd hx hb dX8_readGrave_110 ?_
    obtain ⟨c29, hf⟩ := q_ck hf
    obtain ⟨sn30, esn30, hf⟩ := q_lto hf
    refine va_iast hx hb hK hP hD hS 5 0 rfl rfl c29 dX8_readGrave_111 (fun H locs hP hD hS => ?_)
    have hP : va_P (dC, dI) vwCl (wcM cI cZ o0 a0 sn30 t0) H := by rw [esn30]; exact hP
    have hD : va_D A (wcM cI cZ o0 a0 sn30 t0) := by rw [esn30]; exact hD
    have ee0 := q_s1 hf
    subst ee0
    exact q_wretV hx hb hr hlk hAe hK hP hD hS dX8_readGrave_112
theorem hdX8_readHorn : yX8_readHorn.cls = RX8 ∧ yX8_readHorn.cls ≠ "java/lang/invoke/MethodHandle" ∧ yX8_readHorn.cls ≠ "java/lang/invoke/VarHandle" ∧ (parseMethodDescriptor yX8_readHorn.desc).map (fun d => d.parameters.length) = some 0 := by decide +kernel
theorem qX8_readHorn_1 : (Cond.fieldLink RX8 103 "DeadAskedModel" "fault" "I") ∈ wsX8_readHorn := List.mem_of_getElem? (i := 1) (by decide +kernel)
theorem qX8_readHorn_2 : (Cond.fieldLink RX8 22 "DeadAskedModel" "fresh" "[I") ∈ wsX8_readHorn := List.mem_of_getElem? (i := 2) (by decide +kernel)
theorem nX8_readHorn_8 : ∀ w ∈ u_ws RX8 TX8 27, w ∈ wsX8_readHorn := fun _ h => (List.mem_cons_of_mem _ (List.mem_append_right _ h))
set_option maxHeartbeats 4000000 in
set_option maxRecDepth 100000 in
theorem kX8_readHorn (o0 : Nat) (a0 : Nat → Nat) (s0 : St) (t0 : Lt) (sz : Nat) (z0 : St) (hf : fX8_readHorn s0 = some z0) : Met l yX8_readHorn wsX8_readHorn ({ frames := 4, cells := 0, slots := 0, locals := 86 } : Room) (pcW (dC, dI) (q_ty cI cB cZ) [.ref o0] (wcM cI cZ o0 a0 s0 t0) sz) (qvW (dC, dI) (q_ty cI cB cZ) (wcM cI cZ o0 a0 s0 t0) (wcM cI cZ o0 a0 z0 t0) sz) 0 0 (va_A (wcM cI cZ o0 a0 s0 t0) sz) := by
  refine q_rwM (cc := cX8_readHorn) (maxL := 3) (ret := none) (by decide +kernel) rfl (Nat.le_of_ble_eq_true rfl) ?_
  intro p e s m below meth c hx hb hr hlk hml hown hts hK A H hAe hH hsz hP hD hA hS ls hl
  have hown : s.vm.findClass RX8 = some m.cls := hown
  have hl : lv_has ls 3 [(0, .ref o0)] := hl
  unfold fX8_readHorn at hf
  refine lv_aload_n hx hb dX8_readHorn_0 rfl (lv_at hl 0 rfl) ?_
  refine lv_iconst (v := 1) hx hb dX8_readHorn_1 (by decide) ?_
  refine lv_iconst (v := 4) hx hb dX8_readHorn_2 (by decide) ?_
  obtain ⟨sc1, h2, hf⟩ := q_b1o hf
  refine q_rwVv (As := [.int (1 : Int32), .int (4 : Int32)]) (rest := []) (ci := 8) (wr := []) (w2 := (wcM cI cZ o0 a0 sc1 t0)) ⟨hx, hb, hml, hown, hts⟩ (kX8_begins l dC dI cI cB cZ o0 a0 s0 t0 (1 : Int32) (4 : Int32) H.size sc1 h2) (cwV 2 hts gX8_readHorn_X8_begins rfl rfl rfl hdX8_begins ⟨Nat.le_of_ble_eq_true rfl, Nat.le_of_ble_eq_true rfl⟩) hK hP hD hS hA [0, 1, 2, 3, 4, 5, 6, 7, 8, 9, 10] [] [0, 1, 2, 3, 4, 5, 6, 7, 8, 9, 10] rfl rfl (by decide) (by decide) (by decide) rfl (by decide) rfl rfl rfl hl.1 rfl (Nat.le_of_ble_eq_true rfl) dX8_readHorn_3 ⟨Nat.zero_le _, Nat.zero_le _⟩ (fun H locs hP hD hS => ?_)
  refine lv_aload_n hx hb dX8_readHorn_6 rfl (lv_at hl 0 rfl) ?_
  refine lv_iconst (v := 0) hx hb dX8_readHorn_7 (by decide) ?_
  refine lv_bipush (v := 30) hx hb dX8_readHorn_8 (by decide) ?_
  obtain ⟨r3, sc4, h5, hf⟩ := q_b2o hf
  refine q_rwVi (As := [.int (0 : Int32), .int (30 : Int32)]) (rest := []) (ci := 8) (wr := []) (w2 := (wcM cI cZ o0 a0 sc4 t0)) ⟨hx, hb, hml, hown, hts⟩ (kX8_number l dC dI cI cB cZ o0 a0 sc1 t0 (0 : Int32) (30 : Int32) H.size r3 sc4 h5) (cwV 2 hts gX8_readHorn_X8_number rfl rfl rfl hdX8_number ⟨Nat.le_of_ble_eq_true rfl, Nat.le_of_ble_eq_true rfl⟩) hK hP hD hS hA [0, 1, 2, 3, 4, 5, 6, 7, 8, 9, 10] [] [0, 1, 2, 3, 4, 5, 6, 7, 8, 9, 10] rfl rfl (by decide) (by decide) (by decide) rfl (by decide) rfl rfl rfl hl.1 rfl (Nat.le_of_ble_eq_true rfl) dX8_readHorn_10 ⟨Nat.zero_le _, Nat.zero_le _⟩ (fun H locs hP hD hS => ?_)
  refine lv_istore_n (lv' := [(1, .int r3), (0, .ref o0)]) hx hb dX8_readHorn_13 rfl hl (by decide) rfl (fun ls hl => ?_)
  refine lv_aload_n hx hb dX8_readHorn_14 rfl (lv_at hl 1 rfl) ?_
  refine lv_iconst (v := 1) hx hb dX8_readHorn_15 (by decide) ?_
  refine lv_bipush (v := 40) hx hb dX8_readHorn_16 (by decide) ?_
  obtain ⟨r6, sc7, h8, hf⟩ := q_b2o hf
  refine q_rwVi (As := [.int (1 : Int32), .int (40 : Int32)]) (rest := []) (ci := 8) (wr := []) (w2 := (wcM cI cZ o0 a0 sc7 t0)) ⟨hx, hb, hml, hown, hts⟩ (kX8_number l dC dI cI cB cZ o0 a0 sc4 t0 (1 : Int32) (40 : Int32) H.size r6 sc7 h8) (cwV 2 hts gX8_readHorn_X8_number rfl rfl rfl hdX8_number ⟨Nat.le_of_ble_eq_true rfl, Nat.le_of_ble_eq_true rfl⟩) hK hP hD hS hA [0, 1, 2, 3, 4, 5, 6, 7, 8, 9, 10] [] [0, 1, 2, 3, 4, 5, 6, 7, 8, 9, 10] rfl rfl (by decide) (by decide) (by decide) rfl (by decide) rfl rfl rfl hl.1 rfl (Nat.le_of_ble_eq_true rfl) dX8_readHorn_18 ⟨Nat.zero_le _, Nat.zero_le _⟩ (fun H locs hP hD hS => ?_)
  refine lv_istore_n (lv' := [(2, .int r6), (1, .int r3), (0, .ref o0)]) hx hb dX8_readHorn_21 rfl hl (by decide) rfl (fun ls hl => ?_)
  refine lv_aload_n hx hb dX8_readHorn_22 rfl (lv_at hl 2 rfl) ?_
  obtain ⟨sc9, h10, hf⟩ := q_b1o hf
  refine q_rwVv (As := []) (rest := []) (ci := 8) (wr := []) (w2 := (wcM cI cZ o0 a0 sc9 t0)) ⟨hx, hb, hml, hown, hts⟩ (kX8_mustEnd l dC dI cI cB cZ o0 a0 sc7 t0 H.size sc9 h10) (cwV 0 hts gX8_readHorn_X8_mustEnd rfl rfl rfl hdX8_mustEnd ⟨Nat.le_of_ble_eq_true rfl, Nat.le_of_ble_eq_true rfl⟩) hK hP hD hS hA [0, 1, 2, 3, 4, 5, 6, 7, 8, 9, 10] [] [0, 1, 2, 3, 4, 5, 6, 7, 8, 9, 10] rfl rfl (by decide) (by decide) (by decide) rfl (by decide) rfl rfl rfl hl.1 rfl (Nat.le_of_ble_eq_true rfl) dX8_readHorn_23 ⟨Nat.zero_le _, Nat.zero_le _⟩ (fun H locs hP hD hS => ?_)
  refine lv_aload_n hx hb dX8_readHorn_26 rfl (lv_at hl 2 rfl) ?_
  refine va_get (D := (dC, dI)) (ci := 8) (v := .int (sc9 18 0)) (C := RX8) (T := TX8) (N := 27) hx hb hts nX8_readHorn_8 hown hK hP 0 rfl rfl 18 (by decide) (hts _ qX8_readHorn_1) (fun _ h9 => h9) rfl dX8_readHorn_27 ?_
  refine lv_if_ne (tgt := 79) hx hb dX8_readHorn_30 (by decide) (fun c11 => ?_) (fun c11 => ?_)
  · have hf := q_f c11 hf
    have ee0 := q_s1 hf
    subst ee0
    exact q_wretV hx hb hr hlk hAe hK hP hD hS dX8_readHorn_79
  · have hf := q_t c11 hf
    refine lv_aload_n hx hb dX8_readHorn_33 rfl (lv_at hl 2 rfl) ?_
    refine va_get (D := (dC, dI)) (ci := 8) (v := .ref (a0 6)) (C := RX8) (T := TX8) (N := 27) hx hb hts nX8_readHorn_8 hown hK hP 0 rfl rfl 6 (by decide) (hts _ qX8_readHorn_2) (fun _ h9 => h9) rfl dX8_readHorn_34 ?_
    refine lv_bipush (v := 35) hx hb dX8_readHorn_37 (by decide) ?_
    refine lv_iconst (v := 3) hx hb dX8_readHorn_39 (by decide) ?_
    refine lv_aload_n hx hb dX8_readHorn_40 rfl (lv_at hl 2 rfl) ?_
    refine va_get (D := (dC, dI)) (ci := 8) (v := .ref (a0 6)) (C := RX8) (T := TX8) (N := 27) hx hb hts nX8_readHorn_8 hown hK hP 0 rfl rfl 6 (by decide) (hts _ qX8_readHorn_2) (fun _ h9 => h9) rfl dX8_readHorn_41 ?_
    refine lv_iconst (v := 1) hx hb dX8_readHorn_44 (by decide) ?_
    obtain ⟨c12, hf⟩ := q_ck hf
    refine va_iald hx hb hK hP 5 0 rfl rfl c12 dX8_readHorn_45 ?_
    refine lv_imul hx hb dX8_readHorn_46 ?_
    refine lv_iadd hx hb dX8_readHorn_47 ?_
    refine lv_iload_n hx hb dX8_readHorn_48 rfl (lv_at hl 1 rfl) ?_
    obtain ⟨c13, hf⟩ := q_ck hf
    obtain ⟨sn14, esn14, hf⟩ := q_lto hf
    refine va_iast hx hb hK hP hD hS 5 0 rfl rfl c13 dX8_readHorn_49 (fun H locs hP hD hS => ?_)
    have hP : va_P (dC, dI) vwCl (wcM cI cZ o0 a0 sn14 t0) H := by rw [esn14]; exact hP
    have hD : va_D A (wcM cI cZ o0 a0 sn14 t0) := by rw [esn14]; exact hD
    refine lv_aload_n hx hb dX8_readHorn_50 rfl (lv_at hl 2 rfl) ?_
    refine va_get (D := (dC, dI)) (ci := 8) (v := .ref (a0 6)) (C := RX8) (T := TX8) (N := 27) hx hb hts nX8_readHorn_8 hown hK hP 0 rfl rfl 6 (by decide) (hts _ qX8_readHorn_2) (fun _ h9 => h9) rfl dX8_readHorn_51 ?_
    refine lv_bipush (v := 35) hx hb dX8_readHorn_54 (by decide) ?_
    refine lv_iconst (v := 3) hx hb dX8_readHorn_56 (by decide) ?_
    refine lv_aload_n hx hb dX8_readHorn_57 rfl (lv_at hl 2 rfl) ?_
    refine va_get (D := (dC, dI)) (ci := 8) (v := .ref (a0 6)) (C := RX8) (T := TX8) (N := 27) hx hb hts nX8_readHorn_8 hown hK hP 0 rfl rfl 6 (by decide) (hts _ qX8_readHorn_2) (fun _ h9 => h9) rfl dX8_readHorn_58 ?_
    refine lv_iconst (v := 1) hx hb dX8_readHorn_61 (by decide) ?_
    obtain ⟨c15, hf⟩ := q_ck hf
    refine va_iald hx hb hK hP 5 0 rfl rfl c15 dX8_readHorn_62 ?_
    refine lv_imul hx hb dX8_readHorn_63 ?_
    refine lv_iadd hx hb dX8_readHorn_64 ?_
    refine lv_iconst (v := 1) hx hb dX8_readHorn_65 (by decide) ?_
    refine lv_iadd hx hb dX8_readHorn_66 ?_
    refine lv_iload_n hx hb dX8_readHorn_67 rfl (lv_at hl 0 rfl) ?_
    obtain ⟨c16, hf⟩ := q_ck hf
    obtain ⟨sn17, esn17, hf⟩ := q_lto hf
    refine va_iast hx hb hK hP hD hS 5 0 rfl rfl c16 dX8_readHorn_68 (fun H locs hP hD hS => ?_)
    have hP : va_P (dC, dI) vwCl (wcM cI cZ o0 a0 sn17 t0) H := by rw [esn17]; exact hP
    have hD : va_D A (wcM cI cZ o0 a0 sn17 t0) := by rw [esn17]; exact hD
    refine lv_aload_n hx hb dX8_readHorn_69 rfl (lv_at hl 2 rfl) ?_
    refine va_get (D := (dC, dI)) (ci := 8) (v := .ref (a0 6)) (C := RX8) (T := TX8) (N := 27) hx hb hts nX8_readHorn_8 hown hK hP 0 rfl rfl 6 (by decide) (hts _ qX8_readHorn_2) (fun _ h9 => h9) rfl dX8_readHorn_70 ?_
    refine lv_iconst (v := 1) hx hb dX8_readHorn_73 (by decide) ?_
    refine lv_dup2_11 hx hb dX8_readHorn_74 rfl rfl ?_
    obtain ⟨c18, hf⟩ := q_ck hf
    refine va_iald hx hb hK hP 5 0 rfl rfl c18 dX8_readHorn_75 ?_
    refine lv_iconst (v := 1) hx hb dX8_readHorn_76 (by decide) ?_
    refine lv_iadd hx hb dX8_readHorn_77 ?_
    obtain ⟨c19, hf⟩ := q_ck hf
    obtain ⟨sn20, esn20, hf⟩ := q_lto hf
    refine va_iast hx hb hK hP hD hS 5 0 rfl rfl c19 dX8_readHorn_78 (fun H locs hP hD hS => ?_)
    have hP : va_P (dC, dI) vwCl (wcM cI cZ o0 a0 sn20 t0) H := by rw [esn20]; exact hP
    have hD : va_D A (wcM cI cZ o0 a0 sn20 t0) := by rw [esn20]; exact hD
    have ee0 := q_s1 hf
    subst ee0
    exact q_wretV hx hb hr hlk hAe hK hP hD hS dX8_readHorn_79
theorem hdX8_isTold : yX8_isTold.cls = RX8 ∧ yX8_isTold.cls ≠ "java/lang/invoke/MethodHandle" ∧ yX8_isTold.cls ≠ "java/lang/invoke/VarHandle" ∧ (parseMethodDescriptor yX8_isTold.desc).map (fun d => d.parameters.length) = some 1 := by decide +kernel
theorem qX8_isTold_1 : (Cond.fieldLink RX8 22 "DeadAskedModel" "fresh" "[I") ∈ wsX8_isTold := List.mem_of_getElem? (i := 1) (by decide +kernel)
theorem nX8_isTold_8 : ∀ w ∈ u_ws RX8 TX8 27, w ∈ wsX8_isTold := fun _ h => (List.mem_cons_of_mem _ (List.mem_append_right _ h))
set_option maxHeartbeats 4000000 in
set_option maxRecDepth 100000 in
theorem kX8_isTold (o0 : Nat) (a0 : Nat → Nat) (s0 : St) (t0 : Lt) (p1 : Int32) (r : Int32) (hf : fX8_isTold s0 p1 = some r) : Met l yX8_isTold wsX8_isTold ({ frames := 0, cells := 0, slots := 0, locals := 0 } : Room) (pcR (dC, dI) (q_ty cI cB cZ) [.ref o0, .int p1] (wcM cI cZ o0 a0 s0 t0)) (qiR r) 0 0 (fun _ => False) := by
  refine q_roM (cc := cX8_isTold) (maxL := 4) (ret := (some .boolean)) (by decide +kernel) rfl (Nat.le_of_ble_eq_true rfl) ?_
  intro p e s m below meth c hx hb hr hlk hml hown hts hK hP ls hl
  have hown : s.vm.findClass RX8 = some m.cls := hown
  have hl : lv_has ls 4 [(0, .ref o0), (1, .int p1)] := hl
  unfold fX8_isTold at hf
  refine lv_iconst (v := 0) hx hb dX8_isTold_0 (by decide) ?_
  refine lv_istore_n (lv' := [(2, .int (0 : Int32)), (0, .ref o0), (1, .int p1)]) hx hb dX8_isTold_1 rfl hl (by decide) rfl (fun ls hl => ?_)
  refine lv_iconst (v := 0) hx hb dX8_isTold_2 (by decide) ?_
  refine lv_istore_n (lv' := [(3, .int (0 : Int32)), (2, .int (0 : Int32)), (0, .ref o0), (1, .int p1)]) hx hb dX8_isTold_3 rfl hl (by decide) rfl (fun ls hl => ?_)
  obtain ⟨oz4, hqn3, hf⟩ := q_b1o hf
  have kxn3 : ∀ z4 : Int32, z4 = oz4 → ∀ ls : Array Slot, lv_has ls 4 [(2, .int z4)] → W p l e ({ frames := 0, cells := 0, slots := 0, locals := 0 } : Room) s m [.ref o0, .int p1].toArray below meth c s.heap [] 0 0 (MQ below (qiR r) [.ref o0, .int p1].toArray s 0 0 (fun _ => False)) (F0 m 47 ls []) := by
    intro z4 ez4 ls hl
    subst ez4
    refine lv_iload_n hx hb dX8_isTold_47 rfl (lv_at hl 0 rfl) ?_
    obtain ⟨c12, hf⟩ := q_ck hf
    have ee0 := q_s1 hf
    exact q_retZ hx hb hr hlk (q_nb c12) ee0 dX8_isTold_48
  have aihn3 : ∀ n3 : Nat, ∀ l2_1 : Int32, ∀ l3_2 : Int32, fX8_isTold_L4 p1 s0 n3 l2_1 l3_2 = some oz4 → ∀ ls : Array Slot, lv_has ls 4 [(3, .int l3_2), (2, .int l2_1), (0, .ref o0), (1, .int p1)] → W p l e ({ frames := 0, cells := 0, slots := 0, locals := 0 } : Room) s m [.ref o0, .int p1].toArray below meth c s.heap [] 0 0 (MQ below (qiR r) [.ref o0, .int p1].toArray s 0 0 (fun _ => False)) (F0 m 4 ls []) := by
    intro n3
    induction n3 with
    | zero =>
      intro l2_1 l3_2 hf
      exact q_no hf
    | succ n3 ihn3 =>
      intro l2_1 l3_2 hf ls hl
      rw [fX8_isTold_L4] at hf
      refine lv_iload_n hx hb dX8_isTold_4 rfl (lv_at hl 0 rfl) ?_
      refine lv_aload_n hx hb dX8_isTold_5 rfl (lv_at hl 2 rfl) ?_
      refine va_get (D := (dC, dI)) (ci := 8) (v := .ref (a0 6)) (C := RX8) (T := TX8) (N := 27) hx hb hts nX8_isTold_8 hown hK hP 0 rfl rfl 6 (by decide) (hts _ qX8_isTold_1) (fun _ h9 => h9) rfl dX8_isTold_6 ?_
      refine lv_iconst (v := 2) hx hb dX8_isTold_9 (by decide) ?_
      obtain ⟨c5, hf⟩ := q_ck hf
      refine va_iald hx hb hK hP 5 0 rfl rfl c5 dX8_isTold_10 ?_
      refine lv_icmp_ge (tgt := 47) hx hb dX8_isTold_11 (by decide) (fun c6 => ?_) (fun c6 => ?_)
      · have hf := q_t c6 hf
        exact kxn3 l2_1 (q_s1 hf) _ (lv_sub hl [1] rfl)
      · have hf := q_f c6 hf
        refine lv_iload_n hx hb dX8_isTold_14 rfl (lv_at hl 1 rfl) ?_
        obtain ⟨ov7, hqj8, hf⟩ := q_b1o hf
        have kj8 : ∀ v7 : Int32, v7 = ov7 → ∀ ls : Array Slot, lv_has ls 4 [(3, .int l3_2), (0, .ref o0), (1, .int p1)] → W p l e ({ frames := 0, cells := 0, slots := 0, locals := 0 } : Room) s m [.ref o0, .int p1].toArray below meth c s.heap [] 0 0 (MQ below (qiR r) [.ref o0, .int p1].toArray s 0 0 (fun _ => False)) (F0 m 40 ls [.int v7]) := by
          intro v7 ev7 ls hl
          subst ev7
          refine lv_istore_n (lv' := [(2, .int v7), (3, .int l3_2), (0, .ref o0), (1, .int p1)]) hx hb dX8_isTold_40 rfl hl (by decide) rfl (fun ls hl => ?_)
          refine lv_iinc (v := l3_2 + (1 : Int32)) (lv' := [(3, .int (l3_2 + (1 : Int32))), (2, .int v7), (0, .ref o0), (1, .int p1)]) hx hb dX8_isTold_41 hl (k := 1) rfl rfl (by decide) rfl (fun ls hl => ?_)
          refine lv_goto (tgt := 4) hx hb dX8_isTold_44 (by decide) ?_
          exact ihn3 v7 (l3_2 + (1 : Int32)) hf _ hl
        have hf := hqj8
        refine lv_if_ne (tgt := 35) hx hb dX8_isTold_15 (by decide) (fun c9 => ?_) (fun c9 => ?_)
        · have hf := q_f c9 hf
          refine lv_iconst (v := 1) hx hb dX8_isTold_35 (by decide) ?_
          refine lv_goto (tgt := 40) hx hb dX8_isTold_36 (by decide) ?_
          exact kj8 (1 : Int32) (q_s1 hf) _ (lv_sub hl [0, 2, 3] rfl)
        · have hf := q_t c9 hf
          refine lv_aload_n hx hb dX8_isTold_18 rfl (lv_at hl 2 rfl) ?_
          refine va_get (D := (dC, dI)) (ci := 8) (v := .ref (a0 6)) (C := RX8) (T := TX8) (N := 27) hx hb hts nX8_isTold_8 hown hK hP 0 rfl rfl 6 (by decide) (hts _ qX8_isTold_1) (fun _ h9 => h9) rfl dX8_isTold_19 ?_
          refine lv_bipush (v := 47) hx hb dX8_isTold_22 (by decide) ?_
          refine lv_iconst (v := 3) hx hb dX8_isTold_24 (by decide) ?_
          refine lv_iload_n hx hb dX8_isTold_25 rfl (lv_at hl 0 rfl) ?_
          refine lv_imul hx hb dX8_isTold_26 ?_
          refine lv_iadd hx hb dX8_isTold_27 ?_
          refine lv_iconst (v := 1) hx hb dX8_isTold_28 (by decide) ?_
          refine lv_iadd hx hb dX8_isTold_29 ?_
          obtain ⟨c10, hf⟩ := q_ck hf
          refine va_iald hx hb hK hP 5 0 rfl rfl c10 dX8_isTold_30 ?_
          refine lv_iload_n hx hb dX8_isTold_31 rfl (lv_at hl 3 rfl) ?_
          refine lv_icmp_ne (tgt := 39) hx hb dX8_isTold_32 (by decide) (fun c11 => ?_) (fun c11 => ?_)
          · have hf := q_f c11 hf
            refine lv_iconst (v := 0) hx hb dX8_isTold_39 (by decide) ?_
            exact kj8 (0 : Int32) (q_s1 hf) _ (lv_sub hl [0, 2, 3] rfl)
          · have hf := q_t c11 hf
            refine lv_iconst (v := 1) hx hb dX8_isTold_35 (by decide) ?_
            refine lv_goto (tgt := 40) hx hb dX8_isTold_36 (by decide) ?_
            exact kj8 (1 : Int32) (q_s1 hf) _ (lv_sub hl [0, 2, 3] rfl)
  exact aihn3 5000 (0 : Int32) (0 : Int32) hqn3 _ hl
theorem hdX8_readTree : yX8_readTree.cls = RX8 ∧ yX8_readTree.cls ≠ "java/lang/invoke/MethodHandle" ∧ yX8_readTree.cls ≠ "java/lang/invoke/VarHandle" ∧ (parseMethodDescriptor yX8_readTree.desc).map (fun d => d.parameters.length) = some 0 := by decide +kernel
theorem qX8_readTree_1 : (Cond.fieldLink RX8 103 "DeadAskedModel" "fault" "I") ∈ wsX8_readTree := List.mem_of_getElem? (i := 1) (by decide +kernel)
theorem qX8_readTree_2 : (Cond.constant RX8 80 (-1000000)) ∈ wsX8_readTree := List.mem_of_getElem? (i := 2) (by decide +kernel)
theorem qX8_readTree_3 : (Cond.fieldLink RX8 91 "DeadAskedModel" "token" "I") ∈ wsX8_readTree := List.mem_of_getElem? (i := 3) (by decide +kernel)
theorem qX8_readTree_4 : (Cond.fieldLink RX8 22 "DeadAskedModel" "fresh" "[I") ∈ wsX8_readTree := List.mem_of_getElem? (i := 4) (by decide +kernel)
theorem nX8_readTree_8 : ∀ w ∈ u_ws RX8 TX8 27, w ∈ wsX8_readTree := fun _ h => (List.mem_cons_of_mem _ (List.mem_append_right _ h))
set_option maxHeartbeats 4000000 in
set_option maxRecDepth 100000 in
theorem kX8_readTree (o0 : Nat) (a0 : Nat → Nat) (s0 : St) (t0 : Lt) (sz : Nat) (z0 : St) (hf : fX8_readTree s0 = some z0) : Met l yX8_readTree wsX8_readTree ({ frames := 4, cells := 0, slots := 0, locals := 86 } : Room) (pcW (dC, dI) (q_ty cI cB cZ) [.ref o0] (wcM cI cZ o0 a0 s0 t0) sz) (qvW (dC, dI) (q_ty cI cB cZ) (wcM cI cZ o0 a0 s0 t0) (wcM cI cZ o0 a0 z0 t0) sz) 0 0 (va_A (wcM cI cZ o0 a0 s0 t0) sz) := by
  refine q_rwM (cc := cX8_readTree) (maxL := 5) (ret := none) (by decide +kernel) rfl (Nat.le_of_ble_eq_true rfl) ?_
  intro p e s m below meth c hx hb hr hlk hml hown hts hK A H hAe hH hsz hP hD hA hS ls hl
  have hown : s.vm.findClass RX8 = some m.cls := hown
  have hl : lv_has ls 5 [(0, .ref o0)] := hl
  unfold fX8_readTree at hf
  refine lv_aload_n hx hb dX8_readTree_0 rfl (lv_at hl 0 rfl) ?_
  refine lv_iconst (v := 2) hx hb dX8_readTree_1 (by decide) ?_
  refine lv_iconst (v := 4) hx hb dX8_readTree_2 (by decide) ?_
  obtain ⟨sc1, h2, hf⟩ := q_b1o hf
  refine q_rwVv (As := [.int (2 : Int32), .int (4 : Int32)]) (rest := []) (ci := 8) (wr := []) (w2 := (wcM cI cZ o0 a0 sc1 t0)) ⟨hx, hb, hml, hown, hts⟩ (kX8_begins l dC dI cI cB cZ o0 a0 s0 t0 (2 : Int32) (4 : Int32) H.size sc1 h2) (cwV 2 hts gX8_readTree_X8_begins rfl rfl rfl hdX8_begins ⟨Nat.le_of_ble_eq_true rfl, Nat.le_of_ble_eq_true rfl⟩) hK hP hD hS hA [0, 1, 2, 3, 4, 5, 6, 7, 8, 9, 10] [] [0, 1, 2, 3, 4, 5, 6, 7, 8, 9, 10] rfl rfl (by decide) (by decide) (by decide) rfl (by decide) rfl rfl rfl hl.1 rfl (Nat.le_of_ble_eq_true rfl) dX8_readTree_3 ⟨Nat.zero_le _, Nat.zero_le _⟩ (fun H locs hP hD hS => ?_)
  refine lv_aload_n hx hb dX8_readTree_6 rfl (lv_at hl 0 rfl) ?_
  obtain ⟨r3, h4, hf⟩ := q_b1o hf
  refine q_roVl (As := []) (rest := []) (ci := 8) ⟨hx, hb, hml, hown, hts⟩ (kX8_name l dC dI cI cB cZ o0 a0 sc1 t0 r3 h4) (cwV 0 hts gX8_readTree_X8_name rfl rfl rfl hdX8_name ⟨Nat.le_of_ble_eq_true rfl, Nat.le_of_ble_eq_true rfl⟩) hK hP rfl rfl rfl hl.1 rfl (Nat.le_of_ble_eq_true rfl) dX8_readTree_7 ⟨Nat.zero_le _, Nat.zero_le _⟩ ?_
  obtain ⟨r5, h6, hf⟩ := q_b1o hf
  refine q_roSi (As := [.long r3]) (rest := []) ⟨hx, hb, hml, hown, hts⟩ (kX8_kindBy l r3 r5 h6) (va_cwS 1 hts gX8_readTree_X8_kindBy rfl rfl rfl hdX8_kindBy ⟨Nat.le_of_ble_eq_true rfl, Nat.le_of_ble_eq_true rfl⟩) rfl hl.1 rfl (Nat.le_of_ble_eq_true rfl) dX8_readTree_10 ⟨Nat.zero_le _, Nat.zero_le _⟩ ?_
  refine lv_istore_n (lv' := [(1, .int r5), (0, .ref o0)]) hx hb dX8_readTree_13 rfl hl (by decide) rfl (fun ls hl => ?_)
  refine lv_aload_n hx hb dX8_readTree_14 rfl (lv_at hl 1 rfl) ?_
  refine va_get (D := (dC, dI)) (ci := 8) (v := .int (sc1 18 0)) (C := RX8) (T := TX8) (N := 27) hx hb hts nX8_readTree_8 hown hK hP 0 rfl rfl 18 (by decide) (hts _ qX8_readTree_1) (fun _ h9 => h9) rfl dX8_readTree_15 ?_
  obtain ⟨osj7, hqj8, hf⟩ := q_b1o hf
  have kj8 : ∀ sj7 : St, sj7 = osj7 → ∀ (H : Heap) (locs : List Loc), va_P (dC, dI) vwCl (wcM cI cZ o0 a0 sj7 t0) H → va_D A (wcM cI cZ o0 a0 sj7 t0) → va_S A s.heap H locs → ∀ ls : Array Slot, lv_has ls 5 [(1, .int r5), (0, .ref o0)] → W p l e ({ frames := 4, cells := 0, slots := 0, locals := 86 } : Room) s m [.ref o0].toArray below meth c H locs 0 0 (MQ below (qvW (dC, dI) (q_ty cI cB cZ) (wcM cI cZ o0 a0 s0 t0) (wcM cI cZ o0 a0 z0 t0) sz) [.ref o0].toArray s 0 0 (va_A (wcM cI cZ o0 a0 s0 t0) sz)) (F0 m 36 ls []) := by
    intro sj7 esj7 H locs hP hD hS ls hl
    subst esj7
    refine lv_aload_n hx hb dX8_readTree_36 rfl (lv_at hl 1 rfl) ?_
    refine va_get (D := (dC, dI)) (ci := 8) (v := .int (sj7 18 0)) (C := RX8) (T := TX8) (N := 27) hx hb hts nX8_readTree_8 hown hK hP 0 rfl rfl 18 (by decide) (hts _ qX8_readTree_1) (fun _ h9 => h9) rfl dX8_readTree_37 ?_
    obtain ⟨osj9, hqj10, hf⟩ := q_b1o hf
    have kj10 : ∀ sj9 : St, sj9 = osj9 → ∀ (H : Heap) (locs : List Loc), va_P (dC, dI) vwCl (wcM cI cZ o0 a0 sj9 t0) H → va_D A (wcM cI cZ o0 a0 sj9 t0) → va_S A s.heap H locs → ∀ ls : Array Slot, lv_has ls 5 [(1, .int r5), (0, .ref o0)] → W p l e ({ frames := 4, cells := 0, slots := 0, locals := 86 } : Room) s m [.ref o0].toArray below meth c H locs 0 0 (MQ below (qvW (dC, dI) (q_ty cI cB cZ) (wcM cI cZ o0 a0 s0 t0) (wcM cI cZ o0 a0 z0 t0) sz) [.ref o0].toArray s 0 0 (va_A (wcM cI cZ o0 a0 s0 t0) sz)) (F0 m 67 ls []) := by
      intro sj9 esj9 H locs hP hD hS ls hl
      subst esj9
      refine lv_aload_n hx hb dX8_readTree_67 rfl (lv_at hl 1 rfl) ?_
      refine lv_iconst (v := 0) hx hb dX8_readTree_68 (by decide) ?_
      refine lv_bipush (v := 30) hx hb dX8_readTree_69 (by decide) ?_
      obtain ⟨r11, sc12, h13, hf⟩ := q_b2o hf
      refine q_rwVi (As := [.int (0 : Int32), .int (30 : Int32)]) (rest := []) (ci := 8) (wr := []) (w2 := (wcM cI cZ o0 a0 sc12 t0)) ⟨hx, hb, hml, hown, hts⟩ (kX8_number l dC dI cI cB cZ o0 a0 sj9 t0 (0 : Int32) (30 : Int32) H.size r11 sc12 h13) (cwV 2 hts gX8_readTree_X8_number rfl rfl rfl hdX8_number ⟨Nat.le_of_ble_eq_true rfl, Nat.le_of_ble_eq_true rfl⟩) hK hP hD hS hA [0, 1, 2, 3, 4, 5, 6, 7, 8, 9, 10] [] [0, 1, 2, 3, 4, 5, 6, 7, 8, 9, 10] rfl rfl (by decide) (by decide) (by decide) rfl (by decide) rfl rfl rfl hl.1 rfl (Nat.le_of_ble_eq_true rfl) dX8_readTree_71 ⟨Nat.zero_le _, Nat.zero_le _⟩ (fun H locs hP hD hS => ?_)
      refine lv_istore_n (lv' := [(2, .int r11), (1, .int r5), (0, .ref o0)]) hx hb dX8_readTree_74 rfl hl (by decide) rfl (fun ls hl => ?_)
      refine lv_aload_n hx hb dX8_readTree_75 rfl (lv_at hl 2 rfl) ?_
      refine lv_iconst (v := 0) hx hb dX8_readTree_76 (by decide) ?_
      refine lv_bipush (v := 9) hx hb dX8_readTree_77 (by decide) ?_
      obtain ⟨r14, sc15, h16, hf⟩ := q_b2o hf
      refine q_rwVi (As := [.int (0 : Int32), .int (9 : Int32)]) (rest := []) (ci := 8) (wr := []) (w2 := (wcM cI cZ o0 a0 sc15 t0)) ⟨hx, hb, hml, hown, hts⟩ (kX8_number l dC dI cI cB cZ o0 a0 sc12 t0 (0 : Int32) (9 : Int32) H.size r14 sc15 h16) (cwV 2 hts gX8_readTree_X8_number rfl rfl rfl hdX8_number ⟨Nat.le_of_ble_eq_true rfl, Nat.le_of_ble_eq_true rfl⟩) hK hP hD hS hA [0, 1, 2, 3, 4, 5, 6, 7, 8, 9, 10] [] [0, 1, 2, 3, 4, 5, 6, 7, 8, 9, 10] rfl rfl (by decide) (by decide) (by decide) rfl (by decide) rfl rfl rfl hl.1 rfl (Nat.le_of_ble_eq_true rfl) dX8_readTree_79 ⟨Nat.zero_le _, Nat.zero_le _⟩ (fun H locs hP hD hS => ?_)
      refine lv_istore_n (lv' := [(3, .int r14), (2, .int r11), (1, .int r5), (0, .ref o0)]) hx hb dX8_readTree_82 rfl hl (by decide) rfl (fun ls hl => ?_)
      refine lv_aload_n hx hb dX8_readTree_83 rfl (lv_at hl 3 rfl) ?_
      obtain ⟨sc17, h18, hf⟩ := q_b1o hf
      refine q_rwVv (As := []) (rest := []) (ci := 8) (wr := []) (w2 := (wcM cI cZ o0 a0 sc17 t0)) ⟨hx, hb, hml, hown, hts⟩ (kX8_mustEnd l dC dI cI cB cZ o0 a0 sc15 t0 H.size sc17 h18) (cwV 0 hts gX8_readTree_X8_mustEnd rfl rfl rfl hdX8_mustEnd ⟨Nat.le_of_ble_eq_true rfl, Nat.le_of_ble_eq_true rfl⟩) hK hP hD hS hA [0, 1, 2, 3, 4, 5, 6, 7, 8, 9, 10] [] [0, 1, 2, 3, 4, 5, 6, 7, 8, 9, 10] rfl rfl (by decide) (by decide) (by decide) rfl (by decide) rfl rfl rfl hl.1 rfl (Nat.le_of_ble_eq_true rfl) dX8_readTree_84 ⟨Nat.zero_le _, Nat.zero_le _⟩ (fun H locs hP hD hS => ?_)
      refine lv_aload_n hx hb dX8_readTree_87 rfl (lv_at hl 3 rfl) ?_
      refine va_get (D := (dC, dI)) (ci := 8) (v := .int (sc17 18 0)) (C := RX8) (T := TX8) (N := 27) hx hb hts nX8_readTree_8 hown hK hP 0 rfl rfl 18 (by decide) (hts _ qX8_readTree_1) (fun _ h9 => h9) rfl dX8_readTree_88 ?_
      refine lv_if_ne (tgt := 145) hx hb dX8_readTree_91 (by decide) (fun c19 => ?_) (fun c19 => ?_)
      · have hf := q_f c19 hf
        have ee0 := q_s1 hf
        subst ee0
        exact q_wretV hx hb hr hlk hAe hK hP hD hS dX8_readTree_145
      · have hf := q_t c19 hf
        refine lv_bipush (v := 47) hx hb dX8_readTree_94 (by decide) ?_
        refine lv_iconst (v := 3) hx hb dX8_readTree_96 (by decide) ?_
        refine lv_aload_n hx hb dX8_readTree_97 rfl (lv_at hl 3 rfl) ?_
        refine va_get (D := (dC, dI)) (ci := 8) (v := .ref (a0 6)) (C := RX8) (T := TX8) (N := 27) hx hb hts nX8_readTree_8 hown hK hP 0 rfl rfl 6 (by decide) (hts _ qX8_readTree_4) (fun _ h9 => h9) rfl dX8_readTree_98 ?_
        refine lv_iconst (v := 2) hx hb dX8_readTree_101 (by decide) ?_
        obtain ⟨c20, hf⟩ := q_ck hf
        refine va_iald hx hb hK hP 5 0 rfl rfl c20 dX8_readTree_102 ?_
        refine lv_imul hx hb dX8_readTree_103 ?_
        refine lv_iadd hx hb dX8_readTree_104 ?_
        obtain ⟨x21, ex21, hf⟩ := q_lto hf
        refine W.eq (g2 := F0 m 105 ls [.int x21]) (by rw [ex21]) ?_
        refine lv_istore (lv' := [(4, .int x21), (3, .int r14), (2, .int r11), (1, .int r5), (0, .ref o0)]) hx hb dX8_readTree_105 hl (by decide) rfl (fun ls hl => ?_)
        refine lv_aload_n hx hb dX8_readTree_107 rfl (lv_at hl 4 rfl) ?_
        refine va_get (D := (dC, dI)) (ci := 8) (v := .ref (a0 6)) (C := RX8) (T := TX8) (N := 27) hx hb hts nX8_readTree_8 hown hK hP 0 rfl rfl 6 (by decide) (hts _ qX8_readTree_4) (fun _ h9 => h9) rfl dX8_readTree_108 ?_
        refine lv_iload hx hb dX8_readTree_111 (lv_at hl 0 rfl) ?_
        refine lv_iload_n hx hb dX8_readTree_113 rfl (lv_at hl 3 rfl) ?_
        obtain ⟨c22, hf⟩ := q_ck hf
        obtain ⟨sn23, esn23, hf⟩ := q_lto hf
        refine va_iast hx hb hK hP hD hS 5 0 rfl rfl c22 dX8_readTree_114 (fun H locs hP hD hS => ?_)
        have hP : va_P (dC, dI) vwCl (wcM cI cZ o0 a0 sn23 t0) H := by rw [esn23]; exact hP
        have hD : va_D A (wcM cI cZ o0 a0 sn23 t0) := by rw [esn23]; exact hD
        refine lv_aload_n hx hb dX8_readTree_115 rfl (lv_at hl 4 rfl) ?_
        refine va_get (D := (dC, dI)) (ci := 8) (v := .ref (a0 6)) (C := RX8) (T := TX8) (N := 27) hx hb hts nX8_readTree_8 hown hK hP 0 rfl rfl 6 (by decide) (hts _ qX8_readTree_4) (fun _ h9 => h9) rfl dX8_readTree_116 ?_
        refine lv_iload hx hb dX8_readTree_119 (lv_at hl 0 rfl) ?_
        refine lv_iconst (v := 1) hx hb dX8_readTree_121 (by decide) ?_
        refine lv_iadd hx hb dX8_readTree_122 ?_
        refine lv_iload_n hx hb dX8_readTree_123 rfl (lv_at hl 2 rfl) ?_
        obtain ⟨c24, hf⟩ := q_ck hf
        obtain ⟨sn25, esn25, hf⟩ := q_lto hf
        refine va_iast hx hb hK hP hD hS 5 0 rfl rfl c24 dX8_readTree_124 (fun H locs hP hD hS => ?_)
        have hP : va_P (dC, dI) vwCl (wcM cI cZ o0 a0 sn25 t0) H := by rw [esn25]; exact hP
        have hD : va_D A (wcM cI cZ o0 a0 sn25 t0) := by rw [esn25]; exact hD
        refine lv_aload_n hx hb dX8_readTree_125 rfl (lv_at hl 4 rfl) ?_
        refine va_get (D := (dC, dI)) (ci := 8) (v := .ref (a0 6)) (C := RX8) (T := TX8) (N := 27) hx hb hts nX8_readTree_8 hown hK hP 0 rfl rfl 6 (by decide) (hts _ qX8_readTree_4) (fun _ h9 => h9) rfl dX8_readTree_126 ?_
        refine lv_iload hx hb dX8_readTree_129 (lv_at hl 0 rfl) ?_
        refine lv_iconst (v := 2) hx hb dX8_readTree_131 (by decide) ?_
        refine lv_iadd hx hb dX8_readTree_132 ?_
        refine lv_iload_n hx hb dX8_readTree_133 rfl (lv_at hl 1 rfl) ?_
        obtain ⟨c26, hf⟩ := q_ck hf
        obtain ⟨sn27, esn27, hf⟩ := q_lto hf
        refine va_iast hx hb hK hP hD hS 5 0 rfl rfl c26 dX8_readTree_134 (fun H locs hP hD hS => ?_)
        have hP : va_P (dC, dI) vwCl (wcM cI cZ o0 a0 sn27 t0) H := by rw [esn27]; exact hP
        have hD : va_D A (wcM cI cZ o0 a0 sn27 t0) := by rw [esn27]; exact hD
        refine lv_aload_n hx hb dX8_readTree_135 rfl (lv_at hl 4 rfl) ?_
        refine va_get (D := (dC, dI)) (ci := 8) (v := .ref (a0 6)) (C := RX8) (T := TX8) (N := 27) hx hb hts nX8_readTree_8 hown hK hP 0 rfl rfl 6 (by decide) (hts _ qX8_readTree_4) (fun _ h9 => h9) rfl dX8_readTree_136 ?_
        refine lv_iconst (v := 2) hx hb dX8_readTree_139 (by decide) ?_
        refine lv_dup2_11 hx hb dX8_readTree_140 rfl rfl ?_
        obtain ⟨c28, hf⟩ := q_ck hf
        refine va_iald hx hb hK hP 5 0 rfl rfl c28 dX8_readTree_141 ?_
        refine lv_iconst (v := 1) hx hb dX8_readTree_142 (by decide) ?_
        refine lv_iadd hx hb dX8_readTree_143 ?_
        obtain ⟨c29, hf⟩ := q_ck hf
        obtain ⟨sn30, esn30, hf⟩ := q_lto hf
        refine va_iast hx hb hK hP hD hS 5 0 rfl rfl c29 dX8_readTree_144 (fun H locs hP hD hS => ?_)
        have hP : va_P (dC, dI) vwCl (wcM cI cZ o0 a0 sn30 t0) H := by rw [esn30]; exact hP
        have hD : va_D A (wcM cI cZ o0 a0 sn30 t0) := by rw [esn30]; exact hD
        have ee0 := q_s1 hf
        subst ee0
        exact q_wretV hx hb hr hlk hAe hK hP hD hS dX8_readTree_145
    have hf := hqj10
    refine lv_if_ne (tgt := 67) hx hb dX8_readTree_40 (by decide) (fun c31 => ?_) (fun c31 => ?_)
    · have hf := q_f c31 hf
      exact kj10 sj7 (q_s1 hf) _ _ hP hD hS _ hl
    · have hf := q_t c31 hf
      refine lv_aload_n hx hb dX8_readTree_43 rfl (lv_at hl 1 rfl) ?_
      refine va_get (D := (dC, dI)) (ci := 8) (v := .int (sj7 15 0)) (C := RX8) (T := TX8) (N := 27) hx hb hts nX8_readTree_8 hown hK hP 0 rfl rfl 15 (by decide) (hts _ qX8_readTree_3) (fun _ h9 => h9) rfl dX8_readTree_44 ?_
      refine lv_iconst (v := 3) hx hb dX8_readTree_47 (by decide) ?_
      refine lv_icmp_ne (tgt := 67) hx hb dX8_readTree_48 (by decide) (fun c32 => ?_) (fun c32 => ?_)
      · have hf := q_f c32 hf
        exact kj10 sj7 (q_s1 hf) _ _ hP hD hS _ hl
      · have hf := q_t c32 hf
        refine lv_aload_n hx hb dX8_readTree_51 rfl (lv_at hl 1 rfl) ?_
        refine lv_aload_n hx hb dX8_readTree_52 rfl (lv_at hl 1 rfl) ?_
        obtain ⟨r33, h34, hf⟩ := q_b1o hf
        refine q_roVi (As := []) (rest := [.ref o0]) (ci := 8) ⟨hx, hb, hml, hown, hts⟩ (kX8_figures l dC dI cI cB cZ o0 a0 sj7 t0 r33 h34) (cwV 0 hts gX8_readTree_X8_figures rfl rfl rfl hdX8_figures ⟨Nat.le_of_ble_eq_true rfl, Nat.le_of_ble_eq_true rfl⟩) hK hP rfl rfl rfl hl.1 rfl (Nat.le_of_ble_eq_true rfl) dX8_readTree_53 ⟨Nat.zero_le _, Nat.zero_le _⟩ ?_
        obtain ⟨r35, h36, hf⟩ := q_b1o hf
        refine q_roVi (As := [.int r33]) (rest := []) (ci := 8) ⟨hx, hb, hml, hown, hts⟩ (kX8_isTold l dC dI cI cB cZ o0 a0 sj7 t0 r33 r35 h36) (cwV 1 hts gX8_readTree_X8_isTold rfl rfl rfl hdX8_isTold ⟨Nat.le_of_ble_eq_true rfl, Nat.le_of_ble_eq_true rfl⟩) hK hP rfl rfl rfl hl.1 rfl (Nat.le_of_ble_eq_true rfl) dX8_readTree_56 ⟨Nat.zero_le _, Nat.zero_le _⟩ ?_
        refine lv_if_eq (tgt := 67) hx hb dX8_readTree_59 (by decide) (fun c37 => ?_) (fun c37 => ?_)
        · have hf := q_t c37 hf
          exact kj10 sj7 (q_s1 hf) _ _ hP hD hS _ hl
        · have hf := q_f c37 hf
          refine lv_aload_n hx hb dX8_readTree_62 rfl (lv_at hl 1 rfl) ?_
          refine lv_iconst (v := 2) hx hb dX8_readTree_63 (by decide) ?_
          obtain ⟨sc38, h39, hf⟩ := q_b1o hf
          refine q_rwVv (As := [.int (2 : Int32)]) (rest := []) (ci := 8) (wr := []) (w2 := (wcM cI cZ o0 a0 sc38 t0)) ⟨hx, hb, hml, hown, hts⟩ (kX8_bad l dC dI cI cB cZ o0 a0 sj7 t0 (2 : Int32) H.size sc38 h39) (cwV 1 hts gX8_readTree_X8_bad rfl rfl rfl hdX8_bad ⟨Nat.le_of_ble_eq_true rfl, Nat.le_of_ble_eq_true rfl⟩) hK hP hD hS hA [0, 1, 2, 3, 4, 5, 6, 7, 8, 9, 10] [] [0, 1, 2, 3, 4, 5, 6, 7, 8, 9, 10] rfl rfl (by decide) (by decide) (by decide) rfl (by decide) rfl rfl rfl hl.1 rfl (Nat.le_of_ble_eq_true rfl) dX8_readTree_64 ⟨Nat.zero_le _, Nat.zero_le _⟩ (fun H locs hP hD hS => ?_)
          exact kj10 sc38 (q_s1 hf) _ _ hP hD hS _ hl
  have hf := hqj8
  refine lv_if_ne (tgt := 36) hx hb dX8_readTree_18 (by decide) (fun c40 => ?_) (fun c40 => ?_)
  · have hf := q_f c40 hf
    exact kj8 sc1 (q_s1 hf) _ _ hP hD hS _ hl
  · have hf := q_t c40 hf
    refine lv_aload_n hx hb dX8_readTree_21 rfl (lv_at hl 1 rfl) ?_
    refine lv_iload_n hx hb dX8_readTree_22 rfl (lv_at hl 0 rfl) ?_
    refine lv_ldc (v := -1000000) hx hb hown (hts _ qX8_readTree_2) dX8_readTree_23 ?_
    obtain ⟨ov41, hqj42, hf⟩ := q_b1o hf
    have kj42 : ∀ v41 : Int32, v41 = ov41 → ∀ (H : Heap) (locs : List Loc), va_P (dC, dI) vwCl (wcM cI cZ o0 a0 sc1 t0) H → va_D A (wcM cI cZ o0 a0 sc1 t0) → va_S A s.heap H locs → ∀ ls : Array Slot, lv_has ls 5 [(1, .int r5), (0, .ref o0)] → W p l e ({ frames := 4, cells := 0, slots := 0, locals := 86 } : Room) s m [.ref o0].toArray below meth c H locs 0 0 (MQ below (qvW (dC, dI) (q_ty cI cB cZ) (wcM cI cZ o0 a0 s0 t0) (wcM cI cZ o0 a0 z0 t0) sz) [.ref o0].toArray s 0 0 (va_A (wcM cI cZ o0 a0 s0 t0) sz)) (F0 m 33 ls [.int v41, .ref o0]) := by
      intro v41 ev41 H locs hP hD hS ls hl
      subst ev41
      obtain ⟨sc43, h44, hf⟩ := q_b1o hf
      refine q_rwVv (As := [.int v41]) (rest := []) (ci := 8) (wr := []) (w2 := (wcM cI cZ o0 a0 sc43 t0)) ⟨hx, hb, hml, hown, hts⟩ (kX8_must l dC dI cI cB cZ o0 a0 sc1 t0 v41 H.size sc43 h44) (cwV 1 hts gX8_readTree_X8_must rfl rfl rfl hdX8_must ⟨Nat.le_of_ble_eq_true rfl, Nat.le_of_ble_eq_true rfl⟩) hK hP hD hS hA [0, 1, 2, 3, 4, 5, 6, 7, 8, 9, 10] [] [0, 1, 2, 3, 4, 5, 6, 7, 8, 9, 10] rfl rfl (by decide) (by decide) (by decide) rfl (by decide) rfl rfl rfl hl.1 rfl (Nat.le_of_ble_eq_true rfl) dX8_readTree_33 ⟨Nat.zero_le _, Nat.zero_le _⟩ (fun H locs hP hD hS => ?_)
      exact kj8 sc43 (q_s1 hf) _ _ hP hD hS _ hl
    have hf := hqj42
    refine lv_icmp_eq (tgt := 32) hx hb dX8_readTree_25 (by decide) (fun c45 => ?_) (fun c45 => ?_)
    · have hf := q_t c45 hf
      refine lv_iconst (v := 0) hx hb dX8_readTree_32 (by decide) ?_
      exact kj42 (0 : Int32) (q_s1 hf) _ _ hP hD hS _ hl
    · have hf := q_f c45 hf
      refine lv_iconst (v := 1) hx hb dX8_readTree_28 (by decide) ?_
      refine lv_goto (tgt := 33) hx hb dX8_readTree_29 (by decide) ?_
      exact kj42 (1 : Int32) (q_s1 hf) _ _ hP hD hS _ hl
theorem hdX8_hill : yX8_hill.cls = RX8 ∧ yX8_hill.cls ≠ "java/lang/invoke/MethodHandle" ∧ yX8_hill.cls ≠ "java/lang/invoke/VarHandle" ∧ (parseMethodDescriptor yX8_hill.desc).map (fun d => d.parameters.length) = some 0 := by decide +kernel
theorem qX8_hill_1 : (Cond.fieldLink RX8 41 "DeadAskedModel" "thrown" "I") ∈ wsX8_hill := List.mem_of_getElem? (i := 1) (by decide +kernel)
theorem qX8_hill_2 : (Cond.fieldLink RX8 22 "DeadAskedModel" "fresh" "[I") ∈ wsX8_hill := List.mem_of_getElem? (i := 2) (by decide +kernel)
theorem qX8_hill_3 : (Cond.constantLong RX8 164 444300621413) ∈ wsX8_hill := List.mem_of_getElem? (i := 3) (by decide +kernel)
theorem qX8_hill_4 : (Cond.constantLong RX8 169 1752134254) ∈ wsX8_hill := List.mem_of_getElem? (i := 4) (by decide +kernel)
theorem qX8_hill_5 : (Cond.constantLong RX8 174 1953654117) ∈ wsX8_hill := List.mem_of_getElem? (i := 5) (by decide +kernel)
theorem qX8_hill_6 : (Cond.fieldLink RX8 103 "DeadAskedModel" "fault" "I") ∈ wsX8_hill := List.mem_of_getElem? (i := 6) (by decide +kernel)
theorem qX8_hill_7 : (Cond.fieldLink RX8 91 "DeadAskedModel" "token" "I") ∈ wsX8_hill := List.mem_of_getElem? (i := 7) (by decide +kernel)
theorem qX8_hill_8 : (Cond.fieldLink RX8 179 "DeadAskedModel" "latest" "I") ∈ wsX8_hill := List.mem_of_getElem? (i := 8) (by decide +kernel)
theorem qX8_hill_9 : (Cond.constantLong RX8 182 (-9000000000000000100)) ∈ wsX8_hill := List.mem_of_getElem? (i := 9) (by decide +kernel)
theorem qX8_hill_10 : (Cond.fieldLink RX8 109 "DeadAskedModel" "faultAt" "I") ∈ wsX8_hill := List.mem_of_getElem? (i := 10) (by decide +kernel)
theorem qX8_hill_11 : (Cond.fieldLink RX8 184 "DeadAskedModel" "isThere" "Z") ∈ wsX8_hill := List.mem_of_getElem? (i := 11) (by decide +kernel)
theorem qX8_hill_12 : (Cond.fieldLink RX8 188 "DeadAskedModel" "acts" "I") ∈ wsX8_hill := List.mem_of_getElem? (i := 12) (by decide +kernel)
theorem qX8_hill_13 : (Cond.fieldLink RX8 19 "DeadAskedModel" "hill" "[I") ∈ wsX8_hill := List.mem_of_getElem? (i := 13) (by decide +kernel)
theorem nX8_hill_8 : ∀ w ∈ u_ws RX8 TX8 27, w ∈ wsX8_hill := fun _ h => (List.mem_cons_of_mem _ (List.mem_append_right _ h))
set_option maxHeartbeats 4000000 in
set_option maxRecDepth 100000 in
theorem kX8_hill (o0 : Nat) (a0 : Nat → Nat) (s0 : St) (t0 : Lt) (sz : Nat) (r : Int64) (z0 : St) (hf : fX8_hill s0 = some (r, z0)) : Met l yX8_hill wsX8_hill ({ frames := 5, cells := 0, slots := 0, locals := 111 } : Room) (pcW (dC, dI) (q_ty cI cB cZ) [.ref o0] (wcM cI cZ o0 a0 s0 t0) sz) (qlW (dC, dI) (q_ty cI cB cZ) (wcM cI cZ o0 a0 s0 t0) (wcM cI cZ o0 a0 z0 t0) sz r) 0 0 (va_A (wcM cI cZ o0 a0 s0 t0) sz) := by
  refine q_rwM (cc := cX8_hill) (maxL := 2) (ret := (some .long)) (by decide +kernel) rfl (Nat.le_of_ble_eq_true rfl) ?_
  intro p e s m below meth c hx hb hr hlk hml hown hts hK A H hAe hH hsz hP hD hA hS ls hl
  have hown : s.vm.findClass RX8 = some m.cls := hown
  have hl : lv_has ls 2 [(0, .ref o0)] := hl
  unfold fX8_hill at hf
  refine lv_aload_n hx hb dX8_hill_0 rfl (lv_at hl 0 rfl) ?_
  refine lv_iconst (v := 0) hx hb dX8_hill_1 (by decide) ?_
  obtain ⟨sn1, esn1, hf⟩ := q_lto hf
  refine va_put (D := (dC, dI)) (ci := 8) (v := .int (0 : Int32)) (ty := .int) (C := RX8) (T := TX8) (N := 27) hx hb hts nX8_hill_8 tyX8 tyX8_ok nmX8 hown hK hP hD hS 0 rfl rfl 0 (by decide) (hts _ qX8_hill_1) (fun _ h9 => h9) rfl (by decide +kernel) rfl rfl (Nat.le_of_ble_eq_true rfl) dX8_hill_2 (fun H locs hP hD hS => ?_)
  have hP : va_P (dC, dI) vwCl (wcM cI cZ o0 a0 sn1 t0) H := by rw [esn1]; exact hP
  have hD : va_D A (wcM cI cZ o0 a0 sn1 t0) := by rw [esn1]; exact hD
  refine lv_aload_n hx hb dX8_hill_5 rfl (lv_at hl 0 rfl) ?_
  obtain ⟨sc2, h3, hf⟩ := q_b1o hf
  refine q_rwVv (As := []) (rest := []) (ci := 8) (wr := []) (w2 := (wcM cI cZ o0 a0 sc2 t0)) ⟨hx, hb, hml, hown, hts⟩ (kX8_begin l dC dI cI cB cZ o0 a0 sn1 t0 H.size sc2 h3) (cwV 0 hts gX8_hill_X8_begin rfl rfl rfl hdX8_begin ⟨Nat.le_of_ble_eq_true rfl, Nat.le_of_ble_eq_true rfl⟩) hK hP hD hS hA [0, 1, 2, 3, 4, 5, 6, 7, 8, 9, 10] [] [0, 1, 2, 3, 4, 5, 6, 7, 8, 9, 10] rfl rfl (by decide) (by decide) (by decide) rfl (by decide) rfl rfl rfl hl.1 rfl (Nat.le_of_ble_eq_true rfl) dX8_hill_6 ⟨Nat.zero_le _, Nat.zero_le _⟩ (fun H locs hP hD hS => ?_)
  refine lv_iconst (v := 0) hx hb dX8_hill_9 (by decide) ?_
  refine lv_istore_n (lv' := [(1, .int (0 : Int32)), (0, .ref o0)]) hx hb dX8_hill_10 rfl hl (by decide) rfl (fun ls hl => ?_)
  obtain ⟨oz7, hqn6, hf⟩ := q_b1o hf
  have kxn6 : ∀ z7 : St, z7 = oz7 → ∀ (H : Heap) (locs : List Loc), va_P (dC, dI) vwCl (wcM cI cZ o0 a0 z7 t0) H → va_D A (wcM cI cZ o0 a0 z7 t0) → va_S A s.heap H locs → ∀ ls : Array Slot, lv_has ls 2 [(0, .ref o0)] → W p l e ({ frames := 5, cells := 0, slots := 0, locals := 111 } : Room) s m [.ref o0].toArray below meth c H locs 0 0 (MQ below (qlW (dC, dI) (q_ty cI cB cZ) (wcM cI cZ o0 a0 s0 t0) (wcM cI cZ o0 a0 z0 t0) sz r) [.ref o0].toArray s 0 0 (va_A (wcM cI cZ o0 a0 s0 t0) sz)) (F0 m 30 ls []) := by
    intro z7 ez7 H locs hP hD hS ls hl
    subst ez7
    refine lv_aload_n hx hb dX8_hill_30 rfl (lv_at hl 0 rfl) ?_
    obtain ⟨sc11, h12, hf⟩ := q_b1o hf
    refine q_rwVv (As := []) (rest := []) (ci := 8) (wr := []) (w2 := (wcM cI cZ o0 a0 sc11 t0)) ⟨hx, hb, hml, hown, hts⟩ (kX8_readWinds l dC dI cI cB cZ o0 a0 z7 t0 H.size sc11 h12) (cwV 0 hts gX8_hill_X8_readWinds rfl rfl rfl hdX8_readWinds ⟨Nat.le_of_ble_eq_true rfl, Nat.le_of_ble_eq_true rfl⟩) hK hP hD hS hA [0, 1, 2, 3, 4, 5, 6, 7, 8, 9, 10] [] [0, 1, 2, 3, 4, 5, 6, 7, 8, 9, 10] rfl rfl (by decide) (by decide) (by decide) rfl (by decide) rfl rfl rfl hl.1 rfl (Nat.le_of_ble_eq_true rfl) dX8_hill_31 ⟨Nat.zero_le _, Nat.zero_le _⟩ (fun H locs hP hD hS => ?_)
    obtain ⟨oz15, hqn14, hf⟩ := q_b1o hf
    have kxn14 : ∀ z15 : St, z15 = oz15 → ∀ (H : Heap) (locs : List Loc), va_P (dC, dI) vwCl (wcM cI cZ o0 a0 z15 t0) H → va_D A (wcM cI cZ o0 a0 z15 t0) → va_S A s.heap H locs → ∀ ls : Array Slot, lv_has ls 2 [(0, .ref o0)] → W p l e ({ frames := 5, cells := 0, slots := 0, locals := 111 } : Room) s m [.ref o0].toArray below meth c H locs 0 0 (MQ below (qlW (dC, dI) (q_ty cI cB cZ) (wcM cI cZ o0 a0 s0 t0) (wcM cI cZ o0 a0 z0 t0) sz r) [.ref o0].toArray s 0 0 (va_A (wcM cI cZ o0 a0 s0 t0) sz)) (F0 m 52 ls []) := by
      intro z15 ez15 H locs hP hD hS ls hl
      subst ez15
      obtain ⟨oz23, hqn22, hf⟩ := q_b1o hf
      have kxn22 : ∀ z23 : St, z23 = oz23 → ∀ (H : Heap) (locs : List Loc), va_P (dC, dI) vwCl (wcM cI cZ o0 a0 z23 t0) H → va_D A (wcM cI cZ o0 a0 z23 t0) → va_S A s.heap H locs → ∀ ls : Array Slot, lv_has ls 2 [(0, .ref o0)] → W p l e ({ frames := 5, cells := 0, slots := 0, locals := 111 } : Room) s m [.ref o0].toArray below meth c H locs 0 0 (MQ below (qlW (dC, dI) (q_ty cI cB cZ) (wcM cI cZ o0 a0 s0 t0) (wcM cI cZ o0 a0 z0 t0) sz r) [.ref o0].toArray s 0 0 (va_A (wcM cI cZ o0 a0 s0 t0) sz)) (F0 m 70 ls []) := by
        intro z23 ez23 H locs hP hD hS ls hl
        subst ez23
        obtain ⟨oz31, hqn30, hf⟩ := q_b1o hf
        have kxn30 : ∀ z31 : St, z31 = oz31 → ∀ (H : Heap) (locs : List Loc), va_P (dC, dI) vwCl (wcM cI cZ o0 a0 z31 t0) H → va_D A (wcM cI cZ o0 a0 z31 t0) → va_S A s.heap H locs → ∀ ls : Array Slot, lv_has ls 2 [(0, .ref o0)] → W p l e ({ frames := 5, cells := 0, slots := 0, locals := 111 } : Room) s m [.ref o0].toArray below meth c H locs 0 0 (MQ below (qlW (dC, dI) (q_ty cI cB cZ) (wcM cI cZ o0 a0 s0 t0) (wcM cI cZ o0 a0 z0 t0) sz r) [.ref o0].toArray s 0 0 (va_A (wcM cI cZ o0 a0 s0 t0) sz)) (F0 m 88 ls []) := by
          intro z31 ez31 H locs hP hD hS ls hl
          subst ez31
          refine lv_aload_n hx hb dX8_hill_88 rfl (lv_at hl 0 rfl) ?_
          refine va_get (D := (dC, dI)) (ci := 8) (v := .int (z31 18 0)) (C := RX8) (T := TX8) (N := 27) hx hb hts nX8_hill_8 hown hK hP 0 rfl rfl 18 (by decide) (hts _ qX8_hill_6) (fun _ h9 => h9) rfl dX8_hill_89 ?_
          obtain ⟨osj37, hqj38, hf⟩ := q_b1o hf
          have kj38 : ∀ sj37 : St, sj37 = osj37 → ∀ (H : Heap) (locs : List Loc), va_P (dC, dI) vwCl (wcM cI cZ o0 a0 sj37 t0) H → va_D A (wcM cI cZ o0 a0 sj37 t0) → va_S A s.heap H locs → ∀ ls : Array Slot, lv_has ls 2 [(0, .ref o0)] → W p l e ({ frames := 5, cells := 0, slots := 0, locals := 111 } : Room) s m [.ref o0].toArray below meth c H locs 0 0 (MQ below (qlW (dC, dI) (q_ty cI cB cZ) (wcM cI cZ o0 a0 s0 t0) (wcM cI cZ o0 a0 z0 t0) sz r) [.ref o0].toArray s 0 0 (va_A (wcM cI cZ o0 a0 s0 t0) sz)) (F0 m 108 ls []) := by
            intro sj37 esj37 H locs hP hD hS ls hl
            subst esj37
            refine lv_aload_n hx hb dX8_hill_108 rfl (lv_at hl 0 rfl) ?_
            refine va_get (D := (dC, dI)) (ci := 8) (v := .int (sj37 18 0)) (C := RX8) (T := TX8) (N := 27) hx hb hts nX8_hill_8 hown hK hP 0 rfl rfl 18 (by decide) (hts _ qX8_hill_6) (fun _ h9 => h9) rfl dX8_hill_109 ?_
            refine lv_if_le (tgt := 133) hx hb dX8_hill_112 (by decide) (fun c39 => ?_) (fun c39 => ?_)
            · have hf := q_t c39 hf
              refine lv_aload_n hx hb dX8_hill_133 rfl (lv_at hl 0 rfl) ?_
              refine lv_iconst (v := 1) hx hb dX8_hill_134 (by decide) ?_
              obtain ⟨sn40, esn40, hf⟩ := q_lto hf
              refine va_put (D := (dC, dI)) (ci := 8) (v := .int (1 : Int32)) (ty := .boolean) (C := RX8) (T := TX8) (N := 27) hx hb hts nX8_hill_8 tyX8 tyX8_ok nmX8 hown hK hP hD hS 0 rfl rfl 7 (by decide) (hts _ qX8_hill_11) (fun _ h9 => h9) rfl (by decide +kernel) rfl rfl (Nat.le_of_ble_eq_true rfl) dX8_hill_135 (fun H locs hP hD hS => ?_)
              have hP : va_P (dC, dI) vwCl (wcM cI cZ o0 a0 sn40 t0) H := by rw [esn40]; exact hP
              have hD : va_D A (wcM cI cZ o0 a0 sn40 t0) := by rw [esn40]; exact hD
              refine lv_aload_n hx hb dX8_hill_138 rfl (lv_at hl 0 rfl) ?_
              refine lv_iconst (v := 0) hx hb dX8_hill_139 (by decide) ?_
              obtain ⟨sn41, esn41, hf⟩ := q_lto hf
              refine va_put (D := (dC, dI)) (ci := 8) (v := .int (0 : Int32)) (ty := .int) (C := RX8) (T := TX8) (N := 27) hx hb hts nX8_hill_8 tyX8 tyX8_ok nmX8 hown hK hP hD hS 0 rfl rfl 9 (by decide) (hts _ qX8_hill_12) (fun _ h9 => h9) rfl (by decide +kernel) rfl rfl (Nat.le_of_ble_eq_true rfl) dX8_hill_140 (fun H locs hP hD hS => ?_)
              have hP : va_P (dC, dI) vwCl (wcM cI cZ o0 a0 sn41 t0) H := by rw [esn41]; exact hP
              have hD : va_D A (wcM cI cZ o0 a0 sn41 t0) := by rw [esn41]; exact hD
              refine lv_iconst (v := 0) hx hb dX8_hill_143 (by decide) ?_
              refine lv_istore_n (lv' := [(1, .int (0 : Int32)), (0, .ref o0)]) hx hb dX8_hill_144 rfl hl (by decide) rfl (fun ls hl => ?_)
              obtain ⟨oz45, hqn44, hf⟩ := q_b1o hf
              have kxn44 : ∀ z45 : St, z45 = oz45 → ∀ (H : Heap) (locs : List Loc), va_P (dC, dI) vwCl (wcM cI cZ o0 a0 z45 t0) H → va_D A (wcM cI cZ o0 a0 z45 t0) → va_S A s.heap H locs → ∀ ls : Array Slot, lv_has ls 2 [(0, .ref o0)] → W p l e ({ frames := 5, cells := 0, slots := 0, locals := 111 } : Room) s m [.ref o0].toArray below meth c H locs 0 0 (MQ below (qlW (dC, dI) (q_ty cI cB cZ) (wcM cI cZ o0 a0 s0 t0) (wcM cI cZ o0 a0 z0 t0) sz r) [.ref o0].toArray s 0 0 (va_A (wcM cI cZ o0 a0 s0 t0) sz)) (F0 m 169 ls []) := by
                intro z45 ez45 H locs hP hD hS ls hl
                subst ez45
                refine lv_aload_n hx hb dX8_hill_169 rfl (lv_at hl 0 rfl) ?_
                refine va_get (D := (dC, dI)) (ci := 8) (v := .ref (a0 5)) (C := RX8) (T := TX8) (N := 27) hx hb hts nX8_hill_8 hown hK hP 0 rfl rfl 5 (by decide) (hts _ qX8_hill_13) (fun _ h9 => h9) rfl dX8_hill_170 ?_
                refine lv_iconst (v := 0) hx hb dX8_hill_173 (by decide) ?_
                obtain ⟨c50, hf⟩ := q_ck hf
                refine va_iald hx hb hK hP 4 0 rfl rfl c50 dX8_hill_174 ?_
                refine lv_i2l (v := (z45 5 (0 : Int32).toNatClampNeg).toInt64) hx hb dX8_hill_175 rfl ?_
                obtain ⟨ee0, ee1⟩ := q_s2 hf
                subst ee1
                exact q_wretL hx hb hr hlk hAe hK hP hD hS ee0 dX8_hill_176
              have aihn44 : ∀ n44 : Nat, ∀ l1_42 : Int32, ∀ sl43 : St, fX8_hill_L145 n44 l1_42 sl43 = some oz45 → ∀ (H : Heap) (locs : List Loc), va_P (dC, dI) vwCl (wcM cI cZ o0 a0 sl43 t0) H → va_D A (wcM cI cZ o0 a0 sl43 t0) → va_S A s.heap H locs → ∀ ls : Array Slot, lv_has ls 2 [(1, .int l1_42), (0, .ref o0)] → W p l e ({ frames := 5, cells := 0, slots := 0, locals := 111 } : Room) s m [.ref o0].toArray below meth c H locs 0 0 (MQ below (qlW (dC, dI) (q_ty cI cB cZ) (wcM cI cZ o0 a0 s0 t0) (wcM cI cZ o0 a0 z0 t0) sz r) [.ref o0].toArray s 0 0 (va_A (wcM cI cZ o0 a0 s0 t0) sz)) (F0 m 145 ls []) := by
                intro n44
                induction n44 with
                | zero =>
                  intro l1_42 sl43 hf
                  exact q_no hf
                | succ n44 ihn44 =>
                  intro l1_42 sl43 hf H locs hP hD hS ls hl
                  rw [fX8_hill_L145] at hf
                  refine lv_iload_n hx hb dX8_hill_145 rfl (lv_at hl 0 rfl) ?_
                  refine lv_bipush (v := 59) hx hb dX8_hill_146 (by decide) ?_
                  refine lv_icmp_ge (tgt := 169) hx hb dX8_hill_148 (by decide) (fun c46 => ?_) (fun c46 => ?_)
                  · have hf := q_t c46 hf
                    exact kxn44 sl43 (q_s1 hf) _ _ hP hD hS _ (lv_sub hl [1] rfl)
                  · have hf := q_f c46 hf
                    refine lv_aload_n hx hb dX8_hill_151 rfl (lv_at hl 1 rfl) ?_
                    refine va_get (D := (dC, dI)) (ci := 8) (v := .ref (a0 5)) (C := RX8) (T := TX8) (N := 27) hx hb hts nX8_hill_8 hown hK hP 0 rfl rfl 5 (by decide) (hts _ qX8_hill_13) (fun _ h9 => h9) rfl dX8_hill_152 ?_
                    refine lv_iload_n hx hb dX8_hill_155 rfl (lv_at hl 0 rfl) ?_
                    refine lv_aload_n hx hb dX8_hill_156 rfl (lv_at hl 1 rfl) ?_
                    refine va_get (D := (dC, dI)) (ci := 8) (v := .ref (a0 6)) (C := RX8) (T := TX8) (N := 27) hx hb hts nX8_hill_8 hown hK hP 0 rfl rfl 6 (by decide) (hts _ qX8_hill_2) (fun _ h9 => h9) rfl dX8_hill_157 ?_
                    refine lv_iload_n hx hb dX8_hill_160 rfl (lv_at hl 0 rfl) ?_
                    obtain ⟨c47, hf⟩ := q_ck hf
                    refine va_iald hx hb hK hP 5 0 rfl rfl c47 dX8_hill_161 ?_
                    obtain ⟨c48, hf⟩ := q_ck hf
                    obtain ⟨sn49, esn49, hf⟩ := q_lto hf
                    refine va_iast hx hb hK hP hD hS 4 0 rfl rfl c48 dX8_hill_162 (fun H locs hP hD hS => ?_)
                    have hP : va_P (dC, dI) vwCl (wcM cI cZ o0 a0 sn49 t0) H := by rw [esn49]; exact hP
                    have hD : va_D A (wcM cI cZ o0 a0 sn49 t0) := by rw [esn49]; exact hD
                    refine lv_iinc (v := l1_42 + (1 : Int32)) (lv' := [(1, .int (l1_42 + (1 : Int32))), (0, .ref o0)]) hx hb dX8_hill_163 hl (k := 0) rfl rfl (by decide) rfl (fun ls hl => ?_)
                    refine lv_goto (tgt := 145) hx hb dX8_hill_166 (by decide) ?_
                    exact ihn44 (l1_42 + (1 : Int32)) sn49 hf _ _ hP hD hS _ hl
              exact aihn44 5000 (0 : Int32) sn41 hqn44 _ _ hP hD hS _ hl
            · have hf := q_f c39 hf
              refine lv_aload_n hx hb dX8_hill_115 rfl (lv_at hl 0 rfl) ?_
              refine lv_aload_n hx hb dX8_hill_116 rfl (lv_at hl 0 rfl) ?_
              refine va_get (D := (dC, dI)) (ci := 8) (v := .int (sj37 18 0)) (C := RX8) (T := TX8) (N := 27) hx hb hts nX8_hill_8 hown hK hP 0 rfl rfl 18 (by decide) (hts _ qX8_hill_6) (fun _ h9 => h9) rfl dX8_hill_117 ?_
              obtain ⟨sn51, esn51, hf⟩ := q_lto hf
              refine va_put (D := (dC, dI)) (ci := 8) (v := .int (sj37 18 0)) (ty := .int) (C := RX8) (T := TX8) (N := 27) hx hb hts nX8_hill_8 tyX8 tyX8_ok nmX8 hown hK hP hD hS 0 rfl rfl 12 (by decide) (hts _ qX8_hill_8) (fun _ h9 => h9) rfl (by decide +kernel) rfl rfl (Nat.le_of_ble_eq_true rfl) dX8_hill_120 (fun H locs hP hD hS => ?_)
              have hP : va_P (dC, dI) vwCl (wcM cI cZ o0 a0 sn51 t0) H := by rw [esn51]; exact hP
              have hD : va_D A (wcM cI cZ o0 a0 sn51 t0) := by rw [esn51]; exact hD
              refine lv_ldc2 (v := -9000000000000000100) hx hb hown (hts _ qX8_hill_9) dX8_hill_123 ?_
              refine lv_aload_n hx hb dX8_hill_126 rfl (lv_at hl 0 rfl) ?_
              refine va_get (D := (dC, dI)) (ci := 8) (v := .int (sn51 19 0)) (C := RX8) (T := TX8) (N := 27) hx hb hts nX8_hill_8 hown hK hP 0 rfl rfl 19 (by decide) (hts _ qX8_hill_10) (fun _ h9 => h9) rfl dX8_hill_127 ?_
              refine lv_i2l (v := (sn51 19 0).toInt64) hx hb dX8_hill_130 rfl ?_
              refine lv_lsub hx hb dX8_hill_131 ?_
              obtain ⟨ee0, ee1⟩ := q_s2 hf
              subst ee1
              exact q_wretL hx hb hr hlk hAe hK hP hD hS ee0 dX8_hill_132
          have hf := hqj38
          refine lv_if_ne (tgt := 108) hx hb dX8_hill_92 (by decide) (fun c52 => ?_) (fun c52 => ?_)
          · have hf := q_f c52 hf
            exact kj38 z31 (q_s1 hf) _ _ hP hD hS _ hl
          · have hf := q_t c52 hf
            refine lv_aload_n hx hb dX8_hill_95 rfl (lv_at hl 0 rfl) ?_
            refine va_get (D := (dC, dI)) (ci := 8) (v := .int (z31 15 0)) (C := RX8) (T := TX8) (N := 27) hx hb hts nX8_hill_8 hown hK hP 0 rfl rfl 15 (by decide) (hts _ qX8_hill_7) (fun _ h9 => h9) rfl dX8_hill_96 ?_
            refine lv_iconst (v := 1) hx hb dX8_hill_99 (by decide) ?_
            refine lv_icmp_eq (tgt := 108) hx hb dX8_hill_100 (by decide) (fun c53 => ?_) (fun c53 => ?_)
            · have hf := q_t c53 hf
              exact kj38 z31 (q_s1 hf) _ _ hP hD hS _ hl
            · have hf := q_f c53 hf
              refine lv_aload_n hx hb dX8_hill_103 rfl (lv_at hl 0 rfl) ?_
              refine lv_iconst (v := 1) hx hb dX8_hill_104 (by decide) ?_
              obtain ⟨sc54, h55, hf⟩ := q_b1o hf
              refine q_rwVv (As := [.int (1 : Int32)]) (rest := []) (ci := 8) (wr := []) (w2 := (wcM cI cZ o0 a0 sc54 t0)) ⟨hx, hb, hml, hown, hts⟩ (kX8_bad l dC dI cI cB cZ o0 a0 z31 t0 (1 : Int32) H.size sc54 h55) (cwV 1 hts gX8_hill_X8_bad rfl rfl rfl hdX8_bad ⟨Nat.le_of_ble_eq_true rfl, Nat.le_of_ble_eq_true rfl⟩) hK hP hD hS hA [0, 1, 2, 3, 4, 5, 6, 7, 8, 9, 10] [] [0, 1, 2, 3, 4, 5, 6, 7, 8, 9, 10] rfl rfl (by decide) (by decide) (by decide) rfl (by decide) rfl rfl rfl hl.1 rfl (Nat.le_of_ble_eq_true rfl) dX8_hill_105 ⟨Nat.zero_le _, Nat.zero_le _⟩ (fun H locs hP hD hS => ?_)
              exact kj38 sc54 (q_s1 hf) _ _ hP hD hS _ hl
        have aihn30 : ∀ n30 : Nat, ∀ sl29 : St, fX8_hill_L70 n30 sl29 = some oz31 → ∀ (H : Heap) (locs : List Loc), va_P (dC, dI) vwCl (wcM cI cZ o0 a0 sl29 t0) H → va_D A (wcM cI cZ o0 a0 sl29 t0) → va_S A s.heap H locs → ∀ ls : Array Slot, lv_has ls 2 [(0, .ref o0)] → W p l e ({ frames := 5, cells := 0, slots := 0, locals := 111 } : Room) s m [.ref o0].toArray below meth c H locs 0 0 (MQ below (qlW (dC, dI) (q_ty cI cB cZ) (wcM cI cZ o0 a0 s0 t0) (wcM cI cZ o0 a0 z0 t0) sz r) [.ref o0].toArray s 0 0 (va_A (wcM cI cZ o0 a0 s0 t0) sz)) (F0 m 70 ls []) := by
          intro n30
          induction n30 with
          | zero =>
            intro sl29 hf
            exact q_no hf
          | succ n30 ihn30 =>
            intro sl29 hf H locs hP hD hS ls hl
            rw [fX8_hill_L70] at hf
            refine lv_aload_n hx hb dX8_hill_70 rfl (lv_at hl 0 rfl) ?_
            obtain ⟨r32, h33, hf⟩ := q_b1o hf
            refine q_roVl (As := []) (rest := []) (ci := 8) ⟨hx, hb, hml, hown, hts⟩ (kX8_name l dC dI cI cB cZ o0 a0 sl29 t0 r32 h33) (cwV 0 hts gX8_hill_X8_name rfl rfl rfl hdX8_name ⟨Nat.le_of_ble_eq_true rfl, Nat.le_of_ble_eq_true rfl⟩) hK hP rfl rfl rfl hl.1 rfl (Nat.le_of_ble_eq_true rfl) dX8_hill_71 ⟨Nat.zero_le _, Nat.zero_le _⟩ ?_
            refine lv_ldc2 (v := 1953654117) hx hb hown (hts _ qX8_hill_5) dX8_hill_74 ?_
            refine W.lcmp hx hb dX8_hill_77 ?_
            refine lv_if_ne (tgt := 88) hx hb dX8_hill_78 (by decide) (fun c34 => ?_) (fun c34 => ?_)
            · have hf := q_f c34 hf
              exact kxn30 sl29 (q_s1 hf) _ _ hP hD hS _ hl
            · have hf := q_t c34 hf
              refine lv_aload_n hx hb dX8_hill_81 rfl (lv_at hl 0 rfl) ?_
              obtain ⟨sc35, h36, hf⟩ := q_b1o hf
              refine q_rwVv (As := []) (rest := []) (ci := 8) (wr := []) (w2 := (wcM cI cZ o0 a0 sc35 t0)) ⟨hx, hb, hml, hown, hts⟩ (kX8_readTree l dC dI cI cB cZ o0 a0 sl29 t0 H.size sc35 h36) (cwV 0 hts gX8_hill_X8_readTree rfl rfl rfl hdX8_readTree ⟨Nat.le_of_ble_eq_true rfl, Nat.le_of_ble_eq_true rfl⟩) hK hP hD hS hA [0, 1, 2, 3, 4, 5, 6, 7, 8, 9, 10] [] [0, 1, 2, 3, 4, 5, 6, 7, 8, 9, 10] rfl rfl (by decide) (by decide) (by decide) rfl (by decide) rfl rfl rfl hl.1 rfl (Nat.le_of_ble_eq_true rfl) dX8_hill_82 ⟨Nat.zero_le _, Nat.zero_le _⟩ (fun H locs hP hD hS => ?_)
              refine lv_goto (tgt := 70) hx hb dX8_hill_85 (by decide) ?_
              exact ihn30 sc35 hf _ _ hP hD hS _ hl
        exact aihn30 5000 z23 hqn30 _ _ hP hD hS _ hl
      have aihn22 : ∀ n22 : Nat, ∀ sl21 : St, fX8_hill_L52 n22 sl21 = some oz23 → ∀ (H : Heap) (locs : List Loc), va_P (dC, dI) vwCl (wcM cI cZ o0 a0 sl21 t0) H → va_D A (wcM cI cZ o0 a0 sl21 t0) → va_S A s.heap H locs → ∀ ls : Array Slot, lv_has ls 2 [(0, .ref o0)] → W p l e ({ frames := 5, cells := 0, slots := 0, locals := 111 } : Room) s m [.ref o0].toArray below meth c H locs 0 0 (MQ below (qlW (dC, dI) (q_ty cI cB cZ) (wcM cI cZ o0 a0 s0 t0) (wcM cI cZ o0 a0 z0 t0) sz r) [.ref o0].toArray s 0 0 (va_A (wcM cI cZ o0 a0 s0 t0) sz)) (F0 m 52 ls []) := by
        intro n22
        induction n22 with
        | zero =>
          intro sl21 hf
          exact q_no hf
        | succ n22 ihn22 =>
          intro sl21 hf H locs hP hD hS ls hl
          rw [fX8_hill_L52] at hf
          refine lv_aload_n hx hb dX8_hill_52 rfl (lv_at hl 0 rfl) ?_
          obtain ⟨r24, h25, hf⟩ := q_b1o hf
          refine q_roVl (As := []) (rest := []) (ci := 8) ⟨hx, hb, hml, hown, hts⟩ (kX8_name l dC dI cI cB cZ o0 a0 sl21 t0 r24 h25) (cwV 0 hts gX8_hill_X8_name rfl rfl rfl hdX8_name ⟨Nat.le_of_ble_eq_true rfl, Nat.le_of_ble_eq_true rfl⟩) hK hP rfl rfl rfl hl.1 rfl (Nat.le_of_ble_eq_true rfl) dX8_hill_53 ⟨Nat.zero_le _, Nat.zero_le _⟩ ?_
          refine lv_ldc2 (v := 1752134254) hx hb hown (hts _ qX8_hill_4) dX8_hill_56 ?_
          refine W.lcmp hx hb dX8_hill_59 ?_
          refine lv_if_ne (tgt := 70) hx hb dX8_hill_60 (by decide) (fun c26 => ?_) (fun c26 => ?_)
          · have hf := q_f c26 hf
            exact kxn22 sl21 (q_s1 hf) _ _ hP hD hS _ hl
          · have hf := q_t c26 hf
            refine lv_aload_n hx hb dX8_hill_63 rfl (lv_at hl 0 rfl) ?_
            obtain ⟨sc27, h28, hf⟩ := q_b1o hf
            refine q_rwVv (As := []) (rest := []) (ci := 8) (wr := []) (w2 := (wcM cI cZ o0 a0 sc27 t0)) ⟨hx, hb, hml, hown, hts⟩ (kX8_readHorn l dC dI cI cB cZ o0 a0 sl21 t0 H.size sc27 h28) (cwV 0 hts gX8_hill_X8_readHorn rfl rfl rfl hdX8_readHorn ⟨Nat.le_of_ble_eq_true rfl, Nat.le_of_ble_eq_true rfl⟩) hK hP hD hS hA [0, 1, 2, 3, 4, 5, 6, 7, 8, 9, 10] [] [0, 1, 2, 3, 4, 5, 6, 7, 8, 9, 10] rfl rfl (by decide) (by decide) (by decide) rfl (by decide) rfl rfl rfl hl.1 rfl (Nat.le_of_ble_eq_true rfl) dX8_hill_64 ⟨Nat.zero_le _, Nat.zero_le _⟩ (fun H locs hP hD hS => ?_)
            refine lv_goto (tgt := 52) hx hb dX8_hill_67 (by decide) ?_
            exact ihn22 sc27 hf _ _ hP hD hS _ hl
      exact aihn22 5000 z15 hqn22 _ _ hP hD hS _ hl
    have aihn14 : ∀ n14 : Nat, ∀ sl13 : St, fX8_hill_L34 n14 sl13 = some oz15 → ∀ (H : Heap) (locs : List Loc), va_P (dC, dI) vwCl (wcM cI cZ o0 a0 sl13 t0) H → va_D A (wcM cI cZ o0 a0 sl13 t0) → va_S A s.heap H locs → ∀ ls : Array Slot, lv_has ls 2 [(0, .ref o0)] → W p l e ({ frames := 5, cells := 0, slots := 0, locals := 111 } : Room) s m [.ref o0].toArray below meth c H locs 0 0 (MQ below (qlW (dC, dI) (q_ty cI cB cZ) (wcM cI cZ o0 a0 s0 t0) (wcM cI cZ o0 a0 z0 t0) sz r) [.ref o0].toArray s 0 0 (va_A (wcM cI cZ o0 a0 s0 t0) sz)) (F0 m 34 ls []) := by
      intro n14
      induction n14 with
      | zero =>
        intro sl13 hf
        exact q_no hf
      | succ n14 ihn14 =>
        intro sl13 hf H locs hP hD hS ls hl
        rw [fX8_hill_L34] at hf
        refine lv_aload_n hx hb dX8_hill_34 rfl (lv_at hl 0 rfl) ?_
        obtain ⟨r16, h17, hf⟩ := q_b1o hf
        refine q_roVl (As := []) (rest := []) (ci := 8) ⟨hx, hb, hml, hown, hts⟩ (kX8_name l dC dI cI cB cZ o0 a0 sl13 t0 r16 h17) (cwV 0 hts gX8_hill_X8_name rfl rfl rfl hdX8_name ⟨Nat.le_of_ble_eq_true rfl, Nat.le_of_ble_eq_true rfl⟩) hK hP rfl rfl rfl hl.1 rfl (Nat.le_of_ble_eq_true rfl) dX8_hill_35 ⟨Nat.zero_le _, Nat.zero_le _⟩ ?_
        refine lv_ldc2 (v := 444300621413) hx hb hown (hts _ qX8_hill_3) dX8_hill_38 ?_
        refine W.lcmp hx hb dX8_hill_41 ?_
        refine lv_if_ne (tgt := 52) hx hb dX8_hill_42 (by decide) (fun c18 => ?_) (fun c18 => ?_)
        · have hf := q_f c18 hf
          exact kxn14 sl13 (q_s1 hf) _ _ hP hD hS _ hl
        · have hf := q_t c18 hf
          refine lv_aload_n hx hb dX8_hill_45 rfl (lv_at hl 0 rfl) ?_
          obtain ⟨sc19, h20, hf⟩ := q_b1o hf
          refine q_rwVv (As := []) (rest := []) (ci := 8) (wr := []) (w2 := (wcM cI cZ o0 a0 sc19 t0)) ⟨hx, hb, hml, hown, hts⟩ (kX8_readGrave l dC dI cI cB cZ o0 a0 sl13 t0 H.size sc19 h20) (cwV 0 hts gX8_hill_X8_readGrave rfl rfl rfl hdX8_readGrave ⟨Nat.le_of_ble_eq_true rfl, Nat.le_of_ble_eq_true rfl⟩) hK hP hD hS hA [0, 1, 2, 3, 4, 5, 6, 7, 8, 9, 10] [] [0, 1, 2, 3, 4, 5, 6, 7, 8, 9, 10] rfl rfl (by decide) (by decide) (by decide) rfl (by decide) rfl rfl rfl hl.1 rfl (Nat.le_of_ble_eq_true rfl) dX8_hill_46 ⟨Nat.zero_le _, Nat.zero_le _⟩ (fun H locs hP hD hS => ?_)
          refine lv_goto (tgt := 34) hx hb dX8_hill_49 (by decide) ?_
          exact ihn14 sc19 hf _ _ hP hD hS _ hl
    exact aihn14 5000 sc11 hqn14 _ _ hP hD hS _ hl
  have aihn6 : ∀ n6 : Nat, ∀ l1_4 : Int32, ∀ sl5 : St, fX8_hill_L11 n6 l1_4 sl5 = some oz7 → ∀ (H : Heap) (locs : List Loc), va_P (dC, dI) vwCl (wcM cI cZ o0 a0 sl5 t0) H → va_D A (wcM cI cZ o0 a0 sl5 t0) → va_S A s.heap H locs → ∀ ls : Array Slot, lv_has ls 2 [(1, .int l1_4), (0, .ref o0)] → W p l e ({ frames := 5, cells := 0, slots := 0, locals := 111 } : Room) s m [.ref o0].toArray below meth c H locs 0 0 (MQ below (qlW (dC, dI) (q_ty cI cB cZ) (wcM cI cZ o0 a0 s0 t0) (wcM cI cZ o0 a0 z0 t0) sz r) [.ref o0].toArray s 0 0 (va_A (wcM cI cZ o0 a0 s0 t0) sz)) (F0 m 11 ls []) := by
    intro n6
    induction n6 with
    | zero =>
      intro l1_4 sl5 hf
      exact q_no hf
    | succ n6 ihn6 =>
      intro l1_4 sl5 hf H locs hP hD hS ls hl
      rw [fX8_hill_L11] at hf
      refine lv_iload_n hx hb dX8_hill_11 rfl (lv_at hl 0 rfl) ?_
      refine lv_bipush (v := 59) hx hb dX8_hill_12 (by decide) ?_
      refine lv_icmp_ge (tgt := 30) hx hb dX8_hill_14 (by decide) (fun c8 => ?_) (fun c8 => ?_)
      · have hf := q_t c8 hf
        exact kxn6 sl5 (q_s1 hf) _ _ hP hD hS _ (lv_sub hl [1] rfl)
      · have hf := q_f c8 hf
        refine lv_aload_n hx hb dX8_hill_17 rfl (lv_at hl 1 rfl) ?_
        refine va_get (D := (dC, dI)) (ci := 8) (v := .ref (a0 6)) (C := RX8) (T := TX8) (N := 27) hx hb hts nX8_hill_8 hown hK hP 0 rfl rfl 6 (by decide) (hts _ qX8_hill_2) (fun _ h9 => h9) rfl dX8_hill_18 ?_
        refine lv_iload_n hx hb dX8_hill_21 rfl (lv_at hl 0 rfl) ?_
        refine lv_iconst (v := 0) hx hb dX8_hill_22 (by decide) ?_
        obtain ⟨c9, hf⟩ := q_ck hf
        obtain ⟨sn10, esn10, hf⟩ := q_lto hf
        refine va_iast hx hb hK hP hD hS 5 0 rfl rfl c9 dX8_hill_23 (fun H locs hP hD hS => ?_)
        have hP : va_P (dC, dI) vwCl (wcM cI cZ o0 a0 sn10 t0) H := by rw [esn10]; exact hP
        have hD : va_D A (wcM cI cZ o0 a0 sn10 t0) := by rw [esn10]; exact hD
        refine lv_iinc (v := l1_4 + (1 : Int32)) (lv' := [(1, .int (l1_4 + (1 : Int32))), (0, .ref o0)]) hx hb dX8_hill_24 hl (k := 0) rfl rfl (by decide) rfl (fun ls hl => ?_)
        refine lv_goto (tgt := 11) hx hb dX8_hill_27 (by decide) ?_
        exact ihn6 (l1_4 + (1 : Int32)) sn10 hf _ _ hP hD hS _ hl
  exact aihn6 5000 (0 : Int32) sc2 hqn6 _ _ hP hD hS _ hl
theorem hdX8_fault : yX8_fault.cls = RX8 ∧ yX8_fault.cls ≠ "java/lang/invoke/MethodHandle" ∧ yX8_fault.cls ≠ "java/lang/invoke/VarHandle" ∧ (parseMethodDescriptor yX8_fault.desc).map (fun d => d.parameters.length) = some 0 := by decide +kernel
theorem qX8_fault_1 : (Cond.fieldLink RX8 41 "DeadAskedModel" "thrown" "I") ∈ wsX8_fault := List.mem_of_getElem? (i := 1) (by decide +kernel)
theorem qX8_fault_2 : (Cond.fieldLink RX8 179 "DeadAskedModel" "latest" "I") ∈ wsX8_fault := List.mem_of_getElem? (i := 2) (by decide +kernel)
theorem nX8_fault_8 : ∀ w ∈ u_ws RX8 TX8 27, w ∈ wsX8_fault := fun _ h => (List.mem_cons_of_mem _ (List.mem_append_right _ h))
set_option maxHeartbeats 4000000 in
set_option maxRecDepth 100000 in
theorem kX8_fault (o0 : Nat) (a0 : Nat → Nat) (s0 : St) (t0 : Lt) (sz : Nat) (r : Int32) (z0 : St) (hf : fX8_fault s0 = some (r, z0)) : Met l yX8_fault wsX8_fault ({ frames := 0, cells := 0, slots := 0, locals := 0 } : Room) (pcW (dC, dI) (q_ty cI cB cZ) [.ref o0] (wcM cI cZ o0 a0 s0 t0) sz) (qiW (dC, dI) (q_ty cI cB cZ) (wcM cI cZ o0 a0 s0 t0) (wcM cI cZ o0 a0 z0 t0) sz r) 0 0 (va_A (wcM cI cZ o0 a0 s0 t0) sz) := by
  refine q_rwM (cc := cX8_fault) (maxL := 1) (ret := (some .int)) (by decide +kernel) rfl (Nat.le_of_ble_eq_true rfl) ?_
  intro p e s m below meth c hx hb hr hlk hml hown hts hK A H hAe hH hsz hP hD hA hS ls hl
  have hown : s.vm.findClass RX8 = some m.cls := hown
  have hl : lv_has ls 1 [(0, .ref o0)] := hl
  unfold fX8_fault at hf
  refine lv_aload_n hx hb dX8_fault_0 rfl (lv_at hl 0 rfl) ?_
  refine lv_iconst (v := 0) hx hb dX8_fault_1 (by decide) ?_
  obtain ⟨sn1, esn1, hf⟩ := q_lto hf
  refine va_put (D := (dC, dI)) (ci := 8) (v := .int (0 : Int32)) (ty := .int) (C := RX8) (T := TX8) (N := 27) hx hb hts nX8_fault_8 tyX8 tyX8_ok nmX8 hown hK hP hD hS 0 rfl rfl 0 (by decide) (hts _ qX8_fault_1) (fun _ h9 => h9) rfl (by decide +kernel) rfl rfl (Nat.le_of_ble_eq_true rfl) dX8_fault_2 (fun H locs hP hD hS => ?_)
  have hP : va_P (dC, dI) vwCl (wcM cI cZ o0 a0 sn1 t0) H := by rw [esn1]; exact hP
  have hD : va_D A (wcM cI cZ o0 a0 sn1 t0) := by rw [esn1]; exact hD
  refine lv_aload_n hx hb dX8_fault_5 rfl (lv_at hl 0 rfl) ?_
  refine va_get (D := (dC, dI)) (ci := 8) (v := .int (sn1 12 0)) (C := RX8) (T := TX8) (N := 27) hx hb hts nX8_fault_8 hown hK hP 0 rfl rfl 12 (by decide) (hts _ qX8_fault_2) (fun _ h9 => h9) rfl dX8_fault_6 ?_
  obtain ⟨ee0, ee1⟩ := q_s2 hf
  subst ee1
  exact q_wretI hx hb hr hlk hAe hK hP hD hS ee0 dX8_fault_9
theorem hdX8_isGrave : yX8_isGrave.cls = RX8 ∧ yX8_isGrave.cls ≠ "java/lang/invoke/MethodHandle" ∧ yX8_isGrave.cls ≠ "java/lang/invoke/VarHandle" ∧ (parseMethodDescriptor yX8_isGrave.desc).map (fun d => d.parameters.length) = some 1 := by decide +kernel
theorem qX8_isGrave_1 : (Cond.fieldLink RX8 19 "DeadAskedModel" "hill" "[I") ∈ wsX8_isGrave := List.mem_of_getElem? (i := 1) (by decide +kernel)
theorem nX8_isGrave_8 : ∀ w ∈ u_ws RX8 TX8 27, w ∈ wsX8_isGrave := fun _ h => (List.mem_cons_of_mem _ (List.mem_append_right _ h))
set_option maxHeartbeats 4000000 in
set_option maxRecDepth 100000 in
theorem kX8_isGrave (o0 : Nat) (a0 : Nat → Nat) (s0 : St) (t0 : Lt) (p1 : Int32) (r : Int32) (hf : fX8_isGrave s0 p1 = some r) : Met l yX8_isGrave wsX8_isGrave ({ frames := 1, cells := 0, slots := 0, locals := 25 } : Room) (pcR (dC, dI) (q_ty cI cB cZ) [.ref o0, .int p1] (wcM cI cZ o0 a0 s0 t0)) (qiR r) 0 0 (fun _ => False) := by
  refine q_roM (cc := cX8_isGrave) (maxL := 2) (ret := (some .boolean)) (by decide +kernel) rfl (Nat.le_of_ble_eq_true rfl) ?_
  intro p e s m below meth c hx hb hr hlk hml hown hts hK hP ls hl
  have hown : s.vm.findClass RX8 = some m.cls := hown
  have hl : lv_has ls 2 [(0, .ref o0), (1, .int p1)] := hl
  unfold fX8_isGrave at hf
  refine lv_iload_n hx hb dX8_isGrave_0 rfl (lv_at hl 1 rfl) ?_
  refine lv_i2l (v := p1.toInt64) hx hb dX8_isGrave_1 rfl ?_
  refine lv_lconst (v := 0) hx hb dX8_isGrave_2 (by decide) ?_
  refine lv_aload_n hx hb dX8_isGrave_3 rfl (lv_at hl 0 rfl) ?_
  refine va_get (D := (dC, dI)) (ci := 8) (v := .ref (a0 5)) (C := RX8) (T := TX8) (N := 27) hx hb hts nX8_isGrave_8 hown hK hP 0 rfl rfl 5 (by decide) (hts _ qX8_isGrave_1) (fun _ h9 => h9) rfl dX8_isGrave_4 ?_
  refine lv_iconst (v := 0) hx hb dX8_isGrave_7 (by decide) ?_
  obtain ⟨c1, hf⟩ := q_ck hf
  refine va_iald hx hb hK hP 4 0 rfl rfl c1 dX8_isGrave_8 ?_
  refine lv_iconst (v := 1) hx hb dX8_isGrave_9 (by decide) ?_
  refine lv_isub hx hb dX8_isGrave_10 ?_
  refine lv_i2l (v := ((s0 5 (0 : Int32).toNatClampNeg) - (1 : Int32)).toInt64) hx hb dX8_isGrave_11 rfl ?_
  obtain ⟨r2, h3, hf⟩ := q_b1o hf
  refine q_roSi (As := [.long p1.toInt64, .long (0 : Int64), .long (((s0 5 (0 : Int32).toNatClampNeg) - (1 : Int32)).toInt64)]) (rest := []) ⟨hx, hb, hml, hown, hts⟩ (kX8_in l p1.toInt64 (0 : Int64) (((s0 5 (0 : Int32).toNatClampNeg) - (1 : Int32)).toInt64) r2 h3) (va_cwS 3 hts gX8_isGrave_X8_in rfl rfl rfl hdX8_in ⟨Nat.le_of_ble_eq_true rfl, Nat.le_of_ble_eq_true rfl⟩) rfl hl.1 rfl (Nat.le_of_ble_eq_true rfl) dX8_isGrave_12 ⟨Nat.zero_le _, Nat.zero_le _⟩ ?_
  obtain ⟨c4, hf⟩ := q_ck hf
  have ee0 := q_s1 hf
  exact q_retZ hx hb hr hlk (q_nb c4) ee0 dX8_isGrave_15
theorem hdX8_isHorn : yX8_isHorn.cls = RX8 ∧ yX8_isHorn.cls ≠ "java/lang/invoke/MethodHandle" ∧ yX8_isHorn.cls ≠ "java/lang/invoke/VarHandle" ∧ (parseMethodDescriptor yX8_isHorn.desc).map (fun d => d.parameters.length) = some 1 := by decide +kernel
theorem qX8_isHorn_1 : (Cond.fieldLink RX8 19 "DeadAskedModel" "hill" "[I") ∈ wsX8_isHorn := List.mem_of_getElem? (i := 1) (by decide +kernel)
theorem nX8_isHorn_8 : ∀ w ∈ u_ws RX8 TX8 27, w ∈ wsX8_isHorn := fun _ h => (List.mem_cons_of_mem _ (List.mem_append_right _ h))
set_option maxHeartbeats 4000000 in
set_option maxRecDepth 100000 in
theorem kX8_isHorn (o0 : Nat) (a0 : Nat → Nat) (s0 : St) (t0 : Lt) (p1 : Int32) (r : Int32) (hf : fX8_isHorn s0 p1 = some r) : Met l yX8_isHorn wsX8_isHorn ({ frames := 1, cells := 0, slots := 0, locals := 25 } : Room) (pcR (dC, dI) (q_ty cI cB cZ) [.ref o0, .int p1] (wcM cI cZ o0 a0 s0 t0)) (qiR r) 0 0 (fun _ => False) := by
  refine q_roM (cc := cX8_isHorn) (maxL := 2) (ret := (some .boolean)) (by decide +kernel) rfl (Nat.le_of_ble_eq_true rfl) ?_
  intro p e s m below meth c hx hb hr hlk hml hown hts hK hP ls hl
  have hown : s.vm.findClass RX8 = some m.cls := hown
  have hl : lv_has ls 2 [(0, .ref o0), (1, .int p1)] := hl
  unfold fX8_isHorn at hf
  refine lv_iload_n hx hb dX8_isHorn_0 rfl (lv_at hl 1 rfl) ?_
  refine lv_i2l (v := p1.toInt64) hx hb dX8_isHorn_1 rfl ?_
  refine lv_lconst (v := 0) hx hb dX8_isHorn_2 (by decide) ?_
  refine lv_aload_n hx hb dX8_isHorn_3 rfl (lv_at hl 0 rfl) ?_
  refine va_get (D := (dC, dI)) (ci := 8) (v := .ref (a0 5)) (C := RX8) (T := TX8) (N := 27) hx hb hts nX8_isHorn_8 hown hK hP 0 rfl rfl 5 (by decide) (hts _ qX8_isHorn_1) (fun _ h9 => h9) rfl dX8_isHorn_4 ?_
  refine lv_iconst (v := 1) hx hb dX8_isHorn_7 (by decide) ?_
  obtain ⟨c1, hf⟩ := q_ck hf
  refine va_iald hx hb hK hP 4 0 rfl rfl c1 dX8_isHorn_8 ?_
  refine lv_iconst (v := 1) hx hb dX8_isHorn_9 (by decide) ?_
  refine lv_isub hx hb dX8_isHorn_10 ?_
  refine lv_i2l (v := ((s0 5 (1 : Int32).toNatClampNeg) - (1 : Int32)).toInt64) hx hb dX8_isHorn_11 rfl ?_
  obtain ⟨r2, h3, hf⟩ := q_b1o hf
  refine q_roSi (As := [.long p1.toInt64, .long (0 : Int64), .long (((s0 5 (1 : Int32).toNatClampNeg) - (1 : Int32)).toInt64)]) (rest := []) ⟨hx, hb, hml, hown, hts⟩ (kX8_in l p1.toInt64 (0 : Int64) (((s0 5 (1 : Int32).toNatClampNeg) - (1 : Int32)).toInt64) r2 h3) (va_cwS 3 hts gX8_isHorn_X8_in rfl rfl rfl hdX8_in ⟨Nat.le_of_ble_eq_true rfl, Nat.le_of_ble_eq_true rfl⟩) rfl hl.1 rfl (Nat.le_of_ble_eq_true rfl) dX8_isHorn_12 ⟨Nat.zero_le _, Nat.zero_le _⟩ ?_
  obtain ⟨c4, hf⟩ := q_ck hf
  have ee0 := q_s1 hf
  exact q_retZ hx hb hr hlk (q_nb c4) ee0 dX8_isHorn_15
theorem hdX8_isTree : yX8_isTree.cls = RX8 ∧ yX8_isTree.cls ≠ "java/lang/invoke/MethodHandle" ∧ yX8_isTree.cls ≠ "java/lang/invoke/VarHandle" ∧ (parseMethodDescriptor yX8_isTree.desc).map (fun d => d.parameters.length) = some 1 := by decide +kernel
theorem qX8_isTree_1 : (Cond.fieldLink RX8 19 "DeadAskedModel" "hill" "[I") ∈ wsX8_isTree := List.mem_of_getElem? (i := 1) (by decide +kernel)
theorem nX8_isTree_8 : ∀ w ∈ u_ws RX8 TX8 27, w ∈ wsX8_isTree := fun _ h => (List.mem_cons_of_mem _ (List.mem_append_right _ h))
set_option maxHeartbeats 4000000 in
set_option maxRecDepth 100000 in
theorem kX8_isTree (o0 : Nat) (a0 : Nat → Nat) (s0 : St) (t0 : Lt) (p1 : Int32) (r : Int32) (hf : fX8_isTree s0 p1 = some r) : Met l yX8_isTree wsX8_isTree ({ frames := 1, cells := 0, slots := 0, locals := 25 } : Room) (pcR (dC, dI) (q_ty cI cB cZ) [.ref o0, .int p1] (wcM cI cZ o0 a0 s0 t0)) (qiR r) 0 0 (fun _ => False) := by
  refine q_roM (cc := cX8_isTree) (maxL := 2) (ret := (some .boolean)) (by decide +kernel) rfl (Nat.le_of_ble_eq_true rfl) ?_
  intro p e s m below meth c hx hb hr hlk hml hown hts hK hP ls hl
  have hown : s.vm.findClass RX8 = some m.cls := hown
  have hl : lv_has ls 2 [(0, .ref o0), (1, .int p1)] := hl
  unfold fX8_isTree at hf
  refine lv_iload_n hx hb dX8_isTree_0 rfl (lv_at hl 1 rfl) ?_
  refine lv_i2l (v := p1.toInt64) hx hb dX8_isTree_1 rfl ?_
  refine lv_lconst (v := 0) hx hb dX8_isTree_2 (by decide) ?_
  refine lv_aload_n hx hb dX8_isTree_3 rfl (lv_at hl 0 rfl) ?_
  refine va_get (D := (dC, dI)) (ci := 8) (v := .ref (a0 5)) (C := RX8) (T := TX8) (N := 27) hx hb hts nX8_isTree_8 hown hK hP 0 rfl rfl 5 (by decide) (hts _ qX8_isTree_1) (fun _ h9 => h9) rfl dX8_isTree_4 ?_
  refine lv_iconst (v := 2) hx hb dX8_isTree_7 (by decide) ?_
  obtain ⟨c1, hf⟩ := q_ck hf
  refine va_iald hx hb hK hP 4 0 rfl rfl c1 dX8_isTree_8 ?_
  refine lv_iconst (v := 1) hx hb dX8_isTree_9 (by decide) ?_
  refine lv_isub hx hb dX8_isTree_10 ?_
  refine lv_i2l (v := ((s0 5 (2 : Int32).toNatClampNeg) - (1 : Int32)).toInt64) hx hb dX8_isTree_11 rfl ?_
  obtain ⟨r2, h3, hf⟩ := q_b1o hf
  refine q_roSi (As := [.long p1.toInt64, .long (0 : Int64), .long (((s0 5 (2 : Int32).toNatClampNeg) - (1 : Int32)).toInt64)]) (rest := []) ⟨hx, hb, hml, hown, hts⟩ (kX8_in l p1.toInt64 (0 : Int64) (((s0 5 (2 : Int32).toNatClampNeg) - (1 : Int32)).toInt64) r2 h3) (va_cwS 3 hts gX8_isTree_X8_in rfl rfl rfl hdX8_in ⟨Nat.le_of_ble_eq_true rfl, Nat.le_of_ble_eq_true rfl⟩) rfl hl.1 rfl (Nat.le_of_ble_eq_true rfl) dX8_isTree_12 ⟨Nat.zero_le _, Nat.zero_le _⟩ ?_
  obtain ⟨c4, hf⟩ := q_ck hf
  have ee0 := q_s1 hf
  exact q_retZ hx hb hr hlk (q_nb c4) ee0 dX8_isTree_15
theorem hdX8_ofGrave : yX8_ofGrave.cls = RX8 ∧ yX8_ofGrave.cls ≠ "java/lang/invoke/MethodHandle" ∧ yX8_ofGrave.cls ≠ "java/lang/invoke/VarHandle" ∧ (parseMethodDescriptor yX8_ofGrave.desc).map (fun d => d.parameters.length) = some 2 := by decide +kernel
theorem qX8_ofGrave_1 : (Cond.fieldLink RX8 19 "DeadAskedModel" "hill" "[I") ∈ wsX8_ofGrave := List.mem_of_getElem? (i := 1) (by decide +kernel)
theorem nX8_ofGrave_8 : ∀ w ∈ u_ws RX8 TX8 27, w ∈ wsX8_ofGrave := fun _ h => (List.mem_cons_of_mem _ (List.mem_append_right _ h))
set_option maxHeartbeats 4000000 in
set_option maxRecDepth 100000 in
theorem kX8_ofGrave (o0 : Nat) (a0 : Nat → Nat) (s0 : St) (t0 : Lt) (p1 : Int32) (p2 : Int32) (r : Int32) (hf : fX8_ofGrave s0 p1 p2 = some r) : Met l yX8_ofGrave wsX8_ofGrave ({ frames := 0, cells := 0, slots := 0, locals := 0 } : Room) (pcR (dC, dI) (q_ty cI cB cZ) [.ref o0, .int p1, .int p2] (wcM cI cZ o0 a0 s0 t0)) (qiR r) 0 0 (fun _ => False) := by
  refine q_roM (cc := cX8_ofGrave) (maxL := 3) (ret := (some .int)) (by decide +kernel) rfl (Nat.le_of_ble_eq_true rfl) ?_
  intro p e s m below meth c hx hb hr hlk hml hown hts hK hP ls hl
  have hown : s.vm.findClass RX8 = some m.cls := hown
  have hl : lv_has ls 3 [(0, .ref o0), (1, .int p1), (2, .int p2)] := hl
  unfold fX8_ofGrave at hf
  refine lv_aload_n hx hb dX8_ofGrave_0 rfl (lv_at hl 0 rfl) ?_
  refine va_get (D := (dC, dI)) (ci := 8) (v := .ref (a0 5)) (C := RX8) (T := TX8) (N := 27) hx hb hts nX8_ofGrave_8 hown hK hP 0 rfl rfl 5 (by decide) (hts _ qX8_ofGrave_1) (fun _ h9 => h9) rfl dX8_ofGrave_1 ?_
  refine lv_bipush (v := 15) hx hb dX8_ofGrave_4 (by decide) ?_
  refine lv_iconst (v := 4) hx hb dX8_ofGrave_6 (by decide) ?_
  refine lv_iload_n hx hb dX8_ofGrave_7 rfl (lv_at hl 1 rfl) ?_
  refine lv_imul hx hb dX8_ofGrave_8 ?_
  refine lv_iadd hx hb dX8_ofGrave_9 ?_
  refine lv_iload_n hx hb dX8_ofGrave_10 rfl (lv_at hl 2 rfl) ?_
  refine lv_iadd hx hb dX8_ofGrave_11 ?_
  obtain ⟨c1, hf⟩ := q_ck hf
  refine va_iald hx hb hK hP 4 0 rfl rfl c1 dX8_ofGrave_12 ?_
  have ee0 := q_s1 hf
  exact q_retI hx hb hr hlk ee0 dX8_ofGrave_13
theorem hdX8_placeOf : yX8_placeOf.cls = RX8 ∧ yX8_placeOf.cls ≠ "java/lang/invoke/MethodHandle" ∧ yX8_placeOf.cls ≠ "java/lang/invoke/VarHandle" ∧ (parseMethodDescriptor yX8_placeOf.desc).map (fun d => d.parameters.length) = some 1 := by decide +kernel
theorem qX8_placeOf_1 : (Cond.fieldLink RX8 19 "DeadAskedModel" "hill" "[I") ∈ wsX8_placeOf := List.mem_of_getElem? (i := 1) (by decide +kernel)
theorem nX8_placeOf_8 : ∀ w ∈ u_ws RX8 TX8 27, w ∈ wsX8_placeOf := fun _ h => (List.mem_cons_of_mem _ (List.mem_append_right _ h))
set_option maxHeartbeats 4000000 in
set_option maxRecDepth 100000 in
theorem kX8_placeOf (o0 : Nat) (a0 : Nat → Nat) (s0 : St) (t0 : Lt) (p1 : Int32) (r : Int32) (hf : fX8_placeOf s0 p1 = some r) : Met l yX8_placeOf wsX8_placeOf ({ frames := 0, cells := 0, slots := 0, locals := 0 } : Room) (pcR (dC, dI) (q_ty cI cB cZ) [.ref o0, .int p1] (wcM cI cZ o0 a0 s0 t0)) (qiR r) 0 0 (fun _ => False) := by
  refine q_roM (cc := cX8_placeOf) (maxL := 2) (ret := (some .int)) (by decide +kernel) rfl (Nat.le_of_ble_eq_true rfl) ?_
  intro p e s m below meth c hx hb hr hlk hml hown hts hK hP ls hl
  have hown : s.vm.findClass RX8 = some m.cls := hown
  have hl : lv_has ls 2 [(0, .ref o0), (1, .int p1)] := hl
  unfold fX8_placeOf at hf
  refine lv_aload_n hx hb dX8_placeOf_0 rfl (lv_at hl 0 rfl) ?_
  refine va_get (D := (dC, dI)) (ci := 8) (v := .ref (a0 5)) (C := RX8) (T := TX8) (N := 27) hx hb hts nX8_placeOf_8 hown hK hP 0 rfl rfl 5 (by decide) (hts _ qX8_placeOf_1) (fun _ h9 => h9) rfl dX8_placeOf_1 ?_
  refine lv_bipush (v := 47) hx hb dX8_placeOf_4 (by decide) ?_
  refine lv_iconst (v := 3) hx hb dX8_placeOf_6 (by decide) ?_
  refine lv_iload_n hx hb dX8_placeOf_7 rfl (lv_at hl 1 rfl) ?_
  refine lv_imul hx hb dX8_placeOf_8 ?_
  refine lv_iadd hx hb dX8_placeOf_9 ?_
  refine lv_iconst (v := 1) hx hb dX8_placeOf_10 (by decide) ?_
  refine lv_iadd hx hb dX8_placeOf_11 ?_
  obtain ⟨c1, hf⟩ := q_ck hf
  refine va_iald hx hb hK hP 4 0 rfl rfl c1 dX8_placeOf_12 ?_
  have ee0 := q_s1 hf
  exact q_retI hx hb hr hlk ee0 dX8_placeOf_13
theorem hdX8_fruit : yX8_fruit.cls = RX8 ∧ yX8_fruit.cls ≠ "java/lang/invoke/MethodHandle" ∧ yX8_fruit.cls ≠ "java/lang/invoke/VarHandle" ∧ (parseMethodDescriptor yX8_fruit.desc).map (fun d => d.parameters.length) = some 1 := by decide +kernel
theorem qX8_fruit_1 : (Cond.fieldLink RX8 19 "DeadAskedModel" "hill" "[I") ∈ wsX8_fruit := List.mem_of_getElem? (i := 1) (by decide +kernel)
theorem nX8_fruit_8 : ∀ w ∈ u_ws RX8 TX8 27, w ∈ wsX8_fruit := fun _ h => (List.mem_cons_of_mem _ (List.mem_append_right _ h))
set_option maxHeartbeats 4000000 in
set_option maxRecDepth 100000 in
theorem kX8_fruit (o0 : Nat) (a0 : Nat → Nat) (s0 : St) (t0 : Lt) (p1 : Int32) (r : Int32) (hf : fX8_fruit s0 p1 = some r) : Met l yX8_fruit wsX8_fruit ({ frames := 0, cells := 0, slots := 0, locals := 0 } : Room) (pcR (dC, dI) (q_ty cI cB cZ) [.ref o0, .int p1] (wcM cI cZ o0 a0 s0 t0)) (qiR r) 0 0 (fun _ => False) := by
  refine q_roM (cc := cX8_fruit) (maxL := 2) (ret := (some .int)) (by decide +kernel) rfl (Nat.le_of_ble_eq_true rfl) ?_
  intro p e s m below meth c hx hb hr hlk hml hown hts hK hP ls hl
  have hown : s.vm.findClass RX8 = some m.cls := hown
  have hl : lv_has ls 2 [(0, .ref o0), (1, .int p1)] := hl
  unfold fX8_fruit at hf
  refine lv_aload_n hx hb dX8_fruit_0 rfl (lv_at hl 0 rfl) ?_
  refine va_get (D := (dC, dI)) (ci := 8) (v := .ref (a0 5)) (C := RX8) (T := TX8) (N := 27) hx hb hts nX8_fruit_8 hown hK hP 0 rfl rfl 5 (by decide) (hts _ qX8_fruit_1) (fun _ h9 => h9) rfl dX8_fruit_1 ?_
  refine lv_bipush (v := 47) hx hb dX8_fruit_4 (by decide) ?_
  refine lv_iconst (v := 3) hx hb dX8_fruit_6 (by decide) ?_
  refine lv_iload_n hx hb dX8_fruit_7 rfl (lv_at hl 1 rfl) ?_
  refine lv_imul hx hb dX8_fruit_8 ?_
  refine lv_iadd hx hb dX8_fruit_9 ?_
  refine lv_iconst (v := 2) hx hb dX8_fruit_10 (by decide) ?_
  refine lv_iadd hx hb dX8_fruit_11 ?_
  obtain ⟨c1, hf⟩ := q_ck hf
  refine va_iald hx hb hK hP 4 0 rfl rfl c1 dX8_fruit_12 ?_
  have ee0 := q_s1 hf
  exact q_retI hx hb hr hlk ee0 dX8_fruit_13
theorem hdX8_loose : yX8_loose.cls = RX8 ∧ yX8_loose.cls ≠ "java/lang/invoke/MethodHandle" ∧ yX8_loose.cls ≠ "java/lang/invoke/VarHandle" ∧ (parseMethodDescriptor yX8_loose.desc).map (fun d => d.parameters.length) = some 1 := by decide +kernel
theorem qX8_loose_1 : (Cond.fieldLink RX8 19 "DeadAskedModel" "hill" "[I") ∈ wsX8_loose := List.mem_of_getElem? (i := 1) (by decide +kernel)
theorem nX8_loose_8 : ∀ w ∈ u_ws RX8 TX8 27, w ∈ wsX8_loose := fun _ h => (List.mem_cons_of_mem _ (List.mem_append_right _ h))
set_option maxHeartbeats 4000000 in
set_option maxRecDepth 100000 in
theorem kX8_loose (o0 : Nat) (a0 : Nat → Nat) (s0 : St) (t0 : Lt) (p1 : Int32) (r : Int32) (hf : fX8_loose s0 p1 = some r) : Met l yX8_loose wsX8_loose ({ frames := 0, cells := 0, slots := 0, locals := 0 } : Room) (pcR (dC, dI) (q_ty cI cB cZ) [.ref o0, .int p1] (wcM cI cZ o0 a0 s0 t0)) (qiR r) 0 0 (fun _ => False) := by
  refine q_roM (cc := cX8_loose) (maxL := 3) (ret := (some .int)) (by decide +kernel) rfl (Nat.le_of_ble_eq_true rfl) ?_
  intro p e s m below meth c hx hb hr hlk hml hown hts hK hP ls hl
  have hown : s.vm.findClass RX8 = some m.cls := hown
  have hl : lv_has ls 3 [(0, .ref o0), (1, .int p1)] := hl
  unfold fX8_loose at hf
  refine lv_aload_n hx hb dX8_loose_0 rfl (lv_at hl 0 rfl) ?_
  refine va_get (D := (dC, dI)) (ci := 8) (v := .ref (a0 5)) (C := RX8) (T := TX8) (N := 27) hx hb hts nX8_loose_8 hown hK hP 0 rfl rfl 5 (by decide) (hts _ qX8_loose_1) (fun _ h9 => h9) rfl dX8_loose_1 ?_
  refine lv_bipush (v := 47) hx hb dX8_loose_4 (by decide) ?_
  refine lv_iconst (v := 3) hx hb dX8_loose_6 (by decide) ?_
  refine lv_iload_n hx hb dX8_loose_7 rfl (lv_at hl 1 rfl) ?_
  refine lv_imul hx hb dX8_loose_8 ?_
  refine lv_iadd hx hb dX8_loose_9 ?_
  obtain ⟨c1, hf⟩ := q_ck hf
  refine va_iald hx hb hK hP 4 0 rfl rfl c1 dX8_loose_10 ?_
  obtain ⟨x2, ex2, hf⟩ := q_lto hf
  refine W.eq (g2 := F0 m 11 ls [.int x2]) (by rw [ex2]) ?_
  refine lv_istore_n (lv' := [(2, .int x2), (0, .ref o0), (1, .int p1)]) hx hb dX8_loose_11 rfl hl (by decide) rfl (fun ls hl => ?_)
  refine lv_iload_n hx hb dX8_loose_12 rfl (lv_at hl 0 rfl) ?_
  refine lv_iconst (v := 1) hx hb dX8_loose_13 (by decide) ?_
  refine lv_icmp_ne (tgt := 21) hx hb dX8_loose_14 (by decide) (fun c3 => ?_) (fun c3 => ?_)
  · have hf := q_f c3 hf
    refine lv_iload_n hx hb dX8_loose_21 rfl (lv_at hl 0 rfl) ?_
    refine lv_iconst (v := 4) hx hb dX8_loose_22 (by decide) ?_
    refine lv_icmp_ne (tgt := 30) hx hb dX8_loose_23 (by decide) (fun c4 => ?_) (fun c4 => ?_)
    · have hf := q_f c4 hf
      refine lv_iload_n hx hb dX8_loose_30 rfl (lv_at hl 0 rfl) ?_
      refine lv_iconst (v := 5) hx hb dX8_loose_31 (by decide) ?_
      refine lv_icmp_ne (tgt := 39) hx hb dX8_loose_32 (by decide) (fun c5 => ?_) (fun c5 => ?_)
      · have hf := q_f c5 hf
        refine lv_iconst (v := 1) hx hb dX8_loose_39 (by decide) ?_
        have ee0 := q_s1 hf
        exact q_retI hx hb hr hlk ee0 dX8_loose_40
      · have hf := q_t c5 hf
        refine lv_iconst (v := 0) hx hb dX8_loose_35 (by decide) ?_
        refine lv_goto (tgt := 40) hx hb dX8_loose_36 (by decide) ?_
        have ee0 := q_s1 hf
        exact q_retI hx hb hr hlk ee0 dX8_loose_40
    · have hf := q_t c4 hf
      refine lv_iconst (v := 3) hx hb dX8_loose_26 (by decide) ?_
      refine lv_goto (tgt := 40) hx hb dX8_loose_27 (by decide) ?_
      have ee0 := q_s1 hf
      exact q_retI hx hb hr hlk ee0 dX8_loose_40
  · have hf := q_t c3 hf
    refine lv_iconst (v := 2) hx hb dX8_loose_17 (by decide) ?_
    refine lv_goto (tgt := 40) hx hb dX8_loose_18 (by decide) ?_
    have ee0 := q_s1 hf
    exact q_retI hx hb hr hlk ee0 dX8_loose_40
theorem hdX8_apart : yX8_apart.cls ≠ "java/lang/invoke/MethodHandle" ∧ yX8_apart.cls ≠ "java/lang/invoke/VarHandle" ∧ (parseMethodDescriptor yX8_apart.desc).map (fun d => d.parameters.length) = some 2 := by decide +kernel
set_option maxHeartbeats 4000000 in
set_option maxRecDepth 100000 in
theorem kX8_apart (p0 : Int32) (p1 : Int32) (r : Int32) (hf : fX8_apart p0 p1 = some r) : Met l yX8_apart wsX8_apart ({ frames := 0, cells := 0, slots := 0, locals := 0 } : Room) (pcS [.int p0, .int p1]) (qiR r) 0 0 (fun _ => False) := by
  refine q_roS (cc := cX8_apart) (maxL := 2) (ret := (some .int)) (by decide +kernel) rfl (Nat.le_of_ble_eq_true rfl) ?_
  intro p e s m below meth c hx hb hr hlk hml hown hts ls hl
  have hown : s.vm.findClass RX8 = some m.cls := hown
  have hl : lv_has ls 2 [(0, .int p0), (1, .int p1)] := hl
  unfold fX8_apart at hf
  refine lv_iload_n hx hb dX8_apart_0 rfl (lv_at hl 0 rfl) ?_
  refine lv_iload_n hx hb dX8_apart_1 rfl (lv_at hl 1 rfl) ?_
  refine lv_icmp_ge (tgt := 11) hx hb dX8_apart_2 (by decide) (fun c1 => ?_) (fun c1 => ?_)
  · have hf := q_t c1 hf
    refine lv_iload_n hx hb dX8_apart_11 rfl (lv_at hl 0 rfl) ?_
    refine lv_iload_n hx hb dX8_apart_12 rfl (lv_at hl 1 rfl) ?_
    refine lv_isub hx hb dX8_apart_13 ?_
    have ee0 := q_s1 hf
    exact q_retI hx hb hr hlk ee0 dX8_apart_14
  · have hf := q_f c1 hf
    refine lv_iload_n hx hb dX8_apart_5 rfl (lv_at hl 1 rfl) ?_
    refine lv_iload_n hx hb dX8_apart_6 rfl (lv_at hl 0 rfl) ?_
    refine lv_isub hx hb dX8_apart_7 ?_
    refine lv_goto (tgt := 14) hx hb dX8_apart_8 (by decide) ?_
    have ee0 := q_s1 hf
    exact q_retI hx hb hr hlk ee0 dX8_apart_14
theorem hdX8_heard : yX8_heard.cls = RX8 ∧ yX8_heard.cls ≠ "java/lang/invoke/MethodHandle" ∧ yX8_heard.cls ≠ "java/lang/invoke/VarHandle" ∧ (parseMethodDescriptor yX8_heard.desc).map (fun d => d.parameters.length) = some 1 := by decide +kernel
theorem qX8_heard_1 : (Cond.fieldLink RX8 19 "DeadAskedModel" "hill" "[I") ∈ wsX8_heard := List.mem_of_getElem? (i := 1) (by decide +kernel)
theorem nX8_heard_8 : ∀ w ∈ u_ws RX8 TX8 27, w ∈ wsX8_heard := fun _ h => (List.mem_cons_of_mem _ (List.mem_append_right _ h))
set_option maxHeartbeats 4000000 in
set_option maxRecDepth 100000 in
theorem kX8_heard (o0 : Nat) (a0 : Nat → Nat) (s0 : St) (t0 : Lt) (p1 : Int32) (r : Int32) (hf : fX8_heard s0 p1 = some r) : Met l yX8_heard wsX8_heard ({ frames := 1, cells := 0, slots := 0, locals := 22 } : Room) (pcR (dC, dI) (q_ty cI cB cZ) [.ref o0, .int p1] (wcM cI cZ o0 a0 s0 t0)) (qiR r) 0 0 (fun _ => False) := by
  refine q_roM (cc := cX8_heard) (maxL := 6) (ret := (some .int)) (by decide +kernel) rfl (Nat.le_of_ble_eq_true rfl) ?_
  intro p e s m below meth c hx hb hr hlk hml hown hts hK hP ls hl
  have hown : s.vm.findClass RX8 = some m.cls := hown
  have hl : lv_has ls 6 [(0, .ref o0), (1, .int p1)] := hl
  unfold fX8_heard at hf
  refine lv_iconst (v := 0) hx hb dX8_heard_0 (by decide) ?_
  refine lv_istore_n (lv' := [(2, .int (0 : Int32)), (0, .ref o0), (1, .int p1)]) hx hb dX8_heard_1 rfl hl (by decide) rfl (fun ls hl => ?_)
  refine lv_iconst (v := 0) hx hb dX8_heard_2 (by decide) ?_
  refine lv_istore_n (lv' := [(3, .int (0 : Int32)), (2, .int (0 : Int32)), (0, .ref o0), (1, .int p1)]) hx hb dX8_heard_3 rfl hl (by decide) rfl (fun ls hl => ?_)
  obtain ⟨oz4, hqn3, hf⟩ := q_b1o hf
  have kxn3 : ∀ z4 : Int32, z4 = oz4 → ∀ ls : Array Slot, lv_has ls 6 [(2, .int z4)] → W p l e ({ frames := 1, cells := 0, slots := 0, locals := 22 } : Room) s m [.ref o0, .int p1].toArray below meth c s.heap [] 0 0 (MQ below (qiR r) [.ref o0, .int p1].toArray s 0 0 (fun _ => False)) (F0 m 92 ls []) := by
    intro z4 ez4 ls hl
    subst ez4
    refine lv_iload_n hx hb dX8_heard_92 rfl (lv_at hl 0 rfl) ?_
    have ee0 := q_s1 hf
    exact q_retI hx hb hr hlk ee0 dX8_heard_93
  have aihn3 : ∀ n3 : Nat, ∀ l2_1 : Int32, ∀ l3_2 : Int32, fX8_heard_L4 p1 s0 n3 l2_1 l3_2 = some oz4 → ∀ ls : Array Slot, lv_has ls 6 [(3, .int l3_2), (2, .int l2_1), (0, .ref o0), (1, .int p1)] → W p l e ({ frames := 1, cells := 0, slots := 0, locals := 22 } : Room) s m [.ref o0, .int p1].toArray below meth c s.heap [] 0 0 (MQ below (qiR r) [.ref o0, .int p1].toArray s 0 0 (fun _ => False)) (F0 m 4 ls []) := by
    intro n3
    induction n3 with
    | zero =>
      intro l2_1 l3_2 hf
      exact q_no hf
    | succ n3 ihn3 =>
      intro l2_1 l3_2 hf ls hl
      rw [fX8_heard_L4] at hf
      refine lv_iload_n hx hb dX8_heard_4 rfl (lv_at hl 0 rfl) ?_
      refine lv_aload_n hx hb dX8_heard_5 rfl (lv_at hl 2 rfl) ?_
      refine va_get (D := (dC, dI)) (ci := 8) (v := .ref (a0 5)) (C := RX8) (T := TX8) (N := 27) hx hb hts nX8_heard_8 hown hK hP 0 rfl rfl 5 (by decide) (hts _ qX8_heard_1) (fun _ h9 => h9) rfl dX8_heard_6 ?_
      refine lv_iconst (v := 1) hx hb dX8_heard_9 (by decide) ?_
      obtain ⟨c5, hf⟩ := q_ck hf
      refine va_iald hx hb hK hP 4 0 rfl rfl c5 dX8_heard_10 ?_
      refine lv_icmp_ge (tgt := 92) hx hb dX8_heard_11 (by decide) (fun c6 => ?_) (fun c6 => ?_)
      · have hf := q_t c6 hf
        exact kxn3 l2_1 (q_s1 hf) _ (lv_sub hl [1] rfl)
      · have hf := q_f c6 hf
        refine lv_bipush (v := 35) hx hb dX8_heard_14 (by decide) ?_
        refine lv_iconst (v := 3) hx hb dX8_heard_16 (by decide) ?_
        refine lv_iload_n hx hb dX8_heard_17 rfl (lv_at hl 0 rfl) ?_
        refine lv_imul hx hb dX8_heard_18 ?_
        refine lv_iadd hx hb dX8_heard_19 ?_
        obtain ⟨x7, ex7, hf⟩ := q_lto hf
        refine W.eq (g2 := F0 m 20 ls [.int x7]) (by rw [ex7]) ?_
        refine lv_istore (lv' := [(4, .int x7), (3, .int l3_2), (2, .int l2_1), (0, .ref o0), (1, .int p1)]) hx hb dX8_heard_20 hl (by decide) rfl (fun ls hl => ?_)
        refine lv_aload_n hx hb dX8_heard_22 rfl (lv_at hl 3 rfl) ?_
        refine va_get (D := (dC, dI)) (ci := 8) (v := .ref (a0 5)) (C := RX8) (T := TX8) (N := 27) hx hb hts nX8_heard_8 hown hK hP 0 rfl rfl 5 (by decide) (hts _ qX8_heard_1) (fun _ h9 => h9) rfl dX8_heard_23 ?_
        refine lv_iload hx hb dX8_heard_26 (lv_at hl 0 rfl) ?_
        refine lv_iconst (v := 1) hx hb dX8_heard_28 (by decide) ?_
        refine lv_iadd hx hb dX8_heard_29 ?_
        obtain ⟨c8, hf⟩ := q_ck hf
        refine va_iald hx hb hK hP 4 0 rfl rfl c8 dX8_heard_30 ?_
        refine lv_aload_n hx hb dX8_heard_31 rfl (lv_at hl 3 rfl) ?_
        refine va_get (D := (dC, dI)) (ci := 8) (v := .ref (a0 5)) (C := RX8) (T := TX8) (N := 27) hx hb hts nX8_heard_8 hown hK hP 0 rfl rfl 5 (by decide) (hts _ qX8_heard_1) (fun _ h9 => h9) rfl dX8_heard_32 ?_
        refine lv_iload hx hb dX8_heard_35 (lv_at hl 0 rfl) ?_
        obtain ⟨c9, hf⟩ := q_ck hf
        refine va_iald hx hb hK hP 4 0 rfl rfl c9 dX8_heard_37 ?_
        refine lv_aload_n hx hb dX8_heard_38 rfl (lv_at hl 3 rfl) ?_
        refine lv_iload_n hx hb dX8_heard_39 rfl (lv_at hl 4 rfl) ?_
        refine lv_iconst (v := 0) hx hb dX8_heard_40 (by decide) ?_
        obtain ⟨r10, h11, hf⟩ := q_b1o hf
        refine q_roVi (As := [.int p1, .int (0 : Int32)]) (rest := [.int (s0 5 x7.toNatClampNeg), .int (s0 5 (x7 + (1 : Int32)).toNatClampNeg)]) (ci := 8) ⟨hx, hb, hml, hown, hts⟩ (kX8_ofGrave l dC dI cI cB cZ o0 a0 s0 t0 p1 (0 : Int32) r10 h11) (cwV 2 hts gX8_heard_X8_ofGrave rfl rfl rfl hdX8_ofGrave ⟨Nat.le_of_ble_eq_true rfl, Nat.le_of_ble_eq_true rfl⟩) hK hP rfl rfl rfl hl.1 rfl (Nat.le_of_ble_eq_true rfl) dX8_heard_41 ⟨Nat.zero_le _, Nat.zero_le _⟩ ?_
        obtain ⟨r12, h13, hf⟩ := q_b1o hf
        refine q_roSi (As := [.int (s0 5 x7.toNatClampNeg), .int r10]) (rest := [.int (s0 5 (x7 + (1 : Int32)).toNatClampNeg)]) ⟨hx, hb, hml, hown, hts⟩ (kX8_apart l (s0 5 x7.toNatClampNeg) r10 r12 h13) (va_cwS 2 hts gX8_heard_X8_apart rfl rfl rfl hdX8_apart ⟨Nat.le_of_ble_eq_true rfl, Nat.le_of_ble_eq_true rfl⟩) rfl hl.1 rfl (Nat.le_of_ble_eq_true rfl) dX8_heard_44 ⟨Nat.zero_le _, Nat.zero_le _⟩ ?_
        refine lv_isub hx hb dX8_heard_47 ?_
        refine lv_aload_n hx hb dX8_heard_48 rfl (lv_at hl 3 rfl) ?_
        refine lv_iload_n hx hb dX8_heard_49 rfl (lv_at hl 4 rfl) ?_
        refine lv_iconst (v := 1) hx hb dX8_heard_50 (by decide) ?_
        obtain ⟨r14, h15, hf⟩ := q_b1o hf
        refine q_roVi (As := [.int p1, .int (1 : Int32)]) (rest := [.int ((s0 5 (x7 + (1 : Int32)).toNatClampNeg) - r12)]) (ci := 8) ⟨hx, hb, hml, hown, hts⟩ (kX8_ofGrave l dC dI cI cB cZ o0 a0 s0 t0 p1 (1 : Int32) r14 h15) (cwV 2 hts gX8_heard_X8_ofGrave rfl rfl rfl hdX8_ofGrave ⟨Nat.le_of_ble_eq_true rfl, Nat.le_of_ble_eq_true rfl⟩) hK hP rfl rfl rfl hl.1 rfl (Nat.le_of_ble_eq_true rfl) dX8_heard_51 ⟨Nat.zero_le _, Nat.zero_le _⟩ ?_
        refine lv_iadd hx hb dX8_heard_54 ?_
        obtain ⟨x16, ex16, hf⟩ := q_lto hf
        refine W.eq (g2 := F0 m 55 ls [.int x16]) (by rw [ex16]) ?_
        refine lv_istore (lv' := [(5, .int x16), (4, .int x7), (3, .int l3_2), (2, .int l2_1), (0, .ref o0), (1, .int p1)]) hx hb dX8_heard_55 hl (by decide) rfl (fun ls hl => ?_)
        refine lv_iload_n hx hb dX8_heard_57 rfl (lv_at hl 3 rfl) ?_
        refine lv_aload_n hx hb dX8_heard_58 rfl (lv_at hl 4 rfl) ?_
        refine va_get (D := (dC, dI)) (ci := 8) (v := .ref (a0 5)) (C := RX8) (T := TX8) (N := 27) hx hb hts nX8_heard_8 hown hK hP 0 rfl rfl 5 (by decide) (hts _ qX8_heard_1) (fun _ h9 => h9) rfl dX8_heard_59 ?_
        refine lv_iload hx hb dX8_heard_62 (lv_at hl 1 rfl) ?_
        refine lv_iconst (v := 2) hx hb dX8_heard_64 (by decide) ?_
        refine lv_iadd hx hb dX8_heard_65 ?_
        obtain ⟨c17, hf⟩ := q_ck hf
        refine va_iald hx hb hK hP 4 0 rfl rfl c17 dX8_heard_66 ?_
        obtain ⟨ov18, hqj19, hf⟩ := q_b1o hf
        have kj19 : ∀ v18 : Int32, v18 = ov18 → ∀ ls : Array Slot, lv_has ls 6 [(3, .int l3_2), (0, .ref o0), (1, .int p1)] → W p l e ({ frames := 1, cells := 0, slots := 0, locals := 22 } : Room) s m [.ref o0, .int p1].toArray below meth c s.heap [] 0 0 (MQ below (qiR r) [.ref o0, .int p1].toArray s 0 0 (fun _ => False)) (F0 m 84 ls [.int v18, .int l2_1]) := by
          intro v18 ev18 ls hl
          subst ev18
          refine lv_ior hx hb dX8_heard_84 ?_
          refine lv_istore_n (lv' := [(2, .int (l2_1 ||| v18)), (3, .int l3_2), (0, .ref o0), (1, .int p1)]) hx hb dX8_heard_85 rfl hl (by decide) rfl (fun ls hl => ?_)
          refine lv_iinc (v := l3_2 + (1 : Int32)) (lv' := [(3, .int (l3_2 + (1 : Int32))), (2, .int (l2_1 ||| v18)), (0, .ref o0), (1, .int p1)]) hx hb dX8_heard_86 hl (k := 1) rfl rfl (by decide) rfl (fun ls hl => ?_)
          refine lv_goto (tgt := 4) hx hb dX8_heard_89 (by decide) ?_
          exact ihn3 (l2_1 ||| v18) (l3_2 + (1 : Int32)) hf _ hl
        have hf := hqj19
        refine lv_if_ne (tgt := 83) hx hb dX8_heard_67 (by decide) (fun c20 => ?_) (fun c20 => ?_)
        · have hf := q_f c20 hf
          refine lv_iconst (v := 0) hx hb dX8_heard_83 (by decide) ?_
          exact kj19 (0 : Int32) (q_s1 hf) _ (lv_sub hl [2, 4, 5] rfl)
        · have hf := q_t c20 hf
          refine lv_iload hx hb dX8_heard_70 (lv_at hl 0 rfl) ?_
          refine lv_bipush (v := 10) hx hb dX8_heard_72 (by decide) ?_
          refine lv_icmp_lt (tgt := 83) hx hb dX8_heard_74 (by decide) (fun c21 => ?_) (fun c21 => ?_)
          · have hf := q_t c21 hf
            refine lv_iconst (v := 0) hx hb dX8_heard_83 (by decide) ?_
            exact kj19 (0 : Int32) (q_s1 hf) _ (lv_sub hl [2, 4, 5] rfl)
          · have hf := q_f c21 hf
            refine lv_iconst (v := 1) hx hb dX8_heard_77 (by decide) ?_
            refine lv_iload_n hx hb dX8_heard_78 rfl (lv_at hl 2 rfl) ?_
            refine lv_ishl hx hb dX8_heard_79 ?_
            refine lv_goto (tgt := 84) hx hb dX8_heard_80 (by decide) ?_
            exact kj19 ((1 : Int32) <<< (l3_2 &&& 31)) (q_s1 hf) _ (lv_sub hl [2, 4, 5] rfl)
  exact aihn3 5000 (0 : Int32) (0 : Int32) hqn3 _ hl
theorem hdX8_itsTree : yX8_itsTree.cls = RX8 ∧ yX8_itsTree.cls ≠ "java/lang/invoke/MethodHandle" ∧ yX8_itsTree.cls ≠ "java/lang/invoke/VarHandle" ∧ (parseMethodDescriptor yX8_itsTree.desc).map (fun d => d.parameters.length) = some 2 := by decide +kernel
theorem qX8_itsTree_1 : (Cond.constant RX8 80 (-1000000)) ∈ wsX8_itsTree := List.mem_of_getElem? (i := 1) (by decide +kernel)
theorem qX8_itsTree_2 : (Cond.fieldLink RX8 19 "DeadAskedModel" "hill" "[I") ∈ wsX8_itsTree := List.mem_of_getElem? (i := 2) (by decide +kernel)
theorem nX8_itsTree_8 : ∀ w ∈ u_ws RX8 TX8 27, w ∈ wsX8_itsTree := fun _ h => (List.mem_cons_of_mem _ (List.mem_append_right _ h))
set_option maxHeartbeats 4000000 in
set_option maxRecDepth 100000 in
theorem kX8_itsTree (o0 : Nat) (a0 : Nat → Nat) (s0 : St) (t0 : Lt) (p1 : Int32) (p2 : Int32) (r : Int32) (hf : fX8_itsTree s0 p1 p2 = some r) : Met l yX8_itsTree wsX8_itsTree ({ frames := 1, cells := 0, slots := 0, locals := 22 } : Room) (pcR (dC, dI) (q_ty cI cB cZ) [.ref o0, .int p1, .int p2] (wcM cI cZ o0 a0 s0 t0)) (qiR r) 0 0 (fun _ => False) := by
  refine q_roM (cc := cX8_itsTree) (maxL := 7) (ret := (some .int)) (by decide +kernel) rfl (Nat.le_of_ble_eq_true rfl) ?_
  intro p e s m below meth c hx hb hr hlk hml hown hts hK hP ls hl
  have hown : s.vm.findClass RX8 = some m.cls := hown
  have hl : lv_has ls 7 [(0, .ref o0), (1, .int p1), (2, .int p2)] := hl
  unfold fX8_itsTree at hf
  refine lv_ldc (v := -1000000) hx hb hown (hts _ qX8_itsTree_1) dX8_itsTree_0 ?_
  refine lv_istore_n (lv' := [(3, .int (-1000000 : Int32)), (0, .ref o0), (1, .int p1), (2, .int p2)]) hx hb dX8_itsTree_2 rfl hl (by decide) rfl (fun ls hl => ?_)
  refine lv_iconst (v := 0) hx hb dX8_itsTree_3 (by decide) ?_
  refine lv_istore (lv' := [(4, .int (0 : Int32)), (3, .int (-1000000 : Int32)), (0, .ref o0), (1, .int p1), (2, .int p2)]) hx hb dX8_itsTree_4 hl (by decide) rfl (fun ls hl => ?_)
  obtain ⟨oz4, hqn3, hf⟩ := q_b1o hf
  have kxn3 : ∀ z4 : Int32, z4 = oz4 → ∀ ls : Array Slot, lv_has ls 7 [(3, .int z4)] → W p l e ({ frames := 1, cells := 0, slots := 0, locals := 22 } : Room) s m [.ref o0, .int p1, .int p2].toArray below meth c s.heap [] 0 0 (MQ below (qiR r) [.ref o0, .int p1, .int p2].toArray s 0 0 (fun _ => False)) (F0 m 108 ls []) := by
    intro z4 ez4 ls hl
    subst ez4
    refine lv_iload_n hx hb dX8_itsTree_108 rfl (lv_at hl 0 rfl) ?_
    have ee0 := q_s1 hf
    exact q_retI hx hb hr hlk ee0 dX8_itsTree_109
  have aihn3 : ∀ n3 : Nat, ∀ l3_1 : Int32, ∀ l4_2 : Int32, fX8_itsTree_L6 p1 p2 s0 n3 l3_1 l4_2 = some oz4 → ∀ ls : Array Slot, lv_has ls 7 [(4, .int l4_2), (3, .int l3_1), (0, .ref o0), (1, .int p1), (2, .int p2)] → W p l e ({ frames := 1, cells := 0, slots := 0, locals := 22 } : Room) s m [.ref o0, .int p1, .int p2].toArray below meth c s.heap [] 0 0 (MQ below (qiR r) [.ref o0, .int p1, .int p2].toArray s 0 0 (fun _ => False)) (F0 m 6 ls []) := by
    intro n3
    induction n3 with
    | zero =>
      intro l3_1 l4_2 hf
      exact q_no hf
    | succ n3 ihn3 =>
      intro l3_1 l4_2 hf ls hl
      rw [fX8_itsTree_L6] at hf
      refine lv_iload hx hb dX8_itsTree_6 (lv_at hl 0 rfl) ?_
      refine lv_aload_n hx hb dX8_itsTree_8 rfl (lv_at hl 2 rfl) ?_
      refine va_get (D := (dC, dI)) (ci := 8) (v := .ref (a0 5)) (C := RX8) (T := TX8) (N := 27) hx hb hts nX8_itsTree_8 hown hK hP 0 rfl rfl 5 (by decide) (hts _ qX8_itsTree_2) (fun _ h9 => h9) rfl dX8_itsTree_9 ?_
      refine lv_iconst (v := 2) hx hb dX8_itsTree_12 (by decide) ?_
      obtain ⟨c5, hf⟩ := q_ck hf
      refine va_iald hx hb hK hP 4 0 rfl rfl c5 dX8_itsTree_13 ?_
      refine lv_icmp_ge (tgt := 108) hx hb dX8_itsTree_14 (by decide) (fun c6 => ?_) (fun c6 => ?_)
      · have hf := q_t c6 hf
        exact kxn3 l3_1 (q_s1 hf) _ (lv_sub hl [1] rfl)
      · have hf := q_f c6 hf
        refine lv_aload_n hx hb dX8_itsTree_17 rfl (lv_at hl 2 rfl) ?_
        refine lv_iload hx hb dX8_itsTree_18 (lv_at hl 0 rfl) ?_
        obtain ⟨r7, h8, hf⟩ := q_b1o hf
        refine q_roVi (As := [.int l4_2]) (rest := []) (ci := 8) ⟨hx, hb, hml, hown, hts⟩ (kX8_placeOf l dC dI cI cB cZ o0 a0 s0 t0 l4_2 r7 h8) (cwV 1 hts gX8_itsTree_X8_placeOf rfl rfl rfl hdX8_placeOf ⟨Nat.le_of_ble_eq_true rfl, Nat.le_of_ble_eq_true rfl⟩) hK hP rfl rfl rfl hl.1 rfl (Nat.le_of_ble_eq_true rfl) dX8_itsTree_20 ⟨Nat.zero_le _, Nat.zero_le _⟩ ?_
        refine lv_aload_n hx hb dX8_itsTree_23 rfl (lv_at hl 2 rfl) ?_
        refine lv_iload_n hx hb dX8_itsTree_24 rfl (lv_at hl 3 rfl) ?_
        refine lv_iconst (v := 0) hx hb dX8_itsTree_25 (by decide) ?_
        obtain ⟨r9, h10, hf⟩ := q_b1o hf
        refine q_roVi (As := [.int p1, .int (0 : Int32)]) (rest := [.int r7]) (ci := 8) ⟨hx, hb, hml, hown, hts⟩ (kX8_ofGrave l dC dI cI cB cZ o0 a0 s0 t0 p1 (0 : Int32) r9 h10) (cwV 2 hts gX8_itsTree_X8_ofGrave rfl rfl rfl hdX8_ofGrave ⟨Nat.le_of_ble_eq_true rfl, Nat.le_of_ble_eq_true rfl⟩) hK hP rfl rfl rfl hl.1 rfl (Nat.le_of_ble_eq_true rfl) dX8_itsTree_26 ⟨Nat.zero_le _, Nat.zero_le _⟩ ?_
        obtain ⟨r11, h12, hf⟩ := q_b1o hf
        refine q_roSi (As := [.int r7, .int r9]) (rest := []) ⟨hx, hb, hml, hown, hts⟩ (kX8_apart l r7 r9 r11 h12) (va_cwS 2 hts gX8_itsTree_X8_apart rfl rfl rfl hdX8_apart ⟨Nat.le_of_ble_eq_true rfl, Nat.le_of_ble_eq_true rfl⟩) rfl hl.1 rfl (Nat.le_of_ble_eq_true rfl) dX8_itsTree_29 ⟨Nat.zero_le _, Nat.zero_le _⟩ ?_
        refine lv_istore (lv' := [(5, .int r11), (4, .int l4_2), (3, .int l3_1), (0, .ref o0), (1, .int p1), (2, .int p2)]) hx hb dX8_itsTree_32 hl (by decide) rfl (fun ls hl => ?_)
        refine lv_aload_n hx hb dX8_itsTree_34 rfl (lv_at hl 3 rfl) ?_
        refine lv_iload hx hb dX8_itsTree_35 (lv_at hl 1 rfl) ?_
        obtain ⟨r13, h14, hf⟩ := q_b1o hf
        refine q_roVi (As := [.int l4_2]) (rest := []) (ci := 8) ⟨hx, hb, hml, hown, hts⟩ (kX8_fruit l dC dI cI cB cZ o0 a0 s0 t0 l4_2 r13 h14) (cwV 1 hts gX8_itsTree_X8_fruit rfl rfl rfl hdX8_fruit ⟨Nat.le_of_ble_eq_true rfl, Nat.le_of_ble_eq_true rfl⟩) hK hP rfl rfl rfl hl.1 rfl (Nat.le_of_ble_eq_true rfl) dX8_itsTree_37 ⟨Nat.zero_le _, Nat.zero_le _⟩ ?_
        obtain ⟨ov15, hqj16, hf⟩ := q_b1o hf
        have kj16 : ∀ v15 : Int32, v15 = ov15 → ∀ ls : Array Slot, lv_has ls 7 [(5, .int r11), (4, .int l4_2), (3, .int l3_1), (0, .ref o0), (1, .int p1), (2, .int p2)] → W p l e ({ frames := 1, cells := 0, slots := 0, locals := 22 } : Room) s m [.ref o0, .int p1, .int p2].toArray below meth c s.heap [] 0 0 (MQ below (qiR r) [.ref o0, .int p1, .int p2].toArray s 0 0 (fun _ => False)) (F0 m 63 ls [.int v15]) := by
          intro v15 ev15 ls hl
          subst ev15
          refine lv_istore (lv' := [(6, .int v15), (5, .int r11), (4, .int l4_2), (3, .int l3_1), (0, .ref o0), (1, .int p1), (2, .int p2)]) hx hb dX8_itsTree_63 hl (by decide) rfl (fun ls hl => ?_)
          refine lv_iload hx hb dX8_itsTree_65 (lv_at hl 0 rfl) ?_
          obtain ⟨ov17, hqj18, hf⟩ := q_b1o hf
          have kj18 : ∀ v17 : Int32, v17 = ov17 → ∀ ls : Array Slot, lv_has ls 7 [(4, .int l4_2), (0, .ref o0), (1, .int p1), (2, .int p2)] → W p l e ({ frames := 1, cells := 0, slots := 0, locals := 22 } : Room) s m [.ref o0, .int p1, .int p2].toArray below meth c s.heap [] 0 0 (MQ below (qiR r) [.ref o0, .int p1, .int p2].toArray s 0 0 (fun _ => False)) (F0 m 101 ls [.int v17]) := by
            intro v17 ev17 ls hl
            subst ev17
            refine lv_istore_n (lv' := [(3, .int v17), (4, .int l4_2), (0, .ref o0), (1, .int p1), (2, .int p2)]) hx hb dX8_itsTree_101 rfl hl (by decide) rfl (fun ls hl => ?_)
            refine lv_iinc (v := l4_2 + (1 : Int32)) (lv' := [(4, .int (l4_2 + (1 : Int32))), (3, .int v17), (0, .ref o0), (1, .int p1), (2, .int p2)]) hx hb dX8_itsTree_102 hl (k := 1) rfl rfl (by decide) rfl (fun ls hl => ?_)
            refine lv_goto (tgt := 6) hx hb dX8_itsTree_105 (by decide) ?_
            exact ihn3 v17 (l4_2 + (1 : Int32)) hf _ hl
          have hf := hqj18
          refine lv_if_eq (tgt := 100) hx hb dX8_itsTree_67 (by decide) (fun c19 => ?_) (fun c19 => ?_)
          · have hf := q_t c19 hf
            refine lv_iload_n hx hb dX8_itsTree_100 rfl (lv_at hl 3 rfl) ?_
            exact kj18 l3_1 (q_s1 hf) _ (lv_sub hl [2, 4, 5, 6] rfl)
          · have hf := q_f c19 hf
            refine lv_iload_n hx hb dX8_itsTree_70 rfl (lv_at hl 3 rfl) ?_
            refine lv_ldc (v := -1000000) hx hb hown (hts _ qX8_itsTree_1) dX8_itsTree_71 ?_
            refine lv_icmp_eq (tgt := 95) hx hb dX8_itsTree_73 (by decide) (fun c20 => ?_) (fun c20 => ?_)
            · have hf := q_t c20 hf
              refine lv_iload hx hb dX8_itsTree_95 (lv_at hl 2 rfl) ?_
              refine lv_goto (tgt := 101) hx hb dX8_itsTree_97 (by decide) ?_
              exact kj18 l4_2 (q_s1 hf) _ (lv_sub hl [2, 4, 5, 6] rfl)
            · have hf := q_f c20 hf
              refine lv_iload hx hb dX8_itsTree_76 (lv_at hl 1 rfl) ?_
              refine lv_aload_n hx hb dX8_itsTree_78 rfl (lv_at hl 4 rfl) ?_
              refine lv_iload_n hx hb dX8_itsTree_79 rfl (lv_at hl 3 rfl) ?_
              obtain ⟨r21, h22, hf⟩ := q_b1o hf
              refine q_roVi (As := [.int l3_1]) (rest := [.int r11]) (ci := 8) ⟨hx, hb, hml, hown, hts⟩ (kX8_placeOf l dC dI cI cB cZ o0 a0 s0 t0 l3_1 r21 h22) (cwV 1 hts gX8_itsTree_X8_placeOf rfl rfl rfl hdX8_placeOf ⟨Nat.le_of_ble_eq_true rfl, Nat.le_of_ble_eq_true rfl⟩) hK hP rfl rfl rfl hl.1 rfl (Nat.le_of_ble_eq_true rfl) dX8_itsTree_80 ⟨Nat.zero_le _, Nat.zero_le _⟩ ?_
              refine lv_aload_n hx hb dX8_itsTree_83 rfl (lv_at hl 4 rfl) ?_
              refine lv_iload_n hx hb dX8_itsTree_84 rfl (lv_at hl 5 rfl) ?_
              refine lv_iconst (v := 0) hx hb dX8_itsTree_85 (by decide) ?_
              obtain ⟨r23, h24, hf⟩ := q_b1o hf
              refine q_roVi (As := [.int p1, .int (0 : Int32)]) (rest := [.int r21, .int r11]) (ci := 8) ⟨hx, hb, hml, hown, hts⟩ (kX8_ofGrave l dC dI cI cB cZ o0 a0 s0 t0 p1 (0 : Int32) r23 h24) (cwV 2 hts gX8_itsTree_X8_ofGrave rfl rfl rfl hdX8_ofGrave ⟨Nat.le_of_ble_eq_true rfl, Nat.le_of_ble_eq_true rfl⟩) hK hP rfl rfl rfl hl.1 rfl (Nat.le_of_ble_eq_true rfl) dX8_itsTree_86 ⟨Nat.zero_le _, Nat.zero_le _⟩ ?_
              obtain ⟨r25, h26, hf⟩ := q_b1o hf
              refine q_roSi (As := [.int r21, .int r23]) (rest := [.int r11]) ⟨hx, hb, hml, hown, hts⟩ (kX8_apart l r21 r23 r25 h26) (va_cwS 2 hts gX8_itsTree_X8_apart rfl rfl rfl hdX8_apart ⟨Nat.le_of_ble_eq_true rfl, Nat.le_of_ble_eq_true rfl⟩) rfl hl.1 rfl (Nat.le_of_ble_eq_true rfl) dX8_itsTree_89 ⟨Nat.zero_le _, Nat.zero_le _⟩ ?_
              refine lv_icmp_ge (tgt := 100) hx hb dX8_itsTree_92 (by decide) (fun c27 => ?_) (fun c27 => ?_)
              · have hf := q_t c27 hf
                refine lv_iload_n hx hb dX8_itsTree_100 rfl (lv_at hl 3 rfl) ?_
                exact kj18 l3_1 (q_s1 hf) _ (lv_sub hl [2, 4, 5, 6] rfl)
              · have hf := q_f c27 hf
                refine lv_iload hx hb dX8_itsTree_95 (lv_at hl 2 rfl) ?_
                refine lv_goto (tgt := 101) hx hb dX8_itsTree_97 (by decide) ?_
                exact kj18 l4_2 (q_s1 hf) _ (lv_sub hl [2, 4, 5, 6] rfl)
        have hf := hqj16
        refine lv_if_le (tgt := 62) hx hb dX8_itsTree_40 (by decide) (fun c28 => ?_) (fun c28 => ?_)
        · have hf := q_t c28 hf
          refine lv_iconst (v := 0) hx hb dX8_itsTree_62 (by decide) ?_
          exact kj16 (0 : Int32) (q_s1 hf) _ hl
        · have hf := q_f c28 hf
          refine lv_iload_n hx hb dX8_itsTree_43 rfl (lv_at hl 5 rfl) ?_
          refine lv_iload hx hb dX8_itsTree_44 (lv_at hl 1 rfl) ?_
          refine lv_ishr hx hb dX8_itsTree_46 ?_
          refine lv_iconst (v := 1) hx hb dX8_itsTree_47 (by decide) ?_
          refine lv_iand hx hb dX8_itsTree_48 ?_
          refine lv_if_ne (tgt := 62) hx hb dX8_itsTree_49 (by decide) (fun c29 => ?_) (fun c29 => ?_)
          · have hf := q_f c29 hf
            refine lv_iconst (v := 0) hx hb dX8_itsTree_62 (by decide) ?_
            exact kj16 (0 : Int32) (q_s1 hf) _ hl
          · have hf := q_t c29 hf
            refine lv_iload hx hb dX8_itsTree_52 (lv_at hl 0 rfl) ?_
            refine lv_iconst (v := 3) hx hb dX8_itsTree_54 (by decide) ?_
            refine lv_icmp_gt (tgt := 62) hx hb dX8_itsTree_55 (by decide) (fun c30 => ?_) (fun c30 => ?_)
            · have hf := q_t c30 hf
              refine lv_iconst (v := 0) hx hb dX8_itsTree_62 (by decide) ?_
              exact kj16 (0 : Int32) (q_s1 hf) _ hl
            · have hf := q_f c30 hf
              refine lv_iconst (v := 1) hx hb dX8_itsTree_58 (by decide) ?_
              refine lv_goto (tgt := 63) hx hb dX8_itsTree_59 (by decide) ?_
              exact kj16 (1 : Int32) (q_s1 hf) _ hl
  exact aihn3 5000 (-1000000 : Int32) (0 : Int32) hqn3 _ hl
