variable (l : Launch) (dC : Nat → ClassId) (dI : Nat → Nat → Nat) (cI cB cZ : ClassId)
theorem hdX7_finding : yX7_finding.cls = RX7 ∧ yX7_finding.cls ≠ "java/lang/invoke/MethodHandle" ∧ yX7_finding.cls ≠ "java/lang/invoke/VarHandle" ∧ (parseMethodDescriptor yX7_finding.desc).map (fun d => d.parameters.length) = some 1 := by decide +kernel
theorem qX7_finding_1 : (Cond.fieldLink RX7 323 "DeadAsked" "latestFinding" "I") ∈ wsX7_finding := List.mem_of_getElem? (i := 1) (by decide +kernel)
theorem qX7_finding_2 : (Cond.constantLong RX7 326 (-9000000000000000010)) ∈ wsX7_finding := List.mem_of_getElem? (i := 2) (by decide +kernel)
theorem nX7_finding_7 : ∀ w ∈ u_ws RX7 TX7 14, w ∈ wsX7_finding := fun _ h => (List.mem_cons_of_mem _ (List.mem_append_right _ h))
set_option maxHeartbeats 4000000 in
set_option maxRecDepth 100000 in
theorem kX7_finding (o0 : Nat) (g0 : Nat → Nat) (s0 : St) (p1 : Int32) (sz : Nat) (r : Int64) (z0 : St) (hf : fX7_finding s0 p1 = some (r, z0)) : Met l yX7_finding wsX7_finding ({ frames := 0, cells := 0, slots := 0, locals := 0 } : Room) (pcW (dC, dI) (q_ty cI cB cZ) [.ref o0, .int p1] (wcX o0 g0 s0) sz) (qlW (dC, dI) (q_ty cI cB cZ) (wcX o0 g0 s0) (wcX o0 g0 z0) sz r) 0 0 (va_A (wcX o0 g0 s0) sz) := by
  refine q_rwM (cc := cX7_finding) (maxL := 2) (ret := (some .long)) (by decide +kernel) rfl (Nat.le_of_ble_eq_true rfl) ?_
  intro p e s m below meth c hx hb hr hlk hml hown hts hK A H hAe hH hsz hP hD hA hS ls hl
  have hown : s.vm.findClass RX7 = some m.cls := hown
  have hl : lv_has ls 2 [(0, .ref o0), (1, .int p1)] := hl
  unfold fX7_finding at hf
  refine lv_aload_n hx hb dX7_finding_0 rfl (lv_at hl 0 rfl) ?_
  refine lv_iload_n hx hb dX7_finding_1 rfl (lv_at hl 1 rfl) ?_
  obtain ⟨sn1, esn1, hf⟩ := q_lto hf
  refine va_put (D := (dC, dI)) (ci := 7) (v := .int p1) (ty := .int) (C := RX7) (T := TX7) (N := 14) hx hb hts nX7_finding_7 tyX7 tyX7_ok nmX7 hown hK hP hD hS 0 rfl rfl 13 (by decide) (hts _ qX7_finding_1) (fun _ h9 => h9) rfl (by decide +kernel) rfl rfl (Nat.le_of_ble_eq_true rfl) dX7_finding_2 (fun H locs hP hD hS => ?_)
  have hP : va_P (dC, dI) vwCl (wcX o0 g0 sn1) H := by rw [esn1]; exact hP
  have hD : va_D A (wcX o0 g0 sn1) := by rw [esn1]; exact hD
  refine lv_ldc2 (v := -9000000000000000010) hx hb hown (hts _ qX7_finding_2) dX7_finding_5 ?_
  refine lv_iload_n hx hb dX7_finding_8 rfl (lv_at hl 1 rfl) ?_
  refine lv_i2l (v := p1.toInt64) hx hb dX7_finding_9 rfl ?_
  refine lv_lsub hx hb dX7_finding_10 ?_
  obtain ⟨ee0, ee1⟩ := q_s2 hf
  subst ee1
  exact q_wretL hx hb hr hlk hAe hK hP hD hS ee0 dX7_finding_11
theorem hdX7_withoutFinding : yX7_withoutFinding.cls = RX7 ∧ yX7_withoutFinding.cls ≠ "java/lang/invoke/MethodHandle" ∧ yX7_withoutFinding.cls ≠ "java/lang/invoke/VarHandle" ∧ (parseMethodDescriptor yX7_withoutFinding.desc).map (fun d => d.parameters.length) = some 1 := by decide +kernel
theorem qX7_withoutFinding_1 : (Cond.fieldLink RX7 323 "DeadAsked" "latestFinding" "I") ∈ wsX7_withoutFinding := List.mem_of_getElem? (i := 1) (by decide +kernel)
theorem nX7_withoutFinding_7 : ∀ w ∈ u_ws RX7 TX7 14, w ∈ wsX7_withoutFinding := fun _ h => (List.mem_cons_of_mem _ (List.mem_append_right _ h))
set_option maxHeartbeats 4000000 in
set_option maxRecDepth 100000 in
theorem kX7_withoutFinding (o0 : Nat) (g0 : Nat → Nat) (s0 : St) (p1 : Int64) (sz : Nat) (r : Int64) (z0 : St) (hf : fX7_withoutFinding s0 p1 = some (r, z0)) : Met l yX7_withoutFinding wsX7_withoutFinding ({ frames := 0, cells := 0, slots := 0, locals := 0 } : Room) (pcW (dC, dI) (q_ty cI cB cZ) [.ref o0, .long p1] (wcX o0 g0 s0) sz) (qlW (dC, dI) (q_ty cI cB cZ) (wcX o0 g0 s0) (wcX o0 g0 z0) sz r) 0 0 (va_A (wcX o0 g0 s0) sz) := by
  refine q_rwM (cc := cX7_withoutFinding) (maxL := 3) (ret := (some .long)) (by decide +kernel) rfl (Nat.le_of_ble_eq_true rfl) ?_
  intro p e s m below meth c hx hb hr hlk hml hown hts hK A H hAe hH hsz hP hD hA hS ls hl
  have hown : s.vm.findClass RX7 = some m.cls := hown
  have hl : lv_has ls 3 [(0, .ref o0), (1, .long p1)] := hl
  unfold fX7_withoutFinding at hf
  refine lv_aload_n hx hb dX7_withoutFinding_0 rfl (lv_at hl 0 rfl) ?_
  refine lv_iconst (v := 0) hx hb dX7_withoutFinding_1 (by decide) ?_
  obtain ⟨sn1, esn1, hf⟩ := q_lto hf
  refine va_put (D := (dC, dI)) (ci := 7) (v := .int (0 : Int32)) (ty := .int) (C := RX7) (T := TX7) (N := 14) hx hb hts nX7_withoutFinding_7 tyX7 tyX7_ok nmX7 hown hK hP hD hS 0 rfl rfl 13 (by decide) (hts _ qX7_withoutFinding_1) (fun _ h9 => h9) rfl (by decide +kernel) rfl rfl (Nat.le_of_ble_eq_true rfl) dX7_withoutFinding_2 (fun H locs hP hD hS => ?_)
  have hP : va_P (dC, dI) vwCl (wcX o0 g0 sn1) H := by rw [esn1]; exact hP
  have hD : va_D A (wcX o0 g0 sn1) := by rw [esn1]; exact hD
  refine lv_lload_n hx hb dX7_withoutFinding_5 rfl (lv_at hl 1 rfl) ?_
  obtain ⟨ee0, ee1⟩ := q_s2 hf
  subst ee1
  exact q_wretL hx hb hr hlk hAe hK hP hD hS ee0 dX7_withoutFinding_6
theorem hdX7_row : yX7_row.cls = RX7 ∧ yX7_row.cls ≠ "java/lang/invoke/MethodHandle" ∧ yX7_row.cls ≠ "java/lang/invoke/VarHandle" ∧ (parseMethodDescriptor yX7_row.desc).map (fun d => d.parameters.length) = some 3 := by decide +kernel
theorem qX7_row_1 : (Cond.fieldLink RX7 12 "DeadAsked" "rows" "LDeadAsked$Rows;") ∈ wsX7_row := List.mem_of_getElem? (i := 1) (by decide +kernel)
theorem qX7_row_2 : (Cond.constantLong RX7 76 (-9000000000000000001)) ∈ wsX7_row := List.mem_of_getElem? (i := 2) (by decide +kernel)
theorem nX7_row_7 : ∀ w ∈ u_ws RX7 TX7 14, w ∈ wsX7_row := fun _ h => (List.mem_cons_of_mem _ (List.mem_append_left _ (List.mem_append_right _ h)))
set_option maxHeartbeats 4000000 in
set_option maxRecDepth 100000 in
theorem kX7_row (o0 : Nat) (g0 : Nat → Nat) (a1 : Nat → Nat) (s0 : St) (s1 : St) (p1 : Int32) (p2 : Int32) (p3 : Int32) (sz : Nat) (r : Int64) (z0 : St) (z1 : St) (hf : fX7_row s0 s1 p1 p2 p3 = some (r, z0, z1)) : Met l yX7_row wsX7_row ({ frames := 2, cells := 0, slots := 0, locals := 45 } : Room) (pcW (dC, dI) (q_ty cI cB cZ) [.ref o0, .int p1, .int p2, .int p3] ((wcX o0 g0 s0) ++ (wcR cI (g0 0) a1 s1)) sz) (qlW (dC, dI) (q_ty cI cB cZ) ((wcX o0 g0 s0) ++ (wcR cI (g0 0) a1 s1)) ((wcX o0 g0 z0) ++ (wcR cI (g0 0) a1 z1)) sz r) 0 0 (va_A ((wcX o0 g0 s0) ++ (wcR cI (g0 0) a1 s1)) sz) := by
  refine q_rwM (cc := cX7_row) (maxL := 4) (ret := (some .long)) (by decide +kernel) rfl (Nat.le_of_ble_eq_true rfl) ?_
  intro p e s m below meth c hx hb hr hlk hml hown hts hK A H hAe hH hsz hP hD hA hS ls hl
  have hown : s.vm.findClass RX7 = some m.cls := hown
  have hl : lv_has ls 4 [(0, .ref o0), (1, .int p1), (2, .int p2), (3, .int p3)] := hl
  unfold fX7_row at hf
  refine lv_aload_n hx hb dX7_row_0 rfl (lv_at hl 0 rfl) ?_
  refine va_get (D := (dC, dI)) (ci := 7) (v := .ref (g0 0)) (C := RX7) (T := TX7) (N := 14) hx hb hts nX7_row_7 hown hK hP 0 rfl rfl 0 (by decide) (hts _ qX7_row_1) (fun _ h9 => h9) rfl dX7_row_1 ?_
  refine lv_iload_n hx hb dX7_row_4 rfl (lv_at hl 1 rfl) ?_
  obtain ⟨r1, h2, hf⟩ := q_b1o hf
  refine q_roVi (As := [.int p1]) (rest := []) (ci := 5) ⟨hx, hb, hml, hown, hts⟩ (kX5_isRow l dC dI cI cB cZ (g0 0) a1 s1 p1 r1 h2) (cwV 1 hts gX7_row_X5_isRow rfl rfl rfl hdX5_isRow ⟨Nat.le_of_ble_eq_true rfl, Nat.le_of_ble_eq_true rfl⟩) hK (hP.sub [1, 2, 3, 4] rfl) rfl rfl rfl hl.1 rfl (Nat.le_of_ble_eq_true rfl) dX7_row_5 ⟨Nat.zero_le _, Nat.zero_le _⟩ ?_
  refine lv_if_eq (tgt := 28) hx hb dX7_row_8 (by decide) (fun c3 => ?_) (fun c3 => ?_)
  · have hf := q_t c3 hf
    refine lv_ldc2 (v := -9000000000000000001) hx hb hown (hts _ qX7_row_2) dX7_row_28 ?_
    obtain ⟨ee0, ee1, ee2⟩ := q_s3 hf
    subst ee1
    subst ee2
    exact q_wretL hx hb hr hlk hAe hK hP hD hS ee0 dX7_row_31
  · have hf := q_f c3 hf
    refine lv_aload_n hx hb dX7_row_11 rfl (lv_at hl 0 rfl) ?_
    refine va_get (D := (dC, dI)) (ci := 7) (v := .ref (g0 0)) (C := RX7) (T := TX7) (N := 14) hx hb hts nX7_row_7 hown hK hP 0 rfl rfl 0 (by decide) (hts _ qX7_row_1) (fun _ h9 => h9) rfl dX7_row_12 ?_
    refine lv_iload_n hx hb dX7_row_15 rfl (lv_at hl 2 rfl) ?_
    obtain ⟨r4, h5, hf⟩ := q_b1o hf
    refine q_roVi (As := [.int p2]) (rest := []) (ci := 5) ⟨hx, hb, hml, hown, hts⟩ (kX5_isLane l dC dI cI cB cZ (g0 0) a1 s1 p2 r4 h5) (cwV 1 hts gX7_row_X5_isLane rfl rfl rfl hdX5_isLane ⟨Nat.le_of_ble_eq_true rfl, Nat.le_of_ble_eq_true rfl⟩) hK (hP.sub [1, 2, 3, 4] rfl) rfl rfl rfl hl.1 rfl (Nat.le_of_ble_eq_true rfl) dX7_row_16 ⟨Nat.zero_le _, Nat.zero_le _⟩ ?_
    refine lv_if_eq (tgt := 28) hx hb dX7_row_19 (by decide) (fun c6 => ?_) (fun c6 => ?_)
    · have hf := q_t c6 hf
      refine lv_ldc2 (v := -9000000000000000001) hx hb hown (hts _ qX7_row_2) dX7_row_28 ?_
      obtain ⟨ee0, ee1, ee2⟩ := q_s3 hf
      subst ee1
      subst ee2
      exact q_wretL hx hb hr hlk hAe hK hP hD hS ee0 dX7_row_31
    · have hf := q_f c6 hf
      refine lv_iload_n hx hb dX7_row_22 rfl (lv_at hl 3 rfl) ?_
      refine lv_bipush (v := 40) hx hb dX7_row_23 (by decide) ?_
      refine lv_icmp_le (tgt := 32) hx hb dX7_row_25 (by decide) (fun c7 => ?_) (fun c7 => ?_)
      · have hf := q_t c7 hf
        refine lv_iload_n hx hb dX7_row_32 rfl (lv_at hl 3 rfl) ?_
        refine lv_if_ge (tgt := 42) hx hb dX7_row_33 (by decide) (fun c8 => ?_) (fun c8 => ?_)
        · have hf := q_t c8 hf
          refine lv_aload_n hx hb dX7_row_42 rfl (lv_at hl 0 rfl) ?_
          refine va_get (D := (dC, dI)) (ci := 7) (v := .ref (g0 0)) (C := RX7) (T := TX7) (N := 14) hx hb hts nX7_row_7 hown hK hP 0 rfl rfl 0 (by decide) (hts _ qX7_row_1) (fun _ h9 => h9) rfl dX7_row_43 ?_
          refine lv_iload_n hx hb dX7_row_46 rfl (lv_at hl 1 rfl) ?_
          refine lv_iload_n hx hb dX7_row_47 rfl (lv_at hl 2 rfl) ?_
          refine lv_iload_n hx hb dX7_row_48 rfl (lv_at hl 3 rfl) ?_
          obtain ⟨sc9, h10, hf⟩ := q_b1o hf
          refine q_rwVv (As := [.int p1, .int p2, .int p3]) (rest := []) (ci := 5) (wr := ((wcX o0 g0 s0))) (w2 := ((wcX o0 g0 s0) ++ (wcR cI (g0 0) a1 sc9))) ⟨hx, hb, hml, hown, hts⟩ (kX5_make l dC dI cI cB cZ (g0 0) a1 s1 p1 p2 p3 H.size sc9 h10) (cwV 3 hts gX7_row_X5_make rfl rfl rfl hdX5_make ⟨Nat.le_of_ble_eq_true rfl, Nat.le_of_ble_eq_true rfl⟩) hK hP hD hS hA [1, 2, 3, 4] [0] [0, 1, 2, 3, 4] rfl rfl (by decide) (by decide) (by decide) rfl (by decide) rfl rfl rfl hl.1 rfl (Nat.le_of_ble_eq_true rfl) dX7_row_49 ⟨Nat.zero_le _, Nat.zero_le _⟩ (fun H locs hP hD hS => ?_)
          refine lv_aload_n hx hb dX7_row_52 rfl (lv_at hl 0 rfl) ?_
          refine lv_iload_n hx hb dX7_row_53 rfl (lv_at hl 3 rfl) ?_
          refine lv_i2l (v := p3.toInt64) hx hb dX7_row_54 rfl ?_
          obtain ⟨r11, sc12, h13, hf⟩ := q_b2o hf
          refine q_rwVl (As := [.long p3.toInt64]) (rest := []) (ci := 7) (wr := ((wcR cI (g0 0) a1 sc9))) (w2 := ((wcX o0 g0 sc12) ++ (wcR cI (g0 0) a1 sc9))) ⟨hx, hb, hml, hown, hts⟩ (kX7_withoutFinding l dC dI cI cB cZ o0 g0 s0 p3.toInt64 H.size r11 sc12 h13) (cwV 1 hts gX7_row_X7_withoutFinding rfl rfl rfl hdX7_withoutFinding ⟨Nat.le_of_ble_eq_true rfl, Nat.le_of_ble_eq_true rfl⟩) hK hP hD hS hA [0] [1, 2, 3, 4] [4, 0, 1, 2, 3] rfl rfl (by decide) (by decide) (by decide) rfl (by decide) rfl rfl rfl hl.1 rfl (Nat.le_of_ble_eq_true rfl) dX7_row_55 ⟨Nat.zero_le _, Nat.zero_le _⟩ (fun H locs hP hD hS => ?_)
          obtain ⟨ee0, ee1, ee2⟩ := q_s3 hf
          subst ee1
          subst ee2
          exact q_wretL hx hb hr hlk hAe hK hP hD hS ee0 dX7_row_58
        · have hf := q_f c8 hf
          refine lv_aload_n hx hb dX7_row_36 rfl (lv_at hl 0 rfl) ?_
          refine lv_iconst (v := 4) hx hb dX7_row_37 (by decide) ?_
          obtain ⟨r14, sc15, h16, hf⟩ := q_b2o hf
          refine q_rwVl (As := [.int (4 : Int32)]) (rest := []) (ci := 7) (wr := ((wcR cI (g0 0) a1 s1))) (w2 := ((wcX o0 g0 sc15) ++ (wcR cI (g0 0) a1 s1))) ⟨hx, hb, hml, hown, hts⟩ (kX7_finding l dC dI cI cB cZ o0 g0 s0 (4 : Int32) H.size r14 sc15 h16) (cwV 1 hts gX7_row_X7_finding rfl rfl rfl hdX7_finding ⟨Nat.le_of_ble_eq_true rfl, Nat.le_of_ble_eq_true rfl⟩) hK hP hD hS hA [0] [1, 2, 3, 4] [4, 0, 1, 2, 3] rfl rfl (by decide) (by decide) (by decide) rfl (by decide) rfl rfl rfl hl.1 rfl (Nat.le_of_ble_eq_true rfl) dX7_row_38 ⟨Nat.zero_le _, Nat.zero_le _⟩ (fun H locs hP hD hS => ?_)
          obtain ⟨ee0, ee1, ee2⟩ := q_s3 hf
          subst ee1
          subst ee2
          exact q_wretL hx hb hr hlk hAe hK hP hD hS ee0 dX7_row_41
      · have hf := q_f c7 hf
        refine lv_ldc2 (v := -9000000000000000001) hx hb hown (hts _ qX7_row_2) dX7_row_28 ?_
        obtain ⟨ee0, ee1, ee2⟩ := q_s3 hf
        subst ee1
        subst ee2
        exact q_wretL hx hb hr hlk hAe hK hP hD hS ee0 dX7_row_31
theorem hdX7_set : yX7_set.cls = RX7 ∧ yX7_set.cls ≠ "java/lang/invoke/MethodHandle" ∧ yX7_set.cls ≠ "java/lang/invoke/VarHandle" ∧ (parseMethodDescriptor yX7_set.desc).map (fun d => d.parameters.length) = some 3 := by decide +kernel
theorem qX7_set_1 : (Cond.fieldLink RX7 12 "DeadAsked" "rows" "LDeadAsked$Rows;") ∈ wsX7_set := List.mem_of_getElem? (i := 1) (by decide +kernel)
theorem qX7_set_2 : (Cond.constantLong RX7 76 (-9000000000000000001)) ∈ wsX7_set := List.mem_of_getElem? (i := 2) (by decide +kernel)
theorem nX7_set_7 : ∀ w ∈ u_ws RX7 TX7 14, w ∈ wsX7_set := fun _ h => (List.mem_cons_of_mem _ (List.mem_append_left _ (List.mem_append_right _ h)))
set_option maxHeartbeats 4000000 in
set_option maxRecDepth 100000 in
theorem kX7_set (o0 : Nat) (g0 : Nat → Nat) (a1 : Nat → Nat) (s0 : St) (s1 : St) (p1 : Int32) (p2 : Int32) (p3 : Int32) (sz : Nat) (r : Int64) (z0 : St) (z1 : St) (hf : fX7_set s0 s1 p1 p2 p3 = some (r, z0, z1)) : Met l yX7_set wsX7_set ({ frames := 4, cells := 0, slots := 0, locals := 89 } : Room) (pcW (dC, dI) (q_ty cI cB cZ) [.ref o0, .int p1, .int p2, .int p3] ((wcX o0 g0 s0) ++ (wcR cI (g0 0) a1 s1)) sz) (qlW (dC, dI) (q_ty cI cB cZ) ((wcX o0 g0 s0) ++ (wcR cI (g0 0) a1 s1)) ((wcX o0 g0 z0) ++ (wcR cI (g0 0) a1 z1)) sz r) 0 0 (va_A ((wcX o0 g0 s0) ++ (wcR cI (g0 0) a1 s1)) sz) := by
  refine q_rwM (cc := cX7_set) (maxL := 4) (ret := (some .long)) (by decide +kernel) rfl (Nat.le_of_ble_eq_true rfl) ?_
  intro p e s m below meth c hx hb hr hlk hml hown hts hK A H hAe hH hsz hP hD hA hS ls hl
  have hown : s.vm.findClass RX7 = some m.cls := hown
  have hl : lv_has ls 4 [(0, .ref o0), (1, .int p1), (2, .int p2), (3, .int p3)] := hl
  unfold fX7_set at hf
  refine lv_aload_n hx hb dX7_set_0 rfl (lv_at hl 0 rfl) ?_
  refine va_get (D := (dC, dI)) (ci := 7) (v := .ref (g0 0)) (C := RX7) (T := TX7) (N := 14) hx hb hts nX7_set_7 hown hK hP 0 rfl rfl 0 (by decide) (hts _ qX7_set_1) (fun _ h9 => h9) rfl dX7_set_1 ?_
  refine lv_iload_n hx hb dX7_set_4 rfl (lv_at hl 1 rfl) ?_
  obtain ⟨r1, h2, hf⟩ := q_b1o hf
  refine q_roVi (As := [.int p1]) (rest := []) (ci := 5) ⟨hx, hb, hml, hown, hts⟩ (kX5_isRow l dC dI cI cB cZ (g0 0) a1 s1 p1 r1 h2) (cwV 1 hts gX7_set_X5_isRow rfl rfl rfl hdX5_isRow ⟨Nat.le_of_ble_eq_true rfl, Nat.le_of_ble_eq_true rfl⟩) hK (hP.sub [1, 2, 3, 4] rfl) rfl rfl rfl hl.1 rfl (Nat.le_of_ble_eq_true rfl) dX7_set_5 ⟨Nat.zero_le _, Nat.zero_le _⟩ ?_
  refine lv_if_ne (tgt := 15) hx hb dX7_set_8 (by decide) (fun c3 => ?_) (fun c3 => ?_)
  · have hf := q_f c3 hf
    refine lv_aload_n hx hb dX7_set_15 rfl (lv_at hl 0 rfl) ?_
    refine va_get (D := (dC, dI)) (ci := 7) (v := .ref (g0 0)) (C := RX7) (T := TX7) (N := 14) hx hb hts nX7_set_7 hown hK hP 0 rfl rfl 0 (by decide) (hts _ qX7_set_1) (fun _ h9 => h9) rfl dX7_set_16 ?_
    refine lv_iload_n hx hb dX7_set_19 rfl (lv_at hl 1 rfl) ?_
    obtain ⟨r4, h5, hf⟩ := q_b1o hf
    refine q_roVi (As := [.int p1]) (rest := []) (ci := 5) ⟨hx, hb, hml, hown, hts⟩ (kX5_isMissing l dC dI cI cB cZ (g0 0) a1 s1 p1 r4 h5) (cwV 1 hts gX7_set_X5_isMissing rfl rfl rfl hdX5_isMissing ⟨Nat.le_of_ble_eq_true rfl, Nat.le_of_ble_eq_true rfl⟩) hK (hP.sub [1, 2, 3, 4] rfl) rfl rfl rfl hl.1 rfl (Nat.le_of_ble_eq_true rfl) dX7_set_20 ⟨Nat.zero_le _, Nat.zero_le _⟩ ?_
    refine lv_if_eq (tgt := 32) hx hb dX7_set_23 (by decide) (fun c6 => ?_) (fun c6 => ?_)
    · have hf := q_t c6 hf
      refine lv_aload_n hx hb dX7_set_32 rfl (lv_at hl 0 rfl) ?_
      refine va_get (D := (dC, dI)) (ci := 7) (v := .ref (g0 0)) (C := RX7) (T := TX7) (N := 14) hx hb hts nX7_set_7 hown hK hP 0 rfl rfl 0 (by decide) (hts _ qX7_set_1) (fun _ h9 => h9) rfl dX7_set_33 ?_
      refine lv_iload_n hx hb dX7_set_36 rfl (lv_at hl 1 rfl) ?_
      refine lv_iload_n hx hb dX7_set_37 rfl (lv_at hl 2 rfl) ?_
      refine lv_iconst (v := 1) hx hb dX7_set_38 (by decide) ?_
      obtain ⟨r7, h8, hf⟩ := q_b1o hf
      refine q_roVi (As := [.int p1, .int p2, .int (1 : Int32)]) (rest := []) (ci := 5) ⟨hx, hb, hml, hown, hts⟩ (kX5_holds l dC dI cI cB cZ (g0 0) a1 s1 p1 p2 (1 : Int32) r7 h8) (cwV 3 hts gX7_set_X5_holds rfl rfl rfl hdX5_holds ⟨Nat.le_of_ble_eq_true rfl, Nat.le_of_ble_eq_true rfl⟩) hK (hP.sub [1, 2, 3, 4] rfl) rfl rfl rfl hl.1 rfl (Nat.le_of_ble_eq_true rfl) dX7_set_39 ⟨Nat.zero_le _, Nat.zero_le _⟩ ?_
      refine lv_if_ne (tgt := 51) hx hb dX7_set_42 (by decide) (fun c9 => ?_) (fun c9 => ?_)
      · have hf := q_f c9 hf
        refine lv_aload_n hx hb dX7_set_51 rfl (lv_at hl 0 rfl) ?_
        refine lv_aload_n hx hb dX7_set_52 rfl (lv_at hl 0 rfl) ?_
        refine va_get (D := (dC, dI)) (ci := 7) (v := .ref (g0 0)) (C := RX7) (T := TX7) (N := 14) hx hb hts nX7_set_7 hown hK hP 0 rfl rfl 0 (by decide) (hts _ qX7_set_1) (fun _ h9 => h9) rfl dX7_set_53 ?_
        refine lv_iload_n hx hb dX7_set_56 rfl (lv_at hl 1 rfl) ?_
        refine lv_iload_n hx hb dX7_set_57 rfl (lv_at hl 2 rfl) ?_
        refine lv_iload_n hx hb dX7_set_58 rfl (lv_at hl 3 rfl) ?_
        obtain ⟨r10, sc11, h12, hf⟩ := q_b2o hf
        refine q_rwVi (As := [.int p1, .int p2, .int p3]) (rest := [.ref o0]) (ci := 5) (wr := ((wcX o0 g0 s0))) (w2 := ((wcX o0 g0 s0) ++ (wcR cI (g0 0) a1 sc11))) ⟨hx, hb, hml, hown, hts⟩ (kX5_put l dC dI cI cB cZ (g0 0) a1 s1 p1 p2 p3 H.size r10 sc11 h12) (cwV 3 hts gX7_set_X5_put rfl rfl rfl hdX5_put ⟨Nat.le_of_ble_eq_true rfl, Nat.le_of_ble_eq_true rfl⟩) hK hP hD hS hA [1, 2, 3, 4] [0] [0, 1, 2, 3, 4] rfl rfl (by decide) (by decide) (by decide) rfl (by decide) rfl rfl rfl hl.1 rfl (Nat.le_of_ble_eq_true rfl) dX7_set_59 ⟨Nat.zero_le _, Nat.zero_le _⟩ (fun H locs hP hD hS => ?_)
        refine lv_i2l (v := r10.toInt64) hx hb dX7_set_62 rfl ?_
        obtain ⟨r13, sc14, h15, hf⟩ := q_b2o hf
        refine q_rwVl (As := [.long r10.toInt64]) (rest := []) (ci := 7) (wr := ((wcR cI (g0 0) a1 sc11))) (w2 := ((wcX o0 g0 sc14) ++ (wcR cI (g0 0) a1 sc11))) ⟨hx, hb, hml, hown, hts⟩ (kX7_withoutFinding l dC dI cI cB cZ o0 g0 s0 r10.toInt64 H.size r13 sc14 h15) (cwV 1 hts gX7_set_X7_withoutFinding rfl rfl rfl hdX7_withoutFinding ⟨Nat.le_of_ble_eq_true rfl, Nat.le_of_ble_eq_true rfl⟩) hK hP hD hS hA [0] [1, 2, 3, 4] [4, 0, 1, 2, 3] rfl rfl (by decide) (by decide) (by decide) rfl (by decide) rfl rfl rfl hl.1 rfl (Nat.le_of_ble_eq_true rfl) dX7_set_63 ⟨Nat.zero_le _, Nat.zero_le _⟩ (fun H locs hP hD hS => ?_)
        obtain ⟨ee0, ee1, ee2⟩ := q_s3 hf
        subst ee1
        subst ee2
        exact q_wretL hx hb hr hlk hAe hK hP hD hS ee0 dX7_set_66
      · have hf := q_t c9 hf
        refine lv_aload_n hx hb dX7_set_45 rfl (lv_at hl 0 rfl) ?_
        refine lv_iconst (v := 2) hx hb dX7_set_46 (by decide) ?_
        obtain ⟨r16, sc17, h18, hf⟩ := q_b2o hf
        refine q_rwVl (As := [.int (2 : Int32)]) (rest := []) (ci := 7) (wr := ((wcR cI (g0 0) a1 s1))) (w2 := ((wcX o0 g0 sc17) ++ (wcR cI (g0 0) a1 s1))) ⟨hx, hb, hml, hown, hts⟩ (kX7_finding l dC dI cI cB cZ o0 g0 s0 (2 : Int32) H.size r16 sc17 h18) (cwV 1 hts gX7_set_X7_finding rfl rfl rfl hdX7_finding ⟨Nat.le_of_ble_eq_true rfl, Nat.le_of_ble_eq_true rfl⟩) hK hP hD hS hA [0] [1, 2, 3, 4] [4, 0, 1, 2, 3] rfl rfl (by decide) (by decide) (by decide) rfl (by decide) rfl rfl rfl hl.1 rfl (Nat.le_of_ble_eq_true rfl) dX7_set_47 ⟨Nat.zero_le _, Nat.zero_le _⟩ (fun H locs hP hD hS => ?_)
        obtain ⟨ee0, ee1, ee2⟩ := q_s3 hf
        subst ee1
        subst ee2
        exact q_wretL hx hb hr hlk hAe hK hP hD hS ee0 dX7_set_50
    · have hf := q_f c6 hf
      refine lv_aload_n hx hb dX7_set_26 rfl (lv_at hl 0 rfl) ?_
      refine lv_iconst (v := 1) hx hb dX7_set_27 (by decide) ?_
      obtain ⟨r19, sc20, h21, hf⟩ := q_b2o hf
      refine q_rwVl (As := [.int (1 : Int32)]) (rest := []) (ci := 7) (wr := ((wcR cI (g0 0) a1 s1))) (w2 := ((wcX o0 g0 sc20) ++ (wcR cI (g0 0) a1 s1))) ⟨hx, hb, hml, hown, hts⟩ (kX7_finding l dC dI cI cB cZ o0 g0 s0 (1 : Int32) H.size r19 sc20 h21) (cwV 1 hts gX7_set_X7_finding rfl rfl rfl hdX7_finding ⟨Nat.le_of_ble_eq_true rfl, Nat.le_of_ble_eq_true rfl⟩) hK hP hD hS hA [0] [1, 2, 3, 4] [4, 0, 1, 2, 3] rfl rfl (by decide) (by decide) (by decide) rfl (by decide) rfl rfl rfl hl.1 rfl (Nat.le_of_ble_eq_true rfl) dX7_set_28 ⟨Nat.zero_le _, Nat.zero_le _⟩ (fun H locs hP hD hS => ?_)
      obtain ⟨ee0, ee1, ee2⟩ := q_s3 hf
      subst ee1
      subst ee2
      exact q_wretL hx hb hr hlk hAe hK hP hD hS ee0 dX7_set_31
  · have hf := q_t c3 hf
    refine lv_ldc2 (v := -9000000000000000001) hx hb hown (hts _ qX7_set_2) dX7_set_11 ?_
    obtain ⟨ee0, ee1, ee2⟩ := q_s3 hf
    subst ee1
    subst ee2
    exact q_wretL hx hb hr hlk hAe hK hP hD hS ee0 dX7_set_14
theorem hdX7_copy : yX7_copy.cls = RX7 ∧ yX7_copy.cls ≠ "java/lang/invoke/MethodHandle" ∧ yX7_copy.cls ≠ "java/lang/invoke/VarHandle" ∧ (parseMethodDescriptor yX7_copy.desc).map (fun d => d.parameters.length) = some 5 := by decide +kernel
theorem qX7_copy_1 : (Cond.fieldLink RX7 12 "DeadAsked" "rows" "LDeadAsked$Rows;") ∈ wsX7_copy := List.mem_of_getElem? (i := 1) (by decide +kernel)
theorem qX7_copy_2 : (Cond.constantLong RX7 76 (-9000000000000000001)) ∈ wsX7_copy := List.mem_of_getElem? (i := 2) (by decide +kernel)
theorem nX7_copy_7 : ∀ w ∈ u_ws RX7 TX7 14, w ∈ wsX7_copy := fun _ h => (List.mem_cons_of_mem _ (List.mem_append_left _ (List.mem_append_right _ h)))
set_option maxHeartbeats 4000000 in
set_option maxRecDepth 100000 in
theorem kX7_copy (o0 : Nat) (g0 : Nat → Nat) (a1 : Nat → Nat) (s0 : St) (s1 : St) (p1 : Int32) (p2 : Int32) (p3 : Int32) (p4 : Int32) (p5 : Int32) (sz : Nat) (r : Int64) (z0 : St) (z1 : St) (hf : fX7_copy s0 s1 p1 p2 p3 p4 p5 = some (r, z0, z1)) : Met l yX7_copy wsX7_copy ({ frames := 4, cells := 0, slots := 0, locals := 90 } : Room) (pcW (dC, dI) (q_ty cI cB cZ) [.ref o0, .int p1, .int p2, .int p3, .int p4, .int p5] ((wcX o0 g0 s0) ++ (wcR cI (g0 0) a1 s1)) sz) (qlW (dC, dI) (q_ty cI cB cZ) ((wcX o0 g0 s0) ++ (wcR cI (g0 0) a1 s1)) ((wcX o0 g0 z0) ++ (wcR cI (g0 0) a1 z1)) sz r) 0 0 (va_A ((wcX o0 g0 s0) ++ (wcR cI (g0 0) a1 s1)) sz) := by
  refine q_rwM (cc := cX7_copy) (maxL := 6) (ret := (some .long)) (by decide +kernel) rfl (Nat.le_of_ble_eq_true rfl) ?_
  intro p e s m below meth c hx hb hr hlk hml hown hts hK A H hAe hH hsz hP hD hA hS ls hl
  have hown : s.vm.findClass RX7 = some m.cls := hown
  have hl : lv_has ls 6 [(0, .ref o0), (1, .int p1), (2, .int p2), (3, .int p3), (4, .int p4), (5, .int p5)] := hl
  unfold fX7_copy at hf
  refine lv_aload_n hx hb dX7_copy_0 rfl (lv_at hl 0 rfl) ?_
  refine va_get (D := (dC, dI)) (ci := 7) (v := .ref (g0 0)) (C := RX7) (T := TX7) (N := 14) hx hb hts nX7_copy_7 hown hK hP 0 rfl rfl 0 (by decide) (hts _ qX7_copy_1) (fun _ h9 => h9) rfl dX7_copy_1 ?_
  refine lv_iload_n hx hb dX7_copy_4 rfl (lv_at hl 1 rfl) ?_
  obtain ⟨r1, h2, hf⟩ := q_b1o hf
  refine q_roVi (As := [.int p1]) (rest := []) (ci := 5) ⟨hx, hb, hml, hown, hts⟩ (kX5_isRow l dC dI cI cB cZ (g0 0) a1 s1 p1 r1 h2) (cwV 1 hts gX7_copy_X5_isRow rfl rfl rfl hdX5_isRow ⟨Nat.le_of_ble_eq_true rfl, Nat.le_of_ble_eq_true rfl⟩) hK (hP.sub [1, 2, 3, 4] rfl) rfl rfl rfl hl.1 rfl (Nat.le_of_ble_eq_true rfl) dX7_copy_5 ⟨Nat.zero_le _, Nat.zero_le _⟩ ?_
  refine lv_if_eq (tgt := 22) hx hb dX7_copy_8 (by decide) (fun c3 => ?_) (fun c3 => ?_)
  · have hf := q_t c3 hf
    refine lv_ldc2 (v := -9000000000000000001) hx hb hown (hts _ qX7_copy_2) dX7_copy_22 ?_
    obtain ⟨ee0, ee1, ee2⟩ := q_s3 hf
    subst ee1
    subst ee2
    exact q_wretL hx hb hr hlk hAe hK hP hD hS ee0 dX7_copy_25
  · have hf := q_f c3 hf
    refine lv_aload_n hx hb dX7_copy_11 rfl (lv_at hl 0 rfl) ?_
    refine va_get (D := (dC, dI)) (ci := 7) (v := .ref (g0 0)) (C := RX7) (T := TX7) (N := 14) hx hb hts nX7_copy_7 hown hK hP 0 rfl rfl 0 (by decide) (hts _ qX7_copy_1) (fun _ h9 => h9) rfl dX7_copy_12 ?_
    refine lv_iload_n hx hb dX7_copy_15 rfl (lv_at hl 3 rfl) ?_
    obtain ⟨r4, h5, hf⟩ := q_b1o hf
    refine q_roVi (As := [.int p3]) (rest := []) (ci := 5) ⟨hx, hb, hml, hown, hts⟩ (kX5_isRow l dC dI cI cB cZ (g0 0) a1 s1 p3 r4 h5) (cwV 1 hts gX7_copy_X5_isRow rfl rfl rfl hdX5_isRow ⟨Nat.le_of_ble_eq_true rfl, Nat.le_of_ble_eq_true rfl⟩) hK (hP.sub [1, 2, 3, 4] rfl) rfl rfl rfl hl.1 rfl (Nat.le_of_ble_eq_true rfl) dX7_copy_16 ⟨Nat.zero_le _, Nat.zero_le _⟩ ?_
    refine lv_if_ne (tgt := 26) hx hb dX7_copy_19 (by decide) (fun c6 => ?_) (fun c6 => ?_)
    · have hf := q_f c6 hf
      refine lv_aload_n hx hb dX7_copy_26 rfl (lv_at hl 0 rfl) ?_
      refine va_get (D := (dC, dI)) (ci := 7) (v := .ref (g0 0)) (C := RX7) (T := TX7) (N := 14) hx hb hts nX7_copy_7 hown hK hP 0 rfl rfl 0 (by decide) (hts _ qX7_copy_1) (fun _ h9 => h9) rfl dX7_copy_27 ?_
      refine lv_iload_n hx hb dX7_copy_30 rfl (lv_at hl 1 rfl) ?_
      obtain ⟨r7, h8, hf⟩ := q_b1o hf
      refine q_roVi (As := [.int p1]) (rest := []) (ci := 5) ⟨hx, hb, hml, hown, hts⟩ (kX5_isMissing l dC dI cI cB cZ (g0 0) a1 s1 p1 r7 h8) (cwV 1 hts gX7_copy_X5_isMissing rfl rfl rfl hdX5_isMissing ⟨Nat.le_of_ble_eq_true rfl, Nat.le_of_ble_eq_true rfl⟩) hK (hP.sub [1, 2, 3, 4] rfl) rfl rfl rfl hl.1 rfl (Nat.le_of_ble_eq_true rfl) dX7_copy_31 ⟨Nat.zero_le _, Nat.zero_le _⟩ ?_
      refine lv_if_ne (tgt := 48) hx hb dX7_copy_34 (by decide) (fun c9 => ?_) (fun c9 => ?_)
      · have hf := q_f c9 hf
        refine lv_aload_n hx hb dX7_copy_48 rfl (lv_at hl 0 rfl) ?_
        refine lv_iconst (v := 1) hx hb dX7_copy_49 (by decide) ?_
        obtain ⟨r10, sc11, h12, hf⟩ := q_b2o hf
        refine q_rwVl (As := [.int (1 : Int32)]) (rest := []) (ci := 7) (wr := ((wcR cI (g0 0) a1 s1))) (w2 := ((wcX o0 g0 sc11) ++ (wcR cI (g0 0) a1 s1))) ⟨hx, hb, hml, hown, hts⟩ (kX7_finding l dC dI cI cB cZ o0 g0 s0 (1 : Int32) H.size r10 sc11 h12) (cwV 1 hts gX7_copy_X7_finding rfl rfl rfl hdX7_finding ⟨Nat.le_of_ble_eq_true rfl, Nat.le_of_ble_eq_true rfl⟩) hK hP hD hS hA [0] [1, 2, 3, 4] [4, 0, 1, 2, 3] rfl rfl (by decide) (by decide) (by decide) rfl (by decide) rfl rfl rfl hl.1 rfl (Nat.le_of_ble_eq_true rfl) dX7_copy_50 ⟨Nat.zero_le _, Nat.zero_le _⟩ (fun H locs hP hD hS => ?_)
        obtain ⟨ee0, ee1, ee2⟩ := q_s3 hf
        subst ee1
        subst ee2
        exact q_wretL hx hb hr hlk hAe hK hP hD hS ee0 dX7_copy_53
      · have hf := q_t c9 hf
        refine lv_aload_n hx hb dX7_copy_37 rfl (lv_at hl 0 rfl) ?_
        refine va_get (D := (dC, dI)) (ci := 7) (v := .ref (g0 0)) (C := RX7) (T := TX7) (N := 14) hx hb hts nX7_copy_7 hown hK hP 0 rfl rfl 0 (by decide) (hts _ qX7_copy_1) (fun _ h9 => h9) rfl dX7_copy_38 ?_
        refine lv_iload_n hx hb dX7_copy_41 rfl (lv_at hl 3 rfl) ?_
        obtain ⟨r13, h14, hf⟩ := q_b1o hf
        refine q_roVi (As := [.int p3]) (rest := []) (ci := 5) ⟨hx, hb, hml, hown, hts⟩ (kX5_isMissing l dC dI cI cB cZ (g0 0) a1 s1 p3 r13 h14) (cwV 1 hts gX7_copy_X5_isMissing rfl rfl rfl hdX5_isMissing ⟨Nat.le_of_ble_eq_true rfl, Nat.le_of_ble_eq_true rfl⟩) hK (hP.sub [1, 2, 3, 4] rfl) rfl rfl rfl hl.1 rfl (Nat.le_of_ble_eq_true rfl) dX7_copy_42 ⟨Nat.zero_le _, Nat.zero_le _⟩ ?_
        refine lv_if_eq (tgt := 54) hx hb dX7_copy_45 (by decide) (fun c15 => ?_) (fun c15 => ?_)
        · have hf := q_t c15 hf
          refine lv_aload_n hx hb dX7_copy_54 rfl (lv_at hl 0 rfl) ?_
          refine va_get (D := (dC, dI)) (ci := 7) (v := .ref (g0 0)) (C := RX7) (T := TX7) (N := 14) hx hb hts nX7_copy_7 hown hK hP 0 rfl rfl 0 (by decide) (hts _ qX7_copy_1) (fun _ h9 => h9) rfl dX7_copy_55 ?_
          refine lv_iload_n hx hb dX7_copy_58 rfl (lv_at hl 1 rfl) ?_
          refine lv_iload_n hx hb dX7_copy_59 rfl (lv_at hl 3 rfl) ?_
          obtain ⟨r16, h17, hf⟩ := q_b1o hf
          refine q_roVi (As := [.int p1, .int p3]) (rest := []) (ci := 5) ⟨hx, hb, hml, hown, hts⟩ (kX5_areOfOneLane l dC dI cI cB cZ (g0 0) a1 s1 p1 p3 r16 h17) (cwV 2 hts gX7_copy_X5_areOfOneLane rfl rfl rfl hdX5_areOfOneLane ⟨Nat.le_of_ble_eq_true rfl, Nat.le_of_ble_eq_true rfl⟩) hK (hP.sub [1, 2, 3, 4] rfl) rfl rfl rfl hl.1 rfl (Nat.le_of_ble_eq_true rfl) dX7_copy_60 ⟨Nat.zero_le _, Nat.zero_le _⟩ ?_
          refine lv_if_ne (tgt := 72) hx hb dX7_copy_63 (by decide) (fun c18 => ?_) (fun c18 => ?_)
          · have hf := q_f c18 hf
            refine lv_aload_n hx hb dX7_copy_72 rfl (lv_at hl 0 rfl) ?_
            refine va_get (D := (dC, dI)) (ci := 7) (v := .ref (g0 0)) (C := RX7) (T := TX7) (N := 14) hx hb hts nX7_copy_7 hown hK hP 0 rfl rfl 0 (by decide) (hts _ qX7_copy_1) (fun _ h9 => h9) rfl dX7_copy_73 ?_
            refine lv_iload_n hx hb dX7_copy_76 rfl (lv_at hl 1 rfl) ?_
            refine lv_iload_n hx hb dX7_copy_77 rfl (lv_at hl 2 rfl) ?_
            refine lv_iload hx hb dX7_copy_78 (lv_at hl 5 rfl) ?_
            obtain ⟨r19, h20, hf⟩ := q_b1o hf
            refine q_roVi (As := [.int p1, .int p2, .int p5]) (rest := []) (ci := 5) ⟨hx, hb, hml, hown, hts⟩ (kX5_holds l dC dI cI cB cZ (g0 0) a1 s1 p1 p2 p5 r19 h20) (cwV 3 hts gX7_copy_X5_holds rfl rfl rfl hdX5_holds ⟨Nat.le_of_ble_eq_true rfl, Nat.le_of_ble_eq_true rfl⟩) hK (hP.sub [1, 2, 3, 4] rfl) rfl rfl rfl hl.1 rfl (Nat.le_of_ble_eq_true rfl) dX7_copy_80 ⟨Nat.zero_le _, Nat.zero_le _⟩ ?_
            refine lv_if_eq (tgt := 101) hx hb dX7_copy_83 (by decide) (fun c21 => ?_) (fun c21 => ?_)
            · have hf := q_t c21 hf
              refine lv_aload_n hx hb dX7_copy_101 rfl (lv_at hl 0 rfl) ?_
              refine lv_iconst (v := 2) hx hb dX7_copy_102 (by decide) ?_
              obtain ⟨r22, sc23, h24, hf⟩ := q_b2o hf
              refine q_rwVl (As := [.int (2 : Int32)]) (rest := []) (ci := 7) (wr := ((wcR cI (g0 0) a1 s1))) (w2 := ((wcX o0 g0 sc23) ++ (wcR cI (g0 0) a1 s1))) ⟨hx, hb, hml, hown, hts⟩ (kX7_finding l dC dI cI cB cZ o0 g0 s0 (2 : Int32) H.size r22 sc23 h24) (cwV 1 hts gX7_copy_X7_finding rfl rfl rfl hdX7_finding ⟨Nat.le_of_ble_eq_true rfl, Nat.le_of_ble_eq_true rfl⟩) hK hP hD hS hA [0] [1, 2, 3, 4] [4, 0, 1, 2, 3] rfl rfl (by decide) (by decide) (by decide) rfl (by decide) rfl rfl rfl hl.1 rfl (Nat.le_of_ble_eq_true rfl) dX7_copy_103 ⟨Nat.zero_le _, Nat.zero_le _⟩ (fun H locs hP hD hS => ?_)
              obtain ⟨ee0, ee1, ee2⟩ := q_s3 hf
              subst ee1
              subst ee2
              exact q_wretL hx hb hr hlk hAe hK hP hD hS ee0 dX7_copy_106
            · have hf := q_f c21 hf
              refine lv_aload_n hx hb dX7_copy_86 rfl (lv_at hl 0 rfl) ?_
              refine va_get (D := (dC, dI)) (ci := 7) (v := .ref (g0 0)) (C := RX7) (T := TX7) (N := 14) hx hb hts nX7_copy_7 hown hK hP 0 rfl rfl 0 (by decide) (hts _ qX7_copy_1) (fun _ h9 => h9) rfl dX7_copy_87 ?_
              refine lv_iload_n hx hb dX7_copy_90 rfl (lv_at hl 3 rfl) ?_
              refine lv_iload hx hb dX7_copy_91 (lv_at hl 4 rfl) ?_
              refine lv_iload hx hb dX7_copy_93 (lv_at hl 5 rfl) ?_
              obtain ⟨r25, h26, hf⟩ := q_b1o hf
              refine q_roVi (As := [.int p3, .int p4, .int p5]) (rest := []) (ci := 5) ⟨hx, hb, hml, hown, hts⟩ (kX5_holds l dC dI cI cB cZ (g0 0) a1 s1 p3 p4 p5 r25 h26) (cwV 3 hts gX7_copy_X5_holds rfl rfl rfl hdX5_holds ⟨Nat.le_of_ble_eq_true rfl, Nat.le_of_ble_eq_true rfl⟩) hK (hP.sub [1, 2, 3, 4] rfl) rfl rfl rfl hl.1 rfl (Nat.le_of_ble_eq_true rfl) dX7_copy_95 ⟨Nat.zero_le _, Nat.zero_le _⟩ ?_
              refine lv_if_ne (tgt := 107) hx hb dX7_copy_98 (by decide) (fun c27 => ?_) (fun c27 => ?_)
              · have hf := q_f c27 hf
                refine lv_aload_n hx hb dX7_copy_107 rfl (lv_at hl 0 rfl) ?_
                refine va_get (D := (dC, dI)) (ci := 7) (v := .ref (g0 0)) (C := RX7) (T := TX7) (N := 14) hx hb hts nX7_copy_7 hown hK hP 0 rfl rfl 0 (by decide) (hts _ qX7_copy_1) (fun _ h9 => h9) rfl dX7_copy_108 ?_
                refine lv_iload_n hx hb dX7_copy_111 rfl (lv_at hl 1 rfl) ?_
                refine lv_iload_n hx hb dX7_copy_112 rfl (lv_at hl 2 rfl) ?_
                refine lv_iload_n hx hb dX7_copy_113 rfl (lv_at hl 3 rfl) ?_
                refine lv_iload hx hb dX7_copy_114 (lv_at hl 4 rfl) ?_
                refine lv_iload hx hb dX7_copy_116 (lv_at hl 5 rfl) ?_
                obtain ⟨sc28, h29, hf⟩ := q_b1o hf
                refine q_rwVv (As := [.int p1, .int p2, .int p3, .int p4, .int p5]) (rest := []) (ci := 5) (wr := ((wcX o0 g0 s0))) (w2 := ((wcX o0 g0 s0) ++ (wcR cI (g0 0) a1 sc28))) ⟨hx, hb, hml, hown, hts⟩ (kX5_carry l dC dI cI cB cZ (g0 0) a1 s1 p1 p2 p3 p4 p5 H.size sc28 h29) (cwV 5 hts gX7_copy_X5_carry rfl rfl rfl hdX5_carry ⟨Nat.le_of_ble_eq_true rfl, Nat.le_of_ble_eq_true rfl⟩) hK hP hD hS hA [1, 2, 3, 4] [0] [0, 1, 2, 3, 4] rfl rfl (by decide) (by decide) (by decide) rfl (by decide) rfl rfl rfl hl.1 rfl (Nat.le_of_ble_eq_true rfl) dX7_copy_118 ⟨Nat.zero_le _, Nat.zero_le _⟩ (fun H locs hP hD hS => ?_)
                refine lv_aload_n hx hb dX7_copy_121 rfl (lv_at hl 0 rfl) ?_
                refine lv_iload hx hb dX7_copy_122 (lv_at hl 5 rfl) ?_
                refine lv_i2l (v := p5.toInt64) hx hb dX7_copy_124 rfl ?_
                obtain ⟨r30, sc31, h32, hf⟩ := q_b2o hf
                refine q_rwVl (As := [.long p5.toInt64]) (rest := []) (ci := 7) (wr := ((wcR cI (g0 0) a1 sc28))) (w2 := ((wcX o0 g0 sc31) ++ (wcR cI (g0 0) a1 sc28))) ⟨hx, hb, hml, hown, hts⟩ (kX7_withoutFinding l dC dI cI cB cZ o0 g0 s0 p5.toInt64 H.size r30 sc31 h32) (cwV 1 hts gX7_copy_X7_withoutFinding rfl rfl rfl hdX7_withoutFinding ⟨Nat.le_of_ble_eq_true rfl, Nat.le_of_ble_eq_true rfl⟩) hK hP hD hS hA [0] [1, 2, 3, 4] [4, 0, 1, 2, 3] rfl rfl (by decide) (by decide) (by decide) rfl (by decide) rfl rfl rfl hl.1 rfl (Nat.le_of_ble_eq_true rfl) dX7_copy_125 ⟨Nat.zero_le _, Nat.zero_le _⟩ (fun H locs hP hD hS => ?_)
                obtain ⟨ee0, ee1, ee2⟩ := q_s3 hf
                subst ee1
                subst ee2
                exact q_wretL hx hb hr hlk hAe hK hP hD hS ee0 dX7_copy_128
              · have hf := q_t c27 hf
                refine lv_aload_n hx hb dX7_copy_101 rfl (lv_at hl 0 rfl) ?_
                refine lv_iconst (v := 2) hx hb dX7_copy_102 (by decide) ?_
                obtain ⟨r33, sc34, h35, hf⟩ := q_b2o hf
                refine q_rwVl (As := [.int (2 : Int32)]) (rest := []) (ci := 7) (wr := ((wcR cI (g0 0) a1 s1))) (w2 := ((wcX o0 g0 sc34) ++ (wcR cI (g0 0) a1 s1))) ⟨hx, hb, hml, hown, hts⟩ (kX7_finding l dC dI cI cB cZ o0 g0 s0 (2 : Int32) H.size r33 sc34 h35) (cwV 1 hts gX7_copy_X7_finding rfl rfl rfl hdX7_finding ⟨Nat.le_of_ble_eq_true rfl, Nat.le_of_ble_eq_true rfl⟩) hK hP hD hS hA [0] [1, 2, 3, 4] [4, 0, 1, 2, 3] rfl rfl (by decide) (by decide) (by decide) rfl (by decide) rfl rfl rfl hl.1 rfl (Nat.le_of_ble_eq_true rfl) dX7_copy_103 ⟨Nat.zero_le _, Nat.zero_le _⟩ (fun H locs hP hD hS => ?_)
                obtain ⟨ee0, ee1, ee2⟩ := q_s3 hf
                subst ee1
                subst ee2
                exact q_wretL hx hb hr hlk hAe hK hP hD hS ee0 dX7_copy_106
          · have hf := q_t c18 hf
            refine lv_aload_n hx hb dX7_copy_66 rfl (lv_at hl 0 rfl) ?_
            refine lv_iconst (v := 5) hx hb dX7_copy_67 (by decide) ?_
            obtain ⟨r36, sc37, h38, hf⟩ := q_b2o hf
            refine q_rwVl (As := [.int (5 : Int32)]) (rest := []) (ci := 7) (wr := ((wcR cI (g0 0) a1 s1))) (w2 := ((wcX o0 g0 sc37) ++ (wcR cI (g0 0) a1 s1))) ⟨hx, hb, hml, hown, hts⟩ (kX7_finding l dC dI cI cB cZ o0 g0 s0 (5 : Int32) H.size r36 sc37 h38) (cwV 1 hts gX7_copy_X7_finding rfl rfl rfl hdX7_finding ⟨Nat.le_of_ble_eq_true rfl, Nat.le_of_ble_eq_true rfl⟩) hK hP hD hS hA [0] [1, 2, 3, 4] [4, 0, 1, 2, 3] rfl rfl (by decide) (by decide) (by decide) rfl (by decide) rfl rfl rfl hl.1 rfl (Nat.le_of_ble_eq_true rfl) dX7_copy_68 ⟨Nat.zero_le _, Nat.zero_le _⟩ (fun H locs hP hD hS => ?_)
            obtain ⟨ee0, ee1, ee2⟩ := q_s3 hf
            subst ee1
            subst ee2
            exact q_wretL hx hb hr hlk hAe hK hP hD hS ee0 dX7_copy_71
        · have hf := q_f c15 hf
          refine lv_aload_n hx hb dX7_copy_48 rfl (lv_at hl 0 rfl) ?_
          refine lv_iconst (v := 1) hx hb dX7_copy_49 (by decide) ?_
          obtain ⟨r39, sc40, h41, hf⟩ := q_b2o hf
          refine q_rwVl (As := [.int (1 : Int32)]) (rest := []) (ci := 7) (wr := ((wcR cI (g0 0) a1 s1))) (w2 := ((wcX o0 g0 sc40) ++ (wcR cI (g0 0) a1 s1))) ⟨hx, hb, hml, hown, hts⟩ (kX7_finding l dC dI cI cB cZ o0 g0 s0 (1 : Int32) H.size r39 sc40 h41) (cwV 1 hts gX7_copy_X7_finding rfl rfl rfl hdX7_finding ⟨Nat.le_of_ble_eq_true rfl, Nat.le_of_ble_eq_true rfl⟩) hK hP hD hS hA [0] [1, 2, 3, 4] [4, 0, 1, 2, 3] rfl rfl (by decide) (by decide) (by decide) rfl (by decide) rfl rfl rfl hl.1 rfl (Nat.le_of_ble_eq_true rfl) dX7_copy_50 ⟨Nat.zero_le _, Nat.zero_le _⟩ (fun H locs hP hD hS => ?_)
          obtain ⟨ee0, ee1, ee2⟩ := q_s3 hf
          subst ee1
          subst ee2
          exact q_wretL hx hb hr hlk hAe hK hP hD hS ee0 dX7_copy_53
    · have hf := q_t c6 hf
      refine lv_ldc2 (v := -9000000000000000001) hx hb hown (hts _ qX7_copy_2) dX7_copy_22 ?_
      obtain ⟨ee0, ee1, ee2⟩ := q_s3 hf
      subst ee1
      subst ee2
      exact q_wretL hx hb hr hlk hAe hK hP hD hS ee0 dX7_copy_25
theorem hdX7_drop : yX7_drop.cls = RX7 ∧ yX7_drop.cls ≠ "java/lang/invoke/MethodHandle" ∧ yX7_drop.cls ≠ "java/lang/invoke/VarHandle" ∧ (parseMethodDescriptor yX7_drop.desc).map (fun d => d.parameters.length) = some 1 := by decide +kernel
theorem qX7_drop_1 : (Cond.fieldLink RX7 12 "DeadAsked" "rows" "LDeadAsked$Rows;") ∈ wsX7_drop := List.mem_of_getElem? (i := 1) (by decide +kernel)
theorem qX7_drop_2 : (Cond.constantLong RX7 76 (-9000000000000000001)) ∈ wsX7_drop := List.mem_of_getElem? (i := 2) (by decide +kernel)
theorem nX7_drop_7 : ∀ w ∈ u_ws RX7 TX7 14, w ∈ wsX7_drop := fun _ h => (List.mem_cons_of_mem _ (List.mem_append_left _ (List.mem_append_right _ h)))
set_option maxHeartbeats 4000000 in
set_option maxRecDepth 100000 in
theorem kX7_drop (o0 : Nat) (g0 : Nat → Nat) (a1 : Nat → Nat) (s0 : St) (s1 : St) (p1 : Int32) (sz : Nat) (r : Int64) (z0 : St) (z1 : St) (hf : fX7_drop s0 s1 p1 = some (r, z0, z1)) : Met l yX7_drop wsX7_drop ({ frames := 3, cells := 0, slots := 0, locals := 63 } : Room) (pcW (dC, dI) (q_ty cI cB cZ) [.ref o0, .int p1] ((wcX o0 g0 s0) ++ (wcR cI (g0 0) a1 s1)) sz) (qlW (dC, dI) (q_ty cI cB cZ) ((wcX o0 g0 s0) ++ (wcR cI (g0 0) a1 s1)) ((wcX o0 g0 z0) ++ (wcR cI (g0 0) a1 z1)) sz r) 0 0 (va_A ((wcX o0 g0 s0) ++ (wcR cI (g0 0) a1 s1)) sz) := by
  refine q_rwM (cc := cX7_drop) (maxL := 2) (ret := (some .long)) (by decide +kernel) rfl (Nat.le_of_ble_eq_true rfl) ?_
  intro p e s m below meth c hx hb hr hlk hml hown hts hK A H hAe hH hsz hP hD hA hS ls hl
  have hown : s.vm.findClass RX7 = some m.cls := hown
  have hl : lv_has ls 2 [(0, .ref o0), (1, .int p1)] := hl
  unfold fX7_drop at hf
  refine lv_aload_n hx hb dX7_drop_0 rfl (lv_at hl 0 rfl) ?_
  refine va_get (D := (dC, dI)) (ci := 7) (v := .ref (g0 0)) (C := RX7) (T := TX7) (N := 14) hx hb hts nX7_drop_7 hown hK hP 0 rfl rfl 0 (by decide) (hts _ qX7_drop_1) (fun _ h9 => h9) rfl dX7_drop_1 ?_
  refine lv_iload_n hx hb dX7_drop_4 rfl (lv_at hl 1 rfl) ?_
  obtain ⟨r1, h2, hf⟩ := q_b1o hf
  refine q_roVi (As := [.int p1]) (rest := []) (ci := 5) ⟨hx, hb, hml, hown, hts⟩ (kX5_isRow l dC dI cI cB cZ (g0 0) a1 s1 p1 r1 h2) (cwV 1 hts gX7_drop_X5_isRow rfl rfl rfl hdX5_isRow ⟨Nat.le_of_ble_eq_true rfl, Nat.le_of_ble_eq_true rfl⟩) hK (hP.sub [1, 2, 3, 4] rfl) rfl rfl rfl hl.1 rfl (Nat.le_of_ble_eq_true rfl) dX7_drop_5 ⟨Nat.zero_le _, Nat.zero_le _⟩ ?_
  refine lv_if_ne (tgt := 15) hx hb dX7_drop_8 (by decide) (fun c3 => ?_) (fun c3 => ?_)
  · have hf := q_f c3 hf
    refine lv_aload_n hx hb dX7_drop_15 rfl (lv_at hl 0 rfl) ?_
    refine va_get (D := (dC, dI)) (ci := 7) (v := .ref (g0 0)) (C := RX7) (T := TX7) (N := 14) hx hb hts nX7_drop_7 hown hK hP 0 rfl rfl 0 (by decide) (hts _ qX7_drop_1) (fun _ h9 => h9) rfl dX7_drop_16 ?_
    refine lv_iload_n hx hb dX7_drop_19 rfl (lv_at hl 1 rfl) ?_
    obtain ⟨r4, h5, hf⟩ := q_b1o hf
    refine q_roVi (As := [.int p1]) (rest := []) (ci := 5) ⟨hx, hb, hml, hown, hts⟩ (kX5_isMissing l dC dI cI cB cZ (g0 0) a1 s1 p1 r4 h5) (cwV 1 hts gX7_drop_X5_isMissing rfl rfl rfl hdX5_isMissing ⟨Nat.le_of_ble_eq_true rfl, Nat.le_of_ble_eq_true rfl⟩) hK (hP.sub [1, 2, 3, 4] rfl) rfl rfl rfl hl.1 rfl (Nat.le_of_ble_eq_true rfl) dX7_drop_20 ⟨Nat.zero_le _, Nat.zero_le _⟩ ?_
    refine lv_if_eq (tgt := 32) hx hb dX7_drop_23 (by decide) (fun c6 => ?_) (fun c6 => ?_)
    · have hf := q_t c6 hf
      refine lv_aload_n hx hb dX7_drop_32 rfl (lv_at hl 0 rfl) ?_
      refine lv_aload_n hx hb dX7_drop_33 rfl (lv_at hl 0 rfl) ?_
      refine va_get (D := (dC, dI)) (ci := 7) (v := .ref (g0 0)) (C := RX7) (T := TX7) (N := 14) hx hb hts nX7_drop_7 hown hK hP 0 rfl rfl 0 (by decide) (hts _ qX7_drop_1) (fun _ h9 => h9) rfl dX7_drop_34 ?_
      refine lv_iload_n hx hb dX7_drop_37 rfl (lv_at hl 1 rfl) ?_
      obtain ⟨r7, sc8, h9, hf⟩ := q_b2o hf
      refine q_rwVi (As := [.int p1]) (rest := [.ref o0]) (ci := 5) (wr := ((wcX o0 g0 s0))) (w2 := ((wcX o0 g0 s0) ++ (wcR cI (g0 0) a1 sc8))) ⟨hx, hb, hml, hown, hts⟩ (kX5_lose l dC dI cI cB cZ (g0 0) a1 s1 p1 H.size r7 sc8 h9) (cwV 1 hts gX7_drop_X5_lose rfl rfl rfl hdX5_lose ⟨Nat.le_of_ble_eq_true rfl, Nat.le_of_ble_eq_true rfl⟩) hK hP hD hS hA [1, 2, 3, 4] [0] [0, 1, 2, 3, 4] rfl rfl (by decide) (by decide) (by decide) rfl (by decide) rfl rfl rfl hl.1 rfl (Nat.le_of_ble_eq_true rfl) dX7_drop_38 ⟨Nat.zero_le _, Nat.zero_le _⟩ (fun H locs hP hD hS => ?_)
      refine lv_i2l (v := r7.toInt64) hx hb dX7_drop_41 rfl ?_
      obtain ⟨r10, sc11, h12, hf⟩ := q_b2o hf
      refine q_rwVl (As := [.long r7.toInt64]) (rest := []) (ci := 7) (wr := ((wcR cI (g0 0) a1 sc8))) (w2 := ((wcX o0 g0 sc11) ++ (wcR cI (g0 0) a1 sc8))) ⟨hx, hb, hml, hown, hts⟩ (kX7_withoutFinding l dC dI cI cB cZ o0 g0 s0 r7.toInt64 H.size r10 sc11 h12) (cwV 1 hts gX7_drop_X7_withoutFinding rfl rfl rfl hdX7_withoutFinding ⟨Nat.le_of_ble_eq_true rfl, Nat.le_of_ble_eq_true rfl⟩) hK hP hD hS hA [0] [1, 2, 3, 4] [4, 0, 1, 2, 3] rfl rfl (by decide) (by decide) (by decide) rfl (by decide) rfl rfl rfl hl.1 rfl (Nat.le_of_ble_eq_true rfl) dX7_drop_42 ⟨Nat.zero_le _, Nat.zero_le _⟩ (fun H locs hP hD hS => ?_)
      obtain ⟨ee0, ee1, ee2⟩ := q_s3 hf
      subst ee1
      subst ee2
      exact q_wretL hx hb hr hlk hAe hK hP hD hS ee0 dX7_drop_45
    · have hf := q_f c6 hf
      refine lv_aload_n hx hb dX7_drop_26 rfl (lv_at hl 0 rfl) ?_
      refine lv_iconst (v := 1) hx hb dX7_drop_27 (by decide) ?_
      obtain ⟨r13, sc14, h15, hf⟩ := q_b2o hf
      refine q_rwVl (As := [.int (1 : Int32)]) (rest := []) (ci := 7) (wr := ((wcR cI (g0 0) a1 s1))) (w2 := ((wcX o0 g0 sc14) ++ (wcR cI (g0 0) a1 s1))) ⟨hx, hb, hml, hown, hts⟩ (kX7_finding l dC dI cI cB cZ o0 g0 s0 (1 : Int32) H.size r13 sc14 h15) (cwV 1 hts gX7_drop_X7_finding rfl rfl rfl hdX7_finding ⟨Nat.le_of_ble_eq_true rfl, Nat.le_of_ble_eq_true rfl⟩) hK hP hD hS hA [0] [1, 2, 3, 4] [4, 0, 1, 2, 3] rfl rfl (by decide) (by decide) (by decide) rfl (by decide) rfl rfl rfl hl.1 rfl (Nat.le_of_ble_eq_true rfl) dX7_drop_28 ⟨Nat.zero_le _, Nat.zero_le _⟩ (fun H locs hP hD hS => ?_)
      obtain ⟨ee0, ee1, ee2⟩ := q_s3 hf
      subst ee1
      subst ee2
      exact q_wretL hx hb hr hlk hAe hK hP hD hS ee0 dX7_drop_31
  · have hf := q_t c3 hf
    refine lv_ldc2 (v := -9000000000000000001) hx hb hown (hts _ qX7_drop_2) dX7_drop_11 ?_
    obtain ⟨ee0, ee1, ee2⟩ := q_s3 hf
    subst ee1
    subst ee2
    exact q_wretL hx hb hr hlk hAe hK hP hD hS ee0 dX7_drop_14
theorem hdX7_feed : yX7_feed.cls = RX7 ∧ yX7_feed.cls ≠ "java/lang/invoke/MethodHandle" ∧ yX7_feed.cls ≠ "java/lang/invoke/VarHandle" ∧ (parseMethodDescriptor yX7_feed.desc).map (fun d => d.parameters.length) = some 2 := by decide +kernel
theorem qX7_feed_1 : (Cond.constantLong RX7 76 (-9000000000000000001)) ∈ wsX7_feed := List.mem_of_getElem? (i := 1) (by decide +kernel)
theorem qX7_feed_2 : (Cond.fieldLink RX7 19 "DeadAsked" "tape" "LDeadAsked$Tape;") ∈ wsX7_feed := List.mem_of_getElem? (i := 2) (by decide +kernel)
theorem qX7_feed_3 : (Cond.constantLong RX7 116 (-9000000000000000003)) ∈ wsX7_feed := List.mem_of_getElem? (i := 3) (by decide +kernel)
theorem nX7_feed_7 : ∀ w ∈ u_ws RX7 TX7 14, w ∈ wsX7_feed := fun _ h => (List.mem_cons_of_mem _ (List.mem_append_left _ (List.mem_append_right _ h)))
set_option maxHeartbeats 4000000 in
set_option maxRecDepth 100000 in
theorem kX7_feed (o0 : Nat) (g0 : Nat → Nat) (a1 : Nat → Nat) (s0 : St) (s1 : St) (p1 : Int64) (p3 : Int32) (sz : Nat) (r : Int64) (z1 : St) (hf : fX7_feed s1 p1 p3 = some (r, z1)) : Met l yX7_feed wsX7_feed ({ frames := 1, cells := 0, slots := 0, locals := 24 } : Room) (pcW (dC, dI) (q_ty cI cB cZ) [.ref o0, .long p1, .int p3] ((wcX o0 g0 s0) ++ (wcT cB (g0 1) a1 s1)) sz) (qlW (dC, dI) (q_ty cI cB cZ) ((wcX o0 g0 s0) ++ (wcT cB (g0 1) a1 s1)) ((wcX o0 g0 s0) ++ (wcT cB (g0 1) a1 z1)) sz r) 0 0 (va_A ((wcX o0 g0 s0) ++ (wcT cB (g0 1) a1 s1)) sz) := by
  refine q_rwM (cc := cX7_feed) (maxL := 4) (ret := (some .long)) (by decide +kernel) rfl (Nat.le_of_ble_eq_true rfl) ?_
  intro p e s m below meth c hx hb hr hlk hml hown hts hK A H hAe hH hsz hP hD hA hS ls hl
  have hown : s.vm.findClass RX7 = some m.cls := hown
  have hl : lv_has ls 4 [(0, .ref o0), (1, .long p1), (3, .int p3)] := hl
  unfold fX7_feed at hf
  refine lv_iload_n hx hb dX7_feed_0 rfl (lv_at hl 2 rfl) ?_
  refine lv_iconst (v := 1) hx hb dX7_feed_1 (by decide) ?_
  refine lv_icmp_lt (tgt := 11) hx hb dX7_feed_2 (by decide) (fun c1 => ?_) (fun c1 => ?_)
  · have hf := q_t c1 hf
    refine lv_ldc2 (v := -9000000000000000001) hx hb hown (hts _ qX7_feed_1) dX7_feed_11 ?_
    obtain ⟨ee0, ee1⟩ := q_s2 hf
    subst ee1
    exact q_wretL hx hb hr hlk hAe hK hP hD hS ee0 dX7_feed_14
  · have hf := q_f c1 hf
    refine lv_iload_n hx hb dX7_feed_5 rfl (lv_at hl 2 rfl) ?_
    refine lv_bipush (v := 8) hx hb dX7_feed_6 (by decide) ?_
    refine lv_icmp_le (tgt := 15) hx hb dX7_feed_8 (by decide) (fun c2 => ?_) (fun c2 => ?_)
    · have hf := q_t c2 hf
      refine lv_aload_n hx hb dX7_feed_15 rfl (lv_at hl 0 rfl) ?_
      refine va_get (D := (dC, dI)) (ci := 7) (v := .ref (g0 1)) (C := RX7) (T := TX7) (N := 14) hx hb hts nX7_feed_7 hown hK hP 0 rfl rfl 1 (by decide) (hts _ qX7_feed_2) (fun _ h9 => h9) rfl dX7_feed_16 ?_
      refine lv_iload_n hx hb dX7_feed_19 rfl (lv_at hl 2 rfl) ?_
      obtain ⟨r3, h4, hf⟩ := q_b1o hf
      refine q_roVi (As := [.int p3]) (rest := []) (ci := 6) ⟨hx, hb, hml, hown, hts⟩ (kX6_hasRoomFor l dC dI cI cB cZ (g0 1) a1 s1 p3 r3 h4) (cwV 1 hts gX7_feed_X6_hasRoomFor rfl rfl rfl hdX6_hasRoomFor ⟨Nat.le_of_ble_eq_true rfl, Nat.le_of_ble_eq_true rfl⟩) hK (hP.sub [1, 2] rfl) rfl rfl rfl hl.1 rfl (Nat.le_of_ble_eq_true rfl) dX7_feed_20 ⟨Nat.zero_le _, Nat.zero_le _⟩ ?_
      refine lv_if_ne (tgt := 30) hx hb dX7_feed_23 (by decide) (fun c5 => ?_) (fun c5 => ?_)
      · have hf := q_f c5 hf
        refine lv_aload_n hx hb dX7_feed_30 rfl (lv_at hl 0 rfl) ?_
        refine va_get (D := (dC, dI)) (ci := 7) (v := .ref (g0 1)) (C := RX7) (T := TX7) (N := 14) hx hb hts nX7_feed_7 hown hK hP 0 rfl rfl 1 (by decide) (hts _ qX7_feed_2) (fun _ h9 => h9) rfl dX7_feed_31 ?_
        refine lv_lload_n hx hb dX7_feed_34 rfl (lv_at hl 1 rfl) ?_
        refine lv_iload_n hx hb dX7_feed_35 rfl (lv_at hl 2 rfl) ?_
        obtain ⟨sc6, h7, hf⟩ := q_b1o hf
        refine q_rwVv (As := [.long p1, .int p3]) (rest := []) (ci := 6) (wr := ((wcX o0 g0 s0))) (w2 := ((wcX o0 g0 s0) ++ (wcT cB (g0 1) a1 sc6))) ⟨hx, hb, hml, hown, hts⟩ (kX6_append l dC dI cI cB cZ (g0 1) a1 s1 p1 p3 H.size sc6 h7) (cwV 2 hts gX7_feed_X6_append rfl rfl rfl hdX6_append ⟨Nat.le_of_ble_eq_true rfl, Nat.le_of_ble_eq_true rfl⟩) hK hP hD hS hA [1, 2] [0] [0, 1, 2] rfl rfl (by decide) (by decide) (by decide) rfl (by decide) rfl rfl rfl hl.1 rfl (Nat.le_of_ble_eq_true rfl) dX7_feed_36 ⟨Nat.zero_le _, Nat.zero_le _⟩ (fun H locs hP hD hS => ?_)
        refine lv_aload_n hx hb dX7_feed_39 rfl (lv_at hl 0 rfl) ?_
        refine va_get (D := (dC, dI)) (ci := 7) (v := .ref (g0 1)) (C := RX7) (T := TX7) (N := 14) hx hb hts nX7_feed_7 hown hK hP 0 rfl rfl 1 (by decide) (hts _ qX7_feed_2) (fun _ h9 => h9) rfl dX7_feed_40 ?_
        obtain ⟨r8, h9, hf⟩ := q_b1o hf
        refine q_roVi (As := []) (rest := []) (ci := 6) ⟨hx, hb, hml, hown, hts⟩ (kX6_length l dC dI cI cB cZ (g0 1) a1 sc6 r8 h9) (cwV 0 hts gX7_feed_X6_length rfl rfl rfl hdX6_length ⟨Nat.le_of_ble_eq_true rfl, Nat.le_of_ble_eq_true rfl⟩) hK (hP.sub [1, 2] rfl) rfl rfl rfl hl.1 rfl (Nat.le_of_ble_eq_true rfl) dX7_feed_43 ⟨Nat.zero_le _, Nat.zero_le _⟩ ?_
        refine lv_i2l (v := r8.toInt64) hx hb dX7_feed_46 rfl ?_
        obtain ⟨ee0, ee1⟩ := q_s2 hf
        subst ee1
        exact q_wretL hx hb hr hlk hAe hK hP hD hS ee0 dX7_feed_47
      · have hf := q_t c5 hf
        refine lv_ldc2 (v := -9000000000000000003) hx hb hown (hts _ qX7_feed_3) dX7_feed_26 ?_
        obtain ⟨ee0, ee1⟩ := q_s2 hf
        subst ee1
        exact q_wretL hx hb hr hlk hAe hK hP hD hS ee0 dX7_feed_29
    · have hf := q_f c2 hf
      refine lv_ldc2 (v := -9000000000000000001) hx hb hown (hts _ qX7_feed_1) dX7_feed_11 ?_
      obtain ⟨ee0, ee1⟩ := q_s2 hf
      subst ee1
      exact q_wretL hx hb hr hlk hAe hK hP hD hS ee0 dX7_feed_14
theorem hdX7_fault : yX7_fault.cls = RX7 ∧ yX7_fault.cls ≠ "java/lang/invoke/MethodHandle" ∧ yX7_fault.cls ≠ "java/lang/invoke/VarHandle" ∧ (parseMethodDescriptor yX7_fault.desc).map (fun d => d.parameters.length) = some 0 := by decide +kernel
theorem qX7_fault_1 : (Cond.fieldLink RX7 136 "DeadAsked" "latestFault" "I") ∈ wsX7_fault := List.mem_of_getElem? (i := 1) (by decide +kernel)
theorem nX7_fault_7 : ∀ w ∈ u_ws RX7 TX7 14, w ∈ wsX7_fault := fun _ h => (List.mem_cons_of_mem _ (List.mem_append_right _ h))
set_option maxHeartbeats 4000000 in
set_option maxRecDepth 100000 in
theorem kX7_fault (o0 : Nat) (g0 : Nat → Nat) (s0 : St) (r : Int32) (hf : fX7_fault s0 = some r) : Met l yX7_fault wsX7_fault ({ frames := 0, cells := 0, slots := 0, locals := 0 } : Room) (pcR (dC, dI) (q_ty cI cB cZ) [.ref o0] (wcX o0 g0 s0)) (qiR r) 0 0 (fun _ => False) := by
  refine q_roM (cc := cX7_fault) (maxL := 1) (ret := (some .int)) (by decide +kernel) rfl (Nat.le_of_ble_eq_true rfl) ?_
  intro p e s m below meth c hx hb hr hlk hml hown hts hK hP ls hl
  have hown : s.vm.findClass RX7 = some m.cls := hown
  have hl : lv_has ls 1 [(0, .ref o0)] := hl
  unfold fX7_fault at hf
  refine lv_aload_n hx hb dX7_fault_0 rfl (lv_at hl 0 rfl) ?_
  refine va_get (D := (dC, dI)) (ci := 7) (v := .int (s0 12 0)) (C := RX7) (T := TX7) (N := 14) hx hb hts nX7_fault_7 hown hK hP 0 rfl rfl 12 (by decide) (hts _ qX7_fault_1) (fun _ h9 => h9) rfl dX7_fault_1 ?_
  have ee0 := q_s1 hf
  exact q_retI hx hb hr hlk ee0 dX7_fault_4
theorem hdX7_isMatter : yX7_isMatter.cls ≠ "java/lang/invoke/MethodHandle" ∧ yX7_isMatter.cls ≠ "java/lang/invoke/VarHandle" ∧ (parseMethodDescriptor yX7_isMatter.desc).map (fun d => d.parameters.length) = some 1 := by decide +kernel
set_option maxHeartbeats 4000000 in
set_option maxRecDepth 100000 in
theorem kX7_isMatter (p0 : Int32) (r : Int32) (hf : fX7_isMatter p0 = some r) : Met l yX7_isMatter wsX7_isMatter ({ frames := 0, cells := 0, slots := 0, locals := 0 } : Room) (pcS [.int p0]) (qiR r) 0 0 (fun _ => False) := by
  refine q_roS (cc := cX7_isMatter) (maxL := 1) (ret := (some .boolean)) (by decide +kernel) rfl (Nat.le_of_ble_eq_true rfl) ?_
  intro p e s m below meth c hx hb hr hlk hml hown hts ls hl
  have hown : s.vm.findClass RX7 = some m.cls := hown
  have hl : lv_has ls 1 [(0, .int p0)] := hl
  unfold fX7_isMatter at hf
  refine lv_iload_n hx hb dX7_isMatter_0 rfl (lv_at hl 0 rfl) ?_
  refine lv_iconst (v := 1) hx hb dX7_isMatter_1 (by decide) ?_
  refine lv_icmp_lt (tgt := 15) hx hb dX7_isMatter_2 (by decide) (fun c1 => ?_) (fun c1 => ?_)
  · have hf := q_t c1 hf
    refine lv_iconst (v := 0) hx hb dX7_isMatter_15 (by decide) ?_
    have ee0 := q_s1 hf
    exact q_retZ hx hb hr hlk rfl ee0 dX7_isMatter_16
  · have hf := q_f c1 hf
    refine lv_iload_n hx hb dX7_isMatter_5 rfl (lv_at hl 0 rfl) ?_
    refine lv_bipush (v := 15) hx hb dX7_isMatter_6 (by decide) ?_
    refine lv_icmp_gt (tgt := 15) hx hb dX7_isMatter_8 (by decide) (fun c2 => ?_) (fun c2 => ?_)
    · have hf := q_t c2 hf
      refine lv_iconst (v := 0) hx hb dX7_isMatter_15 (by decide) ?_
      have ee0 := q_s1 hf
      exact q_retZ hx hb hr hlk rfl ee0 dX7_isMatter_16
    · have hf := q_f c2 hf
      refine lv_iconst (v := 1) hx hb dX7_isMatter_11 (by decide) ?_
      refine lv_goto (tgt := 16) hx hb dX7_isMatter_12 (by decide) ?_
      have ee0 := q_s1 hf
      exact q_retZ hx hb hr hlk rfl ee0 dX7_isMatter_16
theorem hdX7_isHorns : yX7_isHorns.cls ≠ "java/lang/invoke/MethodHandle" ∧ yX7_isHorns.cls ≠ "java/lang/invoke/VarHandle" ∧ (parseMethodDescriptor yX7_isHorns.desc).map (fun d => d.parameters.length) = some 1 := by decide +kernel
set_option maxHeartbeats 4000000 in
set_option maxRecDepth 100000 in
theorem kX7_isHorns (p0 : Int32) (r : Int32) (hf : fX7_isHorns p0 = some r) : Met l yX7_isHorns wsX7_isHorns ({ frames := 0, cells := 0, slots := 0, locals := 0 } : Room) (pcS [.int p0]) (qiR r) 0 0 (fun _ => False) := by
  refine q_roS (cc := cX7_isHorns) (maxL := 1) (ret := (some .boolean)) (by decide +kernel) rfl (Nat.le_of_ble_eq_true rfl) ?_
  intro p e s m below meth c hx hb hr hlk hml hown hts ls hl
  have hown : s.vm.findClass RX7 = some m.cls := hown
  have hl : lv_has ls 1 [(0, .int p0)] := hl
  unfold fX7_isHorns at hf
  refine lv_iload_n hx hb dX7_isHorns_0 rfl (lv_at hl 0 rfl) ?_
  refine lv_if_lt (tgt := 14) hx hb dX7_isHorns_1 (by decide) (fun c1 => ?_) (fun c1 => ?_)
  · have hf := q_t c1 hf
    refine lv_iconst (v := 0) hx hb dX7_isHorns_14 (by decide) ?_
    have ee0 := q_s1 hf
    exact q_retZ hx hb hr hlk rfl ee0 dX7_isHorns_15
  · have hf := q_f c1 hf
    refine lv_iload_n hx hb dX7_isHorns_4 rfl (lv_at hl 0 rfl) ?_
    refine lv_bipush (v := 15) hx hb dX7_isHorns_5 (by decide) ?_
    refine lv_icmp_gt (tgt := 14) hx hb dX7_isHorns_7 (by decide) (fun c2 => ?_) (fun c2 => ?_)
    · have hf := q_t c2 hf
      refine lv_iconst (v := 0) hx hb dX7_isHorns_14 (by decide) ?_
      have ee0 := q_s1 hf
      exact q_retZ hx hb hr hlk rfl ee0 dX7_isHorns_15
    · have hf := q_f c2 hf
      refine lv_iconst (v := 1) hx hb dX7_isHorns_10 (by decide) ?_
      refine lv_goto (tgt := 15) hx hb dX7_isHorns_11 (by decide) ?_
      have ee0 := q_s1 hf
      exact q_retZ hx hb hr hlk rfl ee0 dX7_isHorns_15
theorem hdX7_isHour : yX7_isHour.cls ≠ "java/lang/invoke/MethodHandle" ∧ yX7_isHour.cls ≠ "java/lang/invoke/VarHandle" ∧ (parseMethodDescriptor yX7_isHour.desc).map (fun d => d.parameters.length) = some 1 := by decide +kernel
set_option maxHeartbeats 4000000 in
set_option maxRecDepth 100000 in
theorem kX7_isHour (p0 : Int32) (r : Int32) (hf : fX7_isHour p0 = some r) : Met l yX7_isHour wsX7_isHour ({ frames := 0, cells := 0, slots := 0, locals := 0 } : Room) (pcS [.int p0]) (qiR r) 0 0 (fun _ => False) := by
  refine q_roS (cc := cX7_isHour) (maxL := 1) (ret := (some .boolean)) (by decide +kernel) rfl (Nat.le_of_ble_eq_true rfl) ?_
  intro p e s m below meth c hx hb hr hlk hml hown hts ls hl
  have hown : s.vm.findClass RX7 = some m.cls := hown
  have hl : lv_has ls 1 [(0, .int p0)] := hl
  unfold fX7_isHour at hf
  refine lv_iload_n hx hb dX7_isHour_0 rfl (lv_at hl 0 rfl) ?_
  refine lv_if_lt (tgt := 14) hx hb dX7_isHour_1 (by decide) (fun c1 => ?_) (fun c1 => ?_)
  · have hf := q_t c1 hf
    refine lv_iconst (v := 0) hx hb dX7_isHour_14 (by decide) ?_
    have ee0 := q_s1 hf
    exact q_retZ hx hb hr hlk rfl ee0 dX7_isHour_15
  · have hf := q_f c1 hf
    refine lv_iload_n hx hb dX7_isHour_4 rfl (lv_at hl 0 rfl) ?_
    refine lv_bipush (v := 12) hx hb dX7_isHour_5 (by decide) ?_
    refine lv_icmp_ge (tgt := 14) hx hb dX7_isHour_7 (by decide) (fun c2 => ?_) (fun c2 => ?_)
    · have hf := q_t c2 hf
      refine lv_iconst (v := 0) hx hb dX7_isHour_14 (by decide) ?_
      have ee0 := q_s1 hf
      exact q_retZ hx hb hr hlk rfl ee0 dX7_isHour_15
    · have hf := q_f c2 hf
      refine lv_iconst (v := 1) hx hb dX7_isHour_10 (by decide) ?_
      refine lv_goto (tgt := 15) hx hb dX7_isHour_11 (by decide) ?_
      have ee0 := q_s1 hf
      exact q_retZ hx hb hr hlk rfl ee0 dX7_isHour_15
theorem hdX7_isAsked : yX7_isAsked.cls ≠ "java/lang/invoke/MethodHandle" ∧ yX7_isAsked.cls ≠ "java/lang/invoke/VarHandle" ∧ (parseMethodDescriptor yX7_isAsked.desc).map (fun d => d.parameters.length) = some 3 := by decide +kernel
set_option maxHeartbeats 4000000 in
set_option maxRecDepth 100000 in
theorem kX7_isAsked (p0 : Int32) (p1 : Int32) (p2 : Int32) (r : Int32) (hf : fX7_isAsked p0 p1 p2 = some r) : Met l yX7_isAsked wsX7_isAsked ({ frames := 1, cells := 0, slots := 0, locals := 20 } : Room) (pcS [.int p0, .int p1, .int p2]) (qiR r) 0 0 (fun _ => False) := by
  refine q_roS (cc := cX7_isAsked) (maxL := 3) (ret := (some .boolean)) (by decide +kernel) rfl (Nat.le_of_ble_eq_true rfl) ?_
  intro p e s m below meth c hx hb hr hlk hml hown hts ls hl
  have hown : s.vm.findClass RX7 = some m.cls := hown
  have hl : lv_has ls 3 [(0, .int p0), (1, .int p1), (2, .int p2)] := hl
  unfold fX7_isAsked at hf
  refine lv_iload_n hx hb dX7_isAsked_0 rfl (lv_at hl 0 rfl) ?_
  obtain ⟨r1, h2, hf⟩ := q_b1o hf
  refine q_roSi (As := [.int p0]) (rest := []) ⟨hx, hb, hml, hown, hts⟩ (kX7_isMatter l p0 r1 h2) (va_cwS 1 hts gX7_isAsked_X7_isMatter rfl rfl rfl hdX7_isMatter ⟨Nat.le_of_ble_eq_true rfl, Nat.le_of_ble_eq_true rfl⟩) rfl hl.1 rfl (Nat.le_of_ble_eq_true rfl) dX7_isAsked_1 ⟨Nat.zero_le _, Nat.zero_le _⟩ ?_
  refine lv_if_eq (tgt := 25) hx hb dX7_isAsked_4 (by decide) (fun c3 => ?_) (fun c3 => ?_)
  · have hf := q_t c3 hf
    refine lv_iconst (v := 0) hx hb dX7_isAsked_25 (by decide) ?_
    have ee0 := q_s1 hf
    exact q_retZ hx hb hr hlk rfl ee0 dX7_isAsked_26
  · have hf := q_f c3 hf
    refine lv_iload_n hx hb dX7_isAsked_7 rfl (lv_at hl 1 rfl) ?_
    obtain ⟨r4, h5, hf⟩ := q_b1o hf
    refine q_roSi (As := [.int p1]) (rest := []) ⟨hx, hb, hml, hown, hts⟩ (kX7_isHorns l p1 r4 h5) (va_cwS 1 hts gX7_isAsked_X7_isHorns rfl rfl rfl hdX7_isHorns ⟨Nat.le_of_ble_eq_true rfl, Nat.le_of_ble_eq_true rfl⟩) rfl hl.1 rfl (Nat.le_of_ble_eq_true rfl) dX7_isAsked_8 ⟨Nat.zero_le _, Nat.zero_le _⟩ ?_
    refine lv_if_eq (tgt := 25) hx hb dX7_isAsked_11 (by decide) (fun c6 => ?_) (fun c6 => ?_)
    · have hf := q_t c6 hf
      refine lv_iconst (v := 0) hx hb dX7_isAsked_25 (by decide) ?_
      have ee0 := q_s1 hf
      exact q_retZ hx hb hr hlk rfl ee0 dX7_isAsked_26
    · have hf := q_f c6 hf
      refine lv_iload_n hx hb dX7_isAsked_14 rfl (lv_at hl 2 rfl) ?_
      obtain ⟨r7, h8, hf⟩ := q_b1o hf
      refine q_roSi (As := [.int p2]) (rest := []) ⟨hx, hb, hml, hown, hts⟩ (kX7_isHour l p2 r7 h8) (va_cwS 1 hts gX7_isAsked_X7_isHour rfl rfl rfl hdX7_isHour ⟨Nat.le_of_ble_eq_true rfl, Nat.le_of_ble_eq_true rfl⟩) rfl hl.1 rfl (Nat.le_of_ble_eq_true rfl) dX7_isAsked_15 ⟨Nat.zero_le _, Nat.zero_le _⟩ ?_
      refine lv_if_eq (tgt := 25) hx hb dX7_isAsked_18 (by decide) (fun c9 => ?_) (fun c9 => ?_)
      · have hf := q_t c9 hf
        refine lv_iconst (v := 0) hx hb dX7_isAsked_25 (by decide) ?_
        have ee0 := q_s1 hf
        exact q_retZ hx hb hr hlk rfl ee0 dX7_isAsked_26
      · have hf := q_f c9 hf
        refine lv_iconst (v := 1) hx hb dX7_isAsked_21 (by decide) ?_
        refine lv_goto (tgt := 26) hx hb dX7_isAsked_22 (by decide) ?_
        have ee0 := q_s1 hf
        exact q_retZ hx hb hr hlk rfl ee0 dX7_isAsked_26
theorem hdX7_ask : yX7_ask.cls = RX7 ∧ yX7_ask.cls ≠ "java/lang/invoke/MethodHandle" ∧ yX7_ask.cls ≠ "java/lang/invoke/VarHandle" ∧ (parseMethodDescriptor yX7_ask.desc).map (fun d => d.parameters.length) = some 4 := by decide +kernel
theorem qX7_ask_1 : (Cond.fieldLink RX7 145 "DeadAsked" "hasHill" "Z") ∈ wsX7_ask := List.mem_of_getElem? (i := 1) (by decide +kernel)
theorem qX7_ask_2 : (Cond.constantLong RX7 155 (-9000000000000000002)) ∈ wsX7_ask := List.mem_of_getElem? (i := 2) (by decide +kernel)
theorem qX7_ask_3 : (Cond.constant RX7 160 999999) ∈ wsX7_ask := List.mem_of_getElem? (i := 3) (by decide +kernel)
theorem qX7_ask_4 : (Cond.constantLong RX7 76 (-9000000000000000001)) ∈ wsX7_ask := List.mem_of_getElem? (i := 4) (by decide +kernel)
theorem qX7_ask_5 : (Cond.fieldLink RX7 63 "DeadAsked" "standing" "LDeadAsked$Hill;") ∈ wsX7_ask := List.mem_of_getElem? (i := 5) (by decide +kernel)
theorem qX7_ask_6 : (Cond.fieldLink RX7 35 "DeadAsked" "acts" "LDeadAsked$Acts;") ∈ wsX7_ask := List.mem_of_getElem? (i := 6) (by decide +kernel)
theorem nX7_ask_7 : ∀ w ∈ u_ws RX7 TX7 14, w ∈ wsX7_ask := fun _ h => (List.mem_cons_of_mem _ (List.mem_append_left _ (List.mem_append_left _ (List.mem_append_right _ h))))
set_option maxHeartbeats 4000000 in
set_option maxRecDepth 100000 in
theorem kX7_ask (o0 : Nat) (g0 : Nat → Nat) (a1 : Nat → Nat) (a2 : Nat → Nat) (s0 : St) (s1 : St) (s2 : St) (p1 : Int32) (p2 : Int32) (p3 : Int32) (p4 : Int32) (sz : Nat) (r : Int64) (z1 : St) (z2 : St) (hf : fX7_ask s0 s1 s2 p1 p2 p3 p4 = some (r, z1, z2)) : Met l yX7_ask wsX7_ask ({ frames := 4, cells := 0, slots := 0, locals := 97 } : Room) (pcW (dC, dI) (q_ty cI cB cZ) [.ref o0, .int p1, .int p2, .int p3, .int p4] ((wcX o0 g0 s0) ++ (wcH cI (g0 8) a1 s1) ++ (wcA cI (g0 3) a2 s2)) sz) (qlW (dC, dI) (q_ty cI cB cZ) ((wcX o0 g0 s0) ++ (wcH cI (g0 8) a1 s1) ++ (wcA cI (g0 3) a2 s2)) ((wcX o0 g0 s0) ++ (wcH cI (g0 8) a1 z1) ++ (wcA cI (g0 3) a2 z2)) sz r) 0 0 (va_A ((wcX o0 g0 s0) ++ (wcH cI (g0 8) a1 s1) ++ (wcA cI (g0 3) a2 s2)) sz) := by
  refine q_rwM (cc := cX7_ask) (maxL := 6) (ret := (some .long)) (by decide +kernel) rfl (Nat.le_of_ble_eq_true rfl) ?_
  intro p e s m below meth c hx hb hr hlk hml hown hts hK A H hAe hH hsz hP hD hA hS ls hl
  have hown : s.vm.findClass RX7 = some m.cls := hown
  have hl : lv_has ls 6 [(0, .ref o0), (1, .int p1), (2, .int p2), (3, .int p3), (4, .int p4)] := hl
  unfold fX7_ask at hf
  refine lv_aload_n hx hb dX7_ask_0 rfl (lv_at hl 0 rfl) ?_
  refine va_get (D := (dC, dI)) (ci := 7) (v := .int (s0 10 0)) (C := RX7) (T := TX7) (N := 14) hx hb hts nX7_ask_7 hown hK hP 0 rfl rfl 10 (by decide) (hts _ qX7_ask_1) (fun _ h9 => h9) rfl dX7_ask_1 ?_
  refine lv_if_ne (tgt := 11) hx hb dX7_ask_4 (by decide) (fun c1 => ?_) (fun c1 => ?_)
  · have hf := q_f c1 hf
    refine lv_iload_n hx hb dX7_ask_11 rfl (lv_at hl 1 rfl) ?_
    refine lv_iload_n hx hb dX7_ask_12 rfl (lv_at hl 2 rfl) ?_
    refine lv_iload_n hx hb dX7_ask_13 rfl (lv_at hl 3 rfl) ?_
    obtain ⟨r2, h3, hf⟩ := q_b1o hf
    refine q_roSi (As := [.int p1, .int p2, .int p3]) (rest := []) ⟨hx, hb, hml, hown, hts⟩ (kX7_isAsked l p1 p2 p3 r2 h3) (va_cwS 3 hts gX7_ask_X7_isAsked rfl rfl rfl hdX7_isAsked ⟨Nat.le_of_ble_eq_true rfl, Nat.le_of_ble_eq_true rfl⟩) rfl hl.1 rfl (Nat.le_of_ble_eq_true rfl) dX7_ask_14 ⟨Nat.zero_le _, Nat.zero_le _⟩ ?_
    refine lv_if_eq (tgt := 33) hx hb dX7_ask_17 (by decide) (fun c4 => ?_) (fun c4 => ?_)
    · have hf := q_t c4 hf
      refine lv_ldc2 (v := -9000000000000000001) hx hb hown (hts _ qX7_ask_4) dX7_ask_33 ?_
      obtain ⟨ee0, ee1, ee2⟩ := q_s3 hf
      subst ee1
      subst ee2
      exact q_wretL hx hb hr hlk hAe hK hP hD hS ee0 dX7_ask_36
    · have hf := q_f c4 hf
      refine lv_iload hx hb dX7_ask_20 (lv_at hl 4 rfl) ?_
      refine lv_iconst (v := 1) hx hb dX7_ask_22 (by decide) ?_
      refine lv_icmp_lt (tgt := 33) hx hb dX7_ask_23 (by decide) (fun c5 => ?_) (fun c5 => ?_)
      · have hf := q_t c5 hf
        refine lv_ldc2 (v := -9000000000000000001) hx hb hown (hts _ qX7_ask_4) dX7_ask_33 ?_
        obtain ⟨ee0, ee1, ee2⟩ := q_s3 hf
        subst ee1
        subst ee2
        exact q_wretL hx hb hr hlk hAe hK hP hD hS ee0 dX7_ask_36
      · have hf := q_f c5 hf
        refine lv_iload hx hb dX7_ask_26 (lv_at hl 4 rfl) ?_
        refine lv_ldc (v := 999999) hx hb hown (hts _ qX7_ask_3) dX7_ask_28 ?_
        refine lv_icmp_le (tgt := 37) hx hb dX7_ask_30 (by decide) (fun c6 => ?_) (fun c6 => ?_)
        · have hf := q_t c6 hf
          refine lv_aload_n hx hb dX7_ask_37 rfl (lv_at hl 0 rfl) ?_
          refine va_get (D := (dC, dI)) (ci := 7) (v := .ref (g0 8)) (C := RX7) (T := TX7) (N := 14) hx hb hts nX7_ask_7 hown hK hP 0 rfl rfl 8 (by decide) (hts _ qX7_ask_5) (fun _ h9 => h9) rfl dX7_ask_38 ?_
          refine lv_aload_n hx hb dX7_ask_41 rfl (lv_at hl 0 rfl) ?_
          refine va_get (D := (dC, dI)) (ci := 7) (v := .ref (g0 8)) (C := RX7) (T := TX7) (N := 14) hx hb hts nX7_ask_7 hown hK hP 0 rfl rfl 8 (by decide) (hts _ qX7_ask_5) (fun _ h9 => h9) rfl dX7_ask_42 ?_
          refine lv_iload_n hx hb dX7_ask_45 rfl (lv_at hl 1 rfl) ?_
          refine lv_iload_n hx hb dX7_ask_46 rfl (lv_at hl 2 rfl) ?_
          refine lv_iconst (v := 0) hx hb dX7_ask_47 (by decide) ?_
          obtain ⟨r7, h8, hf⟩ := q_b1o hf
          refine q_roVi (As := [.int p1, .int p2, .int (0 : Int32)]) (rest := [.ref (g0 8)]) (ci := 3) ⟨hx, hb, hml, hown, hts⟩ (kX3_minding l dC dI cI cB cZ (g0 8) a1 s1 p1 p2 (0 : Int32) r7 h8) (cwV 3 hts gX7_ask_X3_minding rfl rfl rfl hdX3_minding ⟨Nat.le_of_ble_eq_true rfl, Nat.le_of_ble_eq_true rfl⟩) hK (hP.sub [1, 2, 3, 4, 5, 6, 7, 8, 9, 10, 11] rfl) rfl rfl rfl hl.1 rfl (Nat.le_of_ble_eq_true rfl) dX7_ask_48 ⟨Nat.zero_le _, Nat.zero_le _⟩ ?_
          refine lv_iload_n hx hb dX7_ask_51 rfl (lv_at hl 3 rfl) ?_
          refine lv_iload hx hb dX7_ask_52 (lv_at hl 4 rfl) ?_
          obtain ⟨r9, h10, hf⟩ := q_b1o hf
          refine q_roVi (As := [.int r7, .int p3, .int p4]) (rest := []) (ci := 3) ⟨hx, hb, hml, hown, hts⟩ (kX3_drawFallen l dC dI cI cB cZ (g0 8) a1 s1 r7 p3 p4 r9 h10) (cwV 3 hts gX7_ask_X3_drawFallen rfl rfl rfl hdX3_drawFallen ⟨Nat.le_of_ble_eq_true rfl, Nat.le_of_ble_eq_true rfl⟩) hK (hP.sub [1, 2, 3, 4, 5, 6, 7, 8, 9, 10, 11] rfl) rfl rfl rfl hl.1 rfl (Nat.le_of_ble_eq_true rfl) dX7_ask_54 ⟨Nat.zero_le _, Nat.zero_le _⟩ ?_
          refine lv_istore (lv' := [(5, .int r9), (0, .ref o0), (1, .int p1), (2, .int p2), (3, .int p3), (4, .int p4)]) hx hb dX7_ask_57 hl (by decide) rfl (fun ls hl => ?_)
          refine lv_aload_n hx hb dX7_ask_59 rfl (lv_at hl 1 rfl) ?_
          refine va_get (D := (dC, dI)) (ci := 7) (v := .ref (g0 8)) (C := RX7) (T := TX7) (N := 14) hx hb hts nX7_ask_7 hown hK hP 0 rfl rfl 8 (by decide) (hts _ qX7_ask_5) (fun _ h9 => h9) rfl dX7_ask_60 ?_
          refine lv_iload hx hb dX7_ask_63 (lv_at hl 0 rfl) ?_
          refine lv_iconst (v := -1) hx hb dX7_ask_65 (by decide) ?_
          obtain ⟨sc11, h12, hf⟩ := q_b1o hf
          refine q_rwVv (As := [.int r9, .int (-1 : Int32)]) (rest := []) (ci := 3) (wr := ((wcX o0 g0 s0) ++ (wcA cI (g0 3) a2 s2))) (w2 := ((wcX o0 g0 s0) ++ (wcH cI (g0 8) a1 sc11) ++ (wcA cI (g0 3) a2 s2))) ⟨hx, hb, hml, hown, hts⟩ (kX3_addFruit l dC dI cI cB cZ (g0 8) a1 s1 r9 (-1 : Int32) H.size sc11 h12) (cwV 2 hts gX7_ask_X3_addFruit rfl rfl rfl hdX3_addFruit ⟨Nat.le_of_ble_eq_true rfl, Nat.le_of_ble_eq_true rfl⟩) hK hP hD hS hA [1, 2, 3, 4, 5, 6, 7, 8, 9, 10, 11] [0, 12, 13, 14, 15] [0, 5, 6, 7, 8, 9, 10, 11, 12, 13, 14, 15, 1, 2, 3, 4] rfl rfl (by decide) (by decide) (by decide) rfl (by decide) rfl rfl rfl hl.1 rfl (Nat.le_of_ble_eq_true rfl) dX7_ask_66 ⟨Nat.zero_le _, Nat.zero_le _⟩ (fun H locs hP hD hS => ?_)
          refine lv_aload_n hx hb dX7_ask_69 rfl (lv_at hl 1 rfl) ?_
          refine va_get (D := (dC, dI)) (ci := 7) (v := .ref (g0 3)) (C := RX7) (T := TX7) (N := 14) hx hb hts nX7_ask_7 hown hK hP 0 rfl rfl 3 (by decide) (hts _ qX7_ask_6) (fun _ h9 => h9) rfl dX7_ask_70 ?_
          refine lv_iconst (v := 0) hx hb dX7_ask_73 (by decide) ?_
          refine lv_iload hx hb dX7_ask_74 (lv_at hl 0 rfl) ?_
          refine lv_iconst (v := 1) hx hb dX7_ask_76 (by decide) ?_
          obtain ⟨sc13, h14, hf⟩ := q_b1o hf
          refine q_rwVv (As := [.int (0 : Int32), .int r9, .int (1 : Int32)]) (rest := []) (ci := 0) (wr := ((wcX o0 g0 s0) ++ (wcH cI (g0 8) a1 sc11))) (w2 := ((wcX o0 g0 s0) ++ (wcH cI (g0 8) a1 sc11) ++ (wcA cI (g0 3) a2 sc13))) ⟨hx, hb, hml, hown, hts⟩ (kX0_keep l dC dI cI cB cZ (g0 3) a2 s2 (0 : Int32) r9 (1 : Int32) H.size sc13 h14) (cwV 3 hts gX7_ask_X0_keep rfl rfl rfl hdX0_keep ⟨Nat.le_of_ble_eq_true rfl, Nat.le_of_ble_eq_true rfl⟩) hK hP hD hS hA [12, 13, 14, 15] [0, 1, 2, 3, 4, 5, 6, 7, 8, 9, 10, 11] [0, 1, 2, 3, 4, 5, 6, 7, 8, 9, 10, 11, 12, 13, 14, 15] rfl rfl (by decide) (by decide) (by decide) rfl (by decide) rfl rfl rfl hl.1 rfl (Nat.le_of_ble_eq_true rfl) dX7_ask_77 ⟨Nat.zero_le _, Nat.zero_le _⟩ (fun H locs hP hD hS => ?_)
          refine lv_iload hx hb dX7_ask_80 (lv_at hl 0 rfl) ?_
          refine lv_i2l (v := r9.toInt64) hx hb dX7_ask_82 rfl ?_
          obtain ⟨ee0, ee1, ee2⟩ := q_s3 hf
          subst ee1
          subst ee2
          exact q_wretL hx hb hr hlk hAe hK hP hD hS ee0 dX7_ask_83
        · have hf := q_f c6 hf
          refine lv_ldc2 (v := -9000000000000000001) hx hb hown (hts _ qX7_ask_4) dX7_ask_33 ?_
          obtain ⟨ee0, ee1, ee2⟩ := q_s3 hf
          subst ee1
          subst ee2
          exact q_wretL hx hb hr hlk hAe hK hP hD hS ee0 dX7_ask_36
  · have hf := q_t c1 hf
    refine lv_ldc2 (v := -9000000000000000002) hx hb hown (hts _ qX7_ask_2) dX7_ask_7 ?_
    obtain ⟨ee0, ee1, ee2⟩ := q_s3 hf
    subst ee1
    subst ee2
    exact q_wretL hx hb hr hlk hAe hK hP hD hS ee0 dX7_ask_10
theorem hdX7_pick : yX7_pick.cls = RX7 ∧ yX7_pick.cls ≠ "java/lang/invoke/MethodHandle" ∧ yX7_pick.cls ≠ "java/lang/invoke/VarHandle" ∧ (parseMethodDescriptor yX7_pick.desc).map (fun d => d.parameters.length) = some 2 := by decide +kernel
theorem qX7_pick_1 : (Cond.fieldLink RX7 63 "DeadAsked" "standing" "LDeadAsked$Hill;") ∈ wsX7_pick := List.mem_of_getElem? (i := 1) (by decide +kernel)
theorem qX7_pick_2 : (Cond.constantLong RX7 76 (-9000000000000000001)) ∈ wsX7_pick := List.mem_of_getElem? (i := 2) (by decide +kernel)
theorem qX7_pick_3 : (Cond.fieldLink RX7 177 "DeadAsked$Hill" "fruit" "[I") ∈ wsX7_pick := List.mem_of_getElem? (i := 3) (by decide +kernel)
theorem qX7_pick_4 : (Cond.constantLong RX7 155 (-9000000000000000002)) ∈ wsX7_pick := List.mem_of_getElem? (i := 4) (by decide +kernel)
theorem qX7_pick_5 : (Cond.fieldLink RX7 35 "DeadAsked" "acts" "LDeadAsked$Acts;") ∈ wsX7_pick := List.mem_of_getElem? (i := 5) (by decide +kernel)
theorem nX7_pick_3 : ∀ w ∈ u_ws RX3 TX3 14, w ∈ wsX7_pick := fun _ h => (List.mem_cons_of_mem _ (List.mem_append_left _ (List.mem_append_right _ h)))
theorem nX7_pick_7 : ∀ w ∈ u_ws RX7 TX7 14, w ∈ wsX7_pick := fun _ h => (List.mem_cons_of_mem _ (List.mem_append_left _ (List.mem_append_left _ (List.mem_append_right _ h))))
set_option maxHeartbeats 4000000 in
set_option maxRecDepth 100000 in
theorem kX7_pick (o0 : Nat) (g0 : Nat → Nat) (a1 : Nat → Nat) (a2 : Nat → Nat) (s0 : St) (s1 : St) (s2 : St) (p1 : Int32) (p2 : Int32) (sz : Nat) (r : Int64) (z1 : St) (z2 : St) (hf : fX7_pick s1 s2 p1 p2 = some (r, z1, z2)) : Met l yX7_pick wsX7_pick ({ frames := 2, cells := 0, slots := 0, locals := 44 } : Room) (pcW (dC, dI) (q_ty cI cB cZ) [.ref o0, .int p1, .int p2] ((wcX o0 g0 s0) ++ (wcH cI (g0 8) a1 s1) ++ (wcA cI (g0 3) a2 s2)) sz) (qlW (dC, dI) (q_ty cI cB cZ) ((wcX o0 g0 s0) ++ (wcH cI (g0 8) a1 s1) ++ (wcA cI (g0 3) a2 s2)) ((wcX o0 g0 s0) ++ (wcH cI (g0 8) a1 z1) ++ (wcA cI (g0 3) a2 z2)) sz r) 0 0 (va_A ((wcX o0 g0 s0) ++ (wcH cI (g0 8) a1 s1) ++ (wcA cI (g0 3) a2 s2)) sz) := by
  refine q_rwM (cc := cX7_pick) (maxL := 3) (ret := (some .long)) (by decide +kernel) rfl (Nat.le_of_ble_eq_true rfl) ?_
  intro p e s m below meth c hx hb hr hlk hml hown hts hK A H hAe hH hsz hP hD hA hS ls hl
  have hown : s.vm.findClass RX7 = some m.cls := hown
  have hl : lv_has ls 3 [(0, .ref o0), (1, .int p1), (2, .int p2)] := hl
  unfold fX7_pick at hf
  refine lv_aload_n hx hb dX7_pick_0 rfl (lv_at hl 0 rfl) ?_
  refine va_get (D := (dC, dI)) (ci := 7) (v := .ref (g0 8)) (C := RX7) (T := TX7) (N := 14) hx hb hts nX7_pick_7 hown hK hP 0 rfl rfl 8 (by decide) (hts _ qX7_pick_1) (fun _ h9 => h9) rfl dX7_pick_1 ?_
  refine lv_iload_n hx hb dX7_pick_4 rfl (lv_at hl 1 rfl) ?_
  obtain ⟨r1, h2, hf⟩ := q_b1o hf
  refine q_roVi (As := [.int p1]) (rest := []) (ci := 3) ⟨hx, hb, hml, hown, hts⟩ (kX3_isTree l dC dI cI cB cZ (g0 8) a1 s1 p1 r1 h2) (cwV 1 hts gX7_pick_X3_isTree rfl rfl rfl hdX3_isTree ⟨Nat.le_of_ble_eq_true rfl, Nat.le_of_ble_eq_true rfl⟩) hK (hP.sub [1, 2, 3, 4, 5, 6, 7, 8, 9, 10, 11] rfl) rfl rfl rfl hl.1 rfl (Nat.le_of_ble_eq_true rfl) dX7_pick_5 ⟨Nat.zero_le _, Nat.zero_le _⟩ ?_
  refine lv_if_eq (tgt := 22) hx hb dX7_pick_8 (by decide) (fun c3 => ?_) (fun c3 => ?_)
  · have hf := q_t c3 hf
    refine lv_ldc2 (v := -9000000000000000001) hx hb hown (hts _ qX7_pick_2) dX7_pick_22 ?_
    obtain ⟨ee0, ee1, ee2⟩ := q_s3 hf
    subst ee1
    subst ee2
    exact q_wretL hx hb hr hlk hAe hK hP hD hS ee0 dX7_pick_25
  · have hf := q_f c3 hf
    refine lv_iload_n hx hb dX7_pick_11 rfl (lv_at hl 2 rfl) ?_
    refine lv_iconst (v := 1) hx hb dX7_pick_12 (by decide) ?_
    refine lv_icmp_lt (tgt := 22) hx hb dX7_pick_13 (by decide) (fun c4 => ?_) (fun c4 => ?_)
    · have hf := q_t c4 hf
      refine lv_ldc2 (v := -9000000000000000001) hx hb hown (hts _ qX7_pick_2) dX7_pick_22 ?_
      obtain ⟨ee0, ee1, ee2⟩ := q_s3 hf
      subst ee1
      subst ee2
      exact q_wretL hx hb hr hlk hAe hK hP hD hS ee0 dX7_pick_25
    · have hf := q_f c4 hf
      refine lv_iload_n hx hb dX7_pick_16 rfl (lv_at hl 2 rfl) ?_
      refine lv_bipush (v := 9) hx hb dX7_pick_17 (by decide) ?_
      refine lv_icmp_le (tgt := 26) hx hb dX7_pick_19 (by decide) (fun c5 => ?_) (fun c5 => ?_)
      · have hf := q_t c5 hf
        refine lv_aload_n hx hb dX7_pick_26 rfl (lv_at hl 0 rfl) ?_
        refine va_get (D := (dC, dI)) (ci := 7) (v := .ref (g0 8)) (C := RX7) (T := TX7) (N := 14) hx hb hts nX7_pick_7 hown hK hP 0 rfl rfl 8 (by decide) (hts _ qX7_pick_1) (fun _ h9 => h9) rfl dX7_pick_27 ?_
        refine va_get (D := (dC, dI)) (ci := 3) (v := .ref (a1 9)) (C := RX3) (T := TX3) (N := 14) hx hb hts nX7_pick_3 hown hK hP 1 rfl rfl 9 (by decide) (hts _ qX7_pick_3) (fun _ h9 => h9) rfl dX7_pick_30 ?_
        refine lv_iload_n hx hb dX7_pick_33 rfl (lv_at hl 1 rfl) ?_
        obtain ⟨c6, hf⟩ := q_ck hf
        refine va_iald hx hb hK hP 11 0 rfl rfl c6 dX7_pick_34 ?_
        refine lv_iload_n hx hb dX7_pick_35 rfl (lv_at hl 2 rfl) ?_
        refine lv_icmp_ge (tgt := 43) hx hb dX7_pick_36 (by decide) (fun c7 => ?_) (fun c7 => ?_)
        · have hf := q_t c7 hf
          refine lv_aload_n hx hb dX7_pick_43 rfl (lv_at hl 0 rfl) ?_
          refine va_get (D := (dC, dI)) (ci := 7) (v := .ref (g0 8)) (C := RX7) (T := TX7) (N := 14) hx hb hts nX7_pick_7 hown hK hP 0 rfl rfl 8 (by decide) (hts _ qX7_pick_1) (fun _ h9 => h9) rfl dX7_pick_44 ?_
          refine lv_iconst (v := 1) hx hb dX7_pick_47 (by decide) ?_
          refine lv_iload_n hx hb dX7_pick_48 rfl (lv_at hl 1 rfl) ?_
          refine lv_ishl hx hb dX7_pick_49 ?_
          refine lv_iload_n hx hb dX7_pick_50 rfl (lv_at hl 2 rfl) ?_
          refine lv_ineg hx hb dX7_pick_51 ?_
          obtain ⟨sc8, h9, hf⟩ := q_b1o hf
          refine q_rwVv (As := [.int ((1 : Int32) <<< (p1 &&& 31)), .int (-p2)]) (rest := []) (ci := 3) (wr := ((wcX o0 g0 s0) ++ (wcA cI (g0 3) a2 s2))) (w2 := ((wcX o0 g0 s0) ++ (wcH cI (g0 8) a1 sc8) ++ (wcA cI (g0 3) a2 s2))) ⟨hx, hb, hml, hown, hts⟩ (kX3_addFruit l dC dI cI cB cZ (g0 8) a1 s1 ((1 : Int32) <<< (p1 &&& 31)) (-p2) H.size sc8 h9) (cwV 2 hts gX7_pick_X3_addFruit rfl rfl rfl hdX3_addFruit ⟨Nat.le_of_ble_eq_true rfl, Nat.le_of_ble_eq_true rfl⟩) hK hP hD hS hA [1, 2, 3, 4, 5, 6, 7, 8, 9, 10, 11] [0, 12, 13, 14, 15] [0, 5, 6, 7, 8, 9, 10, 11, 12, 13, 14, 15, 1, 2, 3, 4] rfl rfl (by decide) (by decide) (by decide) rfl (by decide) rfl rfl rfl hl.1 rfl (Nat.le_of_ble_eq_true rfl) dX7_pick_52 ⟨Nat.zero_le _, Nat.zero_le _⟩ (fun H locs hP hD hS => ?_)
          refine lv_aload_n hx hb dX7_pick_55 rfl (lv_at hl 0 rfl) ?_
          refine va_get (D := (dC, dI)) (ci := 7) (v := .ref (g0 3)) (C := RX7) (T := TX7) (N := 14) hx hb hts nX7_pick_7 hown hK hP 0 rfl rfl 3 (by decide) (hts _ qX7_pick_5) (fun _ h9 => h9) rfl dX7_pick_56 ?_
          refine lv_iconst (v := 1) hx hb dX7_pick_59 (by decide) ?_
          refine lv_iconst (v := 1) hx hb dX7_pick_60 (by decide) ?_
          refine lv_iload_n hx hb dX7_pick_61 rfl (lv_at hl 1 rfl) ?_
          refine lv_ishl hx hb dX7_pick_62 ?_
          refine lv_iload_n hx hb dX7_pick_63 rfl (lv_at hl 2 rfl) ?_
          obtain ⟨sc10, h11, hf⟩ := q_b1o hf
          refine q_rwVv (As := [.int (1 : Int32), .int ((1 : Int32) <<< (p1 &&& 31)), .int p2]) (rest := []) (ci := 0) (wr := ((wcX o0 g0 s0) ++ (wcH cI (g0 8) a1 sc8))) (w2 := ((wcX o0 g0 s0) ++ (wcH cI (g0 8) a1 sc8) ++ (wcA cI (g0 3) a2 sc10))) ⟨hx, hb, hml, hown, hts⟩ (kX0_keep l dC dI cI cB cZ (g0 3) a2 s2 (1 : Int32) ((1 : Int32) <<< (p1 &&& 31)) p2 H.size sc10 h11) (cwV 3 hts gX7_pick_X0_keep rfl rfl rfl hdX0_keep ⟨Nat.le_of_ble_eq_true rfl, Nat.le_of_ble_eq_true rfl⟩) hK hP hD hS hA [12, 13, 14, 15] [0, 1, 2, 3, 4, 5, 6, 7, 8, 9, 10, 11] [0, 1, 2, 3, 4, 5, 6, 7, 8, 9, 10, 11, 12, 13, 14, 15] rfl rfl (by decide) (by decide) (by decide) rfl (by decide) rfl rfl rfl hl.1 rfl (Nat.le_of_ble_eq_true rfl) dX7_pick_64 ⟨Nat.zero_le _, Nat.zero_le _⟩ (fun H locs hP hD hS => ?_)
          refine lv_aload_n hx hb dX7_pick_67 rfl (lv_at hl 0 rfl) ?_
          refine va_get (D := (dC, dI)) (ci := 7) (v := .ref (g0 8)) (C := RX7) (T := TX7) (N := 14) hx hb hts nX7_pick_7 hown hK hP 0 rfl rfl 8 (by decide) (hts _ qX7_pick_1) (fun _ h9 => h9) rfl dX7_pick_68 ?_
          refine va_get (D := (dC, dI)) (ci := 3) (v := .ref (a1 9)) (C := RX3) (T := TX3) (N := 14) hx hb hts nX7_pick_3 hown hK hP 1 rfl rfl 9 (by decide) (hts _ qX7_pick_3) (fun _ h9 => h9) rfl dX7_pick_71 ?_
          refine lv_iload_n hx hb dX7_pick_74 rfl (lv_at hl 1 rfl) ?_
          obtain ⟨c12, hf⟩ := q_ck hf
          refine va_iald hx hb hK hP 11 0 rfl rfl c12 dX7_pick_75 ?_
          refine lv_i2l (v := (sc8 9 p1.toNatClampNeg).toInt64) hx hb dX7_pick_76 rfl ?_
          obtain ⟨ee0, ee1, ee2⟩ := q_s3 hf
          subst ee1
          subst ee2
          exact q_wretL hx hb hr hlk hAe hK hP hD hS ee0 dX7_pick_77
        · have hf := q_f c7 hf
          refine lv_ldc2 (v := -9000000000000000002) hx hb hown (hts _ qX7_pick_4) dX7_pick_39 ?_
          obtain ⟨ee0, ee1, ee2⟩ := q_s3 hf
          subst ee1
          subst ee2
          exact q_wretL hx hb hr hlk hAe hK hP hD hS ee0 dX7_pick_42
      · have hf := q_f c5 hf
        refine lv_ldc2 (v := -9000000000000000001) hx hb hown (hts _ qX7_pick_2) dX7_pick_22 ?_
        obtain ⟨ee0, ee1, ee2⟩ := q_s3 hf
        subst ee1
        subst ee2
        exact q_wretL hx hb hr hlk hAe hK hP hD hS ee0 dX7_pick_25
theorem hdX7_move : yX7_move.cls = RX7 ∧ yX7_move.cls ≠ "java/lang/invoke/MethodHandle" ∧ yX7_move.cls ≠ "java/lang/invoke/VarHandle" ∧ (parseMethodDescriptor yX7_move.desc).map (fun d => d.parameters.length) = some 2 := by decide +kernel
theorem qX7_move_1 : (Cond.fieldLink RX7 63 "DeadAsked" "standing" "LDeadAsked$Hill;") ∈ wsX7_move := List.mem_of_getElem? (i := 1) (by decide +kernel)
theorem qX7_move_2 : (Cond.constantLong RX7 76 (-9000000000000000001)) ∈ wsX7_move := List.mem_of_getElem? (i := 2) (by decide +kernel)
theorem qX7_move_3 : (Cond.fieldLink RX7 184 "DeadAsked$Hill" "graveX" "[I") ∈ wsX7_move := List.mem_of_getElem? (i := 3) (by decide +kernel)
theorem qX7_move_4 : (Cond.fieldLink RX7 35 "DeadAsked" "acts" "LDeadAsked$Acts;") ∈ wsX7_move := List.mem_of_getElem? (i := 4) (by decide +kernel)
theorem nX7_move_3 : ∀ w ∈ u_ws RX3 TX3 14, w ∈ wsX7_move := fun _ h => (List.mem_cons_of_mem _ (List.mem_append_left _ (List.mem_append_right _ h)))
theorem nX7_move_7 : ∀ w ∈ u_ws RX7 TX7 14, w ∈ wsX7_move := fun _ h => (List.mem_cons_of_mem _ (List.mem_append_left _ (List.mem_append_left _ (List.mem_append_right _ h))))
set_option maxHeartbeats 4000000 in
set_option maxRecDepth 100000 in
theorem kX7_move (o0 : Nat) (g0 : Nat → Nat) (a1 : Nat → Nat) (a2 : Nat → Nat) (s0 : St) (s1 : St) (s2 : St) (p1 : Int32) (p2 : Int32) (sz : Nat) (r : Int64) (z1 : St) (z2 : St) (hf : fX7_move s1 s2 p1 p2 = some (r, z1, z2)) : Met l yX7_move wsX7_move ({ frames := 2, cells := 0, slots := 0, locals := 44 } : Room) (pcW (dC, dI) (q_ty cI cB cZ) [.ref o0, .int p1, .int p2] ((wcX o0 g0 s0) ++ (wcH cI (g0 8) a1 s1) ++ (wcA cI (g0 3) a2 s2)) sz) (qlW (dC, dI) (q_ty cI cB cZ) ((wcX o0 g0 s0) ++ (wcH cI (g0 8) a1 s1) ++ (wcA cI (g0 3) a2 s2)) ((wcX o0 g0 s0) ++ (wcH cI (g0 8) a1 z1) ++ (wcA cI (g0 3) a2 z2)) sz r) 0 0 (va_A ((wcX o0 g0 s0) ++ (wcH cI (g0 8) a1 s1) ++ (wcA cI (g0 3) a2 s2)) sz) := by
  refine q_rwM (cc := cX7_move) (maxL := 4) (ret := (some .long)) (by decide +kernel) rfl (Nat.le_of_ble_eq_true rfl) ?_
  intro p e s m below meth c hx hb hr hlk hml hown hts hK A H hAe hH hsz hP hD hA hS ls hl
  have hown : s.vm.findClass RX7 = some m.cls := hown
  have hl : lv_has ls 4 [(0, .ref o0), (1, .int p1), (2, .int p2)] := hl
  unfold fX7_move at hf
  refine lv_aload_n hx hb dX7_move_0 rfl (lv_at hl 0 rfl) ?_
  refine va_get (D := (dC, dI)) (ci := 7) (v := .ref (g0 8)) (C := RX7) (T := TX7) (N := 14) hx hb hts nX7_move_7 hown hK hP 0 rfl rfl 8 (by decide) (hts _ qX7_move_1) (fun _ h9 => h9) rfl dX7_move_1 ?_
  refine lv_iload_n hx hb dX7_move_4 rfl (lv_at hl 1 rfl) ?_
  obtain ⟨r1, h2, hf⟩ := q_b1o hf
  refine q_roVi (As := [.int p1]) (rest := []) (ci := 3) ⟨hx, hb, hml, hown, hts⟩ (kX3_isGrave l dC dI cI cB cZ (g0 8) a1 s1 p1 r1 h2) (cwV 1 hts gX7_move_X3_isGrave rfl rfl rfl hdX3_isGrave ⟨Nat.le_of_ble_eq_true rfl, Nat.le_of_ble_eq_true rfl⟩) hK (hP.sub [1, 2, 3, 4, 5, 6, 7, 8, 9, 10, 11] rfl) rfl rfl rfl hl.1 rfl (Nat.le_of_ble_eq_true rfl) dX7_move_5 ⟨Nat.zero_le _, Nat.zero_le _⟩ ?_
  refine lv_if_eq (tgt := 21) hx hb dX7_move_8 (by decide) (fun c3 => ?_) (fun c3 => ?_)
  · have hf := q_t c3 hf
    refine lv_ldc2 (v := -9000000000000000001) hx hb hown (hts _ qX7_move_2) dX7_move_21 ?_
    obtain ⟨ee0, ee1, ee2⟩ := q_s3 hf
    subst ee1
    subst ee2
    exact q_wretL hx hb hr hlk hAe hK hP hD hS ee0 dX7_move_24
  · have hf := q_f c3 hf
    refine lv_iload_n hx hb dX7_move_11 rfl (lv_at hl 2 rfl) ?_
    refine lv_if_lt (tgt := 21) hx hb dX7_move_12 (by decide) (fun c4 => ?_) (fun c4 => ?_)
    · have hf := q_t c4 hf
      refine lv_ldc2 (v := -9000000000000000001) hx hb hown (hts _ qX7_move_2) dX7_move_21 ?_
      obtain ⟨ee0, ee1, ee2⟩ := q_s3 hf
      subst ee1
      subst ee2
      exact q_wretL hx hb hr hlk hAe hK hP hD hS ee0 dX7_move_24
    · have hf := q_f c4 hf
      refine lv_iload_n hx hb dX7_move_15 rfl (lv_at hl 2 rfl) ?_
      refine lv_bipush (v := 30) hx hb dX7_move_16 (by decide) ?_
      refine lv_icmp_le (tgt := 25) hx hb dX7_move_18 (by decide) (fun c5 => ?_) (fun c5 => ?_)
      · have hf := q_t c5 hf
        refine lv_aload_n hx hb dX7_move_25 rfl (lv_at hl 0 rfl) ?_
        refine va_get (D := (dC, dI)) (ci := 7) (v := .ref (g0 8)) (C := RX7) (T := TX7) (N := 14) hx hb hts nX7_move_7 hown hK hP 0 rfl rfl 8 (by decide) (hts _ qX7_move_1) (fun _ h9 => h9) rfl dX7_move_26 ?_
        refine va_get (D := (dC, dI)) (ci := 3) (v := .ref (a1 1)) (C := RX3) (T := TX3) (N := 14) hx hb hts nX7_move_3 hown hK hP 1 rfl rfl 1 (by decide) (hts _ qX7_move_3) (fun _ h9 => h9) rfl dX7_move_29 ?_
        refine lv_iload_n hx hb dX7_move_32 rfl (lv_at hl 1 rfl) ?_
        obtain ⟨c6, hf⟩ := q_ck hf
        refine va_iald hx hb hK hP 3 0 rfl rfl c6 dX7_move_33 ?_
        obtain ⟨x7, ex7, hf⟩ := q_lto hf
        refine W.eq (g2 := F0 m 34 ls [.int x7]) (by rw [ex7]) ?_
        refine lv_istore_n (lv' := [(3, .int x7), (0, .ref o0), (1, .int p1), (2, .int p2)]) hx hb dX7_move_34 rfl hl (by decide) rfl (fun ls hl => ?_)
        refine lv_aload_n hx hb dX7_move_35 rfl (lv_at hl 1 rfl) ?_
        refine va_get (D := (dC, dI)) (ci := 7) (v := .ref (g0 8)) (C := RX7) (T := TX7) (N := 14) hx hb hts nX7_move_7 hown hK hP 0 rfl rfl 8 (by decide) (hts _ qX7_move_1) (fun _ h9 => h9) rfl dX7_move_36 ?_
        refine va_get (D := (dC, dI)) (ci := 3) (v := .ref (a1 1)) (C := RX3) (T := TX3) (N := 14) hx hb hts nX7_move_3 hown hK hP 1 rfl rfl 1 (by decide) (hts _ qX7_move_3) (fun _ h9 => h9) rfl dX7_move_39 ?_
        refine lv_iload_n hx hb dX7_move_42 rfl (lv_at hl 2 rfl) ?_
        refine lv_iload_n hx hb dX7_move_43 rfl (lv_at hl 3 rfl) ?_
        obtain ⟨c8, hf⟩ := q_ck hf
        obtain ⟨sn9, esn9, hf⟩ := q_lto hf
        refine va_iast hx hb hK hP hD hS 3 0 rfl rfl c8 dX7_move_44 (fun H locs hP hD hS => ?_)
        have hP : va_P (dC, dI) vwCl ((wcX o0 g0 s0) ++ (wcH cI (g0 8) a1 sn9) ++ (wcA cI (g0 3) a2 s2)) H := by rw [esn9]; exact hP
        have hD : va_D A ((wcX o0 g0 s0) ++ (wcH cI (g0 8) a1 sn9) ++ (wcA cI (g0 3) a2 s2)) := by rw [esn9]; exact hD
        refine lv_aload_n hx hb dX7_move_45 rfl (lv_at hl 1 rfl) ?_
        refine va_get (D := (dC, dI)) (ci := 7) (v := .ref (g0 3)) (C := RX7) (T := TX7) (N := 14) hx hb hts nX7_move_7 hown hK hP 0 rfl rfl 3 (by decide) (hts _ qX7_move_4) (fun _ h9 => h9) rfl dX7_move_46 ?_
        refine lv_iconst (v := 2) hx hb dX7_move_49 (by decide) ?_
        refine lv_iload_n hx hb dX7_move_50 rfl (lv_at hl 2 rfl) ?_
        refine lv_iload_n hx hb dX7_move_51 rfl (lv_at hl 0 rfl) ?_
        obtain ⟨sc10, h11, hf⟩ := q_b1o hf
        refine q_rwVv (As := [.int (2 : Int32), .int p1, .int x7]) (rest := []) (ci := 0) (wr := ((wcX o0 g0 s0) ++ (wcH cI (g0 8) a1 sn9))) (w2 := ((wcX o0 g0 s0) ++ (wcH cI (g0 8) a1 sn9) ++ (wcA cI (g0 3) a2 sc10))) ⟨hx, hb, hml, hown, hts⟩ (kX0_keep l dC dI cI cB cZ (g0 3) a2 s2 (2 : Int32) p1 x7 H.size sc10 h11) (cwV 3 hts gX7_move_X0_keep rfl rfl rfl hdX0_keep ⟨Nat.le_of_ble_eq_true rfl, Nat.le_of_ble_eq_true rfl⟩) hK hP hD hS hA [12, 13, 14, 15] [0, 1, 2, 3, 4, 5, 6, 7, 8, 9, 10, 11] [0, 1, 2, 3, 4, 5, 6, 7, 8, 9, 10, 11, 12, 13, 14, 15] rfl rfl (by decide) (by decide) (by decide) rfl (by decide) rfl rfl rfl hl.1 rfl (Nat.le_of_ble_eq_true rfl) dX7_move_52 ⟨Nat.zero_le _, Nat.zero_le _⟩ (fun H locs hP hD hS => ?_)
        refine lv_iload_n hx hb dX7_move_55 rfl (lv_at hl 0 rfl) ?_
        refine lv_i2l (v := x7.toInt64) hx hb dX7_move_56 rfl ?_
        obtain ⟨ee0, ee1, ee2⟩ := q_s3 hf
        subst ee1
        subst ee2
        exact q_wretL hx hb hr hlk hAe hK hP hD hS ee0 dX7_move_57
      · have hf := q_f c5 hf
        refine lv_ldc2 (v := -9000000000000000001) hx hb hown (hts _ qX7_move_2) dX7_move_21 ?_
        obtain ⟨ee0, ee1, ee2⟩ := q_s3 hf
        subst ee1
        subst ee2
        exact q_wretL hx hb hr hlk hAe hK hP hD hS ee0 dX7_move_24
theorem hdX7_crack : yX7_crack.cls = RX7 ∧ yX7_crack.cls ≠ "java/lang/invoke/MethodHandle" ∧ yX7_crack.cls ≠ "java/lang/invoke/VarHandle" ∧ (parseMethodDescriptor yX7_crack.desc).map (fun d => d.parameters.length) = some 1 := by decide +kernel
theorem qX7_crack_1 : (Cond.fieldLink RX7 63 "DeadAsked" "standing" "LDeadAsked$Hill;") ∈ wsX7_crack := List.mem_of_getElem? (i := 1) (by decide +kernel)
theorem qX7_crack_2 : (Cond.constantLong RX7 76 (-9000000000000000001)) ∈ wsX7_crack := List.mem_of_getElem? (i := 2) (by decide +kernel)
theorem qX7_crack_3 : (Cond.constantLong RX7 155 (-9000000000000000002)) ∈ wsX7_crack := List.mem_of_getElem? (i := 3) (by decide +kernel)
theorem qX7_crack_4 : (Cond.fieldLink RX7 193 "DeadAsked$Hill" "cracked" "I") ∈ wsX7_crack := List.mem_of_getElem? (i := 4) (by decide +kernel)
theorem qX7_crack_5 : (Cond.fieldLink RX7 35 "DeadAsked" "acts" "LDeadAsked$Acts;") ∈ wsX7_crack := List.mem_of_getElem? (i := 5) (by decide +kernel)
theorem nX7_crack_3 : ∀ w ∈ u_ws RX3 TX3 14, w ∈ wsX7_crack := fun _ h => (List.mem_cons_of_mem _ (List.mem_append_left _ (List.mem_append_right _ h)))
theorem nX7_crack_7 : ∀ w ∈ u_ws RX7 TX7 14, w ∈ wsX7_crack := fun _ h => (List.mem_cons_of_mem _ (List.mem_append_left _ (List.mem_append_left _ (List.mem_append_right _ h))))
set_option maxHeartbeats 4000000 in
set_option maxRecDepth 100000 in
theorem kX7_crack (o0 : Nat) (g0 : Nat → Nat) (a1 : Nat → Nat) (a2 : Nat → Nat) (s0 : St) (s1 : St) (s2 : St) (p1 : Int32) (sz : Nat) (r : Int64) (z1 : St) (z2 : St) (hf : fX7_crack s1 s2 p1 = some (r, z1, z2)) : Met l yX7_crack wsX7_crack ({ frames := 2, cells := 0, slots := 0, locals := 44 } : Room) (pcW (dC, dI) (q_ty cI cB cZ) [.ref o0, .int p1] ((wcX o0 g0 s0) ++ (wcH cI (g0 8) a1 s1) ++ (wcA cI (g0 3) a2 s2)) sz) (qlW (dC, dI) (q_ty cI cB cZ) ((wcX o0 g0 s0) ++ (wcH cI (g0 8) a1 s1) ++ (wcA cI (g0 3) a2 s2)) ((wcX o0 g0 s0) ++ (wcH cI (g0 8) a1 z1) ++ (wcA cI (g0 3) a2 z2)) sz r) 0 0 (va_A ((wcX o0 g0 s0) ++ (wcH cI (g0 8) a1 s1) ++ (wcA cI (g0 3) a2 s2)) sz) := by
  refine q_rwM (cc := cX7_crack) (maxL := 2) (ret := (some .long)) (by decide +kernel) rfl (Nat.le_of_ble_eq_true rfl) ?_
  intro p e s m below meth c hx hb hr hlk hml hown hts hK A H hAe hH hsz hP hD hA hS ls hl
  have hown : s.vm.findClass RX7 = some m.cls := hown
  have hl : lv_has ls 2 [(0, .ref o0), (1, .int p1)] := hl
  unfold fX7_crack at hf
  refine lv_aload_n hx hb dX7_crack_0 rfl (lv_at hl 0 rfl) ?_
  refine va_get (D := (dC, dI)) (ci := 7) (v := .ref (g0 8)) (C := RX7) (T := TX7) (N := 14) hx hb hts nX7_crack_7 hown hK hP 0 rfl rfl 8 (by decide) (hts _ qX7_crack_1) (fun _ h9 => h9) rfl dX7_crack_1 ?_
  refine lv_iload_n hx hb dX7_crack_4 rfl (lv_at hl 1 rfl) ?_
  obtain ⟨r1, h2, hf⟩ := q_b1o hf
  refine q_roVi (As := [.int p1]) (rest := []) (ci := 3) ⟨hx, hb, hml, hown, hts⟩ (kX3_isHorn l dC dI cI cB cZ (g0 8) a1 s1 p1 r1 h2) (cwV 1 hts gX7_crack_X3_isHorn rfl rfl rfl hdX3_isHorn ⟨Nat.le_of_ble_eq_true rfl, Nat.le_of_ble_eq_true rfl⟩) hK (hP.sub [1, 2, 3, 4, 5, 6, 7, 8, 9, 10, 11] rfl) rfl rfl rfl hl.1 rfl (Nat.le_of_ble_eq_true rfl) dX7_crack_5 ⟨Nat.zero_le _, Nat.zero_le _⟩ ?_
  refine lv_if_ne (tgt := 15) hx hb dX7_crack_8 (by decide) (fun c3 => ?_) (fun c3 => ?_)
  · have hf := q_f c3 hf
    refine lv_aload_n hx hb dX7_crack_15 rfl (lv_at hl 0 rfl) ?_
    refine va_get (D := (dC, dI)) (ci := 7) (v := .ref (g0 8)) (C := RX7) (T := TX7) (N := 14) hx hb hts nX7_crack_7 hown hK hP 0 rfl rfl 8 (by decide) (hts _ qX7_crack_1) (fun _ h9 => h9) rfl dX7_crack_16 ?_
    refine lv_iload_n hx hb dX7_crack_19 rfl (lv_at hl 1 rfl) ?_
    obtain ⟨r4, h5, hf⟩ := q_b1o hf
    refine q_roVi (As := [.int p1]) (rest := []) (ci := 3) ⟨hx, hb, hml, hown, hts⟩ (kX3_isCracked l dC dI cI cB cZ (g0 8) a1 s1 p1 r4 h5) (cwV 1 hts gX7_crack_X3_isCracked rfl rfl rfl hdX3_isCracked ⟨Nat.le_of_ble_eq_true rfl, Nat.le_of_ble_eq_true rfl⟩) hK (hP.sub [1, 2, 3, 4, 5, 6, 7, 8, 9, 10, 11] rfl) rfl rfl rfl hl.1 rfl (Nat.le_of_ble_eq_true rfl) dX7_crack_20 ⟨Nat.zero_le _, Nat.zero_le _⟩ ?_
    refine lv_if_eq (tgt := 30) hx hb dX7_crack_23 (by decide) (fun c6 => ?_) (fun c6 => ?_)
    · have hf := q_t c6 hf
      refine lv_aload_n hx hb dX7_crack_30 rfl (lv_at hl 0 rfl) ?_
      refine va_get (D := (dC, dI)) (ci := 7) (v := .ref (g0 8)) (C := RX7) (T := TX7) (N := 14) hx hb hts nX7_crack_7 hown hK hP 0 rfl rfl 8 (by decide) (hts _ qX7_crack_1) (fun _ h9 => h9) rfl dX7_crack_31 ?_
      refine lv_dup hx hb dX7_crack_34 rfl ?_
      refine va_get (D := (dC, dI)) (ci := 3) (v := .int (s1 13 0)) (C := RX3) (T := TX3) (N := 14) hx hb hts nX7_crack_3 hown hK hP 1 rfl rfl 13 (by decide) (hts _ qX7_crack_4) (fun _ h9 => h9) rfl dX7_crack_35 ?_
      refine lv_iconst (v := 1) hx hb dX7_crack_38 (by decide) ?_
      refine lv_iload_n hx hb dX7_crack_39 rfl (lv_at hl 1 rfl) ?_
      refine lv_ishl hx hb dX7_crack_40 ?_
      refine lv_ior hx hb dX7_crack_41 ?_
      obtain ⟨sn7, esn7, hf⟩ := q_lto hf
      refine va_put (D := (dC, dI)) (ci := 3) (v := .int ((s1 13 0) ||| ((1 : Int32) <<< (p1 &&& 31)))) (ty := .int) (C := RX3) (T := TX3) (N := 14) hx hb hts nX7_crack_3 tyX3 tyX3_ok nmX3 hown hK hP hD hS 1 rfl rfl 13 (by decide) (hts _ qX7_crack_4) (fun _ h9 => h9) rfl (by decide +kernel) rfl rfl (Nat.le_of_ble_eq_true rfl) dX7_crack_42 (fun H locs hP hD hS => ?_)
      have hP : va_P (dC, dI) vwCl ((wcX o0 g0 s0) ++ (wcH cI (g0 8) a1 sn7) ++ (wcA cI (g0 3) a2 s2)) H := by rw [esn7]; exact hP
      have hD : va_D A ((wcX o0 g0 s0) ++ (wcH cI (g0 8) a1 sn7) ++ (wcA cI (g0 3) a2 s2)) := by rw [esn7]; exact hD
      refine lv_aload_n hx hb dX7_crack_45 rfl (lv_at hl 0 rfl) ?_
      refine va_get (D := (dC, dI)) (ci := 7) (v := .ref (g0 3)) (C := RX7) (T := TX7) (N := 14) hx hb hts nX7_crack_7 hown hK hP 0 rfl rfl 3 (by decide) (hts _ qX7_crack_5) (fun _ h9 => h9) rfl dX7_crack_46 ?_
      refine lv_iconst (v := 3) hx hb dX7_crack_49 (by decide) ?_
      refine lv_iload_n hx hb dX7_crack_50 rfl (lv_at hl 1 rfl) ?_
      refine lv_iconst (v := 0) hx hb dX7_crack_51 (by decide) ?_
      obtain ⟨sc8, h9, hf⟩ := q_b1o hf
      refine q_rwVv (As := [.int (3 : Int32), .int p1, .int (0 : Int32)]) (rest := []) (ci := 0) (wr := ((wcX o0 g0 s0) ++ (wcH cI (g0 8) a1 sn7))) (w2 := ((wcX o0 g0 s0) ++ (wcH cI (g0 8) a1 sn7) ++ (wcA cI (g0 3) a2 sc8))) ⟨hx, hb, hml, hown, hts⟩ (kX0_keep l dC dI cI cB cZ (g0 3) a2 s2 (3 : Int32) p1 (0 : Int32) H.size sc8 h9) (cwV 3 hts gX7_crack_X0_keep rfl rfl rfl hdX0_keep ⟨Nat.le_of_ble_eq_true rfl, Nat.le_of_ble_eq_true rfl⟩) hK hP hD hS hA [12, 13, 14, 15] [0, 1, 2, 3, 4, 5, 6, 7, 8, 9, 10, 11] [0, 1, 2, 3, 4, 5, 6, 7, 8, 9, 10, 11, 12, 13, 14, 15] rfl rfl (by decide) (by decide) (by decide) rfl (by decide) rfl rfl rfl hl.1 rfl (Nat.le_of_ble_eq_true rfl) dX7_crack_52 ⟨Nat.zero_le _, Nat.zero_le _⟩ (fun H locs hP hD hS => ?_)
      refine lv_lconst (v := 1) hx hb dX7_crack_55 (by decide) ?_
      obtain ⟨ee0, ee1, ee2⟩ := q_s3 hf
      subst ee1
      subst ee2
      exact q_wretL hx hb hr hlk hAe hK hP hD hS ee0 dX7_crack_56
    · have hf := q_f c6 hf
      refine lv_ldc2 (v := -9000000000000000002) hx hb hown (hts _ qX7_crack_3) dX7_crack_26 ?_
      obtain ⟨ee0, ee1, ee2⟩ := q_s3 hf
      subst ee1
      subst ee2
      exact q_wretL hx hb hr hlk hAe hK hP hD hS ee0 dX7_crack_29
  · have hf := q_t c3 hf
    refine lv_ldc2 (v := -9000000000000000001) hx hb hown (hts _ qX7_crack_2) dX7_crack_11 ?_
    obtain ⟨ee0, ee1, ee2⟩ := q_s3 hf
    subst ee1
    subst ee2
    exact q_wretL hx hb hr hlk hAe hK hP hD hS ee0 dX7_crack_14
theorem hdX7_undo : yX7_undo.cls = RX7 ∧ yX7_undo.cls ≠ "java/lang/invoke/MethodHandle" ∧ yX7_undo.cls ≠ "java/lang/invoke/VarHandle" ∧ (parseMethodDescriptor yX7_undo.desc).map (fun d => d.parameters.length) = some 0 := by decide +kernel
theorem qX7_undo_1 : (Cond.fieldLink RX7 35 "DeadAsked" "acts" "LDeadAsked$Acts;") ∈ wsX7_undo := List.mem_of_getElem? (i := 1) (by decide +kernel)
theorem qX7_undo_2 : (Cond.constantLong RX7 155 (-9000000000000000002)) ∈ wsX7_undo := List.mem_of_getElem? (i := 2) (by decide +kernel)
theorem qX7_undo_3 : (Cond.fieldLink RX7 63 "DeadAsked" "standing" "LDeadAsked$Hill;") ∈ wsX7_undo := List.mem_of_getElem? (i := 3) (by decide +kernel)
theorem nX7_undo_7 : ∀ w ∈ u_ws RX7 TX7 14, w ∈ wsX7_undo := fun _ h => (List.mem_cons_of_mem _ (List.mem_append_left _ (List.mem_append_left _ (List.mem_append_right _ h))))
set_option maxHeartbeats 4000000 in
set_option maxRecDepth 100000 in
theorem kX7_undo (o0 : Nat) (g0 : Nat → Nat) (a1 : Nat → Nat) (a2 : Nat → Nat) (s0 : St) (s1 : St) (s2 : St) (sz : Nat) (r : Int64) (z1 : St) (z2 : St) (hf : fX7_undo s1 s2 = some (r, z1, z2)) : Met l yX7_undo wsX7_undo ({ frames := 3, cells := 0, slots := 0, locals := 66 } : Room) (pcW (dC, dI) (q_ty cI cB cZ) [.ref o0] ((wcX o0 g0 s0) ++ (wcA cI (g0 3) a1 s1) ++ (wcH cI (g0 8) a2 s2)) sz) (qlW (dC, dI) (q_ty cI cB cZ) ((wcX o0 g0 s0) ++ (wcA cI (g0 3) a1 s1) ++ (wcH cI (g0 8) a2 s2)) ((wcX o0 g0 s0) ++ (wcA cI (g0 3) a1 z1) ++ (wcH cI (g0 8) a2 z2)) sz r) 0 0 (va_A ((wcX o0 g0 s0) ++ (wcA cI (g0 3) a1 s1) ++ (wcH cI (g0 8) a2 s2)) sz) := by
  refine q_rwM (cc := cX7_undo) (maxL := 1) (ret := (some .long)) (by decide +kernel) rfl (Nat.le_of_ble_eq_true rfl) ?_
  intro p e s m below meth c hx hb hr hlk hml hown hts hK A H hAe hH hsz hP hD hA hS ls hl
  have hown : s.vm.findClass RX7 = some m.cls := hown
  have hl : lv_has ls 1 [(0, .ref o0)] := hl
  unfold fX7_undo at hf
  refine lv_aload_n hx hb dX7_undo_0 rfl (lv_at hl 0 rfl) ?_
  refine va_get (D := (dC, dI)) (ci := 7) (v := .ref (g0 3)) (C := RX7) (T := TX7) (N := 14) hx hb hts nX7_undo_7 hown hK hP 0 rfl rfl 3 (by decide) (hts _ qX7_undo_1) (fun _ h9 => h9) rfl dX7_undo_1 ?_
  obtain ⟨r1, h2, hf⟩ := q_b1o hf
  refine q_roVi (As := []) (rest := []) (ci := 0) ⟨hx, hb, hml, hown, hts⟩ (kX0_kept l dC dI cI cB cZ (g0 3) a1 s1 r1 h2) (cwV 0 hts gX7_undo_X0_kept rfl rfl rfl hdX0_kept ⟨Nat.le_of_ble_eq_true rfl, Nat.le_of_ble_eq_true rfl⟩) hK (hP.sub [1, 2, 3, 4] rfl) rfl rfl rfl hl.1 rfl (Nat.le_of_ble_eq_true rfl) dX7_undo_4 ⟨Nat.zero_le _, Nat.zero_le _⟩ ?_
  refine lv_if_ne (tgt := 14) hx hb dX7_undo_7 (by decide) (fun c3 => ?_) (fun c3 => ?_)
  · have hf := q_f c3 hf
    refine lv_aload_n hx hb dX7_undo_14 rfl (lv_at hl 0 rfl) ?_
    refine va_get (D := (dC, dI)) (ci := 7) (v := .ref (g0 3)) (C := RX7) (T := TX7) (N := 14) hx hb hts nX7_undo_7 hown hK hP 0 rfl rfl 3 (by decide) (hts _ qX7_undo_1) (fun _ h9 => h9) rfl dX7_undo_15 ?_
    refine lv_aload_n hx hb dX7_undo_18 rfl (lv_at hl 0 rfl) ?_
    refine va_get (D := (dC, dI)) (ci := 7) (v := .ref (g0 8)) (C := RX7) (T := TX7) (N := 14) hx hb hts nX7_undo_7 hown hK hP 0 rfl rfl 8 (by decide) (hts _ qX7_undo_3) (fun _ h9 => h9) rfl dX7_undo_19 ?_
    obtain ⟨sc4, sc5, h6, hf⟩ := q_b2o hf
    refine q_rwVv (As := [.ref (g0 8)]) (rest := []) (ci := 0) (wr := ((wcX o0 g0 s0))) (w2 := ((wcX o0 g0 s0) ++ (wcA cI (g0 3) a1 sc4) ++ (wcH cI (g0 8) a2 sc5))) ⟨hx, hb, hml, hown, hts⟩ (kX0_undoLatest l dC dI cI cB cZ (g0 3) a1 (g0 8) a2 s1 s2 H.size sc4 sc5 h6) (cwV 1 hts gX7_undo_X0_undoLatest rfl rfl rfl hdX0_undoLatest ⟨Nat.le_of_ble_eq_true rfl, Nat.le_of_ble_eq_true rfl⟩) hK hP hD hS hA [1, 2, 3, 4, 5, 6, 7, 8, 9, 10, 11, 12, 13, 14, 15] [0] [0, 1, 2, 3, 4, 5, 6, 7, 8, 9, 10, 11, 12, 13, 14, 15] rfl rfl (by decide) (by decide) (by decide) rfl (by decide) rfl rfl rfl hl.1 rfl (Nat.le_of_ble_eq_true rfl) dX7_undo_22 ⟨Nat.zero_le _, Nat.zero_le _⟩ (fun H locs hP hD hS => ?_)
    refine lv_aload_n hx hb dX7_undo_25 rfl (lv_at hl 0 rfl) ?_
    refine va_get (D := (dC, dI)) (ci := 7) (v := .ref (g0 3)) (C := RX7) (T := TX7) (N := 14) hx hb hts nX7_undo_7 hown hK hP 0 rfl rfl 3 (by decide) (hts _ qX7_undo_1) (fun _ h9 => h9) rfl dX7_undo_26 ?_
    obtain ⟨r7, h8, hf⟩ := q_b1o hf
    refine q_roVi (As := []) (rest := []) (ci := 0) ⟨hx, hb, hml, hown, hts⟩ (kX0_kept l dC dI cI cB cZ (g0 3) a1 sc4 r7 h8) (cwV 0 hts gX7_undo_X0_kept rfl rfl rfl hdX0_kept ⟨Nat.le_of_ble_eq_true rfl, Nat.le_of_ble_eq_true rfl⟩) hK (hP.sub [1, 2, 3, 4] rfl) rfl rfl rfl hl.1 rfl (Nat.le_of_ble_eq_true rfl) dX7_undo_29 ⟨Nat.zero_le _, Nat.zero_le _⟩ ?_
    refine lv_i2l (v := r7.toInt64) hx hb dX7_undo_32 rfl ?_
    obtain ⟨ee0, ee1, ee2⟩ := q_s3 hf
    subst ee1
    subst ee2
    exact q_wretL hx hb hr hlk hAe hK hP hD hS ee0 dX7_undo_33
  · have hf := q_t c3 hf
    refine lv_ldc2 (v := -9000000000000000002) hx hb hown (hts _ qX7_undo_2) dX7_undo_10 ?_
    obtain ⟨ee0, ee1, ee2⟩ := q_s3 hf
    subst ee1
    subst ee2
    exact q_wretL hx hb hr hlk hAe hK hP hD hS ee0 dX7_undo_13
theorem hdX7_grave : yX7_grave.cls = RX7 ∧ yX7_grave.cls ≠ "java/lang/invoke/MethodHandle" ∧ yX7_grave.cls ≠ "java/lang/invoke/VarHandle" ∧ (parseMethodDescriptor yX7_grave.desc).map (fun d => d.parameters.length) = some 2 := by decide +kernel
theorem qX7_grave_1 : (Cond.fieldLink RX7 63 "DeadAsked" "standing" "LDeadAsked$Hill;") ∈ wsX7_grave := List.mem_of_getElem? (i := 1) (by decide +kernel)
theorem qX7_grave_2 : (Cond.constantLong RX7 76 (-9000000000000000001)) ∈ wsX7_grave := List.mem_of_getElem? (i := 2) (by decide +kernel)
theorem qX7_grave_3 : (Cond.fieldLink RX7 184 "DeadAsked$Hill" "graveX" "[I") ∈ wsX7_grave := List.mem_of_getElem? (i := 3) (by decide +kernel)
theorem qX7_grave_4 : (Cond.fieldLink RX7 203 "DeadAsked$Hill" "hears" "[I") ∈ wsX7_grave := List.mem_of_getElem? (i := 4) (by decide +kernel)
theorem qX7_grave_5 : (Cond.fieldLink RX7 206 "DeadAsked$Hill" "temper" "[I") ∈ wsX7_grave := List.mem_of_getElem? (i := 5) (by decide +kernel)
theorem qX7_grave_6 : (Cond.fieldLink RX7 209 "DeadAsked$Hill" "against" "[I") ∈ wsX7_grave := List.mem_of_getElem? (i := 6) (by decide +kernel)
theorem nX7_grave_3 : ∀ w ∈ u_ws RX3 TX3 14, w ∈ wsX7_grave := fun _ h => (List.mem_cons_of_mem _ (List.mem_append_right _ h))
theorem nX7_grave_7 : ∀ w ∈ u_ws RX7 TX7 14, w ∈ wsX7_grave := fun _ h => (List.mem_cons_of_mem _ (List.mem_append_left _ (List.mem_append_right _ h)))
set_option maxHeartbeats 4000000 in
set_option maxRecDepth 100000 in
theorem kX7_grave (o0 : Nat) (g0 : Nat → Nat) (a1 : Nat → Nat) (s0 : St) (s1 : St) (p1 : Int32) (p2 : Int32) (r : Int64) (hf : fX7_grave s1 p1 p2 = some r) : Met l yX7_grave wsX7_grave ({ frames := 3, cells := 0, slots := 0, locals := 68 } : Room) (pcR (dC, dI) (q_ty cI cB cZ) [.ref o0, .int p1, .int p2] ((wcX o0 g0 s0) ++ (wcH cI (g0 8) a1 s1))) (qlR r) 0 0 (fun _ => False) := by
  refine q_roM (cc := cX7_grave) (maxL := 3) (ret := (some .long)) (by decide +kernel) rfl (Nat.le_of_ble_eq_true rfl) ?_
  intro p e s m below meth c hx hb hr hlk hml hown hts hK hP ls hl
  have hown : s.vm.findClass RX7 = some m.cls := hown
  have hl : lv_has ls 3 [(0, .ref o0), (1, .int p1), (2, .int p2)] := hl
  unfold fX7_grave at hf
  refine lv_aload_n hx hb dX7_grave_0 rfl (lv_at hl 0 rfl) ?_
  refine va_get (D := (dC, dI)) (ci := 7) (v := .ref (g0 8)) (C := RX7) (T := TX7) (N := 14) hx hb hts nX7_grave_7 hown hK hP 0 rfl rfl 8 (by decide) (hts _ qX7_grave_1) (fun _ h9 => h9) rfl dX7_grave_1 ?_
  refine lv_iload_n hx hb dX7_grave_4 rfl (lv_at hl 1 rfl) ?_
  obtain ⟨r1, h2, hf⟩ := q_b1o hf
  refine q_roVi (As := [.int p1]) (rest := []) (ci := 3) ⟨hx, hb, hml, hown, hts⟩ (kX3_isGrave l dC dI cI cB cZ (g0 8) a1 s1 p1 r1 h2) (cwV 1 hts gX7_grave_X3_isGrave rfl rfl rfl hdX3_isGrave ⟨Nat.le_of_ble_eq_true rfl, Nat.le_of_ble_eq_true rfl⟩) hK (hP.sub [1, 2, 3, 4, 5, 6, 7, 8, 9, 10, 11] rfl) rfl rfl rfl hl.1 rfl (Nat.le_of_ble_eq_true rfl) dX7_grave_5 ⟨Nat.zero_le _, Nat.zero_le _⟩ ?_
  refine lv_if_ne (tgt := 15) hx hb dX7_grave_8 (by decide) (fun c3 => ?_) (fun c3 => ?_)
  · have hf := q_f c3 hf
    refine lv_iload_n hx hb dX7_grave_15 rfl (lv_at hl 2 rfl) ?_
    by_cases c4 : p2 = (0 : Int32)
    · have hf := q_t c4 hf
      refine lv_tableIn (off := 40) (tgt := 56) hx hb dX7_grave_16 (by rw [c4]; decide) (by rw [c4]; decide) (by rw [c4]; decide) (by decide) ?_
      refine lv_aload_n hx hb dX7_grave_56 rfl (lv_at hl 0 rfl) ?_
      refine va_get (D := (dC, dI)) (ci := 7) (v := .ref (g0 8)) (C := RX7) (T := TX7) (N := 14) hx hb hts nX7_grave_7 hown hK hP 0 rfl rfl 8 (by decide) (hts _ qX7_grave_1) (fun _ h9 => h9) rfl dX7_grave_57 ?_
      refine va_get (D := (dC, dI)) (ci := 3) (v := .ref (a1 1)) (C := RX3) (T := TX3) (N := 14) hx hb hts nX7_grave_3 hown hK hP 1 rfl rfl 1 (by decide) (hts _ qX7_grave_3) (fun _ h9 => h9) rfl dX7_grave_60 ?_
      refine lv_iload_n hx hb dX7_grave_63 rfl (lv_at hl 1 rfl) ?_
      obtain ⟨c5, hf⟩ := q_ck hf
      refine va_iald hx hb hK hP 3 0 rfl rfl c5 dX7_grave_64 ?_
      refine lv_i2l (v := (s1 1 p1.toNatClampNeg).toInt64) hx hb dX7_grave_65 rfl ?_
      have ee0 := q_s1 hf
      exact q_retL hx hb hr hlk ee0 dX7_grave_66
    · have hf := q_f c4 hf
      by_cases c6 : p2 = (1 : Int32)
      · have hf := q_t c6 hf
        refine lv_tableIn (off := 51) (tgt := 67) hx hb dX7_grave_16 (by rw [c6]; decide) (by rw [c6]; decide) (by rw [c6]; decide) (by decide) ?_
        refine lv_aload_n hx hb dX7_grave_67 rfl (lv_at hl 0 rfl) ?_
        refine va_get (D := (dC, dI)) (ci := 7) (v := .ref (g0 8)) (C := RX7) (T := TX7) (N := 14) hx hb hts nX7_grave_7 hown hK hP 0 rfl rfl 8 (by decide) (hts _ qX7_grave_1) (fun _ h9 => h9) rfl dX7_grave_68 ?_
        refine va_get (D := (dC, dI)) (ci := 3) (v := .ref (a1 2)) (C := RX3) (T := TX3) (N := 14) hx hb hts nX7_grave_3 hown hK hP 1 rfl rfl 2 (by decide) (hts _ qX7_grave_4) (fun _ h9 => h9) rfl dX7_grave_71 ?_
        refine lv_iload_n hx hb dX7_grave_74 rfl (lv_at hl 1 rfl) ?_
        obtain ⟨c7, hf⟩ := q_ck hf
        refine va_iald hx hb hK hP 4 0 rfl rfl c7 dX7_grave_75 ?_
        refine lv_i2l (v := (s1 2 p1.toNatClampNeg).toInt64) hx hb dX7_grave_76 rfl ?_
        have ee0 := q_s1 hf
        exact q_retL hx hb hr hlk ee0 dX7_grave_77
      · have hf := q_f c6 hf
        by_cases c8 : p2 = (2 : Int32)
        · have hf := q_t c8 hf
          refine lv_tableIn (off := 62) (tgt := 78) hx hb dX7_grave_16 (by rw [c8]; decide) (by rw [c8]; decide) (by rw [c8]; decide) (by decide) ?_
          refine lv_aload_n hx hb dX7_grave_78 rfl (lv_at hl 0 rfl) ?_
          refine va_get (D := (dC, dI)) (ci := 7) (v := .ref (g0 8)) (C := RX7) (T := TX7) (N := 14) hx hb hts nX7_grave_7 hown hK hP 0 rfl rfl 8 (by decide) (hts _ qX7_grave_1) (fun _ h9 => h9) rfl dX7_grave_79 ?_
          refine va_get (D := (dC, dI)) (ci := 3) (v := .ref (a1 3)) (C := RX3) (T := TX3) (N := 14) hx hb hts nX7_grave_3 hown hK hP 1 rfl rfl 3 (by decide) (hts _ qX7_grave_5) (fun _ h9 => h9) rfl dX7_grave_82 ?_
          refine lv_iload_n hx hb dX7_grave_85 rfl (lv_at hl 1 rfl) ?_
          obtain ⟨c9, hf⟩ := q_ck hf
          refine va_iald hx hb hK hP 5 0 rfl rfl c9 dX7_grave_86 ?_
          refine lv_i2l (v := (s1 3 p1.toNatClampNeg).toInt64) hx hb dX7_grave_87 rfl ?_
          have ee0 := q_s1 hf
          exact q_retL hx hb hr hlk ee0 dX7_grave_88
        · have hf := q_f c8 hf
          by_cases c10 : p2 = (3 : Int32)
          · have hf := q_t c10 hf
            refine lv_tableIn (off := 73) (tgt := 89) hx hb dX7_grave_16 (by rw [c10]; decide) (by rw [c10]; decide) (by rw [c10]; decide) (by decide) ?_
            refine lv_aload_n hx hb dX7_grave_89 rfl (lv_at hl 0 rfl) ?_
            refine va_get (D := (dC, dI)) (ci := 7) (v := .ref (g0 8)) (C := RX7) (T := TX7) (N := 14) hx hb hts nX7_grave_7 hown hK hP 0 rfl rfl 8 (by decide) (hts _ qX7_grave_1) (fun _ h9 => h9) rfl dX7_grave_90 ?_
            refine va_get (D := (dC, dI)) (ci := 3) (v := .ref (a1 4)) (C := RX3) (T := TX3) (N := 14) hx hb hts nX7_grave_3 hown hK hP 1 rfl rfl 4 (by decide) (hts _ qX7_grave_6) (fun _ h9 => h9) rfl dX7_grave_93 ?_
            refine lv_iload_n hx hb dX7_grave_96 rfl (lv_at hl 1 rfl) ?_
            obtain ⟨c11, hf⟩ := q_ck hf
            refine va_iald hx hb hK hP 6 0 rfl rfl c11 dX7_grave_97 ?_
            refine lv_i2l (v := (s1 4 p1.toNatClampNeg).toInt64) hx hb dX7_grave_98 rfl ?_
            have ee0 := q_s1 hf
            exact q_retL hx hb hr hlk ee0 dX7_grave_99
          · have hf := q_f c10 hf
            by_cases c12 : p2 = (4 : Int32)
            · have hf := q_t c12 hf
              refine lv_tableIn (off := 84) (tgt := 100) hx hb dX7_grave_16 (by rw [c12]; decide) (by rw [c12]; decide) (by rw [c12]; decide) (by decide) ?_
              refine lv_aload_n hx hb dX7_grave_100 rfl (lv_at hl 0 rfl) ?_
              refine va_get (D := (dC, dI)) (ci := 7) (v := .ref (g0 8)) (C := RX7) (T := TX7) (N := 14) hx hb hts nX7_grave_7 hown hK hP 0 rfl rfl 8 (by decide) (hts _ qX7_grave_1) (fun _ h9 => h9) rfl dX7_grave_101 ?_
              refine lv_iload_n hx hb dX7_grave_104 rfl (lv_at hl 1 rfl) ?_
              refine lv_iconst (v := 0) hx hb dX7_grave_105 (by decide) ?_
              obtain ⟨r13, h14, hf⟩ := q_b1o hf
              refine q_roVi (As := [.int p1, .int (0 : Int32)]) (rest := []) (ci := 3) ⟨hx, hb, hml, hown, hts⟩ (kX3_treeOf l dC dI cI cB cZ (g0 8) a1 s1 p1 (0 : Int32) r13 h14) (cwV 2 hts gX7_grave_X3_treeOf rfl rfl rfl hdX3_treeOf ⟨Nat.le_of_ble_eq_true rfl, Nat.le_of_ble_eq_true rfl⟩) hK (hP.sub [1, 2, 3, 4, 5, 6, 7, 8, 9, 10, 11] rfl) rfl rfl rfl hl.1 rfl (Nat.le_of_ble_eq_true rfl) dX7_grave_106 ⟨Nat.zero_le _, Nat.zero_le _⟩ ?_
              refine lv_i2l (v := r13.toInt64) hx hb dX7_grave_109 rfl ?_
              have ee0 := q_s1 hf
              exact q_retL hx hb hr hlk ee0 dX7_grave_110
            · have hf := q_f c12 hf
              by_cases c15 : p2 = (5 : Int32)
              · have hf := q_t c15 hf
                refine lv_tableIn (off := 95) (tgt := 111) hx hb dX7_grave_16 (by rw [c15]; decide) (by rw [c15]; decide) (by rw [c15]; decide) (by decide) ?_
                refine lv_aload_n hx hb dX7_grave_111 rfl (lv_at hl 0 rfl) ?_
                refine va_get (D := (dC, dI)) (ci := 7) (v := .ref (g0 8)) (C := RX7) (T := TX7) (N := 14) hx hb hts nX7_grave_7 hown hK hP 0 rfl rfl 8 (by decide) (hts _ qX7_grave_1) (fun _ h9 => h9) rfl dX7_grave_112 ?_
                refine lv_iload_n hx hb dX7_grave_115 rfl (lv_at hl 1 rfl) ?_
                obtain ⟨r16, h17, hf⟩ := q_b1o hf
                refine q_roVi (As := [.int p1]) (rest := []) (ci := 3) ⟨hx, hb, hml, hown, hts⟩ (kX3_hornsHeardBy l dC dI cI cB cZ (g0 8) a1 s1 p1 r16 h17) (cwV 1 hts gX7_grave_X3_hornsHeardBy rfl rfl rfl hdX3_hornsHeardBy ⟨Nat.le_of_ble_eq_true rfl, Nat.le_of_ble_eq_true rfl⟩) hK (hP.sub [1, 2, 3, 4, 5, 6, 7, 8, 9, 10, 11] rfl) rfl rfl rfl hl.1 rfl (Nat.le_of_ble_eq_true rfl) dX7_grave_116 ⟨Nat.zero_le _, Nat.zero_le _⟩ ?_
                refine lv_i2l (v := r16.toInt64) hx hb dX7_grave_119 rfl ?_
                have ee0 := q_s1 hf
                exact q_retL hx hb hr hlk ee0 dX7_grave_120
              · have hf := q_f c15 hf
                refine lv_tableOut (tgt := 121) hx hb dX7_grave_16 (q_tso (x := p2) (lo := 0) (n := 6) (by intro k hk; match k, hk with | 0, _ => exact c4 | 1, _ => exact c6 | 2, _ => exact c8 | 3, _ => exact c10 | 4, _ => exact c12 | 5, _ => exact c15 | k + 6, hk => exact absurd hk (by omega)) (by decide)) (by decide) ?_
                refine lv_ldc2 (v := -9000000000000000001) hx hb hown (hts _ qX7_grave_2) dX7_grave_121 ?_
                have ee0 := q_s1 hf
                exact q_retL hx hb hr hlk ee0 dX7_grave_124
  · have hf := q_t c3 hf
    refine lv_ldc2 (v := -9000000000000000001) hx hb hown (hts _ qX7_grave_2) dX7_grave_11 ?_
    have ee0 := q_s1 hf
    exact q_retL hx hb hr hlk ee0 dX7_grave_14
theorem hdX7_tree : yX7_tree.cls = RX7 ∧ yX7_tree.cls ≠ "java/lang/invoke/MethodHandle" ∧ yX7_tree.cls ≠ "java/lang/invoke/VarHandle" ∧ (parseMethodDescriptor yX7_tree.desc).map (fun d => d.parameters.length) = some 2 := by decide +kernel
theorem qX7_tree_1 : (Cond.fieldLink RX7 63 "DeadAsked" "standing" "LDeadAsked$Hill;") ∈ wsX7_tree := List.mem_of_getElem? (i := 1) (by decide +kernel)
theorem qX7_tree_2 : (Cond.constantLong RX7 76 (-9000000000000000001)) ∈ wsX7_tree := List.mem_of_getElem? (i := 2) (by decide +kernel)
theorem qX7_tree_3 : (Cond.fieldLink RX7 219 "DeadAsked$Hill" "treeX" "[I") ∈ wsX7_tree := List.mem_of_getElem? (i := 3) (by decide +kernel)
theorem qX7_tree_4 : (Cond.fieldLink RX7 177 "DeadAsked$Hill" "fruit" "[I") ∈ wsX7_tree := List.mem_of_getElem? (i := 4) (by decide +kernel)
theorem nX7_tree_3 : ∀ w ∈ u_ws RX3 TX3 14, w ∈ wsX7_tree := fun _ h => (List.mem_cons_of_mem _ (List.mem_append_right _ h))
theorem nX7_tree_7 : ∀ w ∈ u_ws RX7 TX7 14, w ∈ wsX7_tree := fun _ h => (List.mem_cons_of_mem _ (List.mem_append_left _ (List.mem_append_right _ h)))
set_option maxHeartbeats 4000000 in
set_option maxRecDepth 100000 in
theorem kX7_tree (o0 : Nat) (g0 : Nat → Nat) (a1 : Nat → Nat) (s0 : St) (s1 : St) (p1 : Int32) (p2 : Int32) (r : Int64) (hf : fX7_tree s1 p1 p2 = some r) : Met l yX7_tree wsX7_tree ({ frames := 4, cells := 0, slots := 0, locals := 91 } : Room) (pcR (dC, dI) (q_ty cI cB cZ) [.ref o0, .int p1, .int p2] ((wcX o0 g0 s0) ++ (wcH cI (g0 8) a1 s1))) (qlR r) 0 0 (fun _ => False) := by
  refine q_roM (cc := cX7_tree) (maxL := 3) (ret := (some .long)) (by decide +kernel) rfl (Nat.le_of_ble_eq_true rfl) ?_
  intro p e s m below meth c hx hb hr hlk hml hown hts hK hP ls hl
  have hown : s.vm.findClass RX7 = some m.cls := hown
  have hl : lv_has ls 3 [(0, .ref o0), (1, .int p1), (2, .int p2)] := hl
  unfold fX7_tree at hf
  refine lv_aload_n hx hb dX7_tree_0 rfl (lv_at hl 0 rfl) ?_
  refine va_get (D := (dC, dI)) (ci := 7) (v := .ref (g0 8)) (C := RX7) (T := TX7) (N := 14) hx hb hts nX7_tree_7 hown hK hP 0 rfl rfl 8 (by decide) (hts _ qX7_tree_1) (fun _ h9 => h9) rfl dX7_tree_1 ?_
  refine lv_iload_n hx hb dX7_tree_4 rfl (lv_at hl 1 rfl) ?_
  obtain ⟨r1, h2, hf⟩ := q_b1o hf
  refine q_roVi (As := [.int p1]) (rest := []) (ci := 3) ⟨hx, hb, hml, hown, hts⟩ (kX3_isTree l dC dI cI cB cZ (g0 8) a1 s1 p1 r1 h2) (cwV 1 hts gX7_tree_X3_isTree rfl rfl rfl hdX3_isTree ⟨Nat.le_of_ble_eq_true rfl, Nat.le_of_ble_eq_true rfl⟩) hK (hP.sub [1, 2, 3, 4, 5, 6, 7, 8, 9, 10, 11] rfl) rfl rfl rfl hl.1 rfl (Nat.le_of_ble_eq_true rfl) dX7_tree_5 ⟨Nat.zero_le _, Nat.zero_le _⟩ ?_
  refine lv_if_ne (tgt := 15) hx hb dX7_tree_8 (by decide) (fun c3 => ?_) (fun c3 => ?_)
  · have hf := q_f c3 hf
    refine lv_iload_n hx hb dX7_tree_15 rfl (lv_at hl 2 rfl) ?_
    by_cases c4 : p2 = (0 : Int32)
    · have hf := q_t c4 hf
      refine lv_tableIn (off := 32) (tgt := 48) hx hb dX7_tree_16 (by rw [c4]; decide) (by rw [c4]; decide) (by rw [c4]; decide) (by decide) ?_
      refine lv_aload_n hx hb dX7_tree_48 rfl (lv_at hl 0 rfl) ?_
      refine va_get (D := (dC, dI)) (ci := 7) (v := .ref (g0 8)) (C := RX7) (T := TX7) (N := 14) hx hb hts nX7_tree_7 hown hK hP 0 rfl rfl 8 (by decide) (hts _ qX7_tree_1) (fun _ h9 => h9) rfl dX7_tree_49 ?_
      refine va_get (D := (dC, dI)) (ci := 3) (v := .ref (a1 8)) (C := RX3) (T := TX3) (N := 14) hx hb hts nX7_tree_3 hown hK hP 1 rfl rfl 8 (by decide) (hts _ qX7_tree_3) (fun _ h9 => h9) rfl dX7_tree_52 ?_
      refine lv_iload_n hx hb dX7_tree_55 rfl (lv_at hl 1 rfl) ?_
      obtain ⟨c5, hf⟩ := q_ck hf
      refine va_iald hx hb hK hP 10 0 rfl rfl c5 dX7_tree_56 ?_
      refine lv_i2l (v := (s1 8 p1.toNatClampNeg).toInt64) hx hb dX7_tree_57 rfl ?_
      have ee0 := q_s1 hf
      exact q_retL hx hb hr hlk ee0 dX7_tree_58
    · have hf := q_f c4 hf
      by_cases c6 : p2 = (1 : Int32)
      · have hf := q_t c6 hf
        refine lv_tableIn (off := 43) (tgt := 59) hx hb dX7_tree_16 (by rw [c6]; decide) (by rw [c6]; decide) (by rw [c6]; decide) (by decide) ?_
        refine lv_aload_n hx hb dX7_tree_59 rfl (lv_at hl 0 rfl) ?_
        refine va_get (D := (dC, dI)) (ci := 7) (v := .ref (g0 8)) (C := RX7) (T := TX7) (N := 14) hx hb hts nX7_tree_7 hown hK hP 0 rfl rfl 8 (by decide) (hts _ qX7_tree_1) (fun _ h9 => h9) rfl dX7_tree_60 ?_
        refine va_get (D := (dC, dI)) (ci := 3) (v := .ref (a1 9)) (C := RX3) (T := TX3) (N := 14) hx hb hts nX7_tree_3 hown hK hP 1 rfl rfl 9 (by decide) (hts _ qX7_tree_4) (fun _ h9 => h9) rfl dX7_tree_63 ?_
        refine lv_iload_n hx hb dX7_tree_66 rfl (lv_at hl 1 rfl) ?_
        obtain ⟨c7, hf⟩ := q_ck hf
        refine va_iald hx hb hK hP 11 0 rfl rfl c7 dX7_tree_67 ?_
        refine lv_i2l (v := (s1 9 p1.toNatClampNeg).toInt64) hx hb dX7_tree_68 rfl ?_
        have ee0 := q_s1 hf
        exact q_retL hx hb hr hlk ee0 dX7_tree_69
      · have hf := q_f c6 hf
        by_cases c8 : p2 = (2 : Int32)
        · have hf := q_t c8 hf
          refine lv_tableIn (off := 54) (tgt := 70) hx hb dX7_tree_16 (by rw [c8]; decide) (by rw [c8]; decide) (by rw [c8]; decide) (by decide) ?_
          refine lv_aload_n hx hb dX7_tree_70 rfl (lv_at hl 0 rfl) ?_
          refine va_get (D := (dC, dI)) (ci := 7) (v := .ref (g0 8)) (C := RX7) (T := TX7) (N := 14) hx hb hts nX7_tree_7 hown hK hP 0 rfl rfl 8 (by decide) (hts _ qX7_tree_1) (fun _ h9 => h9) rfl dX7_tree_71 ?_
          refine lv_iload_n hx hb dX7_tree_74 rfl (lv_at hl 1 rfl) ?_
          obtain ⟨r9, h10, hf⟩ := q_b1o hf
          refine q_roVi (As := [.int p1]) (rest := []) (ci := 3) ⟨hx, hb, hml, hown, hts⟩ (kX3_loose l dC dI cI cB cZ (g0 8) a1 s1 p1 r9 h10) (cwV 1 hts gX7_tree_X3_loose rfl rfl rfl hdX3_loose ⟨Nat.le_of_ble_eq_true rfl, Nat.le_of_ble_eq_true rfl⟩) hK (hP.sub [1, 2, 3, 4, 5, 6, 7, 8, 9, 10, 11] rfl) rfl rfl rfl hl.1 rfl (Nat.le_of_ble_eq_true rfl) dX7_tree_75 ⟨Nat.zero_le _, Nat.zero_le _⟩ ?_
          refine lv_i2l (v := r9.toInt64) hx hb dX7_tree_78 rfl ?_
          have ee0 := q_s1 hf
          exact q_retL hx hb hr hlk ee0 dX7_tree_79
        · have hf := q_f c8 hf
          by_cases c11 : p2 = (3 : Int32)
          · have hf := q_t c11 hf
            refine lv_tableIn (off := 64) (tgt := 80) hx hb dX7_tree_16 (by rw [c11]; decide) (by rw [c11]; decide) (by rw [c11]; decide) (by decide) ?_
            refine lv_aload_n hx hb dX7_tree_80 rfl (lv_at hl 0 rfl) ?_
            refine va_get (D := (dC, dI)) (ci := 7) (v := .ref (g0 8)) (C := RX7) (T := TX7) (N := 14) hx hb hts nX7_tree_7 hown hK hP 0 rfl rfl 8 (by decide) (hts _ qX7_tree_1) (fun _ h9 => h9) rfl dX7_tree_81 ?_
            refine lv_iload_n hx hb dX7_tree_84 rfl (lv_at hl 1 rfl) ?_
            obtain ⟨r12, h13, hf⟩ := q_b1o hf
            refine q_roVi (As := [.int p1]) (rest := []) (ci := 3) ⟨hx, hb, hml, hown, hts⟩ (kX3_gravesOf l dC dI cI cB cZ (g0 8) a1 s1 p1 r12 h13) (cwV 1 hts gX7_tree_X3_gravesOf rfl rfl rfl hdX3_gravesOf ⟨Nat.le_of_ble_eq_true rfl, Nat.le_of_ble_eq_true rfl⟩) hK (hP.sub [1, 2, 3, 4, 5, 6, 7, 8, 9, 10, 11] rfl) rfl rfl rfl hl.1 rfl (Nat.le_of_ble_eq_true rfl) dX7_tree_85 ⟨Nat.zero_le _, Nat.zero_le _⟩ ?_
            refine lv_i2l (v := r12.toInt64) hx hb dX7_tree_88 rfl ?_
            have ee0 := q_s1 hf
            exact q_retL hx hb hr hlk ee0 dX7_tree_89
          · have hf := q_f c11 hf
            refine lv_tableOut (tgt := 90) hx hb dX7_tree_16 (q_tso (x := p2) (lo := 0) (n := 4) (by intro k hk; match k, hk with | 0, _ => exact c4 | 1, _ => exact c6 | 2, _ => exact c8 | 3, _ => exact c11 | k + 4, hk => exact absurd hk (by omega)) (by decide)) (by decide) ?_
            refine lv_ldc2 (v := -9000000000000000001) hx hb hown (hts _ qX7_tree_2) dX7_tree_90 ?_
            have ee0 := q_s1 hf
            exact q_retL hx hb hr hlk ee0 dX7_tree_93
  · have hf := q_t c3 hf
    refine lv_ldc2 (v := -9000000000000000001) hx hb hown (hts _ qX7_tree_2) dX7_tree_11 ?_
    have ee0 := q_s1 hf
    exact q_retL hx hb hr hlk ee0 dX7_tree_14
theorem hdX7_minds : yX7_minds.cls = RX7 ∧ yX7_minds.cls ≠ "java/lang/invoke/MethodHandle" ∧ yX7_minds.cls ≠ "java/lang/invoke/VarHandle" ∧ (parseMethodDescriptor yX7_minds.desc).map (fun d => d.parameters.length) = some 2 := by decide +kernel
theorem qX7_minds_1 : (Cond.fieldLink RX7 145 "DeadAsked" "hasHill" "Z") ∈ wsX7_minds := List.mem_of_getElem? (i := 1) (by decide +kernel)
theorem qX7_minds_2 : (Cond.constantLong RX7 155 (-9000000000000000002)) ∈ wsX7_minds := List.mem_of_getElem? (i := 2) (by decide +kernel)
theorem qX7_minds_3 : (Cond.constantLong RX7 76 (-9000000000000000001)) ∈ wsX7_minds := List.mem_of_getElem? (i := 3) (by decide +kernel)
theorem qX7_minds_4 : (Cond.fieldLink RX7 63 "DeadAsked" "standing" "LDeadAsked$Hill;") ∈ wsX7_minds := List.mem_of_getElem? (i := 4) (by decide +kernel)
theorem nX7_minds_7 : ∀ w ∈ u_ws RX7 TX7 14, w ∈ wsX7_minds := fun _ h => (List.mem_cons_of_mem _ (List.mem_append_left _ (List.mem_append_right _ h)))
set_option maxHeartbeats 4000000 in
set_option maxRecDepth 100000 in
theorem kX7_minds (o0 : Nat) (g0 : Nat → Nat) (a1 : Nat → Nat) (s0 : St) (s1 : St) (p1 : Int32) (p2 : Int32) (r : Int64) (hf : fX7_minds s0 s1 p1 p2 = some r) : Met l yX7_minds wsX7_minds ({ frames := 4, cells := 0, slots := 0, locals := 93 } : Room) (pcR (dC, dI) (q_ty cI cB cZ) [.ref o0, .int p1, .int p2] ((wcX o0 g0 s0) ++ (wcH cI (g0 8) a1 s1))) (qlR r) 0 0 (fun _ => False) := by
  refine q_roM (cc := cX7_minds) (maxL := 3) (ret := (some .long)) (by decide +kernel) rfl (Nat.le_of_ble_eq_true rfl) ?_
  intro p e s m below meth c hx hb hr hlk hml hown hts hK hP ls hl
  have hown : s.vm.findClass RX7 = some m.cls := hown
  have hl : lv_has ls 3 [(0, .ref o0), (1, .int p1), (2, .int p2)] := hl
  unfold fX7_minds at hf
  refine lv_aload_n hx hb dX7_minds_0 rfl (lv_at hl 0 rfl) ?_
  refine va_get (D := (dC, dI)) (ci := 7) (v := .int (s0 10 0)) (C := RX7) (T := TX7) (N := 14) hx hb hts nX7_minds_7 hown hK hP 0 rfl rfl 10 (by decide) (hts _ qX7_minds_1) (fun _ h9 => h9) rfl dX7_minds_1 ?_
  refine lv_if_ne (tgt := 11) hx hb dX7_minds_4 (by decide) (fun c1 => ?_) (fun c1 => ?_)
  · have hf := q_f c1 hf
    refine lv_iload_n hx hb dX7_minds_11 rfl (lv_at hl 1 rfl) ?_
    obtain ⟨r2, h3, hf⟩ := q_b1o hf
    refine q_roSi (As := [.int p1]) (rest := []) ⟨hx, hb, hml, hown, hts⟩ (kX7_isMatter l p1 r2 h3) (va_cwS 1 hts gX7_minds_X7_isMatter rfl rfl rfl hdX7_isMatter ⟨Nat.le_of_ble_eq_true rfl, Nat.le_of_ble_eq_true rfl⟩) rfl hl.1 rfl (Nat.le_of_ble_eq_true rfl) dX7_minds_12 ⟨Nat.zero_le _, Nat.zero_le _⟩ ?_
    refine lv_if_eq (tgt := 25) hx hb dX7_minds_15 (by decide) (fun c4 => ?_) (fun c4 => ?_)
    · have hf := q_t c4 hf
      refine lv_ldc2 (v := -9000000000000000001) hx hb hown (hts _ qX7_minds_3) dX7_minds_25 ?_
      have ee0 := q_s1 hf
      exact q_retL hx hb hr hlk ee0 dX7_minds_28
    · have hf := q_f c4 hf
      refine lv_iload_n hx hb dX7_minds_18 rfl (lv_at hl 2 rfl) ?_
      obtain ⟨r5, h6, hf⟩ := q_b1o hf
      refine q_roSi (As := [.int p2]) (rest := []) ⟨hx, hb, hml, hown, hts⟩ (kX7_isHorns l p2 r5 h6) (va_cwS 1 hts gX7_minds_X7_isHorns rfl rfl rfl hdX7_isHorns ⟨Nat.le_of_ble_eq_true rfl, Nat.le_of_ble_eq_true rfl⟩) rfl hl.1 rfl (Nat.le_of_ble_eq_true rfl) dX7_minds_19 ⟨Nat.zero_le _, Nat.zero_le _⟩ ?_
      refine lv_if_ne (tgt := 29) hx hb dX7_minds_22 (by decide) (fun c7 => ?_) (fun c7 => ?_)
      · have hf := q_f c7 hf
        refine lv_aload_n hx hb dX7_minds_29 rfl (lv_at hl 0 rfl) ?_
        refine va_get (D := (dC, dI)) (ci := 7) (v := .ref (g0 8)) (C := RX7) (T := TX7) (N := 14) hx hb hts nX7_minds_7 hown hK hP 0 rfl rfl 8 (by decide) (hts _ qX7_minds_4) (fun _ h9 => h9) rfl dX7_minds_30 ?_
        refine lv_iload_n hx hb dX7_minds_33 rfl (lv_at hl 1 rfl) ?_
        refine lv_iload_n hx hb dX7_minds_34 rfl (lv_at hl 2 rfl) ?_
        refine lv_iconst (v := 0) hx hb dX7_minds_35 (by decide) ?_
        obtain ⟨r8, h9, hf⟩ := q_b1o hf
        refine q_roVi (As := [.int p1, .int p2, .int (0 : Int32)]) (rest := []) (ci := 3) ⟨hx, hb, hml, hown, hts⟩ (kX3_minding l dC dI cI cB cZ (g0 8) a1 s1 p1 p2 (0 : Int32) r8 h9) (cwV 3 hts gX7_minds_X3_minding rfl rfl rfl hdX3_minding ⟨Nat.le_of_ble_eq_true rfl, Nat.le_of_ble_eq_true rfl⟩) hK (hP.sub [1, 2, 3, 4, 5, 6, 7, 8, 9, 10, 11] rfl) rfl rfl rfl hl.1 rfl (Nat.le_of_ble_eq_true rfl) dX7_minds_36 ⟨Nat.zero_le _, Nat.zero_le _⟩ ?_
        refine lv_i2l (v := r8.toInt64) hx hb dX7_minds_39 rfl ?_
        have ee0 := q_s1 hf
        exact q_retL hx hb hr hlk ee0 dX7_minds_40
      · have hf := q_t c7 hf
        refine lv_ldc2 (v := -9000000000000000001) hx hb hown (hts _ qX7_minds_3) dX7_minds_25 ?_
        have ee0 := q_s1 hf
        exact q_retL hx hb hr hlk ee0 dX7_minds_28
  · have hf := q_t c1 hf
    refine lv_ldc2 (v := -9000000000000000002) hx hb hown (hts _ qX7_minds_2) dX7_minds_7 ?_
    have ee0 := q_s1 hf
    exact q_retL hx hb hr hlk ee0 dX7_minds_10
theorem hdX7_isPart : yX7_isPart.cls ≠ "java/lang/invoke/MethodHandle" ∧ yX7_isPart.cls ≠ "java/lang/invoke/VarHandle" ∧ (parseMethodDescriptor yX7_isPart.desc).map (fun d => d.parameters.length) = some 1 := by decide +kernel
set_option maxHeartbeats 4000000 in
set_option maxRecDepth 100000 in
theorem kX7_isPart (p0 : Int32) (r : Int32) (hf : fX7_isPart p0 = some r) : Met l yX7_isPart wsX7_isPart ({ frames := 0, cells := 0, slots := 0, locals := 0 } : Room) (pcS [.int p0]) (qiR r) 0 0 (fun _ => False) := by
  refine q_roS (cc := cX7_isPart) (maxL := 1) (ret := (some .boolean)) (by decide +kernel) rfl (Nat.le_of_ble_eq_true rfl) ?_
  intro p e s m below meth c hx hb hr hlk hml hown hts ls hl
  have hown : s.vm.findClass RX7 = some m.cls := hown
  have hl : lv_has ls 1 [(0, .int p0)] := hl
  unfold fX7_isPart at hf
  refine lv_iload_n hx hb dX7_isPart_0 rfl (lv_at hl 0 rfl) ?_
  refine lv_if_eq (tgt := 9) hx hb dX7_isPart_1 (by decide) (fun c1 => ?_) (fun c1 => ?_)
  · have hf := q_t c1 hf
    refine lv_iconst (v := 1) hx hb dX7_isPart_9 (by decide) ?_
    refine lv_goto (tgt := 14) hx hb dX7_isPart_10 (by decide) ?_
    have ee0 := q_s1 hf
    exact q_retZ hx hb hr hlk rfl ee0 dX7_isPart_14
  · have hf := q_f c1 hf
    refine lv_iload_n hx hb dX7_isPart_4 rfl (lv_at hl 0 rfl) ?_
    refine lv_iconst (v := 1) hx hb dX7_isPart_5 (by decide) ?_
    refine lv_icmp_ne (tgt := 13) hx hb dX7_isPart_6 (by decide) (fun c2 => ?_) (fun c2 => ?_)
    · have hf := q_f c2 hf
      refine lv_iconst (v := 0) hx hb dX7_isPart_13 (by decide) ?_
      have ee0 := q_s1 hf
      exact q_retZ hx hb hr hlk rfl ee0 dX7_isPart_14
    · have hf := q_t c2 hf
      refine lv_iconst (v := 1) hx hb dX7_isPart_9 (by decide) ?_
      refine lv_goto (tgt := 14) hx hb dX7_isPart_10 (by decide) ?_
      have ee0 := q_s1 hf
      exact q_retZ hx hb hr hlk rfl ee0 dX7_isPart_14
theorem hdX7_odds : yX7_odds.cls = RX7 ∧ yX7_odds.cls ≠ "java/lang/invoke/MethodHandle" ∧ yX7_odds.cls ≠ "java/lang/invoke/VarHandle" ∧ (parseMethodDescriptor yX7_odds.desc).map (fun d => d.parameters.length) = some 4 := by decide +kernel
theorem qX7_odds_1 : (Cond.fieldLink RX7 145 "DeadAsked" "hasHill" "Z") ∈ wsX7_odds := List.mem_of_getElem? (i := 1) (by decide +kernel)
theorem qX7_odds_2 : (Cond.constantLong RX7 155 (-9000000000000000002)) ∈ wsX7_odds := List.mem_of_getElem? (i := 2) (by decide +kernel)
theorem qX7_odds_3 : (Cond.constantLong RX7 76 (-9000000000000000001)) ∈ wsX7_odds := List.mem_of_getElem? (i := 3) (by decide +kernel)
theorem qX7_odds_4 : (Cond.fieldLink RX7 63 "DeadAsked" "standing" "LDeadAsked$Hill;") ∈ wsX7_odds := List.mem_of_getElem? (i := 4) (by decide +kernel)
theorem qX7_odds_5 : (Cond.fieldLink RX7 49 "DeadAsked" "fraction" "LDeadAsked$Fraction;") ∈ wsX7_odds := List.mem_of_getElem? (i := 5) (by decide +kernel)
theorem qX7_odds_6 : (Cond.constantLong RX7 241 1000000000) ∈ wsX7_odds := List.mem_of_getElem? (i := 6) (by decide +kernel)
theorem nX7_odds_7 : ∀ w ∈ u_ws RX7 TX7 14, w ∈ wsX7_odds := fun _ h => (List.mem_cons_of_mem _ (List.mem_append_left _ (List.mem_append_left _ (List.mem_append_right _ h))))
set_option maxHeartbeats 4000000 in
set_option maxRecDepth 100000 in
theorem kX7_odds (o0 : Nat) (g0 : Nat → Nat) (a1 : Nat → Nat) (s0 : St) (s1 : St) (t2 : Lt) (p1 : Int32) (p2 : Int32) (p3 : Int32) (p4 : Int32) (sz : Nat) (r : Int64) (y2 : Lt) (hf : fX7_odds s0 s1 t2 p1 p2 p3 p4 = some (r, y2)) : Met l yX7_odds wsX7_odds ({ frames := 4, cells := 0, slots := 0, locals := 93 } : Room) (pcW (dC, dI) (q_ty cI cB cZ) [.ref o0, .int p1, .int p2, .int p3, .int p4] ((wcX o0 g0 s0) ++ (wcH cI (g0 8) a1 s1) ++ (wcF (g0 5) t2)) sz) (qlW (dC, dI) (q_ty cI cB cZ) ((wcX o0 g0 s0) ++ (wcH cI (g0 8) a1 s1) ++ (wcF (g0 5) t2)) ((wcX o0 g0 s0) ++ (wcH cI (g0 8) a1 s1) ++ (wcF (g0 5) y2)) sz r) 0 0 (va_A ((wcX o0 g0 s0) ++ (wcH cI (g0 8) a1 s1) ++ (wcF (g0 5) t2)) sz) := by
  refine q_rwM (cc := cX7_odds) (maxL := 6) (ret := (some .long)) (by decide +kernel) rfl (Nat.le_of_ble_eq_true rfl) ?_
  intro p e s m below meth c hx hb hr hlk hml hown hts hK A H hAe hH hsz hP hD hA hS ls hl
  have hown : s.vm.findClass RX7 = some m.cls := hown
  have hl : lv_has ls 6 [(0, .ref o0), (1, .int p1), (2, .int p2), (3, .int p3), (4, .int p4)] := hl
  unfold fX7_odds at hf
  refine lv_aload_n hx hb dX7_odds_0 rfl (lv_at hl 0 rfl) ?_
  refine va_get (D := (dC, dI)) (ci := 7) (v := .int (s0 10 0)) (C := RX7) (T := TX7) (N := 14) hx hb hts nX7_odds_7 hown hK hP 0 rfl rfl 10 (by decide) (hts _ qX7_odds_1) (fun _ h9 => h9) rfl dX7_odds_1 ?_
  refine lv_if_ne (tgt := 11) hx hb dX7_odds_4 (by decide) (fun c1 => ?_) (fun c1 => ?_)
  · have hf := q_f c1 hf
    refine lv_iload_n hx hb dX7_odds_11 rfl (lv_at hl 1 rfl) ?_
    refine lv_iload_n hx hb dX7_odds_12 rfl (lv_at hl 2 rfl) ?_
    refine lv_iload_n hx hb dX7_odds_13 rfl (lv_at hl 3 rfl) ?_
    obtain ⟨r2, h3, hf⟩ := q_b1o hf
    refine q_roSi (As := [.int p1, .int p2, .int p3]) (rest := []) ⟨hx, hb, hml, hown, hts⟩ (kX7_isAsked l p1 p2 p3 r2 h3) (va_cwS 3 hts gX7_odds_X7_isAsked rfl rfl rfl hdX7_isAsked ⟨Nat.le_of_ble_eq_true rfl, Nat.le_of_ble_eq_true rfl⟩) rfl hl.1 rfl (Nat.le_of_ble_eq_true rfl) dX7_odds_14 ⟨Nat.zero_le _, Nat.zero_le _⟩ ?_
    refine lv_if_eq (tgt := 28) hx hb dX7_odds_17 (by decide) (fun c4 => ?_) (fun c4 => ?_)
    · have hf := q_t c4 hf
      refine lv_ldc2 (v := -9000000000000000001) hx hb hown (hts _ qX7_odds_3) dX7_odds_28 ?_
      obtain ⟨ee0, ee1⟩ := q_s2 hf
      subst ee1
      exact q_wretL hx hb hr hlk hAe hK hP hD hS ee0 dX7_odds_31
    · have hf := q_f c4 hf
      refine lv_iload hx hb dX7_odds_20 (lv_at hl 4 rfl) ?_
      obtain ⟨r5, h6, hf⟩ := q_b1o hf
      refine q_roSi (As := [.int p4]) (rest := []) ⟨hx, hb, hml, hown, hts⟩ (kX7_isPart l p4 r5 h6) (va_cwS 1 hts gX7_odds_X7_isPart rfl rfl rfl hdX7_isPart ⟨Nat.le_of_ble_eq_true rfl, Nat.le_of_ble_eq_true rfl⟩) rfl hl.1 rfl (Nat.le_of_ble_eq_true rfl) dX7_odds_22 ⟨Nat.zero_le _, Nat.zero_le _⟩ ?_
      refine lv_if_ne (tgt := 32) hx hb dX7_odds_25 (by decide) (fun c7 => ?_) (fun c7 => ?_)
      · have hf := q_f c7 hf
        refine lv_aload_n hx hb dX7_odds_32 rfl (lv_at hl 0 rfl) ?_
        refine va_get (D := (dC, dI)) (ci := 7) (v := .ref (g0 8)) (C := RX7) (T := TX7) (N := 14) hx hb hts nX7_odds_7 hown hK hP 0 rfl rfl 8 (by decide) (hts _ qX7_odds_4) (fun _ h9 => h9) rfl dX7_odds_33 ?_
        refine lv_iload_n hx hb dX7_odds_36 rfl (lv_at hl 1 rfl) ?_
        refine lv_iload_n hx hb dX7_odds_37 rfl (lv_at hl 2 rfl) ?_
        refine lv_iconst (v := 0) hx hb dX7_odds_38 (by decide) ?_
        obtain ⟨r8, h9, hf⟩ := q_b1o hf
        refine q_roVi (As := [.int p1, .int p2, .int (0 : Int32)]) (rest := []) (ci := 3) ⟨hx, hb, hml, hown, hts⟩ (kX3_minding l dC dI cI cB cZ (g0 8) a1 s1 p1 p2 (0 : Int32) r8 h9) (cwV 3 hts gX7_odds_X3_minding rfl rfl rfl hdX3_minding ⟨Nat.le_of_ble_eq_true rfl, Nat.le_of_ble_eq_true rfl⟩) hK (hP.sub [1, 2, 3, 4, 5, 6, 7, 8, 9, 10, 11] rfl) rfl rfl rfl hl.1 rfl (Nat.le_of_ble_eq_true rfl) dX7_odds_39 ⟨Nat.zero_le _, Nat.zero_le _⟩ ?_
        refine lv_istore (lv' := [(5, .int r8), (0, .ref o0), (1, .int p1), (2, .int p2), (3, .int p3), (4, .int p4)]) hx hb dX7_odds_42 hl (by decide) rfl (fun ls hl => ?_)
        refine lv_aload_n hx hb dX7_odds_44 rfl (lv_at hl 1 rfl) ?_
        refine va_get (D := (dC, dI)) (ci := 7) (v := .ref (g0 5)) (C := RX7) (T := TX7) (N := 14) hx hb hts nX7_odds_7 hown hK hP 0 rfl rfl 5 (by decide) (hts _ qX7_odds_5) (fun _ h9 => h9) rfl dX7_odds_45 ?_
        refine lv_aload_n hx hb dX7_odds_48 rfl (lv_at hl 1 rfl) ?_
        refine va_get (D := (dC, dI)) (ci := 7) (v := .ref (g0 8)) (C := RX7) (T := TX7) (N := 14) hx hb hts nX7_odds_7 hown hK hP 0 rfl rfl 8 (by decide) (hts _ qX7_odds_4) (fun _ h9 => h9) rfl dX7_odds_49 ?_
        refine lv_iload hx hb dX7_odds_52 (lv_at hl 0 rfl) ?_
        refine lv_iload_n hx hb dX7_odds_54 rfl (lv_at hl 4 rfl) ?_
        refine lv_iconst (v := 0) hx hb dX7_odds_55 (by decide) ?_
        obtain ⟨r10, h11, hf⟩ := q_b1o hf
        refine q_roVl (As := [.int r8, .int p3, .int (0 : Int32)]) (rest := [.ref (g0 5)]) (ci := 3) ⟨hx, hb, hml, hown, hts⟩ (kX3_passing l dC dI cI cB cZ (g0 8) a1 s1 r8 p3 (0 : Int32) r10 h11) (cwV 3 hts gX7_odds_X3_passing rfl rfl rfl hdX3_passing ⟨Nat.le_of_ble_eq_true rfl, Nat.le_of_ble_eq_true rfl⟩) hK (hP.sub [1, 2, 3, 4, 5, 6, 7, 8, 9, 10, 11] rfl) rfl rfl rfl hl.1 rfl (Nat.le_of_ble_eq_true rfl) dX7_odds_56 ⟨Nat.zero_le _, Nat.zero_le _⟩ ?_
        refine lv_ldc2 (v := 1000000000) hx hb hown (hts _ qX7_odds_6) dX7_odds_59 ?_
        obtain ⟨tc12, h13, hf⟩ := q_b1o hf
        refine q_rwVv (As := [.long r10, .long (1000000000 : Int64)]) (rest := []) (ci := 2) (wr := ((wcX o0 g0 s0) ++ (wcH cI (g0 8) a1 s1))) (w2 := ((wcX o0 g0 s0) ++ (wcH cI (g0 8) a1 s1) ++ (wcF (g0 5) tc12))) ⟨hx, hb, hml, hown, hts⟩ (kX2_become l dC dI cI cB cZ (g0 5) t2 r10 (1000000000 : Int64) H.size tc12 h13) (cwV 2 hts gX7_odds_X2_become rfl rfl rfl hdX2_become ⟨Nat.le_of_ble_eq_true rfl, Nat.le_of_ble_eq_true rfl⟩) hK hP hD hS hA [12] [0, 1, 2, 3, 4, 5, 6, 7, 8, 9, 10, 11] [0, 1, 2, 3, 4, 5, 6, 7, 8, 9, 10, 11, 12] rfl rfl (by decide) (by decide) (by decide) rfl (by decide) rfl rfl rfl hl.1 rfl (Nat.le_of_ble_eq_true rfl) dX7_odds_62 ⟨Nat.zero_le _, Nat.zero_le _⟩ (fun H locs hP hD hS => ?_)
        refine lv_aload_n hx hb dX7_odds_65 rfl (lv_at hl 1 rfl) ?_
        refine va_get (D := (dC, dI)) (ci := 7) (v := .ref (g0 5)) (C := RX7) (T := TX7) (N := 14) hx hb hts nX7_odds_7 hown hK hP 0 rfl rfl 5 (by decide) (hts _ qX7_odds_5) (fun _ h9 => h9) rfl dX7_odds_66 ?_
        refine lv_iload hx hb dX7_odds_69 (lv_at hl 5 rfl) ?_
        obtain ⟨r14, h15, hf⟩ := q_b1o hf
        refine q_roVl (As := [.int p4]) (rest := []) (ci := 2) ⟨hx, hb, hml, hown, hts⟩ (kX2_part l dC dI cI cB cZ (g0 5) tc12 p4 r14 h15) (cwV 1 hts gX7_odds_X2_part rfl rfl rfl hdX2_part ⟨Nat.le_of_ble_eq_true rfl, Nat.le_of_ble_eq_true rfl⟩) hK (hP.sub [12] rfl) rfl rfl rfl hl.1 rfl (Nat.le_of_ble_eq_true rfl) dX7_odds_71 ⟨Nat.zero_le _, Nat.zero_le _⟩ ?_
        obtain ⟨ee0, ee1⟩ := q_s2 hf
        subst ee1
        exact q_wretL hx hb hr hlk hAe hK hP hD hS ee0 dX7_odds_74
      · have hf := q_t c7 hf
        refine lv_ldc2 (v := -9000000000000000001) hx hb hown (hts _ qX7_odds_3) dX7_odds_28 ?_
        obtain ⟨ee0, ee1⟩ := q_s2 hf
        subst ee1
        exact q_wretL hx hb hr hlk hAe hK hP hD hS ee0 dX7_odds_31
  · have hf := q_t c1 hf
    refine lv_ldc2 (v := -9000000000000000002) hx hb hown (hts _ qX7_odds_2) dX7_odds_7 ?_
    obtain ⟨ee0, ee1⟩ := q_s2 hf
    subst ee1
    exact q_wretL hx hb hr hlk hAe hK hP hD hS ee0 dX7_odds_10
theorem hdX7_how : yX7_how.cls = RX7 ∧ yX7_how.cls ≠ "java/lang/invoke/MethodHandle" ∧ yX7_how.cls ≠ "java/lang/invoke/VarHandle" ∧ (parseMethodDescriptor yX7_how.desc).map (fun d => d.parameters.length) = some 4 := by decide +kernel
theorem qX7_how_1 : (Cond.fieldLink RX7 145 "DeadAsked" "hasHill" "Z") ∈ wsX7_how := List.mem_of_getElem? (i := 1) (by decide +kernel)
theorem qX7_how_2 : (Cond.constantLong RX7 155 (-9000000000000000002)) ∈ wsX7_how := List.mem_of_getElem? (i := 2) (by decide +kernel)
theorem qX7_how_3 : (Cond.constantLong RX7 76 (-9000000000000000001)) ∈ wsX7_how := List.mem_of_getElem? (i := 3) (by decide +kernel)
theorem qX7_how_4 : (Cond.fieldLink RX7 63 "DeadAsked" "standing" "LDeadAsked$Hill;") ∈ wsX7_how := List.mem_of_getElem? (i := 4) (by decide +kernel)
theorem nX7_how_7 : ∀ w ∈ u_ws RX7 TX7 14, w ∈ wsX7_how := fun _ h => (List.mem_cons_of_mem _ (List.mem_append_left _ (List.mem_append_right _ h)))
set_option maxHeartbeats 4000000 in
set_option maxRecDepth 100000 in
theorem kX7_how (o0 : Nat) (g0 : Nat → Nat) (a1 : Nat → Nat) (s0 : St) (s1 : St) (p1 : Int32) (p2 : Int32) (p3 : Int32) (p4 : Int32) (r : Int64) (hf : fX7_how s0 s1 p1 p2 p3 p4 = some r) : Met l yX7_how wsX7_how ({ frames := 5, cells := 0, slots := 0, locals := 127 } : Room) (pcR (dC, dI) (q_ty cI cB cZ) [.ref o0, .int p1, .int p2, .int p3, .int p4] ((wcX o0 g0 s0) ++ (wcH cI (g0 8) a1 s1))) (qlR r) 0 0 (fun _ => False) := by
  refine q_roM (cc := cX7_how) (maxL := 5) (ret := (some .long)) (by decide +kernel) rfl (Nat.le_of_ble_eq_true rfl) ?_
  intro p e s m below meth c hx hb hr hlk hml hown hts hK hP ls hl
  have hown : s.vm.findClass RX7 = some m.cls := hown
  have hl : lv_has ls 5 [(0, .ref o0), (1, .int p1), (2, .int p2), (3, .int p3), (4, .int p4)] := hl
  unfold fX7_how at hf
  refine lv_aload_n hx hb dX7_how_0 rfl (lv_at hl 0 rfl) ?_
  refine va_get (D := (dC, dI)) (ci := 7) (v := .int (s0 10 0)) (C := RX7) (T := TX7) (N := 14) hx hb hts nX7_how_7 hown hK hP 0 rfl rfl 10 (by decide) (hts _ qX7_how_1) (fun _ h9 => h9) rfl dX7_how_1 ?_
  refine lv_if_ne (tgt := 11) hx hb dX7_how_4 (by decide) (fun c1 => ?_) (fun c1 => ?_)
  · have hf := q_f c1 hf
    refine lv_iload_n hx hb dX7_how_11 rfl (lv_at hl 1 rfl) ?_
    obtain ⟨r2, h3, hf⟩ := q_b1o hf
    refine q_roSi (As := [.int p1]) (rest := []) ⟨hx, hb, hml, hown, hts⟩ (kX7_isMatter l p1 r2 h3) (va_cwS 1 hts gX7_how_X7_isMatter rfl rfl rfl hdX7_isMatter ⟨Nat.le_of_ble_eq_true rfl, Nat.le_of_ble_eq_true rfl⟩) rfl hl.1 rfl (Nat.le_of_ble_eq_true rfl) dX7_how_12 ⟨Nat.zero_le _, Nat.zero_le _⟩ ?_
    refine lv_if_eq (tgt := 48) hx hb dX7_how_15 (by decide) (fun c4 => ?_) (fun c4 => ?_)
    · have hf := q_t c4 hf
      refine lv_ldc2 (v := -9000000000000000001) hx hb hown (hts _ qX7_how_3) dX7_how_48 ?_
      have ee0 := q_s1 hf
      exact q_retL hx hb hr hlk ee0 dX7_how_51
    · have hf := q_f c4 hf
      refine lv_iload_n hx hb dX7_how_18 rfl (lv_at hl 2 rfl) ?_
      refine lv_if_lt (tgt := 48) hx hb dX7_how_19 (by decide) (fun c5 => ?_) (fun c5 => ?_)
      · have hf := q_t c5 hf
        refine lv_ldc2 (v := -9000000000000000001) hx hb hown (hts _ qX7_how_3) dX7_how_48 ?_
        have ee0 := q_s1 hf
        exact q_retL hx hb hr hlk ee0 dX7_how_51
      · have hf := q_f c5 hf
        refine lv_iload_n hx hb dX7_how_22 rfl (lv_at hl 2 rfl) ?_
        refine lv_iconst (v := 5) hx hb dX7_how_23 (by decide) ?_
        refine lv_icmp_gt (tgt := 48) hx hb dX7_how_24 (by decide) (fun c6 => ?_) (fun c6 => ?_)
        · have hf := q_t c6 hf
          refine lv_ldc2 (v := -9000000000000000001) hx hb hown (hts _ qX7_how_3) dX7_how_48 ?_
          have ee0 := q_s1 hf
          exact q_retL hx hb hr hlk ee0 dX7_how_51
        · have hf := q_f c6 hf
          refine lv_iload_n hx hb dX7_how_27 rfl (lv_at hl 3 rfl) ?_
          obtain ⟨r7, h8, hf⟩ := q_b1o hf
          refine q_roSi (As := [.int p3]) (rest := []) ⟨hx, hb, hml, hown, hts⟩ (kX7_isHour l p3 r7 h8) (va_cwS 1 hts gX7_how_X7_isHour rfl rfl rfl hdX7_isHour ⟨Nat.le_of_ble_eq_true rfl, Nat.le_of_ble_eq_true rfl⟩) rfl hl.1 rfl (Nat.le_of_ble_eq_true rfl) dX7_how_28 ⟨Nat.zero_le _, Nat.zero_le _⟩ ?_
          refine lv_if_eq (tgt := 48) hx hb dX7_how_31 (by decide) (fun c9 => ?_) (fun c9 => ?_)
          · have hf := q_t c9 hf
            refine lv_ldc2 (v := -9000000000000000001) hx hb hown (hts _ qX7_how_3) dX7_how_48 ?_
            have ee0 := q_s1 hf
            exact q_retL hx hb hr hlk ee0 dX7_how_51
          · have hf := q_f c9 hf
            refine lv_iload hx hb dX7_how_34 (lv_at hl 4 rfl) ?_
            obtain ⟨r10, h11, hf⟩ := q_b1o hf
            refine q_roSi (As := [.int p4]) (rest := []) ⟨hx, hb, hml, hown, hts⟩ (kX7_isHour l p4 r10 h11) (va_cwS 1 hts gX7_how_X7_isHour rfl rfl rfl hdX7_isHour ⟨Nat.le_of_ble_eq_true rfl, Nat.le_of_ble_eq_true rfl⟩) rfl hl.1 rfl (Nat.le_of_ble_eq_true rfl) dX7_how_36 ⟨Nat.zero_le _, Nat.zero_le _⟩ ?_
            refine lv_if_eq (tgt := 48) hx hb dX7_how_39 (by decide) (fun c12 => ?_) (fun c12 => ?_)
            · have hf := q_t c12 hf
              refine lv_ldc2 (v := -9000000000000000001) hx hb hown (hts _ qX7_how_3) dX7_how_48 ?_
              have ee0 := q_s1 hf
              exact q_retL hx hb hr hlk ee0 dX7_how_51
            · have hf := q_f c12 hf
              refine lv_iload_n hx hb dX7_how_42 rfl (lv_at hl 3 rfl) ?_
              refine lv_iload hx hb dX7_how_43 (lv_at hl 4 rfl) ?_
              refine lv_icmp_le (tgt := 52) hx hb dX7_how_45 (by decide) (fun c13 => ?_) (fun c13 => ?_)
              · have hf := q_t c13 hf
                refine lv_aload_n hx hb dX7_how_52 rfl (lv_at hl 0 rfl) ?_
                refine va_get (D := (dC, dI)) (ci := 7) (v := .ref (g0 8)) (C := RX7) (T := TX7) (N := 14) hx hb hts nX7_how_7 hown hK hP 0 rfl rfl 8 (by decide) (hts _ qX7_how_4) (fun _ h9 => h9) rfl dX7_how_53 ?_
                refine lv_iload_n hx hb dX7_how_56 rfl (lv_at hl 1 rfl) ?_
                refine lv_iload_n hx hb dX7_how_57 rfl (lv_at hl 2 rfl) ?_
                refine lv_iload_n hx hb dX7_how_58 rfl (lv_at hl 3 rfl) ?_
                refine lv_iload hx hb dX7_how_59 (lv_at hl 4 rfl) ?_
                obtain ⟨r14, h15, hf⟩ := q_b1o hf
                refine q_roVi (As := [.int p1, .int p2, .int p3, .int p4]) (rest := []) (ci := 3) ⟨hx, hb, hml, hown, hts⟩ (kX3_bestWay l dC dI cI cB cZ (g0 8) a1 s1 p1 p2 p3 p4 r14 h15) (cwV 4 hts gX7_how_X3_bestWay rfl rfl rfl hdX3_bestWay ⟨Nat.le_of_ble_eq_true rfl, Nat.le_of_ble_eq_true rfl⟩) hK (hP.sub [1, 2, 3, 4, 5, 6, 7, 8, 9, 10, 11] rfl) rfl rfl rfl hl.1 rfl (Nat.le_of_ble_eq_true rfl) dX7_how_61 ⟨Nat.zero_le _, Nat.zero_le _⟩ ?_
                refine lv_i2l (v := r14.toInt64) hx hb dX7_how_64 rfl ?_
                have ee0 := q_s1 hf
                exact q_retL hx hb hr hlk ee0 dX7_how_65
              · have hf := q_f c13 hf
                refine lv_ldc2 (v := -9000000000000000001) hx hb hown (hts _ qX7_how_3) dX7_how_48 ?_
                have ee0 := q_s1 hf
                exact q_retL hx hb hr hlk ee0 dX7_how_51
  · have hf := q_t c1 hf
    refine lv_ldc2 (v := -9000000000000000002) hx hb hown (hts _ qX7_how_2) dX7_how_7 ?_
    have ee0 := q_s1 hf
    exact q_retL hx hb hr hlk ee0 dX7_how_10
theorem hdX7_setObjection : yX7_setObjection.cls = RX7 ∧ yX7_setObjection.cls ≠ "java/lang/invoke/MethodHandle" ∧ yX7_setObjection.cls ≠ "java/lang/invoke/VarHandle" ∧ (parseMethodDescriptor yX7_setObjection.desc).map (fun d => d.parameters.length) = some 2 := by decide +kernel
theorem qX7_setObjection_1 : (Cond.fieldLink RX7 63 "DeadAsked" "standing" "LDeadAsked$Hill;") ∈ wsX7_setObjection := List.mem_of_getElem? (i := 1) (by decide +kernel)
theorem qX7_setObjection_2 : (Cond.constantLong RX7 241 1000000000) ∈ wsX7_setObjection := List.mem_of_getElem? (i := 2) (by decide +kernel)
theorem qX7_setObjection_3 : (Cond.fieldLink RX7 49 "DeadAsked" "fraction" "LDeadAsked$Fraction;") ∈ wsX7_setObjection := List.mem_of_getElem? (i := 3) (by decide +kernel)
theorem nX7_setObjection_7 : ∀ w ∈ u_ws RX7 TX7 14, w ∈ wsX7_setObjection := fun _ h => (List.mem_cons_of_mem _ (List.mem_append_left _ (List.mem_append_left _ (List.mem_append_right _ h))))
set_option maxHeartbeats 4000000 in
set_option maxRecDepth 100000 in
theorem kX7_setObjection (o0 : Nat) (g0 : Nat → Nat) (a1 : Nat → Nat) (s0 : St) (s1 : St) (t2 : Lt) (p1 : Int32) (p2 : Int32) (sz : Nat) (y2 : Lt) (hf : fX7_setObjection s1 t2 p1 p2 = some y2) : Met l yX7_setObjection wsX7_setObjection ({ frames := 2, cells := 0, slots := 0, locals := 56 } : Room) (pcW (dC, dI) (q_ty cI cB cZ) [.ref o0, .int p1, .int p2] ((wcX o0 g0 s0) ++ (wcH cI (g0 8) a1 s1) ++ (wcF (g0 5) t2)) sz) (qvW (dC, dI) (q_ty cI cB cZ) ((wcX o0 g0 s0) ++ (wcH cI (g0 8) a1 s1) ++ (wcF (g0 5) t2)) ((wcX o0 g0 s0) ++ (wcH cI (g0 8) a1 s1) ++ (wcF (g0 5) y2)) sz) 0 0 (va_A ((wcX o0 g0 s0) ++ (wcH cI (g0 8) a1 s1) ++ (wcF (g0 5) t2)) sz) := by
  refine q_rwM (cc := cX7_setObjection) (maxL := 7) (ret := none) (by decide +kernel) rfl (Nat.le_of_ble_eq_true rfl) ?_
  intro p e s m below meth c hx hb hr hlk hml hown hts hK A H hAe hH hsz hP hD hA hS ls hl
  have hown : s.vm.findClass RX7 = some m.cls := hown
  have hl : lv_has ls 7 [(0, .ref o0), (1, .int p1), (2, .int p2)] := hl
  unfold fX7_setObjection at hf
  refine lv_aload_n hx hb dX7_setObjection_0 rfl (lv_at hl 0 rfl) ?_
  refine va_get (D := (dC, dI)) (ci := 7) (v := .ref (g0 8)) (C := RX7) (T := TX7) (N := 14) hx hb hts nX7_setObjection_7 hown hK hP 0 rfl rfl 8 (by decide) (hts _ qX7_setObjection_1) (fun _ h9 => h9) rfl dX7_setObjection_1 ?_
  refine lv_iload_n hx hb dX7_setObjection_4 rfl (lv_at hl 1 rfl) ?_
  refine lv_ldc2 (v := 1000000000) hx hb hown (hts _ qX7_setObjection_2) dX7_setObjection_5 ?_
  obtain ⟨r1, h2, hf⟩ := q_b1o hf
  refine q_roVl (As := [.int p1, .long (1000000000 : Int64)]) (rest := []) (ci := 3) ⟨hx, hb, hml, hown, hts⟩ (kX3_keptBy l dC dI cI cB cZ (g0 8) a1 s1 p1 (1000000000 : Int64) r1 h2) (cwV 2 hts gX7_setObjection_X3_keptBy rfl rfl rfl hdX3_keptBy ⟨Nat.le_of_ble_eq_true rfl, Nat.le_of_ble_eq_true rfl⟩) hK (hP.sub [1, 2, 3, 4, 5, 6, 7, 8, 9, 10, 11] rfl) rfl rfl rfl hl.1 rfl (Nat.le_of_ble_eq_true rfl) dX7_setObjection_8 ⟨Nat.zero_le _, Nat.zero_le _⟩ ?_
  refine lv_lstore_n (lv' := [(3, .long r1), (0, .ref o0), (1, .int p1), (2, .int p2)]) hx hb dX7_setObjection_11 rfl hl (by decide) rfl (fun ls hl => ?_)
  refine lv_lload_n hx hb dX7_setObjection_12 rfl (lv_at hl 0 rfl) ?_
  refine lv_iload_n hx hb dX7_setObjection_13 rfl (lv_at hl 3 rfl) ?_
  obtain ⟨r3, h4, hf⟩ := q_b1o hf
  refine q_roSl (As := [.long r1, .int p2]) (rest := []) ⟨hx, hb, hml, hown, hts⟩ (kX3_kept l r1 p2 r3 h4) (va_cwS 2 hts gX7_setObjection_X3_kept rfl rfl rfl hdX3_kept ⟨Nat.le_of_ble_eq_true rfl, Nat.le_of_ble_eq_true rfl⟩) rfl hl.1 rfl (Nat.le_of_ble_eq_true rfl) dX7_setObjection_14 ⟨Nat.zero_le _, Nat.zero_le _⟩ ?_
  refine lv_lstore (lv' := [(5, .long r3), (3, .long r1), (0, .ref o0), (1, .int p1), (2, .int p2)]) hx hb dX7_setObjection_17 hl (by decide) rfl (fun ls hl => ?_)
  refine lv_lload hx hb dX7_setObjection_19 (lv_at hl 0 rfl) ?_
  refine lv_ldc2 (v := 1000000000) hx hb hown (hts _ qX7_setObjection_2) dX7_setObjection_21 ?_
  refine W.lcmp hx hb dX7_setObjection_24 ?_
  refine lv_if_ne (tgt := 40) hx hb dX7_setObjection_25 (by decide) (fun c5 => ?_) (fun c5 => ?_)
  · have hf := q_f c5 hf
    refine lv_aload_n hx hb dX7_setObjection_40 rfl (lv_at hl 2 rfl) ?_
    refine va_get (D := (dC, dI)) (ci := 7) (v := .ref (g0 5)) (C := RX7) (T := TX7) (N := 14) hx hb hts nX7_setObjection_7 hown hK hP 0 rfl rfl 5 (by decide) (hts _ qX7_setObjection_3) (fun _ h9 => h9) rfl dX7_setObjection_41 ?_
    refine lv_ldc2 (v := 1000000000) hx hb hown (hts _ qX7_setObjection_2) dX7_setObjection_44 ?_
    refine lv_lload_n hx hb dX7_setObjection_47 rfl (lv_at hl 1 rfl) ?_
    refine lv_lsub hx hb dX7_setObjection_48 ?_
    refine lv_ldc2 (v := 1000000000) hx hb hown (hts _ qX7_setObjection_2) dX7_setObjection_49 ?_
    refine lv_lload hx hb dX7_setObjection_52 (lv_at hl 0 rfl) ?_
    refine lv_lsub hx hb dX7_setObjection_54 ?_
    obtain ⟨tc6, h7, hf⟩ := q_b1o hf
    refine q_rwVv (As := [.long ((1000000000 : Int64) - r1), .long ((1000000000 : Int64) - r3)]) (rest := []) (ci := 2) (wr := ((wcX o0 g0 s0) ++ (wcH cI (g0 8) a1 s1))) (w2 := ((wcX o0 g0 s0) ++ (wcH cI (g0 8) a1 s1) ++ (wcF (g0 5) tc6))) ⟨hx, hb, hml, hown, hts⟩ (kX2_become l dC dI cI cB cZ (g0 5) t2 ((1000000000 : Int64) - r1) ((1000000000 : Int64) - r3) H.size tc6 h7) (cwV 2 hts gX7_setObjection_X2_become rfl rfl rfl hdX2_become ⟨Nat.le_of_ble_eq_true rfl, Nat.le_of_ble_eq_true rfl⟩) hK hP hD hS hA [12] [0, 1, 2, 3, 4, 5, 6, 7, 8, 9, 10, 11] [0, 1, 2, 3, 4, 5, 6, 7, 8, 9, 10, 11, 12] rfl rfl (by decide) (by decide) (by decide) rfl (by decide) rfl rfl rfl hl.1 rfl (Nat.le_of_ble_eq_true rfl) dX7_setObjection_55 ⟨Nat.zero_le _, Nat.zero_le _⟩ (fun H locs hP hD hS => ?_)
    have ee0 := q_s1 hf
    subst ee0
    exact q_wretV hx hb hr hlk hAe hK hP hD hS dX7_setObjection_58
  · have hf := q_t c5 hf
    refine lv_aload_n hx hb dX7_setObjection_28 rfl (lv_at hl 2 rfl) ?_
    refine va_get (D := (dC, dI)) (ci := 7) (v := .ref (g0 5)) (C := RX7) (T := TX7) (N := 14) hx hb hts nX7_setObjection_7 hown hK hP 0 rfl rfl 5 (by decide) (hts _ qX7_setObjection_3) (fun _ h9 => h9) rfl dX7_setObjection_29 ?_
    refine lv_lconst (v := 0) hx hb dX7_setObjection_32 (by decide) ?_
    refine lv_lconst (v := 1) hx hb dX7_setObjection_33 (by decide) ?_
    obtain ⟨tc8, h9, hf⟩ := q_b1o hf
    refine q_rwVv (As := [.long (0 : Int64), .long (1 : Int64)]) (rest := []) (ci := 2) (wr := ((wcX o0 g0 s0) ++ (wcH cI (g0 8) a1 s1))) (w2 := ((wcX o0 g0 s0) ++ (wcH cI (g0 8) a1 s1) ++ (wcF (g0 5) tc8))) ⟨hx, hb, hml, hown, hts⟩ (kX2_become l dC dI cI cB cZ (g0 5) t2 (0 : Int64) (1 : Int64) H.size tc8 h9) (cwV 2 hts gX7_setObjection_X2_become rfl rfl rfl hdX2_become ⟨Nat.le_of_ble_eq_true rfl, Nat.le_of_ble_eq_true rfl⟩) hK hP hD hS hA [12] [0, 1, 2, 3, 4, 5, 6, 7, 8, 9, 10, 11] [0, 1, 2, 3, 4, 5, 6, 7, 8, 9, 10, 11, 12] rfl rfl (by decide) (by decide) (by decide) rfl (by decide) rfl rfl rfl hl.1 rfl (Nat.le_of_ble_eq_true rfl) dX7_setObjection_34 ⟨Nat.zero_le _, Nat.zero_le _⟩ (fun H locs hP hD hS => ?_)
    refine lv_goto (tgt := 58) hx hb dX7_setObjection_37 (by decide) ?_
    have ee0 := q_s1 hf
    subst ee0
    exact q_wretV hx hb hr hlk hAe hK hP hD hS dX7_setObjection_58
theorem hdX7_fell : yX7_fell.cls = RX7 ∧ yX7_fell.cls ≠ "java/lang/invoke/MethodHandle" ∧ yX7_fell.cls ≠ "java/lang/invoke/VarHandle" ∧ (parseMethodDescriptor yX7_fell.desc).map (fun d => d.parameters.length) = some 5 := by decide +kernel
theorem qX7_fell_1 : (Cond.fieldLink RX7 145 "DeadAsked" "hasHill" "Z") ∈ wsX7_fell := List.mem_of_getElem? (i := 1) (by decide +kernel)
theorem qX7_fell_2 : (Cond.constantLong RX7 155 (-9000000000000000002)) ∈ wsX7_fell := List.mem_of_getElem? (i := 2) (by decide +kernel)
theorem qX7_fell_3 : (Cond.fieldLink RX7 63 "DeadAsked" "standing" "LDeadAsked$Hill;") ∈ wsX7_fell := List.mem_of_getElem? (i := 3) (by decide +kernel)
theorem qX7_fell_4 : (Cond.constantLong RX7 76 (-9000000000000000001)) ∈ wsX7_fell := List.mem_of_getElem? (i := 4) (by decide +kernel)
theorem qX7_fell_5 : (Cond.fieldLink RX7 49 "DeadAsked" "fraction" "LDeadAsked$Fraction;") ∈ wsX7_fell := List.mem_of_getElem? (i := 5) (by decide +kernel)
theorem nX7_fell_7 : ∀ w ∈ u_ws RX7 TX7 14, w ∈ wsX7_fell := fun _ h => (List.mem_cons_of_mem _ (List.mem_append_left _ (List.mem_append_left _ (List.mem_append_right _ h))))
set_option maxHeartbeats 4000000 in
set_option maxRecDepth 100000 in
theorem kX7_fell (o0 : Nat) (g0 : Nat → Nat) (a1 : Nat → Nat) (s0 : St) (s1 : St) (t2 : Lt) (p1 : Int32) (p2 : Int32) (p3 : Int32) (p4 : Int32) (p5 : Int32) (sz : Nat) (r : Int64) (y2 : Lt) (hf : fX7_fell s0 s1 t2 p1 p2 p3 p4 p5 = some (r, y2)) : Met l yX7_fell wsX7_fell ({ frames := 4, cells := 0, slots := 0, locals := 93 } : Room) (pcW (dC, dI) (q_ty cI cB cZ) [.ref o0, .int p1, .int p2, .int p3, .int p4, .int p5] ((wcX o0 g0 s0) ++ (wcH cI (g0 8) a1 s1) ++ (wcF (g0 5) t2)) sz) (qlW (dC, dI) (q_ty cI cB cZ) ((wcX o0 g0 s0) ++ (wcH cI (g0 8) a1 s1) ++ (wcF (g0 5) t2)) ((wcX o0 g0 s0) ++ (wcH cI (g0 8) a1 s1) ++ (wcF (g0 5) y2)) sz r) 0 0 (va_A ((wcX o0 g0 s0) ++ (wcH cI (g0 8) a1 s1) ++ (wcF (g0 5) t2)) sz) := by
  refine q_rwM (cc := cX7_fell) (maxL := 7) (ret := (some .long)) (by decide +kernel) rfl (Nat.le_of_ble_eq_true rfl) ?_
  intro p e s m below meth c hx hb hr hlk hml hown hts hK A H hAe hH hsz hP hD hA hS ls hl
  have hown : s.vm.findClass RX7 = some m.cls := hown
  have hl : lv_has ls 7 [(0, .ref o0), (1, .int p1), (2, .int p2), (3, .int p3), (4, .int p4), (5, .int p5)] := hl
  unfold fX7_fell at hf
  refine lv_aload_n hx hb dX7_fell_0 rfl (lv_at hl 0 rfl) ?_
  refine va_get (D := (dC, dI)) (ci := 7) (v := .int (s0 10 0)) (C := RX7) (T := TX7) (N := 14) hx hb hts nX7_fell_7 hown hK hP 0 rfl rfl 10 (by decide) (hts _ qX7_fell_1) (fun _ h9 => h9) rfl dX7_fell_1 ?_
  refine lv_if_ne (tgt := 11) hx hb dX7_fell_4 (by decide) (fun c1 => ?_) (fun c1 => ?_)
  · have hf := q_f c1 hf
    refine lv_iload_n hx hb dX7_fell_11 rfl (lv_at hl 1 rfl) ?_
    refine lv_iload_n hx hb dX7_fell_12 rfl (lv_at hl 2 rfl) ?_
    refine lv_iload_n hx hb dX7_fell_13 rfl (lv_at hl 3 rfl) ?_
    obtain ⟨r2, h3, hf⟩ := q_b1o hf
    refine q_roSi (As := [.int p1, .int p2, .int p3]) (rest := []) ⟨hx, hb, hml, hown, hts⟩ (kX7_isAsked l p1 p2 p3 r2 h3) (va_cwS 3 hts gX7_fell_X7_isAsked rfl rfl rfl hdX7_isAsked ⟨Nat.le_of_ble_eq_true rfl, Nat.le_of_ble_eq_true rfl⟩) rfl hl.1 rfl (Nat.le_of_ble_eq_true rfl) dX7_fell_14 ⟨Nat.zero_le _, Nat.zero_le _⟩ ?_
    refine lv_if_eq (tgt := 43) hx hb dX7_fell_17 (by decide) (fun c4 => ?_) (fun c4 => ?_)
    · have hf := q_t c4 hf
      refine lv_ldc2 (v := -9000000000000000001) hx hb hown (hts _ qX7_fell_4) dX7_fell_43 ?_
      obtain ⟨ee0, ee1⟩ := q_s2 hf
      subst ee1
      exact q_wretL hx hb hr hlk hAe hK hP hD hS ee0 dX7_fell_46
    · have hf := q_f c4 hf
      refine lv_aload_n hx hb dX7_fell_20 rfl (lv_at hl 0 rfl) ?_
      refine va_get (D := (dC, dI)) (ci := 7) (v := .ref (g0 8)) (C := RX7) (T := TX7) (N := 14) hx hb hts nX7_fell_7 hown hK hP 0 rfl rfl 8 (by decide) (hts _ qX7_fell_3) (fun _ h9 => h9) rfl dX7_fell_21 ?_
      refine lv_iload hx hb dX7_fell_24 (lv_at hl 4 rfl) ?_
      obtain ⟨r5, h6, hf⟩ := q_b1o hf
      refine q_roVi (As := [.int p4]) (rest := []) (ci := 3) ⟨hx, hb, hml, hown, hts⟩ (kX3_isTree l dC dI cI cB cZ (g0 8) a1 s1 p4 r5 h6) (cwV 1 hts gX7_fell_X3_isTree rfl rfl rfl hdX3_isTree ⟨Nat.le_of_ble_eq_true rfl, Nat.le_of_ble_eq_true rfl⟩) hK (hP.sub [1, 2, 3, 4, 5, 6, 7, 8, 9, 10, 11] rfl) rfl rfl rfl hl.1 rfl (Nat.le_of_ble_eq_true rfl) dX7_fell_26 ⟨Nat.zero_le _, Nat.zero_le _⟩ ?_
      refine lv_if_eq (tgt := 43) hx hb dX7_fell_29 (by decide) (fun c7 => ?_) (fun c7 => ?_)
      · have hf := q_t c7 hf
        refine lv_ldc2 (v := -9000000000000000001) hx hb hown (hts _ qX7_fell_4) dX7_fell_43 ?_
        obtain ⟨ee0, ee1⟩ := q_s2 hf
        subst ee1
        exact q_wretL hx hb hr hlk hAe hK hP hD hS ee0 dX7_fell_46
      · have hf := q_f c7 hf
        refine lv_iload hx hb dX7_fell_32 (lv_at hl 5 rfl) ?_
        refine lv_if_lt (tgt := 43) hx hb dX7_fell_34 (by decide) (fun c8 => ?_) (fun c8 => ?_)
        · have hf := q_t c8 hf
          refine lv_ldc2 (v := -9000000000000000001) hx hb hown (hts _ qX7_fell_4) dX7_fell_43 ?_
          obtain ⟨ee0, ee1⟩ := q_s2 hf
          subst ee1
          exact q_wretL hx hb hr hlk hAe hK hP hD hS ee0 dX7_fell_46
        · have hf := q_f c8 hf
          refine lv_iload hx hb dX7_fell_37 (lv_at hl 5 rfl) ?_
          refine lv_iconst (v := 2) hx hb dX7_fell_39 (by decide) ?_
          refine lv_icmp_le (tgt := 47) hx hb dX7_fell_40 (by decide) (fun c9 => ?_) (fun c9 => ?_)
          · have hf := q_t c9 hf
            refine lv_aload_n hx hb dX7_fell_47 rfl (lv_at hl 0 rfl) ?_
            refine va_get (D := (dC, dI)) (ci := 7) (v := .ref (g0 8)) (C := RX7) (T := TX7) (N := 14) hx hb hts nX7_fell_7 hown hK hP 0 rfl rfl 8 (by decide) (hts _ qX7_fell_3) (fun _ h9 => h9) rfl dX7_fell_48 ?_
            refine lv_iload hx hb dX7_fell_51 (lv_at hl 4 rfl) ?_
            obtain ⟨r10, h11, hf⟩ := q_b1o hf
            refine q_roVi (As := [.int p4]) (rest := []) (ci := 3) ⟨hx, hb, hml, hown, hts⟩ (kX3_gravesOf l dC dI cI cB cZ (g0 8) a1 s1 p4 r10 h11) (cwV 1 hts gX7_fell_X3_gravesOf rfl rfl rfl hdX3_gravesOf ⟨Nat.le_of_ble_eq_true rfl, Nat.le_of_ble_eq_true rfl⟩) hK (hP.sub [1, 2, 3, 4, 5, 6, 7, 8, 9, 10, 11] rfl) rfl rfl rfl hl.1 rfl (Nat.le_of_ble_eq_true rfl) dX7_fell_53 ⟨Nat.zero_le _, Nat.zero_le _⟩ ?_
            refine lv_aload_n hx hb dX7_fell_56 rfl (lv_at hl 0 rfl) ?_
            refine va_get (D := (dC, dI)) (ci := 7) (v := .ref (g0 8)) (C := RX7) (T := TX7) (N := 14) hx hb hts nX7_fell_7 hown hK hP 0 rfl rfl 8 (by decide) (hts _ qX7_fell_3) (fun _ h9 => h9) rfl dX7_fell_57 ?_
            refine lv_iload_n hx hb dX7_fell_60 rfl (lv_at hl 1 rfl) ?_
            refine lv_iload_n hx hb dX7_fell_61 rfl (lv_at hl 2 rfl) ?_
            refine lv_iconst (v := 0) hx hb dX7_fell_62 (by decide) ?_
            obtain ⟨r12, h13, hf⟩ := q_b1o hf
            refine q_roVi (As := [.int p1, .int p2, .int (0 : Int32)]) (rest := [.int r10]) (ci := 3) ⟨hx, hb, hml, hown, hts⟩ (kX3_minding l dC dI cI cB cZ (g0 8) a1 s1 p1 p2 (0 : Int32) r12 h13) (cwV 3 hts gX7_fell_X3_minding rfl rfl rfl hdX3_minding ⟨Nat.le_of_ble_eq_true rfl, Nat.le_of_ble_eq_true rfl⟩) hK (hP.sub [1, 2, 3, 4, 5, 6, 7, 8, 9, 10, 11] rfl) rfl rfl rfl hl.1 rfl (Nat.le_of_ble_eq_true rfl) dX7_fell_63 ⟨Nat.zero_le _, Nat.zero_le _⟩ ?_
            refine lv_iand hx hb dX7_fell_66 ?_
            refine lv_istore (lv' := [(6, .int (r10 &&& r12)), (0, .ref o0), (1, .int p1), (2, .int p2), (3, .int p3), (4, .int p4), (5, .int p5)]) hx hb dX7_fell_67 hl (by decide) rfl (fun ls hl => ?_)
            refine lv_iload hx hb dX7_fell_69 (lv_at hl 6 rfl) ?_
            refine lv_iconst (v := 2) hx hb dX7_fell_71 (by decide) ?_
            refine lv_icmp_ne (tgt := 86) hx hb dX7_fell_72 (by decide) (fun c14 => ?_) (fun c14 => ?_)
            · have hf := q_f c14 hf
              refine lv_aload_n hx hb dX7_fell_86 rfl (lv_at hl 1 rfl) ?_
              refine lv_iload hx hb dX7_fell_87 (lv_at hl 0 rfl) ?_
              refine lv_aload_n hx hb dX7_fell_89 rfl (lv_at hl 1 rfl) ?_
              refine va_get (D := (dC, dI)) (ci := 7) (v := .ref (g0 8)) (C := RX7) (T := TX7) (N := 14) hx hb hts nX7_fell_7 hown hK hP 0 rfl rfl 8 (by decide) (hts _ qX7_fell_3) (fun _ h9 => h9) rfl dX7_fell_90 ?_
              refine lv_iload hx hb dX7_fell_93 (lv_at hl 5 rfl) ?_
              refine lv_iload_n hx hb dX7_fell_95 rfl (lv_at hl 4 rfl) ?_
              obtain ⟨r15, h16, hf⟩ := q_b1o hf
              refine q_roVi (As := [.int p4, .int p3]) (rest := [.int (r10 &&& r12), .ref o0]) (ci := 3) ⟨hx, hb, hml, hown, hts⟩ (kX3_blown l dC dI cI cB cZ (g0 8) a1 s1 p4 p3 r15 h16) (cwV 2 hts gX7_fell_X3_blown rfl rfl rfl hdX3_blown ⟨Nat.le_of_ble_eq_true rfl, Nat.le_of_ble_eq_true rfl⟩) hK (hP.sub [1, 2, 3, 4, 5, 6, 7, 8, 9, 10, 11] rfl) rfl rfl rfl hl.1 rfl (Nat.le_of_ble_eq_true rfl) dX7_fell_96 ⟨Nat.zero_le _, Nat.zero_le _⟩ ?_
              obtain ⟨tc17, h18, hf⟩ := q_b1o hf
              refine q_rwVv (As := [.int (r10 &&& r12), .int r15]) (rest := []) (ci := 7) (wr := []) (w2 := ((wcX o0 g0 s0) ++ (wcH cI (g0 8) a1 s1) ++ (wcF (g0 5) tc17))) ⟨hx, hb, hml, hown, hts⟩ (kX7_setObjection l dC dI cI cB cZ o0 g0 a1 s0 s1 t2 (r10 &&& r12) r15 H.size tc17 h18) (cwV 2 hts gX7_fell_X7_setObjection rfl rfl rfl hdX7_setObjection ⟨Nat.le_of_ble_eq_true rfl, Nat.le_of_ble_eq_true rfl⟩) hK hP hD hS hA [0, 1, 2, 3, 4, 5, 6, 7, 8, 9, 10, 11, 12] [] [0, 1, 2, 3, 4, 5, 6, 7, 8, 9, 10, 11, 12] rfl rfl (by decide) (by decide) (by decide) rfl (by decide) rfl rfl rfl hl.1 rfl (Nat.le_of_ble_eq_true rfl) dX7_fell_99 ⟨Nat.zero_le _, Nat.zero_le _⟩ (fun H locs hP hD hS => ?_)
              refine lv_aload_n hx hb dX7_fell_102 rfl (lv_at hl 1 rfl) ?_
              refine va_get (D := (dC, dI)) (ci := 7) (v := .ref (g0 5)) (C := RX7) (T := TX7) (N := 14) hx hb hts nX7_fell_7 hown hK hP 0 rfl rfl 5 (by decide) (hts _ qX7_fell_5) (fun _ h9 => h9) rfl dX7_fell_103 ?_
              refine lv_iload hx hb dX7_fell_106 (lv_at hl 6 rfl) ?_
              obtain ⟨r19, h20, hf⟩ := q_b1o hf
              refine q_roVl (As := [.int p5]) (rest := []) (ci := 2) ⟨hx, hb, hml, hown, hts⟩ (kX2_part l dC dI cI cB cZ (g0 5) tc17 p5 r19 h20) (cwV 1 hts gX7_fell_X2_part rfl rfl rfl hdX2_part ⟨Nat.le_of_ble_eq_true rfl, Nat.le_of_ble_eq_true rfl⟩) hK (hP.sub [12] rfl) rfl rfl rfl hl.1 rfl (Nat.le_of_ble_eq_true rfl) dX7_fell_108 ⟨Nat.zero_le _, Nat.zero_le _⟩ ?_
              obtain ⟨ee0, ee1⟩ := q_s2 hf
              subst ee1
              exact q_wretL hx hb hr hlk hAe hK hP hD hS ee0 dX7_fell_111
            · have hf := q_t c14 hf
              refine lv_aload_n hx hb dX7_fell_75 rfl (lv_at hl 1 rfl) ?_
              refine va_get (D := (dC, dI)) (ci := 7) (v := .ref (g0 8)) (C := RX7) (T := TX7) (N := 14) hx hb hts nX7_fell_7 hown hK hP 0 rfl rfl 8 (by decide) (hts _ qX7_fell_3) (fun _ h9 => h9) rfl dX7_fell_76 ?_
              refine lv_iload hx hb dX7_fell_79 (lv_at hl 0 rfl) ?_
              obtain ⟨r21, h22, hf⟩ := q_b1o hf
              refine q_roVi (As := [.int (r10 &&& r12)]) (rest := []) (ci := 3) ⟨hx, hb, hml, hown, hts⟩ (kX3_withTemper l dC dI cI cB cZ (g0 8) a1 s1 (r10 &&& r12) r21 h22) (cwV 1 hts gX7_fell_X3_withTemper rfl rfl rfl hdX3_withTemper ⟨Nat.le_of_ble_eq_true rfl, Nat.le_of_ble_eq_true rfl⟩) hK (hP.sub [1, 2, 3, 4, 5, 6, 7, 8, 9, 10, 11] rfl) rfl rfl rfl hl.1 rfl (Nat.le_of_ble_eq_true rfl) dX7_fell_81 ⟨Nat.zero_le _, Nat.zero_le _⟩ ?_
              refine lv_i2l (v := r21.toInt64) hx hb dX7_fell_84 rfl ?_
              obtain ⟨ee0, ee1⟩ := q_s2 hf
              subst ee1
              exact q_wretL hx hb hr hlk hAe hK hP hD hS ee0 dX7_fell_85
          · have hf := q_f c9 hf
            refine lv_ldc2 (v := -9000000000000000001) hx hb hown (hts _ qX7_fell_4) dX7_fell_43 ?_
            obtain ⟨ee0, ee1⟩ := q_s2 hf
            subst ee1
            exact q_wretL hx hb hr hlk hAe hK hP hD hS ee0 dX7_fell_46
  · have hf := q_t c1 hf
    refine lv_ldc2 (v := -9000000000000000002) hx hb hown (hts _ qX7_fell_2) dX7_fell_7 ?_
    obtain ⟨ee0, ee1⟩ := q_s2 hf
    subst ee1
    exact q_wretL hx hb hr hlk hAe hK hP hD hS ee0 dX7_fell_10
theorem hdX7_picks : yX7_picks.cls = RX7 ∧ yX7_picks.cls ≠ "java/lang/invoke/MethodHandle" ∧ yX7_picks.cls ≠ "java/lang/invoke/VarHandle" ∧ (parseMethodDescriptor yX7_picks.desc).map (fun d => d.parameters.length) = some 4 := by decide +kernel
theorem qX7_picks_1 : (Cond.fieldLink RX7 145 "DeadAsked" "hasHill" "Z") ∈ wsX7_picks := List.mem_of_getElem? (i := 1) (by decide +kernel)
theorem qX7_picks_2 : (Cond.constantLong RX7 155 (-9000000000000000002)) ∈ wsX7_picks := List.mem_of_getElem? (i := 2) (by decide +kernel)
theorem qX7_picks_3 : (Cond.constantLong RX7 76 (-9000000000000000001)) ∈ wsX7_picks := List.mem_of_getElem? (i := 3) (by decide +kernel)
theorem qX7_picks_4 : (Cond.fieldLink RX7 63 "DeadAsked" "standing" "LDeadAsked$Hill;") ∈ wsX7_picks := List.mem_of_getElem? (i := 4) (by decide +kernel)
theorem nX7_picks_7 : ∀ w ∈ u_ws RX7 TX7 14, w ∈ wsX7_picks := fun _ h => (List.mem_cons_of_mem _ (List.mem_append_left _ (List.mem_append_right _ h)))
set_option maxHeartbeats 4000000 in
set_option maxRecDepth 100000 in
theorem kX7_picks (o0 : Nat) (g0 : Nat → Nat) (a1 : Nat → Nat) (s0 : St) (s1 : St) (p1 : Int32) (p2 : Int32) (p3 : Int32) (p4 : Int32) (r : Int64) (hf : fX7_picks s0 s1 p1 p2 p3 p4 = some r) : Met l yX7_picks wsX7_picks ({ frames := 5, cells := 0, slots := 0, locals := 120 } : Room) (pcR (dC, dI) (q_ty cI cB cZ) [.ref o0, .int p1, .int p2, .int p3, .int p4] ((wcX o0 g0 s0) ++ (wcH cI (g0 8) a1 s1))) (qlR r) 0 0 (fun _ => False) := by
  refine q_roM (cc := cX7_picks) (maxL := 5) (ret := (some .long)) (by decide +kernel) rfl (Nat.le_of_ble_eq_true rfl) ?_
  intro p e s m below meth c hx hb hr hlk hml hown hts hK hP ls hl
  have hown : s.vm.findClass RX7 = some m.cls := hown
  have hl : lv_has ls 5 [(0, .ref o0), (1, .int p1), (2, .int p2), (3, .int p3), (4, .int p4)] := hl
  unfold fX7_picks at hf
  refine lv_aload_n hx hb dX7_picks_0 rfl (lv_at hl 0 rfl) ?_
  refine va_get (D := (dC, dI)) (ci := 7) (v := .int (s0 10 0)) (C := RX7) (T := TX7) (N := 14) hx hb hts nX7_picks_7 hown hK hP 0 rfl rfl 10 (by decide) (hts _ qX7_picks_1) (fun _ h9 => h9) rfl dX7_picks_1 ?_
  refine lv_if_ne (tgt := 11) hx hb dX7_picks_4 (by decide) (fun c1 => ?_) (fun c1 => ?_)
  · have hf := q_f c1 hf
    refine lv_iload_n hx hb dX7_picks_11 rfl (lv_at hl 1 rfl) ?_
    refine lv_iload_n hx hb dX7_picks_12 rfl (lv_at hl 2 rfl) ?_
    refine lv_iload_n hx hb dX7_picks_13 rfl (lv_at hl 3 rfl) ?_
    obtain ⟨r2, h3, hf⟩ := q_b1o hf
    refine q_roSi (As := [.int p1, .int p2, .int p3]) (rest := []) ⟨hx, hb, hml, hown, hts⟩ (kX7_isAsked l p1 p2 p3 r2 h3) (va_cwS 3 hts gX7_picks_X7_isAsked rfl rfl rfl hdX7_isAsked ⟨Nat.le_of_ble_eq_true rfl, Nat.le_of_ble_eq_true rfl⟩) rfl hl.1 rfl (Nat.le_of_ble_eq_true rfl) dX7_picks_14 ⟨Nat.zero_le _, Nat.zero_le _⟩ ?_
    refine lv_if_eq (tgt := 33) hx hb dX7_picks_17 (by decide) (fun c4 => ?_) (fun c4 => ?_)
    · have hf := q_t c4 hf
      refine lv_ldc2 (v := -9000000000000000001) hx hb hown (hts _ qX7_picks_3) dX7_picks_33 ?_
      have ee0 := q_s1 hf
      exact q_retL hx hb hr hlk ee0 dX7_picks_36
    · have hf := q_f c4 hf
      refine lv_iload hx hb dX7_picks_20 (lv_at hl 4 rfl) ?_
      refine lv_if_lt (tgt := 33) hx hb dX7_picks_22 (by decide) (fun c5 => ?_) (fun c5 => ?_)
      · have hf := q_t c5 hf
        refine lv_ldc2 (v := -9000000000000000001) hx hb hown (hts _ qX7_picks_3) dX7_picks_33 ?_
        have ee0 := q_s1 hf
        exact q_retL hx hb hr hlk ee0 dX7_picks_36
      · have hf := q_f c5 hf
        refine lv_iload hx hb dX7_picks_25 (lv_at hl 4 rfl) ?_
        refine lv_sipush (v := 1000) hx hb dX7_picks_27 (by decide) ?_
        refine lv_icmp_le (tgt := 37) hx hb dX7_picks_30 (by decide) (fun c6 => ?_) (fun c6 => ?_)
        · have hf := q_t c6 hf
          refine lv_aload_n hx hb dX7_picks_37 rfl (lv_at hl 0 rfl) ?_
          refine va_get (D := (dC, dI)) (ci := 7) (v := .ref (g0 8)) (C := RX7) (T := TX7) (N := 14) hx hb hts nX7_picks_7 hown hK hP 0 rfl rfl 8 (by decide) (hts _ qX7_picks_4) (fun _ h9 => h9) rfl dX7_picks_38 ?_
          refine lv_iload_n hx hb dX7_picks_41 rfl (lv_at hl 1 rfl) ?_
          refine lv_iload_n hx hb dX7_picks_42 rfl (lv_at hl 2 rfl) ?_
          refine lv_iload_n hx hb dX7_picks_43 rfl (lv_at hl 3 rfl) ?_
          refine lv_iload hx hb dX7_picks_44 (lv_at hl 4 rfl) ?_
          obtain ⟨r7, h8, hf⟩ := q_b1o hf
          refine q_roVi (As := [.int p1, .int p2, .int p3, .int p4]) (rest := []) (ci := 3) ⟨hx, hb, hml, hown, hts⟩ (kX3_fewestGone l dC dI cI cB cZ (g0 8) a1 s1 p1 p2 p3 p4 r7 h8) (cwV 4 hts gX7_picks_X3_fewestGone rfl rfl rfl hdX3_fewestGone ⟨Nat.le_of_ble_eq_true rfl, Nat.le_of_ble_eq_true rfl⟩) hK (hP.sub [1, 2, 3, 4, 5, 6, 7, 8, 9, 10, 11] rfl) rfl rfl rfl hl.1 rfl (Nat.le_of_ble_eq_true rfl) dX7_picks_46 ⟨Nat.zero_le _, Nat.zero_le _⟩ ?_
          refine lv_i2l (v := r7.toInt64) hx hb dX7_picks_49 rfl ?_
          have ee0 := q_s1 hf
          exact q_retL hx hb hr hlk ee0 dX7_picks_50
        · have hf := q_f c6 hf
          refine lv_ldc2 (v := -9000000000000000001) hx hb hown (hts _ qX7_picks_3) dX7_picks_33 ?_
          have ee0 := q_s1 hf
          exact q_retL hx hb hr hlk ee0 dX7_picks_36
  · have hf := q_t c1 hf
    refine lv_ldc2 (v := -9000000000000000002) hx hb hown (hts _ qX7_picks_2) dX7_picks_7 ?_
    have ee0 := q_s1 hf
    exact q_retL hx hb hr hlk ee0 dX7_picks_10
theorem hdX7_areMatters : yX7_areMatters.cls = RX7 ∧ yX7_areMatters.cls ≠ "java/lang/invoke/MethodHandle" ∧ yX7_areMatters.cls ≠ "java/lang/invoke/VarHandle" ∧ (parseMethodDescriptor yX7_areMatters.desc).map (fun d => d.parameters.length) = some 3 := by decide +kernel
theorem qX7_areMatters_1 : (Cond.fieldLink RX7 12 "DeadAsked" "rows" "LDeadAsked$Rows;") ∈ wsX7_areMatters := List.mem_of_getElem? (i := 1) (by decide +kernel)
theorem nX7_areMatters_7 : ∀ w ∈ u_ws RX7 TX7 14, w ∈ wsX7_areMatters := fun _ h => (List.mem_cons_of_mem _ (List.mem_append_left _ (List.mem_append_right _ h)))
set_option maxHeartbeats 4000000 in
set_option maxRecDepth 100000 in
theorem kX7_areMatters (o0 : Nat) (g0 : Nat → Nat) (a1 : Nat → Nat) (s0 : St) (s1 : St) (p1 : Int32) (p2 : Int32) (p3 : Int32) (r : Int32) (hf : fX7_areMatters s1 p1 p2 p3 = some r) : Met l yX7_areMatters wsX7_areMatters ({ frames := 4, cells := 0, slots := 0, locals := 87 } : Room) (pcR (dC, dI) (q_ty cI cB cZ) [.ref o0, .int p1, .int p2, .int p3] ((wcX o0 g0 s0) ++ (wcR cI (g0 0) a1 s1))) (qiR r) 0 0 (fun _ => False) := by
  refine q_roM (cc := cX7_areMatters) (maxL := 5) (ret := (some .boolean)) (by decide +kernel) rfl (Nat.le_of_ble_eq_true rfl) ?_
  intro p e s m below meth c hx hb hr hlk hml hown hts hK hP ls hl
  have hown : s.vm.findClass RX7 = some m.cls := hown
  have hl : lv_has ls 5 [(0, .ref o0), (1, .int p1), (2, .int p2), (3, .int p3)] := hl
  unfold fX7_areMatters at hf
  refine lv_iconst (v := 0) hx hb dX7_areMatters_0 (by decide) ?_
  refine lv_istore (lv' := [(4, .int (0 : Int32)), (0, .ref o0), (1, .int p1), (2, .int p2), (3, .int p3)]) hx hb dX7_areMatters_1 hl (by decide) rfl (fun ls hl => ?_)
  have aihn2 : ∀ n2 : Nat, ∀ l4_1 : Int32, fX7_areMatters_L3 p1 p2 p3 s1 n2 l4_1 = some r → ∀ ls : Array Slot, lv_has ls 5 [(4, .int l4_1), (0, .ref o0), (1, .int p1), (2, .int p2), (3, .int p3)] → W p l e ({ frames := 4, cells := 0, slots := 0, locals := 87 } : Room) s m [.ref o0, .int p1, .int p2, .int p3].toArray below meth c s.heap [] 0 0 (MQ below (qiR r) [.ref o0, .int p1, .int p2, .int p3].toArray s 0 0 (fun _ => False)) (F0 m 3 ls []) := by
    intro n2
    induction n2 with
    | zero =>
      intro l4_1 hf
      exact q_no hf
    | succ n2 ihn2 =>
      intro l4_1 hf ls hl
      rw [fX7_areMatters_L3] at hf
      refine lv_iload hx hb dX7_areMatters_3 (lv_at hl 0 rfl) ?_
      refine lv_iload_n hx hb dX7_areMatters_5 rfl (lv_at hl 4 rfl) ?_
      refine lv_icmp_ge (tgt := 35) hx hb dX7_areMatters_6 (by decide) (fun c3 => ?_) (fun c3 => ?_)
      · have hf := q_t c3 hf
        refine lv_iconst (v := 1) hx hb dX7_areMatters_35 (by decide) ?_
        have ee0 := q_s1 hf
        exact q_retZ hx hb hr hlk rfl ee0 dX7_areMatters_36
      · have hf := q_f c3 hf
        refine lv_aload_n hx hb dX7_areMatters_9 rfl (lv_at hl 1 rfl) ?_
        refine va_get (D := (dC, dI)) (ci := 7) (v := .ref (g0 0)) (C := RX7) (T := TX7) (N := 14) hx hb hts nX7_areMatters_7 hown hK hP 0 rfl rfl 0 (by decide) (hts _ qX7_areMatters_1) (fun _ h9 => h9) rfl dX7_areMatters_10 ?_
        refine lv_iload_n hx hb dX7_areMatters_13 rfl (lv_at hl 2 rfl) ?_
        refine lv_iload_n hx hb dX7_areMatters_14 rfl (lv_at hl 3 rfl) ?_
        refine lv_iload hx hb dX7_areMatters_15 (lv_at hl 0 rfl) ?_
        refine lv_iadd hx hb dX7_areMatters_17 ?_
        obtain ⟨r4, h5, hf⟩ := q_b1o hf
        refine q_roVi (As := [.int p1, .int (p2 + l4_1)]) (rest := []) (ci := 5) ⟨hx, hb, hml, hown, hts⟩ (kX5_item l dC dI cI cB cZ (g0 0) a1 s1 p1 (p2 + l4_1) r4 h5) (cwV 2 hts gX7_areMatters_X5_item rfl rfl rfl hdX5_item ⟨Nat.le_of_ble_eq_true rfl, Nat.le_of_ble_eq_true rfl⟩) hK (hP.sub [1, 2, 3, 4] rfl) rfl rfl rfl hl.1 rfl (Nat.le_of_ble_eq_true rfl) dX7_areMatters_18 ⟨Nat.zero_le _, Nat.zero_le _⟩ ?_
        obtain ⟨r6, h7, hf⟩ := q_b1o hf
        refine q_roSi (As := [.int r4]) (rest := []) ⟨hx, hb, hml, hown, hts⟩ (kX7_isMatter l r4 r6 h7) (va_cwS 1 hts gX7_areMatters_X7_isMatter rfl rfl rfl hdX7_isMatter ⟨Nat.le_of_ble_eq_true rfl, Nat.le_of_ble_eq_true rfl⟩) rfl hl.1 rfl (Nat.le_of_ble_eq_true rfl) dX7_areMatters_21 ⟨Nat.zero_le _, Nat.zero_le _⟩ ?_
        refine lv_if_ne (tgt := 29) hx hb dX7_areMatters_24 (by decide) (fun c8 => ?_) (fun c8 => ?_)
        · have hf := q_f c8 hf
          refine lv_iinc (v := l4_1 + (1 : Int32)) (lv' := [(4, .int (l4_1 + (1 : Int32))), (0, .ref o0), (1, .int p1), (2, .int p2), (3, .int p3)]) hx hb dX7_areMatters_29 hl (k := 0) rfl rfl (by decide) rfl (fun ls hl => ?_)
          refine lv_goto (tgt := 3) hx hb dX7_areMatters_32 (by decide) ?_
          exact ihn2 (l4_1 + (1 : Int32)) hf _ hl
        · have hf := q_t c8 hf
          refine lv_iconst (v := 0) hx hb dX7_areMatters_27 (by decide) ?_
          have ee0 := q_s1 hf
          exact q_retZ hx hb hr hlk rfl ee0 dX7_areMatters_28
  exact aihn2 5000 (0 : Int32) hf _ hl
theorem hdX7_setCouncil : yX7_setCouncil.cls = RX7 ∧ yX7_setCouncil.cls ≠ "java/lang/invoke/MethodHandle" ∧ yX7_setCouncil.cls ≠ "java/lang/invoke/VarHandle" ∧ (parseMethodDescriptor yX7_setCouncil.desc).map (fun d => d.parameters.length) = some 5 := by decide +kernel
theorem qX7_setCouncil_1 : (Cond.fieldLink RX7 63 "DeadAsked" "standing" "LDeadAsked$Hill;") ∈ wsX7_setCouncil := List.mem_of_getElem? (i := 1) (by decide +kernel)
theorem qX7_setCouncil_2 : (Cond.fieldLink RX7 12 "DeadAsked" "rows" "LDeadAsked$Rows;") ∈ wsX7_setCouncil := List.mem_of_getElem? (i := 2) (by decide +kernel)
theorem qX7_setCouncil_3 : (Cond.constantLong RX7 241 1000000000) ∈ wsX7_setCouncil := List.mem_of_getElem? (i := 3) (by decide +kernel)
theorem qX7_setCouncil_4 : (Cond.fieldLink RX7 49 "DeadAsked" "fraction" "LDeadAsked$Fraction;") ∈ wsX7_setCouncil := List.mem_of_getElem? (i := 4) (by decide +kernel)
theorem nX7_setCouncil_7 : ∀ w ∈ u_ws RX7 TX7 14, w ∈ wsX7_setCouncil := fun _ h => (List.mem_cons_of_mem _ (List.mem_append_left _ (List.mem_append_left _ (List.mem_append_left _ (List.mem_append_right _ h)))))
set_option maxHeartbeats 4000000 in
set_option maxRecDepth 100000 in
theorem kX7_setCouncil (o0 : Nat) (g0 : Nat → Nat) (a1 : Nat → Nat) (a2 : Nat → Nat) (s0 : St) (s1 : St) (s2 : St) (t3 : Lt) (p1 : Int32) (p2 : Int32) (p3 : Int32) (p4 : Int32) (p5 : Int32) (sz : Nat) (y3 : Lt) (hf : fX7_setCouncil s1 s2 t3 p1 p2 p3 p4 p5 = some y3) : Met l yX7_setCouncil wsX7_setCouncil ({ frames := 4, cells := 0, slots := 0, locals := 93 } : Room) (pcW (dC, dI) (q_ty cI cB cZ) [.ref o0, .int p1, .int p2, .int p3, .int p4, .int p5] ((wcX o0 g0 s0) ++ (wcR cI (g0 0) a1 s1) ++ (wcH cI (g0 8) a2 s2) ++ (wcF (g0 5) t3)) sz) (qvW (dC, dI) (q_ty cI cB cZ) ((wcX o0 g0 s0) ++ (wcR cI (g0 0) a1 s1) ++ (wcH cI (g0 8) a2 s2) ++ (wcF (g0 5) t3)) ((wcX o0 g0 s0) ++ (wcR cI (g0 0) a1 s1) ++ (wcH cI (g0 8) a2 s2) ++ (wcF (g0 5) y3)) sz) 0 0 (va_A ((wcX o0 g0 s0) ++ (wcR cI (g0 0) a1 s1) ++ (wcH cI (g0 8) a2 s2) ++ (wcF (g0 5) t3)) sz) := by
  refine q_rwM (cc := cX7_setCouncil) (maxL := 12) (ret := none) (by decide +kernel) rfl (Nat.le_of_ble_eq_true rfl) ?_
  intro p e s m below meth c hx hb hr hlk hml hown hts hK A H hAe hH hsz hP hD hA hS ls hl
  have hown : s.vm.findClass RX7 = some m.cls := hown
  have hl : lv_has ls 12 [(0, .ref o0), (1, .int p1), (2, .int p2), (3, .int p3), (4, .int p4), (5, .int p5)] := hl
  unfold fX7_setCouncil at hf
  refine lv_lconst (v := 1) hx hb dX7_setCouncil_0 (by decide) ?_
  refine lv_lstore (lv' := [(6, .long (1 : Int64)), (0, .ref o0), (1, .int p1), (2, .int p2), (3, .int p3), (4, .int p4), (5, .int p5)]) hx hb dX7_setCouncil_1 hl (by decide) rfl (fun ls hl => ?_)
  refine lv_lconst (v := 1) hx hb dX7_setCouncil_3 (by decide) ?_
  refine lv_lstore (lv' := [(8, .long (1 : Int64)), (6, .long (1 : Int64)), (0, .ref o0), (1, .int p1), (2, .int p2), (3, .int p3), (4, .int p4), (5, .int p5)]) hx hb dX7_setCouncil_4 hl (by decide) rfl (fun ls hl => ?_)
  refine lv_iconst (v := 0) hx hb dX7_setCouncil_6 (by decide) ?_
  refine lv_istore (lv' := [(10, .int (0 : Int32)), (8, .long (1 : Int64)), (6, .long (1 : Int64)), (0, .ref o0), (1, .int p1), (2, .int p2), (3, .int p3), (4, .int p4), (5, .int p5)]) hx hb dX7_setCouncil_7 hl (by decide) rfl (fun ls hl => ?_)
  obtain ⟨oz5, oz6, hqn4, hf⟩ := q_b2o hf
  have kxn4 : ∀ z5 : Int64, ∀ z6 : Int64, z5 = oz5 → z6 = oz6 → ∀ (H : Heap) (locs : List Loc), va_P (dC, dI) vwCl ((wcX o0 g0 s0) ++ (wcR cI (g0 0) a1 s1) ++ (wcH cI (g0 8) a2 s2) ++ (wcF (g0 5) t3)) H → va_D A ((wcX o0 g0 s0) ++ (wcR cI (g0 0) a1 s1) ++ (wcH cI (g0 8) a2 s2) ++ (wcF (g0 5) t3)) → va_S A s.heap H locs → ∀ ls : Array Slot, lv_has ls 12 [(8, .long z6), (6, .long z5), (0, .ref o0)] → W p l e ({ frames := 4, cells := 0, slots := 0, locals := 93 } : Room) s m [.ref o0, .int p1, .int p2, .int p3, .int p4, .int p5].toArray below meth c H locs 0 0 (MQ below (qvW (dC, dI) (q_ty cI cB cZ) ((wcX o0 g0 s0) ++ (wcR cI (g0 0) a1 s1) ++ (wcH cI (g0 8) a2 s2) ++ (wcF (g0 5) t3)) ((wcX o0 g0 s0) ++ (wcR cI (g0 0) a1 s1) ++ (wcH cI (g0 8) a2 s2) ++ (wcF (g0 5) y3)) sz) [.ref o0, .int p1, .int p2, .int p3, .int p4, .int p5].toArray s 0 0 (va_A ((wcX o0 g0 s0) ++ (wcR cI (g0 0) a1 s1) ++ (wcH cI (g0 8) a2 s2) ++ (wcF (g0 5) t3)) sz)) (F0 m 73 ls []) := by
    intro z5 z6 ez5 ez6 H locs hP hD hS ls hl
    subst ez5
    subst ez6
    refine lv_aload_n hx hb dX7_setCouncil_73 rfl (lv_at hl 2 rfl) ?_
    refine va_get (D := (dC, dI)) (ci := 7) (v := .ref (g0 5)) (C := RX7) (T := TX7) (N := 14) hx hb hts nX7_setCouncil_7 hown hK hP 0 rfl rfl 5 (by decide) (hts _ qX7_setCouncil_4) (fun _ h9 => h9) rfl dX7_setCouncil_74 ?_
    refine lv_lload hx hb dX7_setCouncil_77 (lv_at hl 1 rfl) ?_
    refine lv_lload hx hb dX7_setCouncil_79 (lv_at hl 0 rfl) ?_
    obtain ⟨tc15, h16, hf⟩ := q_b1o hf
    refine q_rwVv (As := [.long z5, .long z6]) (rest := []) (ci := 2) (wr := ((wcX o0 g0 s0) ++ (wcR cI (g0 0) a1 s1) ++ (wcH cI (g0 8) a2 s2))) (w2 := ((wcX o0 g0 s0) ++ (wcR cI (g0 0) a1 s1) ++ (wcH cI (g0 8) a2 s2) ++ (wcF (g0 5) tc15))) ⟨hx, hb, hml, hown, hts⟩ (kX2_become l dC dI cI cB cZ (g0 5) t3 z5 z6 H.size tc15 h16) (cwV 2 hts gX7_setCouncil_X2_become rfl rfl rfl hdX2_become ⟨Nat.le_of_ble_eq_true rfl, Nat.le_of_ble_eq_true rfl⟩) hK hP hD hS hA [16] [0, 1, 2, 3, 4, 5, 6, 7, 8, 9, 10, 11, 12, 13, 14, 15] [0, 1, 2, 3, 4, 5, 6, 7, 8, 9, 10, 11, 12, 13, 14, 15, 16] rfl rfl (by decide) (by decide) (by decide) rfl (by decide) rfl rfl rfl hl.1 rfl (Nat.le_of_ble_eq_true rfl) dX7_setCouncil_81 ⟨Nat.zero_le _, Nat.zero_le _⟩ (fun H locs hP hD hS => ?_)
    have ee0 := q_s1 hf
    subst ee0
    exact q_wretV hx hb hr hlk hAe hK hP hD hS dX7_setCouncil_84
  have aihn4 : ∀ n4 : Nat, ∀ l6_1 : Int64, ∀ l8_2 : Int64, ∀ l10_3 : Int32, fX7_setCouncil_L9 p1 p2 p3 p4 p5 s1 s2 n4 l6_1 l8_2 l10_3 = some (oz5, oz6) → ∀ (H : Heap) (locs : List Loc), va_P (dC, dI) vwCl ((wcX o0 g0 s0) ++ (wcR cI (g0 0) a1 s1) ++ (wcH cI (g0 8) a2 s2) ++ (wcF (g0 5) t3)) H → va_D A ((wcX o0 g0 s0) ++ (wcR cI (g0 0) a1 s1) ++ (wcH cI (g0 8) a2 s2) ++ (wcF (g0 5) t3)) → va_S A s.heap H locs → ∀ ls : Array Slot, lv_has ls 12 [(10, .int l10_3), (8, .long l8_2), (6, .long l6_1), (0, .ref o0), (1, .int p1), (2, .int p2), (3, .int p3), (4, .int p4), (5, .int p5)] → W p l e ({ frames := 4, cells := 0, slots := 0, locals := 93 } : Room) s m [.ref o0, .int p1, .int p2, .int p3, .int p4, .int p5].toArray below meth c H locs 0 0 (MQ below (qvW (dC, dI) (q_ty cI cB cZ) ((wcX o0 g0 s0) ++ (wcR cI (g0 0) a1 s1) ++ (wcH cI (g0 8) a2 s2) ++ (wcF (g0 5) t3)) ((wcX o0 g0 s0) ++ (wcR cI (g0 0) a1 s1) ++ (wcH cI (g0 8) a2 s2) ++ (wcF (g0 5) y3)) sz) [.ref o0, .int p1, .int p2, .int p3, .int p4, .int p5].toArray s 0 0 (va_A ((wcX o0 g0 s0) ++ (wcR cI (g0 0) a1 s1) ++ (wcH cI (g0 8) a2 s2) ++ (wcF (g0 5) t3)) sz)) (F0 m 9 ls []) := by
    intro n4
    induction n4 with
    | zero =>
      intro l6_1 l8_2 l10_3 hf
      exact q_no hf
    | succ n4 ihn4 =>
      intro l6_1 l8_2 l10_3 hf H locs hP hD hS ls hl
      rw [fX7_setCouncil_L9] at hf
      refine lv_iload hx hb dX7_setCouncil_9 (lv_at hl 0 rfl) ?_
      refine lv_iload hx hb dX7_setCouncil_11 (lv_at hl 8 rfl) ?_
      refine lv_icmp_ge (tgt := 73) hx hb dX7_setCouncil_13 (by decide) (fun c7 => ?_) (fun c7 => ?_)
      · have hf := q_t c7 hf
        obtain ⟨w0, w1⟩ := q_s2 hf
        exact kxn4 l6_1 l8_2 w0 w1 _ _ hP hD hS _ (lv_sub hl [1, 2, 3] rfl)
      · have hf := q_f c7 hf
        refine lv_aload_n hx hb dX7_setCouncil_16 rfl (lv_at hl 3 rfl) ?_
        refine va_get (D := (dC, dI)) (ci := 7) (v := .ref (g0 8)) (C := RX7) (T := TX7) (N := 14) hx hb hts nX7_setCouncil_7 hown hK hP 0 rfl rfl 8 (by decide) (hts _ qX7_setCouncil_1) (fun _ h9 => h9) rfl dX7_setCouncil_17 ?_
        refine lv_aload_n hx hb dX7_setCouncil_20 rfl (lv_at hl 3 rfl) ?_
        refine va_get (D := (dC, dI)) (ci := 7) (v := .ref (g0 0)) (C := RX7) (T := TX7) (N := 14) hx hb hts nX7_setCouncil_7 hown hK hP 0 rfl rfl 0 (by decide) (hts _ qX7_setCouncil_2) (fun _ h9 => h9) rfl dX7_setCouncil_21 ?_
        refine lv_iload_n hx hb dX7_setCouncil_24 rfl (lv_at hl 6 rfl) ?_
        refine lv_iload hx hb dX7_setCouncil_25 (lv_at hl 7 rfl) ?_
        refine lv_iload hx hb dX7_setCouncil_27 (lv_at hl 0 rfl) ?_
        refine lv_iadd hx hb dX7_setCouncil_29 ?_
        obtain ⟨r8, h9, hf⟩ := q_b1o hf
        refine q_roVi (As := [.int p3, .int (p4 + l10_3)]) (rest := [.ref (g0 8)]) (ci := 5) ⟨hx, hb, hml, hown, hts⟩ (kX5_item l dC dI cI cB cZ (g0 0) a1 s1 p3 (p4 + l10_3) r8 h9) (cwV 2 hts gX7_setCouncil_X5_item rfl rfl rfl hdX5_item ⟨Nat.le_of_ble_eq_true rfl, Nat.le_of_ble_eq_true rfl⟩) hK (hP.sub [1, 2, 3, 4] rfl) rfl rfl rfl hl.1 rfl (Nat.le_of_ble_eq_true rfl) dX7_setCouncil_30 ⟨Nat.zero_le _, Nat.zero_le _⟩ ?_
        refine lv_iload_n hx hb dX7_setCouncil_33 rfl (lv_at hl 4 rfl) ?_
        refine lv_iconst (v := 0) hx hb dX7_setCouncil_34 (by decide) ?_
        obtain ⟨r10, h11, hf⟩ := q_b1o hf
        refine q_roVi (As := [.int r8, .int p1, .int (0 : Int32)]) (rest := []) (ci := 3) ⟨hx, hb, hml, hown, hts⟩ (kX3_minding l dC dI cI cB cZ (g0 8) a2 s2 r8 p1 (0 : Int32) r10 h11) (cwV 3 hts gX7_setCouncil_X3_minding rfl rfl rfl hdX3_minding ⟨Nat.le_of_ble_eq_true rfl, Nat.le_of_ble_eq_true rfl⟩) hK (hP.sub [5, 6, 7, 8, 9, 10, 11, 12, 13, 14, 15] rfl) rfl rfl rfl hl.1 rfl (Nat.le_of_ble_eq_true rfl) dX7_setCouncil_35 ⟨Nat.zero_le _, Nat.zero_le _⟩ ?_
        refine lv_istore (lv' := [(11, .int r10), (10, .int l10_3), (8, .long l8_2), (6, .long l6_1), (0, .ref o0), (1, .int p1), (2, .int p2), (3, .int p3), (4, .int p4), (5, .int p5)]) hx hb dX7_setCouncil_38 hl (by decide) rfl (fun ls hl => ?_)
        refine lv_lload hx hb dX7_setCouncil_40 (lv_at hl 3 rfl) ?_
        refine lv_aload_n hx hb dX7_setCouncil_42 rfl (lv_at hl 4 rfl) ?_
        refine va_get (D := (dC, dI)) (ci := 7) (v := .ref (g0 8)) (C := RX7) (T := TX7) (N := 14) hx hb hts nX7_setCouncil_7 hown hK hP 0 rfl rfl 8 (by decide) (hts _ qX7_setCouncil_1) (fun _ h9 => h9) rfl dX7_setCouncil_43 ?_
        refine lv_iload hx hb dX7_setCouncil_46 (lv_at hl 0 rfl) ?_
        refine lv_iload_n hx hb dX7_setCouncil_48 rfl (lv_at hl 6 rfl) ?_
        refine lv_iload hx hb dX7_setCouncil_49 (lv_at hl 1 rfl) ?_
        refine lv_iadd hx hb dX7_setCouncil_51 ?_
        refine lv_iconst (v := 0) hx hb dX7_setCouncil_52 (by decide) ?_
        obtain ⟨r12, h13, hf⟩ := q_b1o hf
        refine q_roVl (As := [.int r10, .int (p2 + l10_3), .int (0 : Int32)]) (rest := [.long l6_1]) (ci := 3) ⟨hx, hb, hml, hown, hts⟩ (kX3_passing l dC dI cI cB cZ (g0 8) a2 s2 r10 (p2 + l10_3) (0 : Int32) r12 h13) (cwV 3 hts gX7_setCouncil_X3_passing rfl rfl rfl hdX3_passing ⟨Nat.le_of_ble_eq_true rfl, Nat.le_of_ble_eq_true rfl⟩) hK (hP.sub [5, 6, 7, 8, 9, 10, 11, 12, 13, 14, 15] rfl) rfl rfl rfl hl.1 rfl (Nat.le_of_ble_eq_true rfl) dX7_setCouncil_53 ⟨Nat.zero_le _, Nat.zero_le _⟩ ?_
        refine lv_lmul hx hb dX7_setCouncil_56 ?_
        refine lv_lstore (lv' := [(6, .long (l6_1 * r12)), (11, .int r10), (10, .int l10_3), (8, .long l8_2), (0, .ref o0), (1, .int p1), (2, .int p2), (3, .int p3), (4, .int p4), (5, .int p5)]) hx hb dX7_setCouncil_57 hl (by decide) rfl (fun ls hl => ?_)
        refine lv_lload hx hb dX7_setCouncil_59 (lv_at hl 3 rfl) ?_
        refine lv_ldc2 (v := 1000000000) hx hb hown (hts _ qX7_setCouncil_3) dX7_setCouncil_61 ?_
        refine lv_lmul hx hb dX7_setCouncil_64 ?_
        obtain ⟨x14, ex14, hf⟩ := q_lto hf
        refine W.eq (g2 := F0 m 65 ls [.long x14]) (by rw [ex14]) ?_
        refine lv_lstore (lv' := [(8, .long x14), (6, .long (l6_1 * r12)), (11, .int r10), (10, .int l10_3), (0, .ref o0), (1, .int p1), (2, .int p2), (3, .int p3), (4, .int p4), (5, .int p5)]) hx hb dX7_setCouncil_65 hl (by decide) rfl (fun ls hl => ?_)
        refine lv_iinc (v := l10_3 + (1 : Int32)) (lv' := [(10, .int (l10_3 + (1 : Int32))), (8, .long x14), (6, .long (l6_1 * r12)), (11, .int r10), (0, .ref o0), (1, .int p1), (2, .int p2), (3, .int p3), (4, .int p4), (5, .int p5)]) hx hb dX7_setCouncil_67 hl (k := 3) rfl rfl (by decide) rfl (fun ls hl => ?_)
        refine lv_goto (tgt := 9) hx hb dX7_setCouncil_70 (by decide) ?_
        exact ihn4 (l6_1 * r12) x14 (l10_3 + (1 : Int32)) hf _ _ hP hD hS _ (lv_sub hl [0, 1, 2, 4, 5, 6, 7, 8, 9] rfl)
  exact aihn4 5000 (1 : Int64) (1 : Int64) (0 : Int32) hqn4 _ _ hP hD hS _ hl
theorem hdX7_council : yX7_council.cls = RX7 ∧ yX7_council.cls ≠ "java/lang/invoke/MethodHandle" ∧ yX7_council.cls ≠ "java/lang/invoke/VarHandle" ∧ (parseMethodDescriptor yX7_council.desc).map (fun d => d.parameters.length) = some 6 := by decide +kernel
theorem qX7_council_1 : (Cond.fieldLink RX7 145 "DeadAsked" "hasHill" "Z") ∈ wsX7_council := List.mem_of_getElem? (i := 1) (by decide +kernel)
theorem qX7_council_2 : (Cond.constantLong RX7 155 (-9000000000000000002)) ∈ wsX7_council := List.mem_of_getElem? (i := 2) (by decide +kernel)
theorem qX7_council_3 : (Cond.fieldLink RX7 12 "DeadAsked" "rows" "LDeadAsked$Rows;") ∈ wsX7_council := List.mem_of_getElem? (i := 3) (by decide +kernel)
theorem qX7_council_4 : (Cond.constantLong RX7 76 (-9000000000000000001)) ∈ wsX7_council := List.mem_of_getElem? (i := 4) (by decide +kernel)
theorem qX7_council_5 : (Cond.fieldLink RX7 49 "DeadAsked" "fraction" "LDeadAsked$Fraction;") ∈ wsX7_council := List.mem_of_getElem? (i := 5) (by decide +kernel)
theorem nX7_council_7 : ∀ w ∈ u_ws RX7 TX7 14, w ∈ wsX7_council := fun _ h => (List.mem_cons_of_mem _ (List.mem_append_left _ (List.mem_append_left _ (List.mem_append_left _ (List.mem_append_right _ h)))))
set_option maxHeartbeats 4000000 in
set_option maxRecDepth 100000 in
theorem kX7_council (o0 : Nat) (g0 : Nat → Nat) (a1 : Nat → Nat) (a2 : Nat → Nat) (s0 : St) (s1 : St) (s2 : St) (t3 : Lt) (p1 : Int32) (p2 : Int32) (p3 : Int32) (p4 : Int32) (p5 : Int32) (p6 : Int32) (sz : Nat) (r : Int64) (z0 : St) (y3 : Lt) (hf : fX7_council s0 s1 s2 t3 p1 p2 p3 p4 p5 p6 = some (r, z0, y3)) : Met l yX7_council wsX7_council ({ frames := 5, cells := 0, slots := 0, locals := 124 } : Room) (pcW (dC, dI) (q_ty cI cB cZ) [.ref o0, .int p1, .int p2, .int p3, .int p4, .int p5, .int p6] ((wcX o0 g0 s0) ++ (wcR cI (g0 0) a1 s1) ++ (wcH cI (g0 8) a2 s2) ++ (wcF (g0 5) t3)) sz) (qlW (dC, dI) (q_ty cI cB cZ) ((wcX o0 g0 s0) ++ (wcR cI (g0 0) a1 s1) ++ (wcH cI (g0 8) a2 s2) ++ (wcF (g0 5) t3)) ((wcX o0 g0 z0) ++ (wcR cI (g0 0) a1 s1) ++ (wcH cI (g0 8) a2 s2) ++ (wcF (g0 5) y3)) sz r) 0 0 (va_A ((wcX o0 g0 s0) ++ (wcR cI (g0 0) a1 s1) ++ (wcH cI (g0 8) a2 s2) ++ (wcF (g0 5) t3)) sz) := by
  refine q_rwM (cc := cX7_council) (maxL := 7) (ret := (some .long)) (by decide +kernel) rfl (Nat.le_of_ble_eq_true rfl) ?_
  intro p e s m below meth c hx hb hr hlk hml hown hts hK A H hAe hH hsz hP hD hA hS ls hl
  have hown : s.vm.findClass RX7 = some m.cls := hown
  have hl : lv_has ls 7 [(0, .ref o0), (1, .int p1), (2, .int p2), (3, .int p3), (4, .int p4), (5, .int p5), (6, .int p6)] := hl
  unfold fX7_council at hf
  refine lv_aload_n hx hb dX7_council_0 rfl (lv_at hl 0 rfl) ?_
  refine va_get (D := (dC, dI)) (ci := 7) (v := .int (s0 10 0)) (C := RX7) (T := TX7) (N := 14) hx hb hts nX7_council_7 hown hK hP 0 rfl rfl 10 (by decide) (hts _ qX7_council_1) (fun _ h9 => h9) rfl dX7_council_1 ?_
  refine lv_if_ne (tgt := 11) hx hb dX7_council_4 (by decide) (fun c1 => ?_) (fun c1 => ?_)
  · have hf := q_f c1 hf
    refine lv_iload_n hx hb dX7_council_11 rfl (lv_at hl 1 rfl) ?_
    obtain ⟨r2, h3, hf⟩ := q_b1o hf
    refine q_roSi (As := [.int p1]) (rest := []) ⟨hx, hb, hml, hown, hts⟩ (kX7_isHorns l p1 r2 h3) (va_cwS 1 hts gX7_council_X7_isHorns rfl rfl rfl hdX7_isHorns ⟨Nat.le_of_ble_eq_true rfl, Nat.le_of_ble_eq_true rfl⟩) rfl hl.1 rfl (Nat.le_of_ble_eq_true rfl) dX7_council_12 ⟨Nat.zero_le _, Nat.zero_le _⟩ ?_
    refine lv_if_eq (tgt := 68) hx hb dX7_council_15 (by decide) (fun c4 => ?_) (fun c4 => ?_)
    · have hf := q_t c4 hf
      refine lv_ldc2 (v := -9000000000000000001) hx hb hown (hts _ qX7_council_4) dX7_council_68 ?_
      obtain ⟨ee0, ee1, ee2⟩ := q_s3 hf
      subst ee1
      subst ee2
      exact q_wretL hx hb hr hlk hAe hK hP hD hS ee0 dX7_council_71
    · have hf := q_f c4 hf
      refine lv_iload_n hx hb dX7_council_18 rfl (lv_at hl 2 rfl) ?_
      obtain ⟨r5, h6, hf⟩ := q_b1o hf
      refine q_roSi (As := [.int p2]) (rest := []) ⟨hx, hb, hml, hown, hts⟩ (kX7_isHour l p2 r5 h6) (va_cwS 1 hts gX7_council_X7_isHour rfl rfl rfl hdX7_isHour ⟨Nat.le_of_ble_eq_true rfl, Nat.le_of_ble_eq_true rfl⟩) rfl hl.1 rfl (Nat.le_of_ble_eq_true rfl) dX7_council_19 ⟨Nat.zero_le _, Nat.zero_le _⟩ ?_
      refine lv_if_eq (tgt := 68) hx hb dX7_council_22 (by decide) (fun c7 => ?_) (fun c7 => ?_)
      · have hf := q_t c7 hf
        refine lv_ldc2 (v := -9000000000000000001) hx hb hown (hts _ qX7_council_4) dX7_council_68 ?_
        obtain ⟨ee0, ee1, ee2⟩ := q_s3 hf
        subst ee1
        subst ee2
        exact q_wretL hx hb hr hlk hAe hK hP hD hS ee0 dX7_council_71
      · have hf := q_f c7 hf
        refine lv_aload_n hx hb dX7_council_25 rfl (lv_at hl 0 rfl) ?_
        refine va_get (D := (dC, dI)) (ci := 7) (v := .ref (g0 0)) (C := RX7) (T := TX7) (N := 14) hx hb hts nX7_council_7 hown hK hP 0 rfl rfl 0 (by decide) (hts _ qX7_council_3) (fun _ h9 => h9) rfl dX7_council_26 ?_
        refine lv_iload_n hx hb dX7_council_29 rfl (lv_at hl 3 rfl) ?_
        obtain ⟨r8, h9, hf⟩ := q_b1o hf
        refine q_roVi (As := [.int p3]) (rest := []) (ci := 5) ⟨hx, hb, hml, hown, hts⟩ (kX5_isRow l dC dI cI cB cZ (g0 0) a1 s1 p3 r8 h9) (cwV 1 hts gX7_council_X5_isRow rfl rfl rfl hdX5_isRow ⟨Nat.le_of_ble_eq_true rfl, Nat.le_of_ble_eq_true rfl⟩) hK (hP.sub [1, 2, 3, 4] rfl) rfl rfl rfl hl.1 rfl (Nat.le_of_ble_eq_true rfl) dX7_council_30 ⟨Nat.zero_le _, Nat.zero_le _⟩ ?_
        refine lv_if_eq (tgt := 68) hx hb dX7_council_33 (by decide) (fun c10 => ?_) (fun c10 => ?_)
        · have hf := q_t c10 hf
          refine lv_ldc2 (v := -9000000000000000001) hx hb hown (hts _ qX7_council_4) dX7_council_68 ?_
          obtain ⟨ee0, ee1, ee2⟩ := q_s3 hf
          subst ee1
          subst ee2
          exact q_wretL hx hb hr hlk hAe hK hP hD hS ee0 dX7_council_71
        · have hf := q_f c10 hf
          refine lv_iload hx hb dX7_council_36 (lv_at hl 5 rfl) ?_
          refine lv_iconst (v := 1) hx hb dX7_council_38 (by decide) ?_
          refine lv_icmp_lt (tgt := 68) hx hb dX7_council_39 (by decide) (fun c11 => ?_) (fun c11 => ?_)
          · have hf := q_t c11 hf
            refine lv_ldc2 (v := -9000000000000000001) hx hb hown (hts _ qX7_council_4) dX7_council_68 ?_
            obtain ⟨ee0, ee1, ee2⟩ := q_s3 hf
            subst ee1
            subst ee2
            exact q_wretL hx hb hr hlk hAe hK hP hD hS ee0 dX7_council_71
          · have hf := q_f c11 hf
            refine lv_iload hx hb dX7_council_42 (lv_at hl 5 rfl) ?_
            refine lv_iconst (v := 2) hx hb dX7_council_44 (by decide) ?_
            refine lv_icmp_gt (tgt := 68) hx hb dX7_council_45 (by decide) (fun c12 => ?_) (fun c12 => ?_)
            · have hf := q_t c12 hf
              refine lv_ldc2 (v := -9000000000000000001) hx hb hown (hts _ qX7_council_4) dX7_council_68 ?_
              obtain ⟨ee0, ee1, ee2⟩ := q_s3 hf
              subst ee1
              subst ee2
              exact q_wretL hx hb hr hlk hAe hK hP hD hS ee0 dX7_council_71
            · have hf := q_f c12 hf
              refine lv_iload_n hx hb dX7_council_48 rfl (lv_at hl 2 rfl) ?_
              refine lv_iload hx hb dX7_council_49 (lv_at hl 5 rfl) ?_
              refine lv_iadd hx hb dX7_council_51 ?_
              refine lv_iconst (v := 1) hx hb dX7_council_52 (by decide) ?_
              refine lv_isub hx hb dX7_council_53 ?_
              obtain ⟨r13, h14, hf⟩ := q_b1o hf
              refine q_roSi (As := [.int ((p2 + p5) - (1 : Int32))]) (rest := []) ⟨hx, hb, hml, hown, hts⟩ (kX7_isHour l ((p2 + p5) - (1 : Int32)) r13 h14) (va_cwS 1 hts gX7_council_X7_isHour rfl rfl rfl hdX7_isHour ⟨Nat.le_of_ble_eq_true rfl, Nat.le_of_ble_eq_true rfl⟩) rfl hl.1 rfl (Nat.le_of_ble_eq_true rfl) dX7_council_54 ⟨Nat.zero_le _, Nat.zero_le _⟩ ?_
              refine lv_if_eq (tgt := 68) hx hb dX7_council_57 (by decide) (fun c15 => ?_) (fun c15 => ?_)
              · have hf := q_t c15 hf
                refine lv_ldc2 (v := -9000000000000000001) hx hb hown (hts _ qX7_council_4) dX7_council_68 ?_
                obtain ⟨ee0, ee1, ee2⟩ := q_s3 hf
                subst ee1
                subst ee2
                exact q_wretL hx hb hr hlk hAe hK hP hD hS ee0 dX7_council_71
              · have hf := q_f c15 hf
                refine lv_iload hx hb dX7_council_60 (lv_at hl 6 rfl) ?_
                obtain ⟨r16, h17, hf⟩ := q_b1o hf
                refine q_roSi (As := [.int p6]) (rest := []) ⟨hx, hb, hml, hown, hts⟩ (kX7_isPart l p6 r16 h17) (va_cwS 1 hts gX7_council_X7_isPart rfl rfl rfl hdX7_isPart ⟨Nat.le_of_ble_eq_true rfl, Nat.le_of_ble_eq_true rfl⟩) rfl hl.1 rfl (Nat.le_of_ble_eq_true rfl) dX7_council_62 ⟨Nat.zero_le _, Nat.zero_le _⟩ ?_
                refine lv_if_ne (tgt := 72) hx hb dX7_council_65 (by decide) (fun c18 => ?_) (fun c18 => ?_)
                · have hf := q_f c18 hf
                  refine lv_aload_n hx hb dX7_council_72 rfl (lv_at hl 0 rfl) ?_
                  refine va_get (D := (dC, dI)) (ci := 7) (v := .ref (g0 0)) (C := RX7) (T := TX7) (N := 14) hx hb hts nX7_council_7 hown hK hP 0 rfl rfl 0 (by decide) (hts _ qX7_council_3) (fun _ h9 => h9) rfl dX7_council_73 ?_
                  refine lv_iload_n hx hb dX7_council_76 rfl (lv_at hl 3 rfl) ?_
                  obtain ⟨r19, h20, hf⟩ := q_b1o hf
                  refine q_roVi (As := [.int p3]) (rest := []) (ci := 5) ⟨hx, hb, hml, hown, hts⟩ (kX5_isMissing l dC dI cI cB cZ (g0 0) a1 s1 p3 r19 h20) (cwV 1 hts gX7_council_X5_isMissing rfl rfl rfl hdX5_isMissing ⟨Nat.le_of_ble_eq_true rfl, Nat.le_of_ble_eq_true rfl⟩) hK (hP.sub [1, 2, 3, 4] rfl) rfl rfl rfl hl.1 rfl (Nat.le_of_ble_eq_true rfl) dX7_council_77 ⟨Nat.zero_le _, Nat.zero_le _⟩ ?_
                  refine lv_if_eq (tgt := 89) hx hb dX7_council_80 (by decide) (fun c21 => ?_) (fun c21 => ?_)
                  · have hf := q_t c21 hf
                    refine lv_aload_n hx hb dX7_council_89 rfl (lv_at hl 0 rfl) ?_
                    refine va_get (D := (dC, dI)) (ci := 7) (v := .ref (g0 0)) (C := RX7) (T := TX7) (N := 14) hx hb hts nX7_council_7 hown hK hP 0 rfl rfl 0 (by decide) (hts _ qX7_council_3) (fun _ h9 => h9) rfl dX7_council_90 ?_
                    refine lv_iload_n hx hb dX7_council_93 rfl (lv_at hl 3 rfl) ?_
                    refine lv_iload hx hb dX7_council_94 (lv_at hl 4 rfl) ?_
                    refine lv_iload hx hb dX7_council_96 (lv_at hl 5 rfl) ?_
                    obtain ⟨r22, h23, hf⟩ := q_b1o hf
                    refine q_roVi (As := [.int p3, .int p4, .int p5]) (rest := []) (ci := 5) ⟨hx, hb, hml, hown, hts⟩ (kX5_holds l dC dI cI cB cZ (g0 0) a1 s1 p3 p4 p5 r22 h23) (cwV 3 hts gX7_council_X5_holds rfl rfl rfl hdX5_holds ⟨Nat.le_of_ble_eq_true rfl, Nat.le_of_ble_eq_true rfl⟩) hK (hP.sub [1, 2, 3, 4] rfl) rfl rfl rfl hl.1 rfl (Nat.le_of_ble_eq_true rfl) dX7_council_98 ⟨Nat.zero_le _, Nat.zero_le _⟩ ?_
                    refine lv_if_ne (tgt := 110) hx hb dX7_council_101 (by decide) (fun c24 => ?_) (fun c24 => ?_)
                    · have hf := q_f c24 hf
                      refine lv_aload_n hx hb dX7_council_110 rfl (lv_at hl 0 rfl) ?_
                      refine lv_iload_n hx hb dX7_council_111 rfl (lv_at hl 3 rfl) ?_
                      refine lv_iload hx hb dX7_council_112 (lv_at hl 4 rfl) ?_
                      refine lv_iload hx hb dX7_council_114 (lv_at hl 5 rfl) ?_
                      obtain ⟨r25, h26, hf⟩ := q_b1o hf
                      refine q_roVi (As := [.int p3, .int p4, .int p5]) (rest := []) (ci := 7) ⟨hx, hb, hml, hown, hts⟩ (kX7_areMatters l dC dI cI cB cZ o0 g0 a1 s0 s1 p3 p4 p5 r25 h26) (cwV 3 hts gX7_council_X7_areMatters rfl rfl rfl hdX7_areMatters ⟨Nat.le_of_ble_eq_true rfl, Nat.le_of_ble_eq_true rfl⟩) hK (hP.sub [0, 1, 2, 3, 4] rfl) rfl rfl rfl hl.1 rfl (Nat.le_of_ble_eq_true rfl) dX7_council_116 ⟨Nat.zero_le _, Nat.zero_le _⟩ ?_
                      refine lv_if_ne (tgt := 126) hx hb dX7_council_119 (by decide) (fun c27 => ?_) (fun c27 => ?_)
                      · have hf := q_f c27 hf
                        refine lv_aload_n hx hb dX7_council_126 rfl (lv_at hl 0 rfl) ?_
                        refine lv_iload_n hx hb dX7_council_127 rfl (lv_at hl 1 rfl) ?_
                        refine lv_iload_n hx hb dX7_council_128 rfl (lv_at hl 2 rfl) ?_
                        refine lv_iload_n hx hb dX7_council_129 rfl (lv_at hl 3 rfl) ?_
                        refine lv_iload hx hb dX7_council_130 (lv_at hl 4 rfl) ?_
                        refine lv_iload hx hb dX7_council_132 (lv_at hl 5 rfl) ?_
                        obtain ⟨tc28, h29, hf⟩ := q_b1o hf
                        refine q_rwVv (As := [.int p1, .int p2, .int p3, .int p4, .int p5]) (rest := []) (ci := 7) (wr := []) (w2 := ((wcX o0 g0 s0) ++ (wcR cI (g0 0) a1 s1) ++ (wcH cI (g0 8) a2 s2) ++ (wcF (g0 5) tc28))) ⟨hx, hb, hml, hown, hts⟩ (kX7_setCouncil l dC dI cI cB cZ o0 g0 a1 a2 s0 s1 s2 t3 p1 p2 p3 p4 p5 H.size tc28 h29) (cwV 5 hts gX7_council_X7_setCouncil rfl rfl rfl hdX7_setCouncil ⟨Nat.le_of_ble_eq_true rfl, Nat.le_of_ble_eq_true rfl⟩) hK hP hD hS hA [0, 1, 2, 3, 4, 5, 6, 7, 8, 9, 10, 11, 12, 13, 14, 15, 16] [] [0, 1, 2, 3, 4, 5, 6, 7, 8, 9, 10, 11, 12, 13, 14, 15, 16] rfl rfl (by decide) (by decide) (by decide) rfl (by decide) rfl rfl rfl hl.1 rfl (Nat.le_of_ble_eq_true rfl) dX7_council_134 ⟨Nat.zero_le _, Nat.zero_le _⟩ (fun H locs hP hD hS => ?_)
                        refine lv_aload_n hx hb dX7_council_137 rfl (lv_at hl 0 rfl) ?_
                        refine lv_aload_n hx hb dX7_council_138 rfl (lv_at hl 0 rfl) ?_
                        refine va_get (D := (dC, dI)) (ci := 7) (v := .ref (g0 5)) (C := RX7) (T := TX7) (N := 14) hx hb hts nX7_council_7 hown hK hP 0 rfl rfl 5 (by decide) (hts _ qX7_council_5) (fun _ h9 => h9) rfl dX7_council_139 ?_
                        refine lv_iload hx hb dX7_council_142 (lv_at hl 6 rfl) ?_
                        obtain ⟨r30, h31, hf⟩ := q_b1o hf
                        refine q_roVl (As := [.int p6]) (rest := [.ref o0]) (ci := 2) ⟨hx, hb, hml, hown, hts⟩ (kX2_part l dC dI cI cB cZ (g0 5) tc28 p6 r30 h31) (cwV 1 hts gX7_council_X2_part rfl rfl rfl hdX2_part ⟨Nat.le_of_ble_eq_true rfl, Nat.le_of_ble_eq_true rfl⟩) hK (hP.sub [16] rfl) rfl rfl rfl hl.1 rfl (Nat.le_of_ble_eq_true rfl) dX7_council_144 ⟨Nat.zero_le _, Nat.zero_le _⟩ ?_
                        obtain ⟨r32, sc33, h34, hf⟩ := q_b2o hf
                        refine q_rwVl (As := [.long r30]) (rest := []) (ci := 7) (wr := ((wcR cI (g0 0) a1 s1) ++ (wcH cI (g0 8) a2 s2) ++ (wcF (g0 5) tc28))) (w2 := ((wcX o0 g0 sc33) ++ (wcR cI (g0 0) a1 s1) ++ (wcH cI (g0 8) a2 s2) ++ (wcF (g0 5) tc28))) ⟨hx, hb, hml, hown, hts⟩ (kX7_withoutFinding l dC dI cI cB cZ o0 g0 s0 r30 H.size r32 sc33 h34) (cwV 1 hts gX7_council_X7_withoutFinding rfl rfl rfl hdX7_withoutFinding ⟨Nat.le_of_ble_eq_true rfl, Nat.le_of_ble_eq_true rfl⟩) hK hP hD hS hA [0] [1, 2, 3, 4, 5, 6, 7, 8, 9, 10, 11, 12, 13, 14, 15, 16] [16, 0, 1, 2, 3, 4, 5, 6, 7, 8, 9, 10, 11, 12, 13, 14, 15] rfl rfl (by decide) (by decide) (by decide) rfl (by decide) rfl rfl rfl hl.1 rfl (Nat.le_of_ble_eq_true rfl) dX7_council_147 ⟨Nat.zero_le _, Nat.zero_le _⟩ (fun H locs hP hD hS => ?_)
                        obtain ⟨ee0, ee1, ee2⟩ := q_s3 hf
                        subst ee1
                        subst ee2
                        exact q_wretL hx hb hr hlk hAe hK hP hD hS ee0 dX7_council_150
                      · have hf := q_t c27 hf
                        refine lv_ldc2 (v := -9000000000000000001) hx hb hown (hts _ qX7_council_4) dX7_council_122 ?_
                        obtain ⟨ee0, ee1, ee2⟩ := q_s3 hf
                        subst ee1
                        subst ee2
                        exact q_wretL hx hb hr hlk hAe hK hP hD hS ee0 dX7_council_125
                    · have hf := q_t c24 hf
                      refine lv_aload_n hx hb dX7_council_104 rfl (lv_at hl 0 rfl) ?_
                      refine lv_iconst (v := 2) hx hb dX7_council_105 (by decide) ?_
                      obtain ⟨r35, sc36, h37, hf⟩ := q_b2o hf
                      refine q_rwVl (As := [.int (2 : Int32)]) (rest := []) (ci := 7) (wr := ((wcR cI (g0 0) a1 s1) ++ (wcH cI (g0 8) a2 s2) ++ (wcF (g0 5) t3))) (w2 := ((wcX o0 g0 sc36) ++ (wcR cI (g0 0) a1 s1) ++ (wcH cI (g0 8) a2 s2) ++ (wcF (g0 5) t3))) ⟨hx, hb, hml, hown, hts⟩ (kX7_finding l dC dI cI cB cZ o0 g0 s0 (2 : Int32) H.size r35 sc36 h37) (cwV 1 hts gX7_council_X7_finding rfl rfl rfl hdX7_finding ⟨Nat.le_of_ble_eq_true rfl, Nat.le_of_ble_eq_true rfl⟩) hK hP hD hS hA [0] [1, 2, 3, 4, 5, 6, 7, 8, 9, 10, 11, 12, 13, 14, 15, 16] [16, 0, 1, 2, 3, 4, 5, 6, 7, 8, 9, 10, 11, 12, 13, 14, 15] rfl rfl (by decide) (by decide) (by decide) rfl (by decide) rfl rfl rfl hl.1 rfl (Nat.le_of_ble_eq_true rfl) dX7_council_106 ⟨Nat.zero_le _, Nat.zero_le _⟩ (fun H locs hP hD hS => ?_)
                      obtain ⟨ee0, ee1, ee2⟩ := q_s3 hf
                      subst ee1
                      subst ee2
                      exact q_wretL hx hb hr hlk hAe hK hP hD hS ee0 dX7_council_109
                  · have hf := q_f c21 hf
                    refine lv_aload_n hx hb dX7_council_83 rfl (lv_at hl 0 rfl) ?_
                    refine lv_iconst (v := 1) hx hb dX7_council_84 (by decide) ?_
                    obtain ⟨r38, sc39, h40, hf⟩ := q_b2o hf
                    refine q_rwVl (As := [.int (1 : Int32)]) (rest := []) (ci := 7) (wr := ((wcR cI (g0 0) a1 s1) ++ (wcH cI (g0 8) a2 s2) ++ (wcF (g0 5) t3))) (w2 := ((wcX o0 g0 sc39) ++ (wcR cI (g0 0) a1 s1) ++ (wcH cI (g0 8) a2 s2) ++ (wcF (g0 5) t3))) ⟨hx, hb, hml, hown, hts⟩ (kX7_finding l dC dI cI cB cZ o0 g0 s0 (1 : Int32) H.size r38 sc39 h40) (cwV 1 hts gX7_council_X7_finding rfl rfl rfl hdX7_finding ⟨Nat.le_of_ble_eq_true rfl, Nat.le_of_ble_eq_true rfl⟩) hK hP hD hS hA [0] [1, 2, 3, 4, 5, 6, 7, 8, 9, 10, 11, 12, 13, 14, 15, 16] [16, 0, 1, 2, 3, 4, 5, 6, 7, 8, 9, 10, 11, 12, 13, 14, 15] rfl rfl (by decide) (by decide) (by decide) rfl (by decide) rfl rfl rfl hl.1 rfl (Nat.le_of_ble_eq_true rfl) dX7_council_85 ⟨Nat.zero_le _, Nat.zero_le _⟩ (fun H locs hP hD hS => ?_)
                    obtain ⟨ee0, ee1, ee2⟩ := q_s3 hf
                    subst ee1
                    subst ee2
                    exact q_wretL hx hb hr hlk hAe hK hP hD hS ee0 dX7_council_88
                · have hf := q_t c18 hf
                  refine lv_ldc2 (v := -9000000000000000001) hx hb hown (hts _ qX7_council_4) dX7_council_68 ?_
                  obtain ⟨ee0, ee1, ee2⟩ := q_s3 hf
                  subst ee1
                  subst ee2
                  exact q_wretL hx hb hr hlk hAe hK hP hD hS ee0 dX7_council_71
  · have hf := q_t c1 hf
    refine lv_ldc2 (v := -9000000000000000002) hx hb hown (hts _ qX7_council_2) dX7_council_7 ?_
    obtain ⟨ee0, ee1, ee2⟩ := q_s3 hf
    subst ee1
    subst ee2
    exact q_wretL hx hb hr hlk hAe hK hP hD hS ee0 dX7_council_10
theorem hdX7_isImage : yX7_isImage.cls ≠ "java/lang/invoke/MethodHandle" ∧ yX7_isImage.cls ≠ "java/lang/invoke/VarHandle" ∧ (parseMethodDescriptor yX7_isImage.desc).map (fun d => d.parameters.length) = some 1 := by decide +kernel
set_option maxHeartbeats 4000000 in
set_option maxRecDepth 100000 in
theorem kX7_isImage (p0 : Int32) (r : Int32) (hf : fX7_isImage p0 = some r) : Met l yX7_isImage wsX7_isImage ({ frames := 0, cells := 0, slots := 0, locals := 0 } : Room) (pcS [.int p0]) (qiR r) 0 0 (fun _ => False) := by
  refine q_roS (cc := cX7_isImage) (maxL := 1) (ret := (some .boolean)) (by decide +kernel) rfl (Nat.le_of_ble_eq_true rfl) ?_
  intro p e s m below meth c hx hb hr hlk hml hown hts ls hl
  have hown : s.vm.findClass RX7 = some m.cls := hown
  have hl : lv_has ls 1 [(0, .int p0)] := hl
  unfold fX7_isImage at hf
  refine lv_iload_n hx hb dX7_isImage_0 rfl (lv_at hl 0 rfl) ?_
  refine lv_if_lt (tgt := 13) hx hb dX7_isImage_1 (by decide) (fun c1 => ?_) (fun c1 => ?_)
  · have hf := q_t c1 hf
    refine lv_iconst (v := 0) hx hb dX7_isImage_13 (by decide) ?_
    have ee0 := q_s1 hf
    exact q_retZ hx hb hr hlk rfl ee0 dX7_isImage_14
  · have hf := q_f c1 hf
    refine lv_iload_n hx hb dX7_isImage_4 rfl (lv_at hl 0 rfl) ?_
    refine lv_iconst (v := 2) hx hb dX7_isImage_5 (by decide) ?_
    refine lv_icmp_ge (tgt := 13) hx hb dX7_isImage_6 (by decide) (fun c2 => ?_) (fun c2 => ?_)
    · have hf := q_t c2 hf
      refine lv_iconst (v := 0) hx hb dX7_isImage_13 (by decide) ?_
      have ee0 := q_s1 hf
      exact q_retZ hx hb hr hlk rfl ee0 dX7_isImage_14
    · have hf := q_f c2 hf
      refine lv_iconst (v := 1) hx hb dX7_isImage_9 (by decide) ?_
      refine lv_goto (tgt := 14) hx hb dX7_isImage_10 (by decide) ?_
      have ee0 := q_s1 hf
      exact q_retZ hx hb hr hlk rfl ee0 dX7_isImage_14
theorem hdX7_kind : yX7_kind.cls = RX7 ∧ yX7_kind.cls ≠ "java/lang/invoke/MethodHandle" ∧ yX7_kind.cls ≠ "java/lang/invoke/VarHandle" ∧ (parseMethodDescriptor yX7_kind.desc).map (fun d => d.parameters.length) = some 1 := by decide +kernel
theorem qX7_kind_1 : (Cond.fieldLink RX7 63 "DeadAsked" "standing" "LDeadAsked$Hill;") ∈ wsX7_kind := List.mem_of_getElem? (i := 1) (by decide +kernel)
theorem qX7_kind_2 : (Cond.fieldLink RX7 287 "DeadAsked$Hill" "kinds" "[I") ∈ wsX7_kind := List.mem_of_getElem? (i := 2) (by decide +kernel)
theorem qX7_kind_3 : (Cond.constantLong RX7 76 (-9000000000000000001)) ∈ wsX7_kind := List.mem_of_getElem? (i := 3) (by decide +kernel)
theorem nX7_kind_3 : ∀ w ∈ u_ws RX3 TX3 14, w ∈ wsX7_kind := fun _ h => (List.mem_cons_of_mem _ (List.mem_append_right _ h))
theorem nX7_kind_7 : ∀ w ∈ u_ws RX7 TX7 14, w ∈ wsX7_kind := fun _ h => (List.mem_cons_of_mem _ (List.mem_append_left _ (List.mem_append_right _ h)))
set_option maxHeartbeats 4000000 in
set_option maxRecDepth 100000 in
theorem kX7_kind (o0 : Nat) (g0 : Nat → Nat) (a1 : Nat → Nat) (s0 : St) (s1 : St) (p1 : Int32) (r : Int64) (hf : fX7_kind s1 p1 = some r) : Met l yX7_kind wsX7_kind ({ frames := 1, cells := 0, slots := 0, locals := 21 } : Room) (pcR (dC, dI) (q_ty cI cB cZ) [.ref o0, .int p1] ((wcX o0 g0 s0) ++ (wcH cI (g0 8) a1 s1))) (qlR r) 0 0 (fun _ => False) := by
  refine q_roM (cc := cX7_kind) (maxL := 2) (ret := (some .long)) (by decide +kernel) rfl (Nat.le_of_ble_eq_true rfl) ?_
  intro p e s m below meth c hx hb hr hlk hml hown hts hK hP ls hl
  have hown : s.vm.findClass RX7 = some m.cls := hown
  have hl : lv_has ls 2 [(0, .ref o0), (1, .int p1)] := hl
  unfold fX7_kind at hf
  refine lv_aload_n hx hb dX7_kind_0 rfl (lv_at hl 0 rfl) ?_
  refine va_get (D := (dC, dI)) (ci := 7) (v := .ref (g0 8)) (C := RX7) (T := TX7) (N := 14) hx hb hts nX7_kind_7 hown hK hP 0 rfl rfl 8 (by decide) (hts _ qX7_kind_1) (fun _ h9 => h9) rfl dX7_kind_1 ?_
  refine lv_iload_n hx hb dX7_kind_4 rfl (lv_at hl 1 rfl) ?_
  obtain ⟨r1, h2, hf⟩ := q_b1o hf
  refine q_roVi (As := [.int p1]) (rest := []) (ci := 3) ⟨hx, hb, hml, hown, hts⟩ (kX3_isTree l dC dI cI cB cZ (g0 8) a1 s1 p1 r1 h2) (cwV 1 hts gX7_kind_X3_isTree rfl rfl rfl hdX3_isTree ⟨Nat.le_of_ble_eq_true rfl, Nat.le_of_ble_eq_true rfl⟩) hK (hP.sub [1, 2, 3, 4, 5, 6, 7, 8, 9, 10, 11] rfl) rfl rfl rfl hl.1 rfl (Nat.le_of_ble_eq_true rfl) dX7_kind_5 ⟨Nat.zero_le _, Nat.zero_le _⟩ ?_
  refine lv_if_eq (tgt := 24) hx hb dX7_kind_8 (by decide) (fun c3 => ?_) (fun c3 => ?_)
  · have hf := q_t c3 hf
    refine lv_ldc2 (v := -9000000000000000001) hx hb hown (hts _ qX7_kind_3) dX7_kind_24 ?_
    have ee0 := q_s1 hf
    exact q_retL hx hb hr hlk ee0 dX7_kind_27
  · have hf := q_f c3 hf
    refine lv_aload_n hx hb dX7_kind_11 rfl (lv_at hl 0 rfl) ?_
    refine va_get (D := (dC, dI)) (ci := 7) (v := .ref (g0 8)) (C := RX7) (T := TX7) (N := 14) hx hb hts nX7_kind_7 hown hK hP 0 rfl rfl 8 (by decide) (hts _ qX7_kind_1) (fun _ h9 => h9) rfl dX7_kind_12 ?_
    refine va_get (D := (dC, dI)) (ci := 3) (v := .ref (a1 7)) (C := RX3) (T := TX3) (N := 14) hx hb hts nX7_kind_3 hown hK hP 1 rfl rfl 7 (by decide) (hts _ qX7_kind_2) (fun _ h9 => h9) rfl dX7_kind_15 ?_
    refine lv_iload_n hx hb dX7_kind_18 rfl (lv_at hl 1 rfl) ?_
    obtain ⟨c4, hf⟩ := q_ck hf
    refine va_iald hx hb hK hP 9 0 rfl rfl c4 dX7_kind_19 ?_
    refine lv_i2l (v := (s1 7 p1.toNatClampNeg).toInt64) hx hb dX7_kind_20 rfl ?_
    refine lv_goto (tgt := 27) hx hb dX7_kind_21 (by decide) ?_
    have ee0 := q_s1 hf
    exact q_retL hx hb hr hlk ee0 dX7_kind_27
theorem hdX7_isSuch : yX7_isSuch.cls ≠ "java/lang/invoke/MethodHandle" ∧ yX7_isSuch.cls ≠ "java/lang/invoke/VarHandle" ∧ (parseMethodDescriptor yX7_isSuch.desc).map (fun d => d.parameters.length) = some 2 := by decide +kernel
set_option maxHeartbeats 4000000 in
set_option maxRecDepth 100000 in
theorem kX7_isSuch (p0 : Int32) (p1 : Int32) (r : Int32) (hf : fX7_isSuch p0 p1 = some r) : Met l yX7_isSuch wsX7_isSuch ({ frames := 0, cells := 0, slots := 0, locals := 0 } : Room) (pcS [.int p0, .int p1]) (qiR r) 0 0 (fun _ => False) := by
  refine q_roS (cc := cX7_isSuch) (maxL := 2) (ret := (some .boolean)) (by decide +kernel) rfl (Nat.le_of_ble_eq_true rfl) ?_
  intro p e s m below meth c hx hb hr hlk hml hown hts ls hl
  have hown : s.vm.findClass RX7 = some m.cls := hown
  have hl : lv_has ls 2 [(0, .int p0), (1, .int p1)] := hl
  unfold fX7_isSuch at hf
  refine lv_iload_n hx hb dX7_isSuch_0 rfl (lv_at hl 1 rfl) ?_
  by_cases c1 : p1 = (0 : Int32)
  · have hf := q_t c1 hf
    refine lv_tableIn (off := 35) (tgt := 36) hx hb dX7_isSuch_1 (by rw [c1]; decide) (by rw [c1]; decide) (by rw [c1]; decide) (by decide) ?_
    refine lv_iconst (v := 1) hx hb dX7_isSuch_36 (by decide) ?_
    have ee0 := q_s1 hf
    exact q_retZ hx hb hr hlk rfl ee0 dX7_isSuch_37
  · have hf := q_f c1 hf
    by_cases c2 : p1 = (1 : Int32)
    · have hf := q_t c2 hf
      refine lv_tableIn (off := 37) (tgt := 38) hx hb dX7_isSuch_1 (by rw [c2]; decide) (by rw [c2]; decide) (by rw [c2]; decide) (by decide) ?_
      refine lv_iload_n hx hb dX7_isSuch_38 rfl (lv_at hl 0 rfl) ?_
      refine lv_iconst (v := 1) hx hb dX7_isSuch_39 (by decide) ?_
      refine lv_icmp_eq (tgt := 53) hx hb dX7_isSuch_40 (by decide) (fun c3 => ?_) (fun c3 => ?_)
      · have hf := q_t c3 hf
        refine lv_iconst (v := 1) hx hb dX7_isSuch_53 (by decide) ?_
        refine lv_goto (tgt := 58) hx hb dX7_isSuch_54 (by decide) ?_
        have ee0 := q_s1 hf
        exact q_retZ hx hb hr hlk rfl ee0 dX7_isSuch_58
      · have hf := q_f c3 hf
        refine lv_iload_n hx hb dX7_isSuch_43 rfl (lv_at hl 0 rfl) ?_
        refine lv_iconst (v := 2) hx hb dX7_isSuch_44 (by decide) ?_
        refine lv_icmp_eq (tgt := 53) hx hb dX7_isSuch_45 (by decide) (fun c4 => ?_) (fun c4 => ?_)
        · have hf := q_t c4 hf
          refine lv_iconst (v := 1) hx hb dX7_isSuch_53 (by decide) ?_
          refine lv_goto (tgt := 58) hx hb dX7_isSuch_54 (by decide) ?_
          have ee0 := q_s1 hf
          exact q_retZ hx hb hr hlk rfl ee0 dX7_isSuch_58
        · have hf := q_f c4 hf
          refine lv_iload_n hx hb dX7_isSuch_48 rfl (lv_at hl 0 rfl) ?_
          refine lv_iconst (v := 3) hx hb dX7_isSuch_49 (by decide) ?_
          refine lv_icmp_ne (tgt := 57) hx hb dX7_isSuch_50 (by decide) (fun c5 => ?_) (fun c5 => ?_)
          · have hf := q_f c5 hf
            refine lv_iconst (v := 0) hx hb dX7_isSuch_57 (by decide) ?_
            have ee0 := q_s1 hf
            exact q_retZ hx hb hr hlk rfl ee0 dX7_isSuch_58
          · have hf := q_t c5 hf
            refine lv_iconst (v := 1) hx hb dX7_isSuch_53 (by decide) ?_
            refine lv_goto (tgt := 58) hx hb dX7_isSuch_54 (by decide) ?_
            have ee0 := q_s1 hf
            exact q_retZ hx hb hr hlk rfl ee0 dX7_isSuch_58
    · have hf := q_f c2 hf
      by_cases c6 : p1 = (2 : Int32)
      · have hf := q_t c6 hf
        refine lv_tableIn (off := 58) (tgt := 59) hx hb dX7_isSuch_1 (by rw [c6]; decide) (by rw [c6]; decide) (by rw [c6]; decide) (by decide) ?_
        refine lv_iload_n hx hb dX7_isSuch_59 rfl (lv_at hl 0 rfl) ?_
        refine lv_iconst (v := 2) hx hb dX7_isSuch_60 (by decide) ?_
        refine lv_icmp_eq (tgt := 69) hx hb dX7_isSuch_61 (by decide) (fun c7 => ?_) (fun c7 => ?_)
        · have hf := q_t c7 hf
          refine lv_iconst (v := 1) hx hb dX7_isSuch_69 (by decide) ?_
          refine lv_goto (tgt := 74) hx hb dX7_isSuch_70 (by decide) ?_
          have ee0 := q_s1 hf
          exact q_retZ hx hb hr hlk rfl ee0 dX7_isSuch_74
        · have hf := q_f c7 hf
          refine lv_iload_n hx hb dX7_isSuch_64 rfl (lv_at hl 0 rfl) ?_
          refine lv_iconst (v := 3) hx hb dX7_isSuch_65 (by decide) ?_
          refine lv_icmp_ne (tgt := 73) hx hb dX7_isSuch_66 (by decide) (fun c8 => ?_) (fun c8 => ?_)
          · have hf := q_f c8 hf
            refine lv_iconst (v := 0) hx hb dX7_isSuch_73 (by decide) ?_
            have ee0 := q_s1 hf
            exact q_retZ hx hb hr hlk rfl ee0 dX7_isSuch_74
          · have hf := q_t c8 hf
            refine lv_iconst (v := 1) hx hb dX7_isSuch_69 (by decide) ?_
            refine lv_goto (tgt := 74) hx hb dX7_isSuch_70 (by decide) ?_
            have ee0 := q_s1 hf
            exact q_retZ hx hb hr hlk rfl ee0 dX7_isSuch_74
      · have hf := q_f c6 hf
        by_cases c9 : p1 = (3 : Int32)
        · have hf := q_t c9 hf
          refine lv_tableIn (off := 90) (tgt := 91) hx hb dX7_isSuch_1 (by rw [c9]; decide) (by rw [c9]; decide) (by rw [c9]; decide) (by decide) ?_
          refine lv_iload_n hx hb dX7_isSuch_91 rfl (lv_at hl 0 rfl) ?_
          refine lv_iload_n hx hb dX7_isSuch_92 rfl (lv_at hl 1 rfl) ?_
          refine lv_icmp_ne (tgt := 100) hx hb dX7_isSuch_93 (by decide) (fun c10 => ?_) (fun c10 => ?_)
          · have hf := q_f c10 hf
            refine lv_iconst (v := 0) hx hb dX7_isSuch_100 (by decide) ?_
            have ee0 := q_s1 hf
            exact q_retZ hx hb hr hlk rfl ee0 dX7_isSuch_101
          · have hf := q_t c10 hf
            refine lv_iconst (v := 1) hx hb dX7_isSuch_96 (by decide) ?_
            refine lv_goto (tgt := 101) hx hb dX7_isSuch_97 (by decide) ?_
            have ee0 := q_s1 hf
            exact q_retZ hx hb hr hlk rfl ee0 dX7_isSuch_101
        · have hf := q_f c9 hf
          by_cases c11 : p1 = (4 : Int32)
          · have hf := q_t c11 hf
            refine lv_tableIn (off := 74) (tgt := 75) hx hb dX7_isSuch_1 (by rw [c11]; decide) (by rw [c11]; decide) (by rw [c11]; decide) (by decide) ?_
            refine lv_iload_n hx hb dX7_isSuch_75 rfl (lv_at hl 0 rfl) ?_
            refine lv_iconst (v := 4) hx hb dX7_isSuch_76 (by decide) ?_
            refine lv_icmp_eq (tgt := 85) hx hb dX7_isSuch_77 (by decide) (fun c12 => ?_) (fun c12 => ?_)
            · have hf := q_t c12 hf
              refine lv_iconst (v := 1) hx hb dX7_isSuch_85 (by decide) ?_
              refine lv_goto (tgt := 90) hx hb dX7_isSuch_86 (by decide) ?_
              have ee0 := q_s1 hf
              exact q_retZ hx hb hr hlk rfl ee0 dX7_isSuch_90
            · have hf := q_f c12 hf
              refine lv_iload_n hx hb dX7_isSuch_80 rfl (lv_at hl 0 rfl) ?_
              refine lv_iconst (v := 5) hx hb dX7_isSuch_81 (by decide) ?_
              refine lv_icmp_ne (tgt := 89) hx hb dX7_isSuch_82 (by decide) (fun c13 => ?_) (fun c13 => ?_)
              · have hf := q_f c13 hf
                refine lv_iconst (v := 0) hx hb dX7_isSuch_89 (by decide) ?_
                have ee0 := q_s1 hf
                exact q_retZ hx hb hr hlk rfl ee0 dX7_isSuch_90
              · have hf := q_t c13 hf
                refine lv_iconst (v := 1) hx hb dX7_isSuch_85 (by decide) ?_
                refine lv_goto (tgt := 90) hx hb dX7_isSuch_86 (by decide) ?_
                have ee0 := q_s1 hf
                exact q_retZ hx hb hr hlk rfl ee0 dX7_isSuch_90
          · have hf := q_f c11 hf
            refine lv_tableOut (tgt := 91) hx hb dX7_isSuch_1 (q_tso (x := p1) (lo := 0) (n := 5) (by intro k hk; match k, hk with | 0, _ => exact c1 | 1, _ => exact c2 | 2, _ => exact c6 | 3, _ => exact c9 | 4, _ => exact c11 | k + 5, hk => exact absurd hk (by omega)) (by decide)) (by decide) ?_
            refine lv_iload_n hx hb dX7_isSuch_91 rfl (lv_at hl 0 rfl) ?_
            refine lv_iload_n hx hb dX7_isSuch_92 rfl (lv_at hl 1 rfl) ?_
            refine lv_icmp_ne (tgt := 100) hx hb dX7_isSuch_93 (by decide) (fun c14 => ?_) (fun c14 => ?_)
            · have hf := q_f c14 hf
              refine lv_iconst (v := 0) hx hb dX7_isSuch_100 (by decide) ?_
              have ee0 := q_s1 hf
              exact q_retZ hx hb hr hlk rfl ee0 dX7_isSuch_101
            · have hf := q_t c14 hf
              refine lv_iconst (v := 1) hx hb dX7_isSuch_96 (by decide) ?_
              refine lv_goto (tgt := 101) hx hb dX7_isSuch_97 (by decide) ?_
              have ee0 := q_s1 hf
              exact q_retZ hx hb hr hlk rfl ee0 dX7_isSuch_101
