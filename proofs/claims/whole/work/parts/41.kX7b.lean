variable (l : Launch) (dC : Nat → ClassId) (dI : Nat → Nat → Nat) (cI cB cZ : ClassId)
theorem hdX7_as : yX7_as.cls = RX7 ∧ yX7_as.cls ≠ "java/lang/invoke/MethodHandle" ∧ yX7_as.cls ≠ "java/lang/invoke/VarHandle" ∧ (parseMethodDescriptor yX7_as.desc).map (fun d => d.parameters.length) = some 2 := by decide +kernel
theorem qX7_as_1 : (Cond.fieldLink RX7 63 "DeadAsked" "standing" "LDeadAsked$Hill;") ∈ wsX7_as := List.mem_of_getElem? (i := 1) (by decide +kernel)
theorem qX7_as_2 : (Cond.constantLong RX7 76 (-9000000000000000001)) ∈ wsX7_as := List.mem_of_getElem? (i := 2) (by decide +kernel)
theorem qX7_as_3 : (Cond.fieldLink RX7 287 "DeadAsked$Hill" "kinds" "[I") ∈ wsX7_as := List.mem_of_getElem? (i := 3) (by decide +kernel)
theorem nX7_as_3 : ∀ w ∈ u_ws RX3 TX3 14, w ∈ wsX7_as := fun _ h => (List.mem_cons_of_mem _ (List.mem_append_right _ h))
theorem nX7_as_7 : ∀ w ∈ u_ws RX7 TX7 14, w ∈ wsX7_as := fun _ h => (List.mem_cons_of_mem _ (List.mem_append_left _ (List.mem_append_right _ h)))
set_option maxHeartbeats 4000000 in
set_option maxRecDepth 100000 in
theorem kX7_as (o0 : Nat) (g0 : Nat → Nat) (a1 : Nat → Nat) (s0 : St) (s1 : St) (p1 : Int32) (p2 : Int32) (sz : Nat) (r : Int64) (z0 : St) (hf : fX7_as s0 s1 p1 p2 = some (r, z0)) : Met l yX7_as wsX7_as ({ frames := 1, cells := 0, slots := 0, locals := 22 } : Room) (pcW (dC, dI) (q_ty cI cB cZ) [.ref o0, .int p1, .int p2] ((wcX o0 g0 s0) ++ (wcH cI (g0 8) a1 s1)) sz) (qlW (dC, dI) (q_ty cI cB cZ) ((wcX o0 g0 s0) ++ (wcH cI (g0 8) a1 s1)) ((wcX o0 g0 z0) ++ (wcH cI (g0 8) a1 s1)) sz r) 0 0 (va_A ((wcX o0 g0 s0) ++ (wcH cI (g0 8) a1 s1)) sz) := by
  refine q_rwM (cc := cX7_as) (maxL := 3) (ret := (some .long)) (by decide +kernel) rfl (Nat.le_of_ble_eq_true rfl) ?_
  intro p e s m below meth c hx hb hr hlk hml hown hts hK A H hAe hH hsz hP hD hA hS ls hl
  have hown : s.vm.findClass RX7 = some m.cls := hown
  have hl : lv_has ls 3 [(0, .ref o0), (1, .int p1), (2, .int p2)] := hl
  unfold fX7_as at hf
  refine lv_aload_n hx hb dX7_as_0 rfl (lv_at hl 0 rfl) ?_
  refine va_get (D := (dC, dI)) (ci := 7) (v := .ref (g0 8)) (C := RX7) (T := TX7) (N := 14) hx hb hts nX7_as_7 hown hK hP 0 rfl rfl 8 (by decide) (hts _ qX7_as_1) (fun _ h9 => h9) rfl dX7_as_1 ?_
  refine lv_iload_n hx hb dX7_as_4 rfl (lv_at hl 1 rfl) ?_
  obtain ⟨r1, h2, hf⟩ := q_b1o hf
  refine q_roVi (As := [.int p1]) (rest := []) (ci := 3) ⟨hx, hb, hml, hown, hts⟩ (kX3_isTree l dC dI cI cB cZ (g0 8) a1 s1 p1 r1 h2) (cwV 1 hts gX7_as_X3_isTree rfl rfl rfl hdX3_isTree ⟨Nat.le_of_ble_eq_true rfl, Nat.le_of_ble_eq_true rfl⟩) hK (hP.sub [1, 2, 3, 4, 5, 6, 7, 8, 9, 10, 11] rfl) rfl rfl rfl hl.1 rfl (Nat.le_of_ble_eq_true rfl) dX7_as_5 ⟨Nat.zero_le _, Nat.zero_le _⟩ ?_
  refine lv_if_eq (tgt := 20) hx hb dX7_as_8 (by decide) (fun c3 => ?_) (fun c3 => ?_)
  · have hf := q_t c3 hf
    refine lv_ldc2 (v := -9000000000000000001) hx hb hown (hts _ qX7_as_2) dX7_as_20 ?_
    obtain ⟨ee0, ee1⟩ := q_s2 hf
    subst ee1
    exact q_wretL hx hb hr hlk hAe hK hP hD hS ee0 dX7_as_23
  · have hf := q_f c3 hf
    refine lv_iload_n hx hb dX7_as_11 rfl (lv_at hl 2 rfl) ?_
    refine lv_if_lt (tgt := 20) hx hb dX7_as_12 (by decide) (fun c4 => ?_) (fun c4 => ?_)
    · have hf := q_t c4 hf
      refine lv_ldc2 (v := -9000000000000000001) hx hb hown (hts _ qX7_as_2) dX7_as_20 ?_
      obtain ⟨ee0, ee1⟩ := q_s2 hf
      subst ee1
      exact q_wretL hx hb hr hlk hAe hK hP hD hS ee0 dX7_as_23
    · have hf := q_f c4 hf
      refine lv_iload_n hx hb dX7_as_15 rfl (lv_at hl 2 rfl) ?_
      refine lv_iconst (v := 5) hx hb dX7_as_16 (by decide) ?_
      refine lv_icmp_le (tgt := 24) hx hb dX7_as_17 (by decide) (fun c5 => ?_) (fun c5 => ?_)
      · have hf := q_t c5 hf
        refine lv_aload_n hx hb dX7_as_24 rfl (lv_at hl 0 rfl) ?_
        refine va_get (D := (dC, dI)) (ci := 7) (v := .ref (g0 8)) (C := RX7) (T := TX7) (N := 14) hx hb hts nX7_as_7 hown hK hP 0 rfl rfl 8 (by decide) (hts _ qX7_as_1) (fun _ h9 => h9) rfl dX7_as_25 ?_
        refine va_get (D := (dC, dI)) (ci := 3) (v := .ref (a1 7)) (C := RX3) (T := TX3) (N := 14) hx hb hts nX7_as_3 hown hK hP 1 rfl rfl 7 (by decide) (hts _ qX7_as_3) (fun _ h9 => h9) rfl dX7_as_28 ?_
        refine lv_iload_n hx hb dX7_as_31 rfl (lv_at hl 1 rfl) ?_
        obtain ⟨c6, hf⟩ := q_ck hf
        refine va_iald hx hb hK hP 9 0 rfl rfl c6 dX7_as_32 ?_
        refine lv_iload_n hx hb dX7_as_33 rfl (lv_at hl 2 rfl) ?_
        obtain ⟨r7, h8, hf⟩ := q_b1o hf
        refine q_roSi (As := [.int (s1 7 p1.toNatClampNeg), .int p2]) (rest := []) ⟨hx, hb, hml, hown, hts⟩ (kX7_isSuch l (s1 7 p1.toNatClampNeg) p2 r7 h8) (va_cwS 2 hts gX7_as_X7_isSuch rfl rfl rfl hdX7_isSuch ⟨Nat.le_of_ble_eq_true rfl, Nat.le_of_ble_eq_true rfl⟩) rfl hl.1 rfl (Nat.le_of_ble_eq_true rfl) dX7_as_34 ⟨Nat.zero_le _, Nat.zero_le _⟩ ?_
        refine lv_if_ne (tgt := 46) hx hb dX7_as_37 (by decide) (fun c9 => ?_) (fun c9 => ?_)
        · have hf := q_f c9 hf
          refine lv_aload_n hx hb dX7_as_46 rfl (lv_at hl 0 rfl) ?_
          refine lv_iload_n hx hb dX7_as_47 rfl (lv_at hl 1 rfl) ?_
          refine lv_i2l (v := p1.toInt64) hx hb dX7_as_48 rfl ?_
          obtain ⟨r10, sc11, h12, hf⟩ := q_b2o hf
          refine q_rwVl (As := [.long p1.toInt64]) (rest := []) (ci := 7) (wr := ((wcH cI (g0 8) a1 s1))) (w2 := ((wcX o0 g0 sc11) ++ (wcH cI (g0 8) a1 s1))) ⟨hx, hb, hml, hown, hts⟩ (kX7_withoutFinding l dC dI cI cB cZ o0 g0 s0 p1.toInt64 H.size r10 sc11 h12) (cwV 1 hts gX7_as_X7_withoutFinding rfl rfl rfl hdX7_withoutFinding ⟨Nat.le_of_ble_eq_true rfl, Nat.le_of_ble_eq_true rfl⟩) hK hP hD hS hA [0] [1, 2, 3, 4, 5, 6, 7, 8, 9, 10, 11] [11, 0, 1, 2, 3, 4, 5, 6, 7, 8, 9, 10] rfl rfl (by decide) (by decide) (by decide) rfl (by decide) rfl rfl rfl hl.1 rfl (Nat.le_of_ble_eq_true rfl) dX7_as_49 ⟨Nat.zero_le _, Nat.zero_le _⟩ (fun H locs hP hD hS => ?_)
          obtain ⟨ee0, ee1⟩ := q_s2 hf
          subst ee1
          exact q_wretL hx hb hr hlk hAe hK hP hD hS ee0 dX7_as_52
        · have hf := q_t c9 hf
          refine lv_aload_n hx hb dX7_as_40 rfl (lv_at hl 0 rfl) ?_
          refine lv_iconst (v := 3) hx hb dX7_as_41 (by decide) ?_
          obtain ⟨r13, sc14, h15, hf⟩ := q_b2o hf
          refine q_rwVl (As := [.int (3 : Int32)]) (rest := []) (ci := 7) (wr := ((wcH cI (g0 8) a1 s1))) (w2 := ((wcX o0 g0 sc14) ++ (wcH cI (g0 8) a1 s1))) ⟨hx, hb, hml, hown, hts⟩ (kX7_finding l dC dI cI cB cZ o0 g0 s0 (3 : Int32) H.size r13 sc14 h15) (cwV 1 hts gX7_as_X7_finding rfl rfl rfl hdX7_finding ⟨Nat.le_of_ble_eq_true rfl, Nat.le_of_ble_eq_true rfl⟩) hK hP hD hS hA [0] [1, 2, 3, 4, 5, 6, 7, 8, 9, 10, 11] [11, 0, 1, 2, 3, 4, 5, 6, 7, 8, 9, 10] rfl rfl (by decide) (by decide) (by decide) rfl (by decide) rfl rfl rfl hl.1 rfl (Nat.le_of_ble_eq_true rfl) dX7_as_42 ⟨Nat.zero_le _, Nat.zero_le _⟩ (fun H locs hP hD hS => ?_)
          obtain ⟨ee0, ee1⟩ := q_s2 hf
          subst ee1
          exact q_wretL hx hb hr hlk hAe hK hP hD hS ee0 dX7_as_45
      · have hf := q_f c5 hf
        refine lv_ldc2 (v := -9000000000000000001) hx hb hown (hts _ qX7_as_2) dX7_as_20 ?_
        obtain ⟨ee0, ee1⟩ := q_s2 hf
        subst ee1
        exact q_wretL hx hb hr hlk hAe hK hP hD hS ee0 dX7_as_23
theorem hdX7_shape : yX7_shape.cls = RX7 ∧ yX7_shape.cls ≠ "java/lang/invoke/MethodHandle" ∧ yX7_shape.cls ≠ "java/lang/invoke/VarHandle" ∧ (parseMethodDescriptor yX7_shape.desc).map (fun d => d.parameters.length) = some 2 := by decide +kernel
theorem qX7_shape_1 : (Cond.fieldLink RX7 63 "DeadAsked" "standing" "LDeadAsked$Hill;") ∈ wsX7_shape := List.mem_of_getElem? (i := 1) (by decide +kernel)
theorem qX7_shape_2 : (Cond.constantLong RX7 76 (-9000000000000000001)) ∈ wsX7_shape := List.mem_of_getElem? (i := 2) (by decide +kernel)
theorem qX7_shape_3 : (Cond.fieldLink RX7 42 "DeadAsked" "bodies" "LDeadAsked$Bodies;") ∈ wsX7_shape := List.mem_of_getElem? (i := 3) (by decide +kernel)
theorem nX7_shape_7 : ∀ w ∈ u_ws RX7 TX7 14, w ∈ wsX7_shape := fun _ h => (List.mem_cons_of_mem _ (List.mem_append_left _ (List.mem_append_left _ (List.mem_append_right _ h))))
set_option maxHeartbeats 4000000 in
set_option maxRecDepth 100000 in
theorem kX7_shape (o0 : Nat) (g0 : Nat → Nat) (a1 : Nat → Nat) (a2 : Nat → Nat) (s0 : St) (s1 : St) (s2 : St) (p1 : Int32) (p2 : Int32) (sz : Nat) (r : Int64) (z2 : St) (hf : fX7_shape s1 s2 p1 p2 = some (r, z2)) : Met l yX7_shape wsX7_shape ({ frames := 7, cells := 0, slots := 0, locals := 142 } : Room) (pcW (dC, dI) (q_ty cI cB cZ) [.ref o0, .int p1, .int p2] ((wcX o0 g0 s0) ++ (wcH cI (g0 8) a1 s1) ++ (wcB cI (g0 4) a2 s2)) sz) (qlW (dC, dI) (q_ty cI cB cZ) ((wcX o0 g0 s0) ++ (wcH cI (g0 8) a1 s1) ++ (wcB cI (g0 4) a2 s2)) ((wcX o0 g0 s0) ++ (wcH cI (g0 8) a1 s1) ++ (wcB cI (g0 4) a2 z2)) sz r) 0 0 (va_A ((wcX o0 g0 s0) ++ (wcH cI (g0 8) a1 s1) ++ (wcB cI (g0 4) a2 s2)) sz) := by
  refine q_rwM (cc := cX7_shape) (maxL := 3) (ret := (some .long)) (by decide +kernel) rfl (Nat.le_of_ble_eq_true rfl) ?_
  intro p e s m below meth c hx hb hr hlk hml hown hts hK A H hAe hH hsz hP hD hA hS ls hl
  have hown : s.vm.findClass RX7 = some m.cls := hown
  have hl : lv_has ls 3 [(0, .ref o0), (1, .int p1), (2, .int p2)] := hl
  unfold fX7_shape at hf
  refine lv_aload_n hx hb dX7_shape_0 rfl (lv_at hl 0 rfl) ?_
  refine va_get (D := (dC, dI)) (ci := 7) (v := .ref (g0 8)) (C := RX7) (T := TX7) (N := 14) hx hb hts nX7_shape_7 hown hK hP 0 rfl rfl 8 (by decide) (hts _ qX7_shape_1) (fun _ h9 => h9) rfl dX7_shape_1 ?_
  refine lv_iload_n hx hb dX7_shape_4 rfl (lv_at hl 1 rfl) ?_
  obtain ⟨r1, h2, hf⟩ := q_b1o hf
  refine q_roVi (As := [.int p1]) (rest := []) (ci := 3) ⟨hx, hb, hml, hown, hts⟩ (kX3_isTree l dC dI cI cB cZ (g0 8) a1 s1 p1 r1 h2) (cwV 1 hts gX7_shape_X3_isTree rfl rfl rfl hdX3_isTree ⟨Nat.le_of_ble_eq_true rfl, Nat.le_of_ble_eq_true rfl⟩) hK (hP.sub [1, 2, 3, 4, 5, 6, 7, 8, 9, 10, 11] rfl) rfl rfl rfl hl.1 rfl (Nat.le_of_ble_eq_true rfl) dX7_shape_5 ⟨Nat.zero_le _, Nat.zero_le _⟩ ?_
  refine lv_if_eq (tgt := 20) hx hb dX7_shape_8 (by decide) (fun c3 => ?_) (fun c3 => ?_)
  · have hf := q_t c3 hf
    refine lv_ldc2 (v := -9000000000000000001) hx hb hown (hts _ qX7_shape_2) dX7_shape_20 ?_
    obtain ⟨ee0, ee1⟩ := q_s2 hf
    subst ee1
    exact q_wretL hx hb hr hlk hAe hK hP hD hS ee0 dX7_shape_23
  · have hf := q_f c3 hf
    refine lv_iload_n hx hb dX7_shape_11 rfl (lv_at hl 2 rfl) ?_
    refine lv_if_lt (tgt := 20) hx hb dX7_shape_12 (by decide) (fun c4 => ?_) (fun c4 => ?_)
    · have hf := q_t c4 hf
      refine lv_ldc2 (v := -9000000000000000001) hx hb hown (hts _ qX7_shape_2) dX7_shape_20 ?_
      obtain ⟨ee0, ee1⟩ := q_s2 hf
      subst ee1
      exact q_wretL hx hb hr hlk hAe hK hP hD hS ee0 dX7_shape_23
    · have hf := q_f c4 hf
      refine lv_iload_n hx hb dX7_shape_15 rfl (lv_at hl 2 rfl) ?_
      refine lv_iconst (v := 1) hx hb dX7_shape_16 (by decide) ?_
      refine lv_icmp_le (tgt := 24) hx hb dX7_shape_17 (by decide) (fun c5 => ?_) (fun c5 => ?_)
      · have hf := q_t c5 hf
        refine lv_aload_n hx hb dX7_shape_24 rfl (lv_at hl 0 rfl) ?_
        refine va_get (D := (dC, dI)) (ci := 7) (v := .ref (g0 4)) (C := RX7) (T := TX7) (N := 14) hx hb hts nX7_shape_7 hown hK hP 0 rfl rfl 4 (by decide) (hts _ qX7_shape_3) (fun _ h9 => h9) rfl dX7_shape_25 ?_
        refine lv_aload_n hx hb dX7_shape_28 rfl (lv_at hl 0 rfl) ?_
        refine va_get (D := (dC, dI)) (ci := 7) (v := .ref (g0 8)) (C := RX7) (T := TX7) (N := 14) hx hb hts nX7_shape_7 hown hK hP 0 rfl rfl 8 (by decide) (hts _ qX7_shape_1) (fun _ h9 => h9) rfl dX7_shape_29 ?_
        refine lv_iload_n hx hb dX7_shape_32 rfl (lv_at hl 1 rfl) ?_
        obtain ⟨sc6, h7, hf⟩ := q_b1o hf
        refine q_rwVv (As := [.ref (g0 8), .int p1]) (rest := []) (ci := 1) (wr := ((wcX o0 g0 s0))) (w2 := ((wcX o0 g0 s0) ++ (wcH cI (g0 8) a1 s1) ++ (wcB cI (g0 4) a2 sc6))) ⟨hx, hb, hml, hown, hts⟩ (kX1_begin l dC dI cI cB cZ (g0 4) a2 (g0 8) a1 s2 s1 p1 H.size sc6 h7) (cwV 2 hts gX7_shape_X1_begin rfl rfl rfl hdX1_begin ⟨Nat.le_of_ble_eq_true rfl, Nat.le_of_ble_eq_true rfl⟩) hK hP hD hS hA [12, 13, 1, 2, 3, 4, 5, 6, 7, 8, 9, 10, 11] [0] [0, 3, 4, 5, 6, 7, 8, 9, 10, 11, 12, 13, 1, 2] rfl rfl (by decide) (by decide) (by decide) rfl (by decide) rfl rfl rfl hl.1 rfl (Nat.le_of_ble_eq_true rfl) dX7_shape_33 ⟨Nat.zero_le _, Nat.zero_le _⟩ (fun H locs hP hD hS => ?_)
        refine lv_iload_n hx hb dX7_shape_36 rfl (lv_at hl 2 rfl) ?_
        refine lv_if_ne (tgt := 51) hx hb dX7_shape_37 (by decide) (fun c8 => ?_) (fun c8 => ?_)
        · have hf := q_f c8 hf
          refine lv_aload_n hx hb dX7_shape_51 rfl (lv_at hl 0 rfl) ?_
          refine va_get (D := (dC, dI)) (ci := 7) (v := .ref (g0 4)) (C := RX7) (T := TX7) (N := 14) hx hb hts nX7_shape_7 hown hK hP 0 rfl rfl 4 (by decide) (hts _ qX7_shape_3) (fun _ h9 => h9) rfl dX7_shape_52 ?_
          obtain ⟨r9, sc10, h11, hf⟩ := q_b2o hf
          refine q_rwVi (As := []) (rest := []) (ci := 1) (wr := ((wcX o0 g0 s0) ++ (wcH cI (g0 8) a1 s1))) (w2 := ((wcX o0 g0 s0) ++ (wcH cI (g0 8) a1 s1) ++ (wcB cI (g0 4) a2 sc10))) ⟨hx, hb, hml, hown, hts⟩ (kX1_mark l dC dI cI cB cZ (g0 4) a2 sc6 H.size r9 sc10 h11) (cwV 0 hts gX7_shape_X1_mark rfl rfl rfl hdX1_mark ⟨Nat.le_of_ble_eq_true rfl, Nat.le_of_ble_eq_true rfl⟩) hK hP hD hS hA [12, 13] [0, 1, 2, 3, 4, 5, 6, 7, 8, 9, 10, 11] [0, 1, 2, 3, 4, 5, 6, 7, 8, 9, 10, 11, 12, 13] rfl rfl (by decide) (by decide) (by decide) rfl (by decide) rfl rfl rfl hl.1 rfl (Nat.le_of_ble_eq_true rfl) dX7_shape_55 ⟨Nat.zero_le _, Nat.zero_le _⟩ (fun H locs hP hD hS => ?_)
          refine lv_i2l (v := r9.toInt64) hx hb dX7_shape_58 rfl ?_
          obtain ⟨ee0, ee1⟩ := q_s2 hf
          subst ee1
          exact q_wretL hx hb hr hlk hAe hK hP hD hS ee0 dX7_shape_59
        · have hf := q_t c8 hf
          refine lv_aload_n hx hb dX7_shape_40 rfl (lv_at hl 0 rfl) ?_
          refine va_get (D := (dC, dI)) (ci := 7) (v := .ref (g0 4)) (C := RX7) (T := TX7) (N := 14) hx hb hts nX7_shape_7 hown hK hP 0 rfl rfl 4 (by decide) (hts _ qX7_shape_3) (fun _ h9 => h9) rfl dX7_shape_41 ?_
          obtain ⟨r12, sc13, h14, hf⟩ := q_b2o hf
          refine q_rwVi (As := []) (rest := []) (ci := 1) (wr := ((wcX o0 g0 s0) ++ (wcH cI (g0 8) a1 s1))) (w2 := ((wcX o0 g0 s0) ++ (wcH cI (g0 8) a1 s1) ++ (wcB cI (g0 4) a2 sc13))) ⟨hx, hb, hml, hown, hts⟩ (kX1_size l dC dI cI cB cZ (g0 4) a2 sc6 H.size r12 sc13 h14) (cwV 0 hts gX7_shape_X1_size rfl rfl rfl hdX1_size ⟨Nat.le_of_ble_eq_true rfl, Nat.le_of_ble_eq_true rfl⟩) hK hP hD hS hA [12, 13] [0, 1, 2, 3, 4, 5, 6, 7, 8, 9, 10, 11] [0, 1, 2, 3, 4, 5, 6, 7, 8, 9, 10, 11, 12, 13] rfl rfl (by decide) (by decide) (by decide) rfl (by decide) rfl rfl rfl hl.1 rfl (Nat.le_of_ble_eq_true rfl) dX7_shape_44 ⟨Nat.zero_le _, Nat.zero_le _⟩ (fun H locs hP hD hS => ?_)
          refine lv_i2l (v := r12.toInt64) hx hb dX7_shape_47 rfl ?_
          refine lv_goto (tgt := 59) hx hb dX7_shape_48 (by decide) ?_
          obtain ⟨ee0, ee1⟩ := q_s2 hf
          subst ee1
          exact q_wretL hx hb hr hlk hAe hK hP hD hS ee0 dX7_shape_59
      · have hf := q_f c5 hf
        refine lv_ldc2 (v := -9000000000000000001) hx hb hown (hts _ qX7_shape_2) dX7_shape_20 ?_
        obtain ⟨ee0, ee1⟩ := q_s2 hf
        subst ee1
        exact q_wretL hx hb hr hlk hAe hK hP hD hS ee0 dX7_shape_23
theorem hdX7_trace : yX7_trace.cls = RX7 ∧ yX7_trace.cls ≠ "java/lang/invoke/MethodHandle" ∧ yX7_trace.cls ≠ "java/lang/invoke/VarHandle" ∧ (parseMethodDescriptor yX7_trace.desc).map (fun d => d.parameters.length) = some 1 := by decide +kernel
theorem qX7_trace_1 : (Cond.fieldLink RX7 42 "DeadAsked" "bodies" "LDeadAsked$Bodies;") ∈ wsX7_trace := List.mem_of_getElem? (i := 1) (by decide +kernel)
theorem nX7_trace_7 : ∀ w ∈ u_ws RX7 TX7 14, w ∈ wsX7_trace := fun _ h => (List.mem_cons_of_mem _ (List.mem_append_left _ (List.mem_append_right _ h)))
set_option maxHeartbeats 4000000 in
set_option maxRecDepth 100000 in
theorem kX7_trace (o0 : Nat) (g0 : Nat → Nat) (a1 : Nat → Nat) (s0 : St) (s1 : St) (p1 : Int32) (r : Int32) (hf : fX7_trace s1 p1 = some r) : Met l yX7_trace wsX7_trace ({ frames := 1, cells := 0, slots := 0, locals := 21 } : Room) (pcR (dC, dI) (q_ty cI cB cZ) [.ref o0, .int p1] ((wcX o0 g0 s0) ++ (wcB cI (g0 4) a1 s1))) (qiR r) 0 0 (fun _ => False) := by
  refine q_roM (cc := cX7_trace) (maxL := 2) (ret := (some .int)) (by decide +kernel) rfl (Nat.le_of_ble_eq_true rfl) ?_
  intro p e s m below meth c hx hb hr hlk hml hown hts hK hP ls hl
  have hown : s.vm.findClass RX7 = some m.cls := hown
  have hl : lv_has ls 2 [(0, .ref o0), (1, .int p1)] := hl
  unfold fX7_trace at hf
  refine lv_aload_n hx hb dX7_trace_0 rfl (lv_at hl 0 rfl) ?_
  refine va_get (D := (dC, dI)) (ci := 7) (v := .ref (g0 4)) (C := RX7) (T := TX7) (N := 14) hx hb hts nX7_trace_7 hown hK hP 0 rfl rfl 4 (by decide) (hts _ qX7_trace_1) (fun _ h9 => h9) rfl dX7_trace_1 ?_
  refine lv_iload_n hx hb dX7_trace_4 rfl (lv_at hl 1 rfl) ?_
  obtain ⟨r1, h2, hf⟩ := q_b1o hf
  refine q_roVi (As := [.int p1]) (rest := []) (ci := 1) ⟨hx, hb, hml, hown, hts⟩ (kX1_traced l dC dI cI cB cZ (g0 4) a1 s1 p1 r1 h2) (cwV 1 hts gX7_trace_X1_traced rfl rfl rfl hdX1_traced ⟨Nat.le_of_ble_eq_true rfl, Nat.le_of_ble_eq_true rfl⟩) hK (hP.sub [1, 2] rfl) rfl rfl rfl hl.1 rfl (Nat.le_of_ble_eq_true rfl) dX7_trace_5 ⟨Nat.zero_le _, Nat.zero_le _⟩ ?_
  have ee0 := q_s1 hf
  exact q_retI hx hb hr hlk ee0 dX7_trace_8
theorem hdX7_count : yX7_count.cls = RX7 ∧ yX7_count.cls ≠ "java/lang/invoke/MethodHandle" ∧ yX7_count.cls ≠ "java/lang/invoke/VarHandle" ∧ (parseMethodDescriptor yX7_count.desc).map (fun d => d.parameters.length) = some 1 := by decide +kernel
theorem qX7_count_1 : (Cond.fieldLink RX7 12 "DeadAsked" "rows" "LDeadAsked$Rows;") ∈ wsX7_count := List.mem_of_getElem? (i := 1) (by decide +kernel)
theorem qX7_count_2 : (Cond.fieldLink RX7 63 "DeadAsked" "standing" "LDeadAsked$Hill;") ∈ wsX7_count := List.mem_of_getElem? (i := 2) (by decide +kernel)
theorem qX7_count_3 : (Cond.fieldLink RX7 152 "DeadAsked$Hill" "graves" "I") ∈ wsX7_count := List.mem_of_getElem? (i := 3) (by decide +kernel)
theorem qX7_count_4 : (Cond.fieldLink RX7 309 "DeadAsked$Hill" "horns" "I") ∈ wsX7_count := List.mem_of_getElem? (i := 4) (by decide +kernel)
theorem qX7_count_5 : (Cond.fieldLink RX7 193 "DeadAsked$Hill" "cracked" "I") ∈ wsX7_count := List.mem_of_getElem? (i := 5) (by decide +kernel)
theorem qX7_count_6 : (Cond.fieldLink RX7 317 "DeadAsked$Hill" "trees" "I") ∈ wsX7_count := List.mem_of_getElem? (i := 6) (by decide +kernel)
theorem qX7_count_7 : (Cond.fieldLink RX7 35 "DeadAsked" "acts" "LDeadAsked$Acts;") ∈ wsX7_count := List.mem_of_getElem? (i := 7) (by decide +kernel)
theorem qX7_count_8 : (Cond.fieldLink RX7 19 "DeadAsked" "tape" "LDeadAsked$Tape;") ∈ wsX7_count := List.mem_of_getElem? (i := 8) (by decide +kernel)
theorem qX7_count_9 : (Cond.constantLong RX7 76 (-9000000000000000001)) ∈ wsX7_count := List.mem_of_getElem? (i := 9) (by decide +kernel)
theorem nX7_count_3 : ∀ w ∈ u_ws RX3 TX3 14, w ∈ wsX7_count := fun _ h => (List.mem_cons_of_mem _ (List.mem_append_left _ (List.mem_append_left _ (List.mem_append_left _ (List.mem_append_right _ h)))))
theorem nX7_count_7 : ∀ w ∈ u_ws RX7 TX7 14, w ∈ wsX7_count := fun _ h => (List.mem_cons_of_mem _ (List.mem_append_left _ (List.mem_append_left _ (List.mem_append_left _ (List.mem_append_left _ (List.mem_append_right _ h))))))
set_option maxHeartbeats 4000000 in
set_option maxRecDepth 100000 in
theorem kX7_count (o0 : Nat) (g0 : Nat → Nat) (a1 : Nat → Nat) (a2 : Nat → Nat) (a3 : Nat → Nat) (a4 : Nat → Nat) (s0 : St) (s1 : St) (s2 : St) (s3 : St) (s4 : St) (p1 : Int32) (r : Int64) (hf : fX7_count s1 s2 s3 s4 p1 = some r) : Met l yX7_count wsX7_count ({ frames := 1, cells := 0, slots := 0, locals := 22 } : Room) (pcR (dC, dI) (q_ty cI cB cZ) [.ref o0, .int p1] ((wcX o0 g0 s0) ++ (wcR cI (g0 0) a1 s1) ++ (wcH cI (g0 8) a2 s2) ++ (wcA cI (g0 3) a3 s3) ++ (wcT cB (g0 1) a4 s4))) (qlR r) 0 0 (fun _ => False) := by
  refine q_roM (cc := cX7_count) (maxL := 2) (ret := (some .long)) (by decide +kernel) rfl (Nat.le_of_ble_eq_true rfl) ?_
  intro p e s m below meth c hx hb hr hlk hml hown hts hK hP ls hl
  have hown : s.vm.findClass RX7 = some m.cls := hown
  have hl : lv_has ls 2 [(0, .ref o0), (1, .int p1)] := hl
  unfold fX7_count at hf
  refine lv_iload_n hx hb dX7_count_0 rfl (lv_at hl 1 rfl) ?_
  by_cases c1 : p1 = (0 : Int32)
  · have hf := q_t c1 hf
    refine lv_tableIn (off := 43) (tgt := 44) hx hb dX7_count_1 (by rw [c1]; decide) (by rw [c1]; decide) (by rw [c1]; decide) (by decide) ?_
    refine lv_aload_n hx hb dX7_count_44 rfl (lv_at hl 0 rfl) ?_
    refine va_get (D := (dC, dI)) (ci := 7) (v := .ref (g0 0)) (C := RX7) (T := TX7) (N := 14) hx hb hts nX7_count_7 hown hK hP 0 rfl rfl 0 (by decide) (hts _ qX7_count_1) (fun _ h9 => h9) rfl dX7_count_45 ?_
    obtain ⟨r2, h3, hf⟩ := q_b1o hf
    refine q_roVi (As := []) (rest := []) (ci := 5) ⟨hx, hb, hml, hown, hts⟩ (kX5_present l dC dI cI cB cZ (g0 0) a1 s1 r2 h3) (cwV 0 hts gX7_count_X5_present rfl rfl rfl hdX5_present ⟨Nat.le_of_ble_eq_true rfl, Nat.le_of_ble_eq_true rfl⟩) hK (hP.sub [1, 2, 3, 4] rfl) rfl rfl rfl hl.1 rfl (Nat.le_of_ble_eq_true rfl) dX7_count_48 ⟨Nat.zero_le _, Nat.zero_le _⟩ ?_
    refine lv_i2l (v := r2.toInt64) hx hb dX7_count_51 rfl ?_
    have ee0 := q_s1 hf
    exact q_retL hx hb hr hlk ee0 dX7_count_52
  · have hf := q_f c1 hf
    by_cases c4 : p1 = (1 : Int32)
    · have hf := q_t c4 hf
      refine lv_tableIn (off := 52) (tgt := 53) hx hb dX7_count_1 (by rw [c4]; decide) (by rw [c4]; decide) (by rw [c4]; decide) (by decide) ?_
      refine lv_aload_n hx hb dX7_count_53 rfl (lv_at hl 0 rfl) ?_
      refine va_get (D := (dC, dI)) (ci := 7) (v := .ref (g0 8)) (C := RX7) (T := TX7) (N := 14) hx hb hts nX7_count_7 hown hK hP 0 rfl rfl 8 (by decide) (hts _ qX7_count_2) (fun _ h9 => h9) rfl dX7_count_54 ?_
      refine va_get (D := (dC, dI)) (ci := 3) (v := .int (s2 10 0)) (C := RX3) (T := TX3) (N := 14) hx hb hts nX7_count_3 hown hK hP 5 rfl rfl 10 (by decide) (hts _ qX7_count_3) (fun _ h9 => h9) rfl dX7_count_57 ?_
      refine lv_i2l (v := (s2 10 0).toInt64) hx hb dX7_count_60 rfl ?_
      have ee0 := q_s1 hf
      exact q_retL hx hb hr hlk ee0 dX7_count_61
    · have hf := q_f c4 hf
      by_cases c5 : p1 = (2 : Int32)
      · have hf := q_t c5 hf
        refine lv_tableIn (off := 61) (tgt := 62) hx hb dX7_count_1 (by rw [c5]; decide) (by rw [c5]; decide) (by rw [c5]; decide) (by decide) ?_
        refine lv_aload_n hx hb dX7_count_62 rfl (lv_at hl 0 rfl) ?_
        refine va_get (D := (dC, dI)) (ci := 7) (v := .ref (g0 8)) (C := RX7) (T := TX7) (N := 14) hx hb hts nX7_count_7 hown hK hP 0 rfl rfl 8 (by decide) (hts _ qX7_count_2) (fun _ h9 => h9) rfl dX7_count_63 ?_
        refine va_get (D := (dC, dI)) (ci := 3) (v := .int (s2 11 0)) (C := RX3) (T := TX3) (N := 14) hx hb hts nX7_count_3 hown hK hP 5 rfl rfl 11 (by decide) (hts _ qX7_count_4) (fun _ h9 => h9) rfl dX7_count_66 ?_
        refine lv_aload_n hx hb dX7_count_69 rfl (lv_at hl 0 rfl) ?_
        refine va_get (D := (dC, dI)) (ci := 7) (v := .ref (g0 8)) (C := RX7) (T := TX7) (N := 14) hx hb hts nX7_count_7 hown hK hP 0 rfl rfl 8 (by decide) (hts _ qX7_count_2) (fun _ h9 => h9) rfl dX7_count_70 ?_
        refine va_get (D := (dC, dI)) (ci := 3) (v := .int (s2 13 0)) (C := RX3) (T := TX3) (N := 14) hx hb hts nX7_count_3 hown hK hP 5 rfl rfl 13 (by decide) (hts _ qX7_count_5) (fun _ h9 => h9) rfl dX7_count_73 ?_
        obtain ⟨r6, h7, hf⟩ := q_b1o hf
        refine q_roSi (As := [.int (s2 13 0)]) (rest := [.int (s2 11 0)]) ⟨hx, hb, hml, hown, hts⟩ (kJ6_bitCount_0f7a4 l (s2 13 0) r6 h7) (va_cwS 1 hts gX7_count_J6_bitCount_0f7a4 rfl rfl rfl hdJ6_bitCount_0f7a4 ⟨Nat.le_of_ble_eq_true rfl, Nat.le_of_ble_eq_true rfl⟩) rfl hl.1 rfl (Nat.le_of_ble_eq_true rfl) dX7_count_76 ⟨Nat.zero_le _, Nat.zero_le _⟩ ?_
        refine lv_isub hx hb dX7_count_79 ?_
        refine lv_i2l (v := ((s2 11 0) - r6).toInt64) hx hb dX7_count_80 rfl ?_
        have ee0 := q_s1 hf
        exact q_retL hx hb hr hlk ee0 dX7_count_81
      · have hf := q_f c5 hf
        by_cases c8 : p1 = (3 : Int32)
        · have hf := q_t c8 hf
          refine lv_tableIn (off := 81) (tgt := 82) hx hb dX7_count_1 (by rw [c8]; decide) (by rw [c8]; decide) (by rw [c8]; decide) (by decide) ?_
          refine lv_aload_n hx hb dX7_count_82 rfl (lv_at hl 0 rfl) ?_
          refine va_get (D := (dC, dI)) (ci := 7) (v := .ref (g0 8)) (C := RX7) (T := TX7) (N := 14) hx hb hts nX7_count_7 hown hK hP 0 rfl rfl 8 (by decide) (hts _ qX7_count_2) (fun _ h9 => h9) rfl dX7_count_83 ?_
          refine va_get (D := (dC, dI)) (ci := 3) (v := .int (s2 12 0)) (C := RX3) (T := TX3) (N := 14) hx hb hts nX7_count_3 hown hK hP 5 rfl rfl 12 (by decide) (hts _ qX7_count_6) (fun _ h9 => h9) rfl dX7_count_86 ?_
          refine lv_i2l (v := (s2 12 0).toInt64) hx hb dX7_count_89 rfl ?_
          have ee0 := q_s1 hf
          exact q_retL hx hb hr hlk ee0 dX7_count_90
        · have hf := q_f c8 hf
          by_cases c9 : p1 = (4 : Int32)
          · have hf := q_t c9 hf
            refine lv_tableIn (off := 90) (tgt := 91) hx hb dX7_count_1 (by rw [c9]; decide) (by rw [c9]; decide) (by rw [c9]; decide) (by decide) ?_
            refine lv_aload_n hx hb dX7_count_91 rfl (lv_at hl 0 rfl) ?_
            refine va_get (D := (dC, dI)) (ci := 7) (v := .ref (g0 3)) (C := RX7) (T := TX7) (N := 14) hx hb hts nX7_count_7 hown hK hP 0 rfl rfl 3 (by decide) (hts _ qX7_count_7) (fun _ h9 => h9) rfl dX7_count_92 ?_
            obtain ⟨r10, h11, hf⟩ := q_b1o hf
            refine q_roVi (As := []) (rest := []) (ci := 0) ⟨hx, hb, hml, hown, hts⟩ (kX0_kept l dC dI cI cB cZ (g0 3) a3 s3 r10 h11) (cwV 0 hts gX7_count_X0_kept rfl rfl rfl hdX0_kept ⟨Nat.le_of_ble_eq_true rfl, Nat.le_of_ble_eq_true rfl⟩) hK (hP.sub [16, 17, 18, 19] rfl) rfl rfl rfl hl.1 rfl (Nat.le_of_ble_eq_true rfl) dX7_count_95 ⟨Nat.zero_le _, Nat.zero_le _⟩ ?_
            refine lv_i2l (v := r10.toInt64) hx hb dX7_count_98 rfl ?_
            have ee0 := q_s1 hf
            exact q_retL hx hb hr hlk ee0 dX7_count_99
          · have hf := q_f c9 hf
            by_cases c12 : p1 = (5 : Int32)
            · have hf := q_t c12 hf
              refine lv_tableIn (off := 99) (tgt := 100) hx hb dX7_count_1 (by rw [c12]; decide) (by rw [c12]; decide) (by rw [c12]; decide) (by decide) ?_
              refine lv_aload_n hx hb dX7_count_100 rfl (lv_at hl 0 rfl) ?_
              refine va_get (D := (dC, dI)) (ci := 7) (v := .ref (g0 8)) (C := RX7) (T := TX7) (N := 14) hx hb hts nX7_count_7 hown hK hP 0 rfl rfl 8 (by decide) (hts _ qX7_count_2) (fun _ h9 => h9) rfl dX7_count_101 ?_
              obtain ⟨r13, h14, hf⟩ := q_b1o hf
              refine q_roVi (As := []) (rest := []) (ci := 3) ⟨hx, hb, hml, hown, hts⟩ (kX3_fruitInAll l dC dI cI cB cZ (g0 8) a2 s2 r13 h14) (cwV 0 hts gX7_count_X3_fruitInAll rfl rfl rfl hdX3_fruitInAll ⟨Nat.le_of_ble_eq_true rfl, Nat.le_of_ble_eq_true rfl⟩) hK (hP.sub [5, 6, 7, 8, 9, 10, 11, 12, 13, 14, 15] rfl) rfl rfl rfl hl.1 rfl (Nat.le_of_ble_eq_true rfl) dX7_count_104 ⟨Nat.zero_le _, Nat.zero_le _⟩ ?_
              refine lv_i2l (v := r13.toInt64) hx hb dX7_count_107 rfl ?_
              have ee0 := q_s1 hf
              exact q_retL hx hb hr hlk ee0 dX7_count_108
            · have hf := q_f c12 hf
              by_cases c15 : p1 = (6 : Int32)
              · have hf := q_t c15 hf
                refine lv_tableIn (off := 108) (tgt := 109) hx hb dX7_count_1 (by rw [c15]; decide) (by rw [c15]; decide) (by rw [c15]; decide) (by decide) ?_
                refine lv_aload_n hx hb dX7_count_109 rfl (lv_at hl 0 rfl) ?_
                refine va_get (D := (dC, dI)) (ci := 7) (v := .ref (g0 1)) (C := RX7) (T := TX7) (N := 14) hx hb hts nX7_count_7 hown hK hP 0 rfl rfl 1 (by decide) (hts _ qX7_count_8) (fun _ h9 => h9) rfl dX7_count_110 ?_
                obtain ⟨r16, h17, hf⟩ := q_b1o hf
                refine q_roVi (As := []) (rest := []) (ci := 6) ⟨hx, hb, hml, hown, hts⟩ (kX6_length l dC dI cI cB cZ (g0 1) a4 s4 r16 h17) (cwV 0 hts gX7_count_X6_length rfl rfl rfl hdX6_length ⟨Nat.le_of_ble_eq_true rfl, Nat.le_of_ble_eq_true rfl⟩) hK (hP.sub [20, 21] rfl) rfl rfl rfl hl.1 rfl (Nat.le_of_ble_eq_true rfl) dX7_count_113 ⟨Nat.zero_le _, Nat.zero_le _⟩ ?_
                refine lv_i2l (v := r16.toInt64) hx hb dX7_count_116 rfl ?_
                have ee0 := q_s1 hf
                exact q_retL hx hb hr hlk ee0 dX7_count_117
              · have hf := q_f c15 hf
                refine lv_tableOut (tgt := 118) hx hb dX7_count_1 (q_tso (x := p1) (lo := 0) (n := 7) (by intro k hk; match k, hk with | 0, _ => exact c1 | 1, _ => exact c4 | 2, _ => exact c5 | 3, _ => exact c8 | 4, _ => exact c9 | 5, _ => exact c12 | 6, _ => exact c15 | k + 7, hk => exact absurd hk (by omega)) (by decide)) (by decide) ?_
                refine lv_ldc2 (v := -9000000000000000001) hx hb hown (hts _ qX7_count_9) dX7_count_118 ?_
                have ee0 := q_s1 hf
                exact q_retL hx hb hr hlk ee0 dX7_count_121
theorem hdX7_status : yX7_status.cls = RX7 ∧ yX7_status.cls ≠ "java/lang/invoke/MethodHandle" ∧ yX7_status.cls ≠ "java/lang/invoke/VarHandle" ∧ (parseMethodDescriptor yX7_status.desc).map (fun d => d.parameters.length) = some 0 := by decide +kernel
theorem qX7_status_1 : (Cond.fieldLink RX7 323 "DeadAsked" "latestFinding" "I") ∈ wsX7_status := List.mem_of_getElem? (i := 1) (by decide +kernel)
theorem nX7_status_7 : ∀ w ∈ u_ws RX7 TX7 14, w ∈ wsX7_status := fun _ h => (List.mem_cons_of_mem _ (List.mem_append_right _ h))
set_option maxHeartbeats 4000000 in
set_option maxRecDepth 100000 in
theorem kX7_status (o0 : Nat) (g0 : Nat → Nat) (s0 : St) (r : Int32) (hf : fX7_status s0 = some r) : Met l yX7_status wsX7_status ({ frames := 0, cells := 0, slots := 0, locals := 0 } : Room) (pcR (dC, dI) (q_ty cI cB cZ) [.ref o0] (wcX o0 g0 s0)) (qiR r) 0 0 (fun _ => False) := by
  refine q_roM (cc := cX7_status) (maxL := 1) (ret := (some .int)) (by decide +kernel) rfl (Nat.le_of_ble_eq_true rfl) ?_
  intro p e s m below meth c hx hb hr hlk hml hown hts hK hP ls hl
  have hown : s.vm.findClass RX7 = some m.cls := hown
  have hl : lv_has ls 1 [(0, .ref o0)] := hl
  unfold fX7_status at hf
  refine lv_aload_n hx hb dX7_status_0 rfl (lv_at hl 0 rfl) ?_
  refine va_get (D := (dC, dI)) (ci := 7) (v := .int (s0 13 0)) (C := RX7) (T := TX7) (N := 14) hx hb hts nX7_status_7 hown hK hP 0 rfl rfl 13 (by decide) (hts _ qX7_status_1) (fun _ h9 => h9) rfl dX7_status_1 ?_
  have ee0 := q_s1 hf
  exact q_retI hx hb hr hlk ee0 dX7_status_4
