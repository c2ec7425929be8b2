variable (l : Launch) (dC : Nat → ClassId) (dI : Nat → Nat → Nat) (cI cB cZ : ClassId)
theorem hdX8_restore : yX8_restore.cls = RX8 ∧ yX8_restore.cls ≠ "java/lang/invoke/MethodHandle" ∧ yX8_restore.cls ≠ "java/lang/invoke/VarHandle" ∧ (parseMethodDescriptor yX8_restore.desc).map (fun d => d.parameters.length) = some 1 := by decide +kernel
theorem qX8_restore_1 : (Cond.fieldLink RX8 41 "DeadAskedModel" "thrown" "I") ∈ wsX8_restore := List.mem_of_getElem? (i := 1) (by decide +kernel)
theorem qX8_restore_2 : (Cond.constantLong RX8 62 (-9000000000000000001)) ∈ wsX8_restore := List.mem_of_getElem? (i := 2) (by decide +kernel)
theorem qX8_restore_3 : (Cond.fieldLink RX8 31 "DeadAskedModel" "isKept" "[Z") ∈ wsX8_restore := List.mem_of_getElem? (i := 3) (by decide +kernel)
theorem qX8_restore_4 : (Cond.constantLong RX8 223 (-9000000000000000002)) ∈ wsX8_restore := List.mem_of_getElem? (i := 4) (by decide +kernel)
theorem qX8_restore_5 : (Cond.fieldLink RX8 19 "DeadAskedModel" "hill" "[I") ∈ wsX8_restore := List.mem_of_getElem? (i := 5) (by decide +kernel)
theorem qX8_restore_6 : (Cond.fieldLink RX8 35 "DeadAskedModel" "kept" "[I") ∈ wsX8_restore := List.mem_of_getElem? (i := 6) (by decide +kernel)
theorem qX8_restore_7 : (Cond.fieldLink RX8 188 "DeadAskedModel" "acts" "I") ∈ wsX8_restore := List.mem_of_getElem? (i := 7) (by decide +kernel)
theorem nX8_restore_8 : ∀ w ∈ u_ws RX8 TX8 27, w ∈ wsX8_restore := fun _ h => (List.mem_cons_of_mem _ (List.mem_append_right _ h))
set_option maxHeartbeats 4000000 in
set_option maxRecDepth 100000 in
theorem kX8_restore (o0 : Nat) (a0 : Nat → Nat) (s0 : St) (t0 : Lt) (p1 : Int32) (sz : Nat) (r : Int64) (z0 : St) (hf : fX8_restore s0 p1 = some (r, z0)) : Met l yX8_restore wsX8_restore ({ frames := 1, cells := 0, slots := 0, locals := 25 } : Room) (pcW (dC, dI) (q_ty cI cB cZ) [.ref o0, .int p1] (wcM cI cZ o0 a0 s0 t0) sz) (qlW (dC, dI) (q_ty cI cB cZ) (wcM cI cZ o0 a0 s0 t0) (wcM cI cZ o0 a0 z0 t0) sz r) 0 0 (va_A (wcM cI cZ o0 a0 s0 t0) sz) := by
  refine q_rwM (cc := cX8_restore) (maxL := 3) (ret := (some .long)) (by decide +kernel) rfl (Nat.le_of_ble_eq_true rfl) ?_
  intro p e s m below meth c hx hb hr hlk hml hown hts hK A H hAe hH hsz hP hD hA hS ls hl
  have hown : s.vm.findClass RX8 = some m.cls := hown
  have hl : lv_has ls 3 [(0, .ref o0), (1, .int p1)] := hl
  unfold fX8_restore at hf
  refine lv_aload_n hx hb dX8_restore_0 rfl (lv_at hl 0 rfl) ?_
  refine lv_iconst (v := 0) hx hb dX8_restore_1 (by decide) ?_
  obtain ⟨sn1, esn1, hf⟩ := q_lto hf
  refine va_put (D := (dC, dI)) (ci := 8) (v := .int (0 : Int32)) (ty := .int) (C := RX8) (T := TX8) (N := 27) hx hb hts nX8_restore_8 tyX8 tyX8_ok nmX8 hown hK hP hD hS 0 rfl rfl 0 (by decide) (hts _ qX8_restore_1) (fun _ h9 => h9) rfl (by decide +kernel) rfl rfl (Nat.le_of_ble_eq_true rfl) dX8_restore_2 (fun H locs hP hD hS => ?_)
  have hP : va_P (dC, dI) vwCl (wcM cI cZ o0 a0 sn1 t0) H := by rw [esn1]; exact hP
  have hD : va_D A (wcM cI cZ o0 a0 sn1 t0) := by rw [esn1]; exact hD
  refine lv_iload_n hx hb dX8_restore_5 rfl (lv_at hl 1 rfl) ?_
  refine lv_i2l (v := p1.toInt64) hx hb dX8_restore_6 rfl ?_
  refine lv_lconst (v := 0) hx hb dX8_restore_7 (by decide) ?_
  refine lv_lconst (v := 1) hx hb dX8_restore_8 (by decide) ?_
  obtain ⟨r2, h3, hf⟩ := q_b1o hf
  refine q_roSi (As := [.long p1.toInt64, .long (0 : Int64), .long (1 : Int64)]) (rest := []) ⟨hx, hb, hml, hown, hts⟩ (kX8_in l p1.toInt64 (0 : Int64) (1 : Int64) r2 h3) (va_cwS 3 hts gX8_restore_X8_in rfl rfl rfl hdX8_in ⟨Nat.le_of_ble_eq_true rfl, Nat.le_of_ble_eq_true rfl⟩) rfl hl.1 rfl (Nat.le_of_ble_eq_true rfl) dX8_restore_9 ⟨Nat.zero_le _, Nat.zero_le _⟩ ?_
  refine lv_if_ne (tgt := 19) hx hb dX8_restore_12 (by decide) (fun c4 => ?_) (fun c4 => ?_)
  · have hf := q_f c4 hf
    refine lv_aload_n hx hb dX8_restore_19 rfl (lv_at hl 0 rfl) ?_
    refine va_get (D := (dC, dI)) (ci := 8) (v := .ref (a0 23)) (C := RX8) (T := TX8) (N := 27) hx hb hts nX8_restore_8 hown hK hP 0 rfl rfl 23 (by decide) (hts _ qX8_restore_3) (fun _ h9 => h9) rfl dX8_restore_20 ?_
    refine lv_iload_n hx hb dX8_restore_23 rfl (lv_at hl 1 rfl) ?_
    obtain ⟨c5, hf⟩ := q_ck hf
    refine va_zald hx hb hK hP 8 2 rfl rfl c5 dX8_restore_24 ?_
    refine lv_if_ne (tgt := 32) hx hb dX8_restore_25 (by decide) (fun c6 => ?_) (fun c6 => ?_)
    · have hf := q_f c6 hf
      refine lv_iconst (v := 0) hx hb dX8_restore_32 (by decide) ?_
      refine lv_istore_n (lv' := [(2, .int (0 : Int32)), (0, .ref o0), (1, .int p1)]) hx hb dX8_restore_33 rfl hl (by decide) rfl (fun ls hl => ?_)
      obtain ⟨oz10, hqn9, hf⟩ := q_b1o hf
      have kxn9 : ∀ z10 : St, z10 = oz10 → ∀ (H : Heap) (locs : List Loc), va_P (dC, dI) vwCl (wcM cI cZ o0 a0 z10 t0) H → va_D A (wcM cI cZ o0 a0 z10 t0) → va_S A s.heap H locs → ∀ ls : Array Slot, lv_has ls 3 [(0, .ref o0)] → W p l e ({ frames := 1, cells := 0, slots := 0, locals := 25 } : Room) s m [.ref o0, .int p1].toArray below meth c H locs 0 0 (MQ below (qlW (dC, dI) (q_ty cI cB cZ) (wcM cI cZ o0 a0 s0 t0) (wcM cI cZ o0 a0 z0 t0) sz r) [.ref o0, .int p1].toArray s 0 0 (va_A (wcM cI cZ o0 a0 s0 t0) sz)) (F0 m 63 ls []) := by
        intro z10 ez10 H locs hP hD hS ls hl
        subst ez10
        refine lv_aload_n hx hb dX8_restore_63 rfl (lv_at hl 0 rfl) ?_
        refine lv_iconst (v := 0) hx hb dX8_restore_64 (by decide) ?_
        obtain ⟨sn15, esn15, hf⟩ := q_lto hf
        refine va_put (D := (dC, dI)) (ci := 8) (v := .int (0 : Int32)) (ty := .int) (C := RX8) (T := TX8) (N := 27) hx hb hts nX8_restore_8 tyX8 tyX8_ok nmX8 hown hK hP hD hS 0 rfl rfl 9 (by decide) (hts _ qX8_restore_7) (fun _ h9 => h9) rfl (by decide +kernel) rfl rfl (Nat.le_of_ble_eq_true rfl) dX8_restore_65 (fun H locs hP hD hS => ?_)
        have hP : va_P (dC, dI) vwCl (wcM cI cZ o0 a0 sn15 t0) H := by rw [esn15]; exact hP
        have hD : va_D A (wcM cI cZ o0 a0 sn15 t0) := by rw [esn15]; exact hD
        refine lv_lconst (v := 1) hx hb dX8_restore_68 (by decide) ?_
        obtain ⟨ee0, ee1⟩ := q_s2 hf
        subst ee1
        exact q_wretL hx hb hr hlk hAe hK hP hD hS ee0 dX8_restore_69
      have aihn9 : ∀ n9 : Nat, ∀ l2_7 : Int32, ∀ sl8 : St, fX8_restore_L34 p1 n9 l2_7 sl8 = some oz10 → ∀ (H : Heap) (locs : List Loc), va_P (dC, dI) vwCl (wcM cI cZ o0 a0 sl8 t0) H → va_D A (wcM cI cZ o0 a0 sl8 t0) → va_S A s.heap H locs → ∀ ls : Array Slot, lv_has ls 3 [(2, .int l2_7), (0, .ref o0), (1, .int p1)] → W p l e ({ frames := 1, cells := 0, slots := 0, locals := 25 } : Room) s m [.ref o0, .int p1].toArray below meth c H locs 0 0 (MQ below (qlW (dC, dI) (q_ty cI cB cZ) (wcM cI cZ o0 a0 s0 t0) (wcM cI cZ o0 a0 z0 t0) sz r) [.ref o0, .int p1].toArray s 0 0 (va_A (wcM cI cZ o0 a0 s0 t0) sz)) (F0 m 34 ls []) := by
        intro n9
        induction n9 with
        | zero =>
          intro l2_7 sl8 hf
          exact q_no hf
        | succ n9 ihn9 =>
          intro l2_7 sl8 hf H locs hP hD hS ls hl
          rw [fX8_restore_L34] at hf
          refine lv_iload_n hx hb dX8_restore_34 rfl (lv_at hl 0 rfl) ?_
          refine lv_bipush (v := 59) hx hb dX8_restore_35 (by decide) ?_
          refine lv_icmp_ge (tgt := 63) hx hb dX8_restore_37 (by decide) (fun c11 => ?_) (fun c11 => ?_)
          · have hf := q_t c11 hf
            exact kxn9 sl8 (q_s1 hf) _ _ hP hD hS _ (lv_sub hl [1] rfl)
          · have hf := q_f c11 hf
            refine lv_aload_n hx hb dX8_restore_40 rfl (lv_at hl 1 rfl) ?_
            refine va_get (D := (dC, dI)) (ci := 8) (v := .ref (a0 5)) (C := RX8) (T := TX8) (N := 27) hx hb hts nX8_restore_8 hown hK hP 0 rfl rfl 5 (by decide) (hts _ qX8_restore_5) (fun _ h9 => h9) rfl dX8_restore_41 ?_
            refine lv_iload_n hx hb dX8_restore_44 rfl (lv_at hl 0 rfl) ?_
            refine lv_aload_n hx hb dX8_restore_45 rfl (lv_at hl 1 rfl) ?_
            refine va_get (D := (dC, dI)) (ci := 8) (v := .ref (a0 24)) (C := RX8) (T := TX8) (N := 27) hx hb hts nX8_restore_8 hown hK hP 0 rfl rfl 24 (by decide) (hts _ qX8_restore_6) (fun _ h9 => h9) rfl dX8_restore_46 ?_
            refine lv_bipush (v := 59) hx hb dX8_restore_49 (by decide) ?_
            refine lv_iload_n hx hb dX8_restore_51 rfl (lv_at hl 2 rfl) ?_
            refine lv_imul hx hb dX8_restore_52 ?_
            refine lv_iload_n hx hb dX8_restore_53 rfl (lv_at hl 0 rfl) ?_
            refine lv_iadd hx hb dX8_restore_54 ?_
            obtain ⟨c12, hf⟩ := q_ck hf
            refine va_iald hx hb hK hP 9 0 rfl rfl c12 dX8_restore_55 ?_
            obtain ⟨c13, hf⟩ := q_ck hf
            obtain ⟨sn14, esn14, hf⟩ := q_lto hf
            refine va_iast hx hb hK hP hD hS 4 0 rfl rfl c13 dX8_restore_56 (fun H locs hP hD hS => ?_)
            have hP : va_P (dC, dI) vwCl (wcM cI cZ o0 a0 sn14 t0) H := by rw [esn14]; exact hP
            have hD : va_D A (wcM cI cZ o0 a0 sn14 t0) := by rw [esn14]; exact hD
            refine lv_iinc (v := l2_7 + (1 : Int32)) (lv' := [(2, .int (l2_7 + (1 : Int32))), (0, .ref o0), (1, .int p1)]) hx hb dX8_restore_57 hl (k := 0) rfl rfl (by decide) rfl (fun ls hl => ?_)
            refine lv_goto (tgt := 34) hx hb dX8_restore_60 (by decide) ?_
            exact ihn9 (l2_7 + (1 : Int32)) sn14 hf _ _ hP hD hS _ hl
      exact aihn9 5000 (0 : Int32) sn1 hqn9 _ _ hP hD hS _ hl
    · have hf := q_t c6 hf
      refine lv_ldc2 (v := -9000000000000000002) hx hb hown (hts _ qX8_restore_4) dX8_restore_28 ?_
      obtain ⟨ee0, ee1⟩ := q_s2 hf
      subst ee1
      exact q_wretL hx hb hr hlk hAe hK hP hD hS ee0 dX8_restore_31
  · have hf := q_t c4 hf
    refine lv_ldc2 (v := -9000000000000000001) hx hb hown (hts _ qX8_restore_2) dX8_restore_15 ?_
    obtain ⟨ee0, ee1⟩ := q_s2 hf
    subst ee1
    exact q_wretL hx hb hr hlk hAe hK hP hD hS ee0 dX8_restore_18
theorem hdX8_kindOf : yX8_kindOf.cls = RX8 ∧ yX8_kindOf.cls ≠ "java/lang/invoke/MethodHandle" ∧ yX8_kindOf.cls ≠ "java/lang/invoke/VarHandle" ∧ (parseMethodDescriptor yX8_kindOf.desc).map (fun d => d.parameters.length) = some 1 := by decide +kernel
theorem qX8_kindOf_1 : (Cond.fieldLink RX8 19 "DeadAskedModel" "hill" "[I") ∈ wsX8_kindOf := List.mem_of_getElem? (i := 1) (by decide +kernel)
theorem nX8_kindOf_8 : ∀ w ∈ u_ws RX8 TX8 27, w ∈ wsX8_kindOf := fun _ h => (List.mem_cons_of_mem _ (List.mem_append_right _ h))
set_option maxHeartbeats 4000000 in
set_option maxRecDepth 100000 in
theorem kX8_kindOf (o0 : Nat) (a0 : Nat → Nat) (s0 : St) (t0 : Lt) (p1 : Int32) (r : Int32) (hf : fX8_kindOf s0 p1 = some r) : Met l yX8_kindOf wsX8_kindOf ({ frames := 0, cells := 0, slots := 0, locals := 0 } : Room) (pcR (dC, dI) (q_ty cI cB cZ) [.ref o0, .int p1] (wcM cI cZ o0 a0 s0 t0)) (qiR r) 0 0 (fun _ => False) := by
  refine q_roM (cc := cX8_kindOf) (maxL := 2) (ret := (some .int)) (by decide +kernel) rfl (Nat.le_of_ble_eq_true rfl) ?_
  intro p e s m below meth c hx hb hr hlk hml hown hts hK hP ls hl
  have hown : s.vm.findClass RX8 = some m.cls := hown
  have hl : lv_has ls 2 [(0, .ref o0), (1, .int p1)] := hl
  unfold fX8_kindOf at hf
  refine lv_aload_n hx hb dX8_kindOf_0 rfl (lv_at hl 0 rfl) ?_
  refine va_get (D := (dC, dI)) (ci := 8) (v := .ref (a0 5)) (C := RX8) (T := TX8) (N := 27) hx hb hts nX8_kindOf_8 hown hK hP 0 rfl rfl 5 (by decide) (hts _ qX8_kindOf_1) (fun _ h9 => h9) rfl dX8_kindOf_1 ?_
  refine lv_bipush (v := 47) hx hb dX8_kindOf_4 (by decide) ?_
  refine lv_iconst (v := 3) hx hb dX8_kindOf_6 (by decide) ?_
  refine lv_iload_n hx hb dX8_kindOf_7 rfl (lv_at hl 1 rfl) ?_
  refine lv_imul hx hb dX8_kindOf_8 ?_
  refine lv_iadd hx hb dX8_kindOf_9 ?_
  obtain ⟨c1, hf⟩ := q_ck hf
  refine va_iald hx hb hK hP 4 0 rfl rfl c1 dX8_kindOf_10 ?_
  have ee0 := q_s1 hf
  exact q_retI hx hb hr hlk ee0 dX8_kindOf_11
theorem hdX8_isOf : yX8_isOf.cls ≠ "java/lang/invoke/MethodHandle" ∧ yX8_isOf.cls ≠ "java/lang/invoke/VarHandle" ∧ (parseMethodDescriptor yX8_isOf.desc).map (fun d => d.parameters.length) = some 2 := by decide +kernel
set_option maxHeartbeats 4000000 in
set_option maxRecDepth 100000 in
theorem kX8_isOf (p0 : Int32) (p1 : Int32) (r : Int32) (hf : fX8_isOf p0 p1 = some r) : Met l yX8_isOf wsX8_isOf ({ frames := 0, cells := 0, slots := 0, locals := 0 } : Room) (pcS [.int p0, .int p1]) (qiR r) 0 0 (fun _ => False) := by
  refine q_roS (cc := cX8_isOf) (maxL := 2) (ret := (some .boolean)) (by decide +kernel) rfl (Nat.le_of_ble_eq_true rfl) ?_
  intro p e s m below meth c hx hb hr hlk hml hown hts ls hl
  have hown : s.vm.findClass RX8 = some m.cls := hown
  have hl : lv_has ls 2 [(0, .int p0), (1, .int p1)] := hl
  unfold fX8_isOf at hf
  refine lv_iload_n hx hb dX8_isOf_0 rfl (lv_at hl 1 rfl) ?_
  refine lv_if_eq (tgt := 39) hx hb dX8_isOf_1 (by decide) (fun c1 => ?_) (fun c1 => ?_)
  · have hf := q_t c1 hf
    refine lv_iconst (v := 1) hx hb dX8_isOf_39 (by decide) ?_
    refine lv_goto (tgt := 44) hx hb dX8_isOf_40 (by decide) ?_
    have ee0 := q_s1 hf
    exact q_retZ hx hb hr hlk rfl ee0 dX8_isOf_44
  · have hf := q_f c1 hf
    refine lv_iload_n hx hb dX8_isOf_4 rfl (lv_at hl 0 rfl) ?_
    refine lv_iload_n hx hb dX8_isOf_5 rfl (lv_at hl 1 rfl) ?_
    refine lv_icmp_eq (tgt := 39) hx hb dX8_isOf_6 (by decide) (fun c2 => ?_) (fun c2 => ?_)
    · have hf := q_t c2 hf
      refine lv_iconst (v := 1) hx hb dX8_isOf_39 (by decide) ?_
      refine lv_goto (tgt := 44) hx hb dX8_isOf_40 (by decide) ?_
      have ee0 := q_s1 hf
      exact q_retZ hx hb hr hlk rfl ee0 dX8_isOf_44
    · have hf := q_f c2 hf
      refine lv_iload_n hx hb dX8_isOf_9 rfl (lv_at hl 1 rfl) ?_
      refine lv_iconst (v := 1) hx hb dX8_isOf_10 (by decide) ?_
      refine lv_icmp_ne (tgt := 19) hx hb dX8_isOf_11 (by decide) (fun c3 => ?_) (fun c3 => ?_)
      · have hf := q_f c3 hf
        refine lv_iload_n hx hb dX8_isOf_19 rfl (lv_at hl 1 rfl) ?_
        refine lv_iconst (v := 2) hx hb dX8_isOf_20 (by decide) ?_
        refine lv_icmp_ne (tgt := 29) hx hb dX8_isOf_21 (by decide) (fun c4 => ?_) (fun c4 => ?_)
        · have hf := q_f c4 hf
          refine lv_iload_n hx hb dX8_isOf_29 rfl (lv_at hl 1 rfl) ?_
          refine lv_iconst (v := 4) hx hb dX8_isOf_30 (by decide) ?_
          refine lv_icmp_ne (tgt := 43) hx hb dX8_isOf_31 (by decide) (fun c5 => ?_) (fun c5 => ?_)
          · have hf := q_f c5 hf
            refine lv_iconst (v := 0) hx hb dX8_isOf_43 (by decide) ?_
            have ee0 := q_s1 hf
            exact q_retZ hx hb hr hlk rfl ee0 dX8_isOf_44
          · have hf := q_t c5 hf
            refine lv_iload_n hx hb dX8_isOf_34 rfl (lv_at hl 0 rfl) ?_
            refine lv_iconst (v := 5) hx hb dX8_isOf_35 (by decide) ?_
            refine lv_icmp_ne (tgt := 43) hx hb dX8_isOf_36 (by decide) (fun c6 => ?_) (fun c6 => ?_)
            · have hf := q_f c6 hf
              refine lv_iconst (v := 0) hx hb dX8_isOf_43 (by decide) ?_
              have ee0 := q_s1 hf
              exact q_retZ hx hb hr hlk rfl ee0 dX8_isOf_44
            · have hf := q_t c6 hf
              refine lv_iconst (v := 1) hx hb dX8_isOf_39 (by decide) ?_
              refine lv_goto (tgt := 44) hx hb dX8_isOf_40 (by decide) ?_
              have ee0 := q_s1 hf
              exact q_retZ hx hb hr hlk rfl ee0 dX8_isOf_44
        · have hf := q_t c4 hf
          refine lv_iload_n hx hb dX8_isOf_24 rfl (lv_at hl 0 rfl) ?_
          refine lv_iconst (v := 3) hx hb dX8_isOf_25 (by decide) ?_
          refine lv_icmp_eq (tgt := 39) hx hb dX8_isOf_26 (by decide) (fun c7 => ?_) (fun c7 => ?_)
          · have hf := q_t c7 hf
            refine lv_iconst (v := 1) hx hb dX8_isOf_39 (by decide) ?_
            refine lv_goto (tgt := 44) hx hb dX8_isOf_40 (by decide) ?_
            have ee0 := q_s1 hf
            exact q_retZ hx hb hr hlk rfl ee0 dX8_isOf_44
          · have hf := q_f c7 hf
            refine lv_iload_n hx hb dX8_isOf_29 rfl (lv_at hl 1 rfl) ?_
            refine lv_iconst (v := 4) hx hb dX8_isOf_30 (by decide) ?_
            refine lv_icmp_ne (tgt := 43) hx hb dX8_isOf_31 (by decide) (fun c8 => ?_) (fun c8 => ?_)
            · have hf := q_f c8 hf
              refine lv_iconst (v := 0) hx hb dX8_isOf_43 (by decide) ?_
              have ee0 := q_s1 hf
              exact q_retZ hx hb hr hlk rfl ee0 dX8_isOf_44
            · have hf := q_t c8 hf
              refine lv_iload_n hx hb dX8_isOf_34 rfl (lv_at hl 0 rfl) ?_
              refine lv_iconst (v := 5) hx hb dX8_isOf_35 (by decide) ?_
              refine lv_icmp_ne (tgt := 43) hx hb dX8_isOf_36 (by decide) (fun c9 => ?_) (fun c9 => ?_)
              · have hf := q_f c9 hf
                refine lv_iconst (v := 0) hx hb dX8_isOf_43 (by decide) ?_
                have ee0 := q_s1 hf
                exact q_retZ hx hb hr hlk rfl ee0 dX8_isOf_44
              · have hf := q_t c9 hf
                refine lv_iconst (v := 1) hx hb dX8_isOf_39 (by decide) ?_
                refine lv_goto (tgt := 44) hx hb dX8_isOf_40 (by decide) ?_
                have ee0 := q_s1 hf
                exact q_retZ hx hb hr hlk rfl ee0 dX8_isOf_44
      · have hf := q_t c3 hf
        refine lv_iload_n hx hb dX8_isOf_14 rfl (lv_at hl 0 rfl) ?_
        refine lv_iconst (v := 4) hx hb dX8_isOf_15 (by decide) ?_
        refine lv_icmp_lt (tgt := 39) hx hb dX8_isOf_16 (by decide) (fun c10 => ?_) (fun c10 => ?_)
        · have hf := q_t c10 hf
          refine lv_iconst (v := 1) hx hb dX8_isOf_39 (by decide) ?_
          refine lv_goto (tgt := 44) hx hb dX8_isOf_40 (by decide) ?_
          have ee0 := q_s1 hf
          exact q_retZ hx hb hr hlk rfl ee0 dX8_isOf_44
        · have hf := q_f c10 hf
          refine lv_iload_n hx hb dX8_isOf_19 rfl (lv_at hl 1 rfl) ?_
          refine lv_iconst (v := 2) hx hb dX8_isOf_20 (by decide) ?_
          refine lv_icmp_ne (tgt := 29) hx hb dX8_isOf_21 (by decide) (fun c11 => ?_) (fun c11 => ?_)
          · have hf := q_f c11 hf
            refine lv_iload_n hx hb dX8_isOf_29 rfl (lv_at hl 1 rfl) ?_
            refine lv_iconst (v := 4) hx hb dX8_isOf_30 (by decide) ?_
            refine lv_icmp_ne (tgt := 43) hx hb dX8_isOf_31 (by decide) (fun c12 => ?_) (fun c12 => ?_)
            · have hf := q_f c12 hf
              refine lv_iconst (v := 0) hx hb dX8_isOf_43 (by decide) ?_
              have ee0 := q_s1 hf
              exact q_retZ hx hb hr hlk rfl ee0 dX8_isOf_44
            · have hf := q_t c12 hf
              refine lv_iload_n hx hb dX8_isOf_34 rfl (lv_at hl 0 rfl) ?_
              refine lv_iconst (v := 5) hx hb dX8_isOf_35 (by decide) ?_
              refine lv_icmp_ne (tgt := 43) hx hb dX8_isOf_36 (by decide) (fun c13 => ?_) (fun c13 => ?_)
              · have hf := q_f c13 hf
                refine lv_iconst (v := 0) hx hb dX8_isOf_43 (by decide) ?_
                have ee0 := q_s1 hf
                exact q_retZ hx hb hr hlk rfl ee0 dX8_isOf_44
              · have hf := q_t c13 hf
                refine lv_iconst (v := 1) hx hb dX8_isOf_39 (by decide) ?_
                refine lv_goto (tgt := 44) hx hb dX8_isOf_40 (by decide) ?_
                have ee0 := q_s1 hf
                exact q_retZ hx hb hr hlk rfl ee0 dX8_isOf_44
          · have hf := q_t c11 hf
            refine lv_iload_n hx hb dX8_isOf_24 rfl (lv_at hl 0 rfl) ?_
            refine lv_iconst (v := 3) hx hb dX8_isOf_25 (by decide) ?_
            refine lv_icmp_eq (tgt := 39) hx hb dX8_isOf_26 (by decide) (fun c14 => ?_) (fun c14 => ?_)
            · have hf := q_t c14 hf
              refine lv_iconst (v := 1) hx hb dX8_isOf_39 (by decide) ?_
              refine lv_goto (tgt := 44) hx hb dX8_isOf_40 (by decide) ?_
              have ee0 := q_s1 hf
              exact q_retZ hx hb hr hlk rfl ee0 dX8_isOf_44
            · have hf := q_f c14 hf
              refine lv_iload_n hx hb dX8_isOf_29 rfl (lv_at hl 1 rfl) ?_
              refine lv_iconst (v := 4) hx hb dX8_isOf_30 (by decide) ?_
              refine lv_icmp_ne (tgt := 43) hx hb dX8_isOf_31 (by decide) (fun c15 => ?_) (fun c15 => ?_)
              · have hf := q_f c15 hf
                refine lv_iconst (v := 0) hx hb dX8_isOf_43 (by decide) ?_
                have ee0 := q_s1 hf
                exact q_retZ hx hb hr hlk rfl ee0 dX8_isOf_44
              · have hf := q_t c15 hf
                refine lv_iload_n hx hb dX8_isOf_34 rfl (lv_at hl 0 rfl) ?_
                refine lv_iconst (v := 5) hx hb dX8_isOf_35 (by decide) ?_
                refine lv_icmp_ne (tgt := 43) hx hb dX8_isOf_36 (by decide) (fun c16 => ?_) (fun c16 => ?_)
                · have hf := q_f c16 hf
                  refine lv_iconst (v := 0) hx hb dX8_isOf_43 (by decide) ?_
                  have ee0 := q_s1 hf
                  exact q_retZ hx hb hr hlk rfl ee0 dX8_isOf_44
                · have hf := q_t c16 hf
                  refine lv_iconst (v := 1) hx hb dX8_isOf_39 (by decide) ?_
                  refine lv_goto (tgt := 44) hx hb dX8_isOf_40 (by decide) ?_
                  have ee0 := q_s1 hf
                  exact q_retZ hx hb hr hlk rfl ee0 dX8_isOf_44
theorem hdX8_kind : yX8_kind.cls = RX8 ∧ yX8_kind.cls ≠ "java/lang/invoke/MethodHandle" ∧ yX8_kind.cls ≠ "java/lang/invoke/VarHandle" ∧ (parseMethodDescriptor yX8_kind.desc).map (fun d => d.parameters.length) = some 1 := by decide +kernel
theorem qX8_kind_1 : (Cond.fieldLink RX8 41 "DeadAskedModel" "thrown" "I") ∈ wsX8_kind := List.mem_of_getElem? (i := 1) (by decide +kernel)
theorem qX8_kind_2 : (Cond.constantLong RX8 62 (-9000000000000000001)) ∈ wsX8_kind := List.mem_of_getElem? (i := 2) (by decide +kernel)
theorem nX8_kind_8 : ∀ w ∈ u_ws RX8 TX8 27, w ∈ wsX8_kind := fun _ h => (List.mem_cons_of_mem _ (List.mem_append_right _ h))
set_option maxHeartbeats 4000000 in
set_option maxRecDepth 100000 in
theorem kX8_kind (o0 : Nat) (a0 : Nat → Nat) (s0 : St) (t0 : Lt) (p1 : Int32) (sz : Nat) (r : Int64) (z0 : St) (hf : fX8_kind s0 p1 = some (r, z0)) : Met l yX8_kind wsX8_kind ({ frames := 2, cells := 0, slots := 0, locals := 46 } : Room) (pcW (dC, dI) (q_ty cI cB cZ) [.ref o0, .int p1] (wcM cI cZ o0 a0 s0 t0) sz) (qlW (dC, dI) (q_ty cI cB cZ) (wcM cI cZ o0 a0 s0 t0) (wcM cI cZ o0 a0 z0 t0) sz r) 0 0 (va_A (wcM cI cZ o0 a0 s0 t0) sz) := by
  refine q_rwM (cc := cX8_kind) (maxL := 2) (ret := (some .long)) (by decide +kernel) rfl (Nat.le_of_ble_eq_true rfl) ?_
  intro p e s m below meth c hx hb hr hlk hml hown hts hK A H hAe hH hsz hP hD hA hS ls hl
  have hown : s.vm.findClass RX8 = some m.cls := hown
  have hl : lv_has ls 2 [(0, .ref o0), (1, .int p1)] := hl
  unfold fX8_kind at hf
  refine lv_aload_n hx hb dX8_kind_0 rfl (lv_at hl 0 rfl) ?_
  refine lv_iconst (v := 0) hx hb dX8_kind_1 (by decide) ?_
  obtain ⟨sn1, esn1, hf⟩ := q_lto hf
  refine va_put (D := (dC, dI)) (ci := 8) (v := .int (0 : Int32)) (ty := .int) (C := RX8) (T := TX8) (N := 27) hx hb hts nX8_kind_8 tyX8 tyX8_ok nmX8 hown hK hP hD hS 0 rfl rfl 0 (by decide) (hts _ qX8_kind_1) (fun _ h9 => h9) rfl (by decide +kernel) rfl rfl (Nat.le_of_ble_eq_true rfl) dX8_kind_2 (fun H locs hP hD hS => ?_)
  have hP : va_P (dC, dI) vwCl (wcM cI cZ o0 a0 sn1 t0) H := by rw [esn1]; exact hP
  have hD : va_D A (wcM cI cZ o0 a0 sn1 t0) := by rw [esn1]; exact hD
  refine lv_aload_n hx hb dX8_kind_5 rfl (lv_at hl 0 rfl) ?_
  refine lv_iload_n hx hb dX8_kind_6 rfl (lv_at hl 1 rfl) ?_
  obtain ⟨r2, h3, hf⟩ := q_b1o hf
  refine q_roVi (As := [.int p1]) (rest := []) (ci := 8) ⟨hx, hb, hml, hown, hts⟩ (kX8_isTree l dC dI cI cB cZ o0 a0 sn1 t0 p1 r2 h3) (cwV 1 hts gX8_kind_X8_isTree rfl rfl rfl hdX8_isTree ⟨Nat.le_of_ble_eq_true rfl, Nat.le_of_ble_eq_true rfl⟩) hK hP rfl rfl rfl hl.1 rfl (Nat.le_of_ble_eq_true rfl) dX8_kind_7 ⟨Nat.zero_le _, Nat.zero_le _⟩ ?_
  refine lv_if_eq (tgt := 22) hx hb dX8_kind_10 (by decide) (fun c4 => ?_) (fun c4 => ?_)
  · have hf := q_t c4 hf
    refine lv_ldc2 (v := -9000000000000000001) hx hb hown (hts _ qX8_kind_2) dX8_kind_22 ?_
    obtain ⟨ee0, ee1⟩ := q_s2 hf
    subst ee1
    exact q_wretL hx hb hr hlk hAe hK hP hD hS ee0 dX8_kind_25
  · have hf := q_f c4 hf
    refine lv_aload_n hx hb dX8_kind_13 rfl (lv_at hl 0 rfl) ?_
    refine lv_iload_n hx hb dX8_kind_14 rfl (lv_at hl 1 rfl) ?_
    obtain ⟨r5, h6, hf⟩ := q_b1o hf
    refine q_roVi (As := [.int p1]) (rest := []) (ci := 8) ⟨hx, hb, hml, hown, hts⟩ (kX8_kindOf l dC dI cI cB cZ o0 a0 sn1 t0 p1 r5 h6) (cwV 1 hts gX8_kind_X8_kindOf rfl rfl rfl hdX8_kindOf ⟨Nat.le_of_ble_eq_true rfl, Nat.le_of_ble_eq_true rfl⟩) hK hP rfl rfl rfl hl.1 rfl (Nat.le_of_ble_eq_true rfl) dX8_kind_15 ⟨Nat.zero_le _, Nat.zero_le _⟩ ?_
    refine lv_i2l (v := r5.toInt64) hx hb dX8_kind_18 rfl ?_
    refine lv_goto (tgt := 25) hx hb dX8_kind_19 (by decide) ?_
    obtain ⟨ee0, ee1⟩ := q_s2 hf
    subst ee1
    exact q_wretL hx hb hr hlk hAe hK hP hD hS ee0 dX8_kind_25
theorem hdX8_as : yX8_as.cls = RX8 ∧ yX8_as.cls ≠ "java/lang/invoke/MethodHandle" ∧ yX8_as.cls ≠ "java/lang/invoke/VarHandle" ∧ (parseMethodDescriptor yX8_as.desc).map (fun d => d.parameters.length) = some 2 := by decide +kernel
theorem qX8_as_1 : (Cond.fieldLink RX8 41 "DeadAskedModel" "thrown" "I") ∈ wsX8_as := List.mem_of_getElem? (i := 1) (by decide +kernel)
theorem qX8_as_2 : (Cond.constantLong RX8 262 5) ∈ wsX8_as := List.mem_of_getElem? (i := 2) (by decide +kernel)
theorem qX8_as_3 : (Cond.constantLong RX8 62 (-9000000000000000001)) ∈ wsX8_as := List.mem_of_getElem? (i := 3) (by decide +kernel)
theorem qX8_as_4 : (Cond.fieldLink RX8 45 "DeadAskedModel" "status" "I") ∈ wsX8_as := List.mem_of_getElem? (i := 4) (by decide +kernel)
theorem nX8_as_8 : ∀ w ∈ u_ws RX8 TX8 27, w ∈ wsX8_as := fun _ h => (List.mem_cons_of_mem _ (List.mem_append_right _ h))
set_option maxHeartbeats 4000000 in
set_option maxRecDepth 100000 in
theorem kX8_as (o0 : Nat) (a0 : Nat → Nat) (s0 : St) (t0 : Lt) (p1 : Int32) (p2 : Int32) (sz : Nat) (r : Int64) (z0 : St) (hf : fX8_as s0 p1 p2 = some (r, z0)) : Met l yX8_as wsX8_as ({ frames := 2, cells := 0, slots := 0, locals := 46 } : Room) (pcW (dC, dI) (q_ty cI cB cZ) [.ref o0, .int p1, .int p2] (wcM cI cZ o0 a0 s0 t0) sz) (qlW (dC, dI) (q_ty cI cB cZ) (wcM cI cZ o0 a0 s0 t0) (wcM cI cZ o0 a0 z0 t0) sz r) 0 0 (va_A (wcM cI cZ o0 a0 s0 t0) sz) := by
  refine q_rwM (cc := cX8_as) (maxL := 3) (ret := (some .long)) (by decide +kernel) rfl (Nat.le_of_ble_eq_true rfl) ?_
  intro p e s m below meth c hx hb hr hlk hml hown hts hK A H hAe hH hsz hP hD hA hS ls hl
  have hown : s.vm.findClass RX8 = some m.cls := hown
  have hl : lv_has ls 3 [(0, .ref o0), (1, .int p1), (2, .int p2)] := hl
  unfold fX8_as at hf
  refine lv_aload_n hx hb dX8_as_0 rfl (lv_at hl 0 rfl) ?_
  refine lv_iconst (v := 0) hx hb dX8_as_1 (by decide) ?_
  obtain ⟨sn1, esn1, hf⟩ := q_lto hf
  refine va_put (D := (dC, dI)) (ci := 8) (v := .int (0 : Int32)) (ty := .int) (C := RX8) (T := TX8) (N := 27) hx hb hts nX8_as_8 tyX8 tyX8_ok nmX8 hown hK hP hD hS 0 rfl rfl 0 (by decide) (hts _ qX8_as_1) (fun _ h9 => h9) rfl (by decide +kernel) rfl rfl (Nat.le_of_ble_eq_true rfl) dX8_as_2 (fun H locs hP hD hS => ?_)
  have hP : va_P (dC, dI) vwCl (wcM cI cZ o0 a0 sn1 t0) H := by rw [esn1]; exact hP
  have hD : va_D A (wcM cI cZ o0 a0 sn1 t0) := by rw [esn1]; exact hD
  refine lv_aload_n hx hb dX8_as_5 rfl (lv_at hl 0 rfl) ?_
  refine lv_iload_n hx hb dX8_as_6 rfl (lv_at hl 1 rfl) ?_
  obtain ⟨r2, h3, hf⟩ := q_b1o hf
  refine q_roVi (As := [.int p1]) (rest := []) (ci := 8) ⟨hx, hb, hml, hown, hts⟩ (kX8_isTree l dC dI cI cB cZ o0 a0 sn1 t0 p1 r2 h3) (cwV 1 hts gX8_as_X8_isTree rfl rfl rfl hdX8_isTree ⟨Nat.le_of_ble_eq_true rfl, Nat.le_of_ble_eq_true rfl⟩) hK hP rfl rfl rfl hl.1 rfl (Nat.le_of_ble_eq_true rfl) dX8_as_7 ⟨Nat.zero_le _, Nat.zero_le _⟩ ?_
  refine lv_if_eq (tgt := 25) hx hb dX8_as_10 (by decide) (fun c4 => ?_) (fun c4 => ?_)
  · have hf := q_t c4 hf
    refine lv_ldc2 (v := -9000000000000000001) hx hb hown (hts _ qX8_as_3) dX8_as_25 ?_
    obtain ⟨ee0, ee1⟩ := q_s2 hf
    subst ee1
    exact q_wretL hx hb hr hlk hAe hK hP hD hS ee0 dX8_as_28
  · have hf := q_f c4 hf
    refine lv_iload_n hx hb dX8_as_13 rfl (lv_at hl 2 rfl) ?_
    refine lv_i2l (v := p2.toInt64) hx hb dX8_as_14 rfl ?_
    refine lv_lconst (v := 0) hx hb dX8_as_15 (by decide) ?_
    refine lv_ldc2 (v := 5) hx hb hown (hts _ qX8_as_2) dX8_as_16 ?_
    obtain ⟨r5, h6, hf⟩ := q_b1o hf
    refine q_roSi (As := [.long p2.toInt64, .long (0 : Int64), .long (5 : Int64)]) (rest := []) ⟨hx, hb, hml, hown, hts⟩ (kX8_in l p2.toInt64 (0 : Int64) (5 : Int64) r5 h6) (va_cwS 3 hts gX8_as_X8_in rfl rfl rfl hdX8_in ⟨Nat.le_of_ble_eq_true rfl, Nat.le_of_ble_eq_true rfl⟩) rfl hl.1 rfl (Nat.le_of_ble_eq_true rfl) dX8_as_19 ⟨Nat.zero_le _, Nat.zero_le _⟩ ?_
    refine lv_if_ne (tgt := 29) hx hb dX8_as_22 (by decide) (fun c7 => ?_) (fun c7 => ?_)
    · have hf := q_f c7 hf
      refine lv_aload_n hx hb dX8_as_29 rfl (lv_at hl 0 rfl) ?_
      refine lv_iconst (v := 0) hx hb dX8_as_30 (by decide) ?_
      obtain ⟨sn8, esn8, hf⟩ := q_lto hf
      refine va_put (D := (dC, dI)) (ci := 8) (v := .int (0 : Int32)) (ty := .int) (C := RX8) (T := TX8) (N := 27) hx hb hts nX8_as_8 tyX8 tyX8_ok nmX8 hown hK hP hD hS 0 rfl rfl 1 (by decide) (hts _ qX8_as_4) (fun _ h9 => h9) rfl (by decide +kernel) rfl rfl (Nat.le_of_ble_eq_true rfl) dX8_as_31 (fun H locs hP hD hS => ?_)
      have hP : va_P (dC, dI) vwCl (wcM cI cZ o0 a0 sn8 t0) H := by rw [esn8]; exact hP
      have hD : va_D A (wcM cI cZ o0 a0 sn8 t0) := by rw [esn8]; exact hD
      refine lv_aload_n hx hb dX8_as_34 rfl (lv_at hl 0 rfl) ?_
      refine lv_iload_n hx hb dX8_as_35 rfl (lv_at hl 1 rfl) ?_
      obtain ⟨r9, h10, hf⟩ := q_b1o hf
      refine q_roVi (As := [.int p1]) (rest := []) (ci := 8) ⟨hx, hb, hml, hown, hts⟩ (kX8_kindOf l dC dI cI cB cZ o0 a0 sn8 t0 p1 r9 h10) (cwV 1 hts gX8_as_X8_kindOf rfl rfl rfl hdX8_kindOf ⟨Nat.le_of_ble_eq_true rfl, Nat.le_of_ble_eq_true rfl⟩) hK hP rfl rfl rfl hl.1 rfl (Nat.le_of_ble_eq_true rfl) dX8_as_36 ⟨Nat.zero_le _, Nat.zero_le _⟩ ?_
      refine lv_iload_n hx hb dX8_as_39 rfl (lv_at hl 2 rfl) ?_
      obtain ⟨r11, h12, hf⟩ := q_b1o hf
      refine q_roSi (As := [.int r9, .int p2]) (rest := []) ⟨hx, hb, hml, hown, hts⟩ (kX8_isOf l r9 p2 r11 h12) (va_cwS 2 hts gX8_as_X8_isOf rfl rfl rfl hdX8_isOf ⟨Nat.le_of_ble_eq_true rfl, Nat.le_of_ble_eq_true rfl⟩) rfl hl.1 rfl (Nat.le_of_ble_eq_true rfl) dX8_as_40 ⟨Nat.zero_le _, Nat.zero_le _⟩ ?_
      refine lv_if_eq (tgt := 51) hx hb dX8_as_43 (by decide) (fun c13 => ?_) (fun c13 => ?_)
      · have hf := q_t c13 hf
        refine lv_aload_n hx hb dX8_as_51 rfl (lv_at hl 0 rfl) ?_
        refine lv_iconst (v := 3) hx hb dX8_as_52 (by decide) ?_
        obtain ⟨r14, sc15, h16, hf⟩ := q_b2o hf
        refine q_rwVl (As := [.int (3 : Int32)]) (rest := []) (ci := 8) (wr := []) (w2 := (wcM cI cZ o0 a0 sc15 t0)) ⟨hx, hb, hml, hown, hts⟩ (kX8_finding l dC dI cI cB cZ o0 a0 sn8 t0 (3 : Int32) H.size r14 sc15 h16) (cwV 1 hts gX8_as_X8_finding rfl rfl rfl hdX8_finding ⟨Nat.le_of_ble_eq_true rfl, Nat.le_of_ble_eq_true rfl⟩) hK hP hD hS hA [0, 1, 2, 3, 4, 5, 6, 7, 8, 9, 10] [] [0, 1, 2, 3, 4, 5, 6, 7, 8, 9, 10] rfl rfl (by decide) (by decide) (by decide) rfl (by decide) rfl rfl rfl hl.1 rfl (Nat.le_of_ble_eq_true rfl) dX8_as_53 ⟨Nat.zero_le _, Nat.zero_le _⟩ (fun H locs hP hD hS => ?_)
        obtain ⟨ee0, ee1⟩ := q_s2 hf
        subst ee1
        exact q_wretL hx hb hr hlk hAe hK hP hD hS ee0 dX8_as_56
      · have hf := q_f c13 hf
        refine lv_iload_n hx hb dX8_as_46 rfl (lv_at hl 1 rfl) ?_
        refine lv_i2l (v := p1.toInt64) hx hb dX8_as_47 rfl ?_
        refine lv_goto (tgt := 56) hx hb dX8_as_48 (by decide) ?_
        obtain ⟨ee0, ee1⟩ := q_s2 hf
        subst ee1
        exact q_wretL hx hb hr hlk hAe hK hP hD hS ee0 dX8_as_56
    · have hf := q_t c7 hf
      refine lv_ldc2 (v := -9000000000000000001) hx hb hown (hts _ qX8_as_3) dX8_as_25 ?_
      obtain ⟨ee0, ee1⟩ := q_s2 hf
      subst ee1
      exact q_wretL hx hb hr hlk hAe hK hP hD hS ee0 dX8_as_28
theorem hdX8_began : yX8_began.cls = RX8 ∧ yX8_began.cls ≠ "java/lang/invoke/MethodHandle" ∧ yX8_began.cls ≠ "java/lang/invoke/VarHandle" ∧ (parseMethodDescriptor yX8_began.desc).map (fun d => d.parameters.length) = some 1 := by decide +kernel
theorem qX8_began_1 : (Cond.fieldLink RX8 301 "DeadAskedModel" "traced" "I") ∈ wsX8_began := List.mem_of_getElem? (i := 1) (by decide +kernel)
theorem qX8_began_2 : (Cond.fieldLink RX8 38 "DeadAskedModel" "trace" "[I") ∈ wsX8_began := List.mem_of_getElem? (i := 2) (by decide +kernel)
theorem nX8_began_8 : ∀ w ∈ u_ws RX8 TX8 27, w ∈ wsX8_began := fun _ h => (List.mem_cons_of_mem _ (List.mem_append_right _ h))
set_option maxHeartbeats 4000000 in
set_option maxRecDepth 100000 in
theorem kX8_began (o0 : Nat) (a0 : Nat → Nat) (s0 : St) (t0 : Lt) (p1 : Int32) (sz : Nat) (z0 : St) (hf : fX8_began s0 p1 = some z0) : Met l yX8_began wsX8_began ({ frames := 0, cells := 0, slots := 0, locals := 0 } : Room) (pcW (dC, dI) (q_ty cI cB cZ) [.ref o0, .int p1] (wcM cI cZ o0 a0 s0 t0) sz) (qvW (dC, dI) (q_ty cI cB cZ) (wcM cI cZ o0 a0 s0 t0) (wcM cI cZ o0 a0 z0 t0) sz) 0 0 (va_A (wcM cI cZ o0 a0 s0 t0) sz) := by
  refine q_rwM (cc := cX8_began) (maxL := 2) (ret := none) (by decide +kernel) rfl (Nat.le_of_ble_eq_true rfl) ?_
  intro p e s m below meth c hx hb hr hlk hml hown hts hK A H hAe hH hsz hP hD hA hS ls hl
  have hown : s.vm.findClass RX8 = some m.cls := hown
  have hl : lv_has ls 2 [(0, .ref o0), (1, .int p1)] := hl
  unfold fX8_began at hf
  refine lv_aload_n hx hb dX8_began_0 rfl (lv_at hl 0 rfl) ?_
  refine va_get (D := (dC, dI)) (ci := 8) (v := .int (s0 26 0)) (C := RX8) (T := TX8) (N := 27) hx hb hts nX8_began_8 hown hK hP 0 rfl rfl 26 (by decide) (hts _ qX8_began_1) (fun _ h9 => h9) rfl dX8_began_1 ?_
  refine lv_bipush (v := 16) hx hb dX8_began_4 (by decide) ?_
  refine lv_icmp_ge (tgt := 29) hx hb dX8_began_6 (by decide) (fun c1 => ?_) (fun c1 => ?_)
  · have hf := q_t c1 hf
    have ee0 := q_s1 hf
    subst ee0
    exact q_wretV hx hb hr hlk hAe hK hP hD hS dX8_began_29
  · have hf := q_f c1 hf
    refine lv_aload_n hx hb dX8_began_9 rfl (lv_at hl 0 rfl) ?_
    refine va_get (D := (dC, dI)) (ci := 8) (v := .ref (a0 25)) (C := RX8) (T := TX8) (N := 27) hx hb hts nX8_began_8 hown hK hP 0 rfl rfl 25 (by decide) (hts _ qX8_began_2) (fun _ h9 => h9) rfl dX8_began_10 ?_
    refine lv_aload_n hx hb dX8_began_13 rfl (lv_at hl 0 rfl) ?_
    refine va_get (D := (dC, dI)) (ci := 8) (v := .int (s0 26 0)) (C := RX8) (T := TX8) (N := 27) hx hb hts nX8_began_8 hown hK hP 0 rfl rfl 26 (by decide) (hts _ qX8_began_1) (fun _ h9 => h9) rfl dX8_began_14 ?_
    refine lv_iload_n hx hb dX8_began_17 rfl (lv_at hl 1 rfl) ?_
    obtain ⟨c2, hf⟩ := q_ck hf
    obtain ⟨sn3, esn3, hf⟩ := q_lto hf
    refine va_iast hx hb hK hP hD hS 10 0 rfl rfl c2 dX8_began_18 (fun H locs hP hD hS => ?_)
    have hP : va_P (dC, dI) vwCl (wcM cI cZ o0 a0 sn3 t0) H := by rw [esn3]; exact hP
    have hD : va_D A (wcM cI cZ o0 a0 sn3 t0) := by rw [esn3]; exact hD
    refine lv_aload_n hx hb dX8_began_19 rfl (lv_at hl 0 rfl) ?_
    refine lv_dup hx hb dX8_began_20 rfl ?_
    refine va_get (D := (dC, dI)) (ci := 8) (v := .int (sn3 26 0)) (C := RX8) (T := TX8) (N := 27) hx hb hts nX8_began_8 hown hK hP 0 rfl rfl 26 (by decide) (hts _ qX8_began_1) (fun _ h9 => h9) rfl dX8_began_21 ?_
    refine lv_iconst (v := 1) hx hb dX8_began_24 (by decide) ?_
    refine lv_iadd hx hb dX8_began_25 ?_
    obtain ⟨sn4, esn4, hf⟩ := q_lto hf
    refine va_put (D := (dC, dI)) (ci := 8) (v := .int ((sn3 26 0) + (1 : Int32))) (ty := .int) (C := RX8) (T := TX8) (N := 27) hx hb hts nX8_began_8 tyX8 tyX8_ok nmX8 hown hK hP hD hS 0 rfl rfl 26 (by decide) (hts _ qX8_began_1) (fun _ h9 => h9) rfl (by decide +kernel) rfl rfl (Nat.le_of_ble_eq_true rfl) dX8_began_26 (fun H locs hP hD hS => ?_)
    have hP : va_P (dC, dI) vwCl (wcM cI cZ o0 a0 sn4 t0) H := by rw [esn4]; exact hP
    have hD : va_D A (wcM cI cZ o0 a0 sn4 t0) := by rw [esn4]; exact hD
    have ee0 := q_s1 hf
    subst ee0
    exact q_wretV hx hb hr hlk hAe hK hP hD hS dX8_began_29
theorem hdX8_plainSize : yX8_plainSize.cls = RX8 ∧ yX8_plainSize.cls ≠ "java/lang/invoke/MethodHandle" ∧ yX8_plainSize.cls ≠ "java/lang/invoke/VarHandle" ∧ (parseMethodDescriptor yX8_plainSize.desc).map (fun d => d.parameters.length) = some 1 := by decide +kernel
set_option maxHeartbeats 4000000 in
set_option maxRecDepth 100000 in
theorem kX8_plainSize (o0 : Nat) (a0 : Nat → Nat) (s0 : St) (t0 : Lt) (p1 : Int32) (sz : Nat) (r : Int32) (z0 : St) (hf : fX8_plainSize s0 p1 = some (r, z0)) : Met l yX8_plainSize wsX8_plainSize ({ frames := 1, cells := 0, slots := 0, locals := 21 } : Room) (pcW (dC, dI) (q_ty cI cB cZ) [.ref o0, .int p1] (wcM cI cZ o0 a0 s0 t0) sz) (qiW (dC, dI) (q_ty cI cB cZ) (wcM cI cZ o0 a0 s0 t0) (wcM cI cZ o0 a0 z0 t0) sz r) 0 0 (va_A (wcM cI cZ o0 a0 s0 t0) sz) := by
  refine q_rwM (cc := cX8_plainSize) (maxL := 2) (ret := (some .int)) (by decide +kernel) rfl (Nat.le_of_ble_eq_true rfl) ?_
  intro p e s m below meth c hx hb hr hlk hml hown hts hK A H hAe hH hsz hP hD hA hS ls hl
  have hown : s.vm.findClass RX8 = some m.cls := hown
  have hl : lv_has ls 2 [(0, .ref o0), (1, .int p1)] := hl
  unfold fX8_plainSize at hf
  refine lv_aload_n hx hb dX8_plainSize_0 rfl (lv_at hl 0 rfl) ?_
  refine lv_bipush (v := 10) hx hb dX8_plainSize_1 (by decide) ?_
  obtain ⟨sc1, h2, hf⟩ := q_b1o hf
  refine q_rwVv (As := [.int (10 : Int32)]) (rest := []) (ci := 8) (wr := []) (w2 := (wcM cI cZ o0 a0 sc1 t0)) ⟨hx, hb, hml, hown, hts⟩ (kX8_began l dC dI cI cB cZ o0 a0 s0 t0 (10 : Int32) H.size sc1 h2) (cwV 1 hts gX8_plainSize_X8_began rfl rfl rfl hdX8_began ⟨Nat.le_of_ble_eq_true rfl, Nat.le_of_ble_eq_true rfl⟩) hK hP hD hS hA [0, 1, 2, 3, 4, 5, 6, 7, 8, 9, 10] [] [0, 1, 2, 3, 4, 5, 6, 7, 8, 9, 10] rfl rfl (by decide) (by decide) (by decide) rfl (by decide) rfl rfl rfl hl.1 rfl (Nat.le_of_ble_eq_true rfl) dX8_plainSize_3 ⟨Nat.zero_le _, Nat.zero_le _⟩ (fun H locs hP hD hS => ?_)
  refine lv_aload_n hx hb dX8_plainSize_6 rfl (lv_at hl 0 rfl) ?_
  refine lv_iload_n hx hb dX8_plainSize_7 rfl (lv_at hl 1 rfl) ?_
  obtain ⟨r3, h4, hf⟩ := q_b1o hf
  refine q_roVi (As := [.int p1]) (rest := []) (ci := 8) ⟨hx, hb, hml, hown, hts⟩ (kX8_fruit l dC dI cI cB cZ o0 a0 sc1 t0 p1 r3 h4) (cwV 1 hts gX8_plainSize_X8_fruit rfl rfl rfl hdX8_fruit ⟨Nat.le_of_ble_eq_true rfl, Nat.le_of_ble_eq_true rfl⟩) hK hP rfl rfl rfl hl.1 rfl (Nat.le_of_ble_eq_true rfl) dX8_plainSize_8 ⟨Nat.zero_le _, Nat.zero_le _⟩ ?_
  obtain ⟨ee0, ee1⟩ := q_s2 hf
  subst ee1
  exact q_wretI hx hb hr hlk hAe hK hP hD hS ee0 dX8_plainSize_11
theorem hdX8_markOf : yX8_markOf.cls = RX8 ∧ yX8_markOf.cls ≠ "java/lang/invoke/MethodHandle" ∧ yX8_markOf.cls ≠ "java/lang/invoke/VarHandle" ∧ (parseMethodDescriptor yX8_markOf.desc).map (fun d => d.parameters.length) = some 1 := by decide +kernel
set_option maxHeartbeats 4000000 in
set_option maxRecDepth 100000 in
theorem kX8_markOf (o0 : Nat) (a0 : Nat → Nat) (s0 : St) (t0 : Lt) (p1 : Int32) (sz : Nat) (r : Int32) (z0 : St) (hf : fX8_markOf s0 p1 = some (r, z0)) : Met l yX8_markOf wsX8_markOf ({ frames := 1, cells := 0, slots := 0, locals := 22 } : Room) (pcW (dC, dI) (q_ty cI cB cZ) [.ref o0, .int p1] (wcM cI cZ o0 a0 s0 t0) sz) (qiW (dC, dI) (q_ty cI cB cZ) (wcM cI cZ o0 a0 s0 t0) (wcM cI cZ o0 a0 z0 t0) sz r) 0 0 (va_A (wcM cI cZ o0 a0 s0 t0) sz) := by
  refine q_rwM (cc := cX8_markOf) (maxL := 4) (ret := (some .int)) (by decide +kernel) rfl (Nat.le_of_ble_eq_true rfl) ?_
  intro p e s m below meth c hx hb hr hlk hml hown hts hK A H hAe hH hsz hP hD hA hS ls hl
  have hown : s.vm.findClass RX8 = some m.cls := hown
  have hl : lv_has ls 4 [(0, .ref o0), (1, .int p1)] := hl
  unfold fX8_markOf at hf
  refine lv_aload_n hx hb dX8_markOf_0 rfl (lv_at hl 0 rfl) ?_
  refine lv_iload_n hx hb dX8_markOf_1 rfl (lv_at hl 1 rfl) ?_
  obtain ⟨r1, h2, hf⟩ := q_b1o hf
  refine q_roVi (As := [.int p1]) (rest := []) (ci := 8) ⟨hx, hb, hml, hown, hts⟩ (kX8_kindOf l dC dI cI cB cZ o0 a0 s0 t0 p1 r1 h2) (cwV 1 hts gX8_markOf_X8_kindOf rfl rfl rfl hdX8_kindOf ⟨Nat.le_of_ble_eq_true rfl, Nat.le_of_ble_eq_true rfl⟩) hK hP rfl rfl rfl hl.1 rfl (Nat.le_of_ble_eq_true rfl) dX8_markOf_2 ⟨Nat.zero_le _, Nat.zero_le _⟩ ?_
  refine lv_istore_n (lv' := [(2, .int r1), (0, .ref o0), (1, .int p1)]) hx hb dX8_markOf_5 rfl hl (by decide) rfl (fun ls hl => ?_)
  refine lv_iload_n hx hb dX8_markOf_6 rfl (lv_at hl 0 rfl) ?_
  refine lv_iconst (v := 4) hx hb dX8_markOf_7 (by decide) ?_
  refine lv_icmp_lt (tgt := 34) hx hb dX8_markOf_8 (by decide) (fun c3 => ?_) (fun c3 => ?_)
  · have hf := q_t c3 hf
    refine lv_iload_n hx hb dX8_markOf_34 rfl (lv_at hl 0 rfl) ?_
    refine lv_iconst (v := 3) hx hb dX8_markOf_35 (by decide) ?_
    obtain ⟨osj4, hqj5, hf⟩ := q_b1o hf
    have kj5 : ∀ sj4 : St, sj4 = osj4 → ∀ (H : Heap) (locs : List Loc), va_P (dC, dI) vwCl (wcM cI cZ o0 a0 sj4 t0) H → va_D A (wcM cI cZ o0 a0 sj4 t0) → va_S A s.heap H locs → ∀ ls : Array Slot, lv_has ls 4 [(2, .int r1), (0, .ref o0), (1, .int p1)] → W p l e ({ frames := 1, cells := 0, slots := 0, locals := 22 } : Room) s m [.ref o0, .int p1].toArray below meth c H locs 0 0 (MQ below (qiW (dC, dI) (q_ty cI cB cZ) (wcM cI cZ o0 a0 s0 t0) (wcM cI cZ o0 a0 z0 t0) sz r) [.ref o0, .int p1].toArray s 0 0 (va_A (wcM cI cZ o0 a0 s0 t0) sz)) (F0 m 45 ls []) := by
      intro sj4 esj4 H locs hP hD hS ls hl
      subst esj4
      refine lv_iload_n hx hb dX8_markOf_45 rfl (lv_at hl 0 rfl) ?_
      refine lv_iconst (v := 1) hx hb dX8_markOf_46 (by decide) ?_
      obtain ⟨osj6, hqj7, hf⟩ := q_b1o hf
      have kj7 : ∀ sj6 : St, sj6 = osj6 → ∀ (H : Heap) (locs : List Loc), va_P (dC, dI) vwCl (wcM cI cZ o0 a0 sj6 t0) H → va_D A (wcM cI cZ o0 a0 sj6 t0) → va_S A s.heap H locs → ∀ ls : Array Slot, lv_has ls 4 [(2, .int r1), (0, .ref o0), (1, .int p1)] → W p l e ({ frames := 1, cells := 0, slots := 0, locals := 22 } : Room) s m [.ref o0, .int p1].toArray below meth c H locs 0 0 (MQ below (qiW (dC, dI) (q_ty cI cB cZ) (wcM cI cZ o0 a0 s0 t0) (wcM cI cZ o0 a0 z0 t0) sz r) [.ref o0, .int p1].toArray s 0 0 (va_A (wcM cI cZ o0 a0 s0 t0) sz)) (F0 m 56 ls []) := by
        intro sj6 esj6 H locs hP hD hS ls hl
        subst esj6
        refine lv_aload_n hx hb dX8_markOf_56 rfl (lv_at hl 1 rfl) ?_
        refine lv_bipush (v := 21) hx hb dX8_markOf_57 (by decide) ?_
        obtain ⟨sc8, h9, hf⟩ := q_b1o hf
        refine q_rwVv (As := [.int (21 : Int32)]) (rest := []) (ci := 8) (wr := []) (w2 := (wcM cI cZ o0 a0 sc8 t0)) ⟨hx, hb, hml, hown, hts⟩ (kX8_began l dC dI cI cB cZ o0 a0 sj6 t0 (21 : Int32) H.size sc8 h9) (cwV 1 hts gX8_markOf_X8_began rfl rfl rfl hdX8_began ⟨Nat.le_of_ble_eq_true rfl, Nat.le_of_ble_eq_true rfl⟩) hK hP hD hS hA [0, 1, 2, 3, 4, 5, 6, 7, 8, 9, 10] [] [0, 1, 2, 3, 4, 5, 6, 7, 8, 9, 10] rfl rfl (by decide) (by decide) (by decide) rfl (by decide) rfl rfl rfl hl.1 rfl (Nat.le_of_ble_eq_true rfl) dX8_markOf_59 ⟨Nat.zero_le _, Nat.zero_le _⟩ (fun H locs hP hD hS => ?_)
        refine lv_aload_n hx hb dX8_markOf_62 rfl (lv_at hl 1 rfl) ?_
        refine lv_bipush (v := 20) hx hb dX8_markOf_63 (by decide) ?_
        obtain ⟨sc10, h11, hf⟩ := q_b1o hf
        refine q_rwVv (As := [.int (20 : Int32)]) (rest := []) (ci := 8) (wr := []) (w2 := (wcM cI cZ o0 a0 sc10 t0)) ⟨hx, hb, hml, hown, hts⟩ (kX8_began l dC dI cI cB cZ o0 a0 sc8 t0 (20 : Int32) H.size sc10 h11) (cwV 1 hts gX8_markOf_X8_began rfl rfl rfl hdX8_began ⟨Nat.le_of_ble_eq_true rfl, Nat.le_of_ble_eq_true rfl⟩) hK hP hD hS hA [0, 1, 2, 3, 4, 5, 6, 7, 8, 9, 10] [] [0, 1, 2, 3, 4, 5, 6, 7, 8, 9, 10] rfl rfl (by decide) (by decide) (by decide) rfl (by decide) rfl rfl rfl hl.1 rfl (Nat.le_of_ble_eq_true rfl) dX8_markOf_65 ⟨Nat.zero_le _, Nat.zero_le _⟩ (fun H locs hP hD hS => ?_)
        refine lv_iload_n hx hb dX8_markOf_68 rfl (lv_at hl 2 rfl) ?_
        refine lv_aload_n hx hb dX8_markOf_69 rfl (lv_at hl 1 rfl) ?_
        refine lv_iload_n hx hb dX8_markOf_70 rfl (lv_at hl 2 rfl) ?_
        obtain ⟨r12, h13, hf⟩ := q_b1o hf
        refine q_roVi (As := [.int p1]) (rest := [.int p1]) (ci := 8) ⟨hx, hb, hml, hown, hts⟩ (kX8_placeOf l dC dI cI cB cZ o0 a0 sc10 t0 p1 r12 h13) (cwV 1 hts gX8_markOf_X8_placeOf rfl rfl rfl hdX8_placeOf ⟨Nat.le_of_ble_eq_true rfl, Nat.le_of_ble_eq_true rfl⟩) hK hP rfl rfl rfl hl.1 rfl (Nat.le_of_ble_eq_true rfl) dX8_markOf_71 ⟨Nat.zero_le _, Nat.zero_le _⟩ ?_
        refine lv_iadd hx hb dX8_markOf_74 ?_
        refine lv_iload_n hx hb dX8_markOf_75 rfl (lv_at hl 0 rfl) ?_
        refine lv_iconst (v := 1) hx hb dX8_markOf_76 (by decide) ?_
        obtain ⟨ov14, hqj15, hf⟩ := q_b1o hf
        have kj15 : ∀ v14 : Int32, v14 = ov14 → ∀ (H : Heap) (locs : List Loc), va_P (dC, dI) vwCl (wcM cI cZ o0 a0 sc10 t0) H → va_D A (wcM cI cZ o0 a0 sc10 t0) → va_S A s.heap H locs → ∀ ls : Array Slot, lv_has ls 4 [(2, .int r1)] → W p l e ({ frames := 1, cells := 0, slots := 0, locals := 22 } : Room) s m [.ref o0, .int p1].toArray below meth c H locs 0 0 (MQ below (qiW (dC, dI) (q_ty cI cB cZ) (wcM cI cZ o0 a0 s0 t0) (wcM cI cZ o0 a0 z0 t0) sz r) [.ref o0, .int p1].toArray s 0 0 (va_A (wcM cI cZ o0 a0 s0 t0) sz)) (F0 m 87 ls [.int v14, .int (p1 + r12)]) := by
          intro v14 ev14 H locs hP hD hS ls hl
          subst ev14
          refine lv_isub hx hb dX8_markOf_87 ?_
          obtain ⟨x16, ex16, hf⟩ := q_lto hf
          refine W.eq (g2 := F0 m 88 ls [.int x16]) (by rw [ex16]) ?_
          refine lv_istore_n (lv' := [(3, .int x16), (2, .int r1)]) hx hb dX8_markOf_88 rfl hl (by decide) rfl (fun ls hl => ?_)
          refine lv_iload_n hx hb dX8_markOf_89 rfl (lv_at hl 1 rfl) ?_
          refine lv_iconst (v := 3) hx hb dX8_markOf_90 (by decide) ?_
          refine lv_icmp_ne (tgt := 100) hx hb dX8_markOf_91 (by decide) (fun c17 => ?_) (fun c17 => ?_)
          · have hf := q_f c17 hf
            refine lv_iload_n hx hb dX8_markOf_100 rfl (lv_at hl 0 rfl) ?_
            obtain ⟨ee0, ee1⟩ := q_s2 hf
            subst ee1
            exact q_wretI hx hb hr hlk hAe hK hP hD hS ee0 dX8_markOf_101
          · have hf := q_t c17 hf
            refine lv_iconst (v := 2) hx hb dX8_markOf_94 (by decide) ?_
            refine lv_iload_n hx hb dX8_markOf_95 rfl (lv_at hl 0 rfl) ?_
            refine lv_imul hx hb dX8_markOf_96 ?_
            refine lv_goto (tgt := 101) hx hb dX8_markOf_97 (by decide) ?_
            obtain ⟨ee0, ee1⟩ := q_s2 hf
            subst ee1
            exact q_wretI hx hb hr hlk hAe hK hP hD hS ee0 dX8_markOf_101
        have hf := hqj15
        refine lv_icmp_ne (tgt := 84) hx hb dX8_markOf_77 (by decide) (fun c18 => ?_) (fun c18 => ?_)
        · have hf := q_f c18 hf
          refine lv_sipush (v := 1000) hx hb dX8_markOf_84 (by decide) ?_
          exact kj15 (1000 : Int32) (q_s1 hf) _ _ hP hD hS _ (lv_sub hl [0] rfl)
        · have hf := q_t c18 hf
          refine lv_iconst (v := 0) hx hb dX8_markOf_80 (by decide) ?_
          refine lv_goto (tgt := 87) hx hb dX8_markOf_81 (by decide) ?_
          exact kj15 (0 : Int32) (q_s1 hf) _ _ hP hD hS _ (lv_sub hl [0] rfl)
      have hf := hqj7
      refine lv_icmp_eq (tgt := 56) hx hb dX8_markOf_47 (by decide) (fun c19 => ?_) (fun c19 => ?_)
      · have hf := q_t c19 hf
        exact kj7 sj4 (q_s1 hf) _ _ hP hD hS _ hl
      · have hf := q_f c19 hf
        refine lv_aload_n hx hb dX8_markOf_50 rfl (lv_at hl 1 rfl) ?_
        refine lv_bipush (v := 22) hx hb dX8_markOf_51 (by decide) ?_
        obtain ⟨sc20, h21, hf⟩ := q_b1o hf
        refine q_rwVv (As := [.int (22 : Int32)]) (rest := []) (ci := 8) (wr := []) (w2 := (wcM cI cZ o0 a0 sc20 t0)) ⟨hx, hb, hml, hown, hts⟩ (kX8_began l dC dI cI cB cZ o0 a0 sj4 t0 (22 : Int32) H.size sc20 h21) (cwV 1 hts gX8_markOf_X8_began rfl rfl rfl hdX8_began ⟨Nat.le_of_ble_eq_true rfl, Nat.le_of_ble_eq_true rfl⟩) hK hP hD hS hA [0, 1, 2, 3, 4, 5, 6, 7, 8, 9, 10] [] [0, 1, 2, 3, 4, 5, 6, 7, 8, 9, 10] rfl rfl (by decide) (by decide) (by decide) rfl (by decide) rfl rfl rfl hl.1 rfl (Nat.le_of_ble_eq_true rfl) dX8_markOf_53 ⟨Nat.zero_le _, Nat.zero_le _⟩ (fun H locs hP hD hS => ?_)
        exact kj7 sc20 (q_s1 hf) _ _ hP hD hS _ hl
    have hf := hqj5
    refine lv_icmp_ne (tgt := 45) hx hb dX8_markOf_36 (by decide) (fun c22 => ?_) (fun c22 => ?_)
    · have hf := q_f c22 hf
      exact kj5 s0 (q_s1 hf) _ _ hP hD hS _ hl
    · have hf := q_t c22 hf
      refine lv_aload_n hx hb dX8_markOf_39 rfl (lv_at hl 1 rfl) ?_
      refine lv_bipush (v := 24) hx hb dX8_markOf_40 (by decide) ?_
      obtain ⟨sc23, h24, hf⟩ := q_b1o hf
      refine q_rwVv (As := [.int (24 : Int32)]) (rest := []) (ci := 8) (wr := []) (w2 := (wcM cI cZ o0 a0 sc23 t0)) ⟨hx, hb, hml, hown, hts⟩ (kX8_began l dC dI cI cB cZ o0 a0 s0 t0 (24 : Int32) H.size sc23 h24) (cwV 1 hts gX8_markOf_X8_began rfl rfl rfl hdX8_began ⟨Nat.le_of_ble_eq_true rfl, Nat.le_of_ble_eq_true rfl⟩) hK hP hD hS hA [0, 1, 2, 3, 4, 5, 6, 7, 8, 9, 10] [] [0, 1, 2, 3, 4, 5, 6, 7, 8, 9, 10] rfl rfl (by decide) (by decide) (by decide) rfl (by decide) rfl rfl rfl hl.1 rfl (Nat.le_of_ble_eq_true rfl) dX8_markOf_42 ⟨Nat.zero_le _, Nat.zero_le _⟩ (fun H locs hP hD hS => ?_)
      exact kj5 sc23 (q_s1 hf) _ _ hP hD hS _ hl
  · have hf := q_f c3 hf
    refine lv_aload_n hx hb dX8_markOf_11 rfl (lv_at hl 1 rfl) ?_
    refine lv_bipush (v := 23) hx hb dX8_markOf_12 (by decide) ?_
    obtain ⟨sc25, h26, hf⟩ := q_b1o hf
    refine q_rwVv (As := [.int (23 : Int32)]) (rest := []) (ci := 8) (wr := []) (w2 := (wcM cI cZ o0 a0 sc25 t0)) ⟨hx, hb, hml, hown, hts⟩ (kX8_began l dC dI cI cB cZ o0 a0 s0 t0 (23 : Int32) H.size sc25 h26) (cwV 1 hts gX8_markOf_X8_began rfl rfl rfl hdX8_began ⟨Nat.le_of_ble_eq_true rfl, Nat.le_of_ble_eq_true rfl⟩) hK hP hD hS hA [0, 1, 2, 3, 4, 5, 6, 7, 8, 9, 10] [] [0, 1, 2, 3, 4, 5, 6, 7, 8, 9, 10] rfl rfl (by decide) (by decide) (by decide) rfl (by decide) rfl rfl rfl hl.1 rfl (Nat.le_of_ble_eq_true rfl) dX8_markOf_14 ⟨Nat.zero_le _, Nat.zero_le _⟩ (fun H locs hP hD hS => ?_)
    refine lv_aload_n hx hb dX8_markOf_17 rfl (lv_at hl 1 rfl) ?_
    refine lv_bipush (v := 20) hx hb dX8_markOf_18 (by decide) ?_
    obtain ⟨sc27, h28, hf⟩ := q_b1o hf
    refine q_rwVv (As := [.int (20 : Int32)]) (rest := []) (ci := 8) (wr := []) (w2 := (wcM cI cZ o0 a0 sc27 t0)) ⟨hx, hb, hml, hown, hts⟩ (kX8_began l dC dI cI cB cZ o0 a0 sc25 t0 (20 : Int32) H.size sc27 h28) (cwV 1 hts gX8_markOf_X8_began rfl rfl rfl hdX8_began ⟨Nat.le_of_ble_eq_true rfl, Nat.le_of_ble_eq_true rfl⟩) hK hP hD hS hA [0, 1, 2, 3, 4, 5, 6, 7, 8, 9, 10] [] [0, 1, 2, 3, 4, 5, 6, 7, 8, 9, 10] rfl rfl (by decide) (by decide) (by decide) rfl (by decide) rfl rfl rfl hl.1 rfl (Nat.le_of_ble_eq_true rfl) dX8_markOf_20 ⟨Nat.zero_le _, Nat.zero_le _⟩ (fun H locs hP hD hS => ?_)
    refine lv_iload_n hx hb dX8_markOf_23 rfl (lv_at hl 2 rfl) ?_
    refine lv_bipush (v := 10) hx hb dX8_markOf_24 (by decide) ?_
    refine lv_aload_n hx hb dX8_markOf_26 rfl (lv_at hl 1 rfl) ?_
    refine lv_iload_n hx hb dX8_markOf_27 rfl (lv_at hl 2 rfl) ?_
    obtain ⟨r29, h30, hf⟩ := q_b1o hf
    refine q_roVi (As := [.int p1]) (rest := [.int (10 : Int32), .int p1]) (ci := 8) ⟨hx, hb, hml, hown, hts⟩ (kX8_loose l dC dI cI cB cZ o0 a0 sc27 t0 p1 r29 h30) (cwV 1 hts gX8_markOf_X8_loose rfl rfl rfl hdX8_loose ⟨Nat.le_of_ble_eq_true rfl, Nat.le_of_ble_eq_true rfl⟩) hK hP rfl rfl rfl hl.1 rfl (Nat.le_of_ble_eq_true rfl) dX8_markOf_28 ⟨Nat.zero_le _, Nat.zero_le _⟩ ?_
    refine lv_imul hx hb dX8_markOf_31 ?_
    refine lv_iadd hx hb dX8_markOf_32 ?_
    obtain ⟨ee0, ee1⟩ := q_s2 hf
    subst ee1
    exact q_wretI hx hb hr hlk hAe hK hP hD hS ee0 dX8_markOf_33
theorem hdX8_sizeOf : yX8_sizeOf.cls = RX8 ∧ yX8_sizeOf.cls ≠ "java/lang/invoke/MethodHandle" ∧ yX8_sizeOf.cls ≠ "java/lang/invoke/VarHandle" ∧ (parseMethodDescriptor yX8_sizeOf.desc).map (fun d => d.parameters.length) = some 1 := by decide +kernel
set_option maxHeartbeats 4000000 in
set_option maxRecDepth 100000 in
theorem kX8_sizeOf (o0 : Nat) (a0 : Nat → Nat) (s0 : St) (t0 : Lt) (p1 : Int32) (sz : Nat) (r : Int32) (z0 : St) (hf : fX8_sizeOf s0 p1 = some (r, z0)) : Met l yX8_sizeOf wsX8_sizeOf ({ frames := 2, cells := 0, slots := 0, locals := 45 } : Room) (pcW (dC, dI) (q_ty cI cB cZ) [.ref o0, .int p1] (wcM cI cZ o0 a0 s0 t0) sz) (qiW (dC, dI) (q_ty cI cB cZ) (wcM cI cZ o0 a0 s0 t0) (wcM cI cZ o0 a0 z0 t0) sz r) 0 0 (va_A (wcM cI cZ o0 a0 s0 t0) sz) := by
  refine q_rwM (cc := cX8_sizeOf) (maxL := 5) (ret := (some .int)) (by decide +kernel) rfl (Nat.le_of_ble_eq_true rfl) ?_
  intro p e s m below meth c hx hb hr hlk hml hown hts hK A H hAe hH hsz hP hD hA hS ls hl
  have hown : s.vm.findClass RX8 = some m.cls := hown
  have hl : lv_has ls 5 [(0, .ref o0), (1, .int p1)] := hl
  unfold fX8_sizeOf at hf
  refine lv_aload_n hx hb dX8_sizeOf_0 rfl (lv_at hl 0 rfl) ?_
  refine lv_iload_n hx hb dX8_sizeOf_1 rfl (lv_at hl 1 rfl) ?_
  obtain ⟨r1, h2, hf⟩ := q_b1o hf
  refine q_roVi (As := [.int p1]) (rest := []) (ci := 8) ⟨hx, hb, hml, hown, hts⟩ (kX8_kindOf l dC dI cI cB cZ o0 a0 s0 t0 p1 r1 h2) (cwV 1 hts gX8_sizeOf_X8_kindOf rfl rfl rfl hdX8_kindOf ⟨Nat.le_of_ble_eq_true rfl, Nat.le_of_ble_eq_true rfl⟩) hK hP rfl rfl rfl hl.1 rfl (Nat.le_of_ble_eq_true rfl) dX8_sizeOf_2 ⟨Nat.zero_le _, Nat.zero_le _⟩ ?_
  refine lv_istore_n (lv' := [(2, .int r1), (0, .ref o0), (1, .int p1)]) hx hb dX8_sizeOf_5 rfl hl (by decide) rfl (fun ls hl => ?_)
  refine lv_iload_n hx hb dX8_sizeOf_6 rfl (lv_at hl 0 rfl) ?_
  refine lv_iconst (v := 3) hx hb dX8_sizeOf_7 (by decide) ?_
  obtain ⟨osj3, hqj4, hf⟩ := q_b1o hf
  have kj4 : ∀ sj3 : St, sj3 = osj3 → ∀ (H : Heap) (locs : List Loc), va_P (dC, dI) vwCl (wcM cI cZ o0 a0 sj3 t0) H → va_D A (wcM cI cZ o0 a0 sj3 t0) → va_S A s.heap H locs → ∀ ls : Array Slot, lv_has ls 5 [(2, .int r1), (0, .ref o0), (1, .int p1)] → W p l e ({ frames := 2, cells := 0, slots := 0, locals := 45 } : Room) s m [.ref o0, .int p1].toArray below meth c H locs 0 0 (MQ below (qiW (dC, dI) (q_ty cI cB cZ) (wcM cI cZ o0 a0 s0 t0) (wcM cI cZ o0 a0 z0 t0) sz r) [.ref o0, .int p1].toArray s 0 0 (va_A (wcM cI cZ o0 a0 s0 t0) sz)) (F0 m 32 ls []) := by
    intro sj3 esj3 H locs hP hD hS ls hl
    subst esj3
    refine lv_aload_n hx hb dX8_sizeOf_32 rfl (lv_at hl 1 rfl) ?_
    refine lv_iload_n hx hb dX8_sizeOf_33 rfl (lv_at hl 0 rfl) ?_
    refine lv_iconst (v := 4) hx hb dX8_sizeOf_34 (by decide) ?_
    obtain ⟨ov5, hqj6, hf⟩ := q_b1o hf
    have kj6 : ∀ v5 : Int32, v5 = ov5 → ∀ (H : Heap) (locs : List Loc), va_P (dC, dI) vwCl (wcM cI cZ o0 a0 sj3 t0) H → va_D A (wcM cI cZ o0 a0 sj3 t0) → va_S A s.heap H locs → ∀ ls : Array Slot, lv_has ls 5 [(2, .int r1), (0, .ref o0), (1, .int p1)] → W p l e ({ frames := 2, cells := 0, slots := 0, locals := 45 } : Room) s m [.ref o0, .int p1].toArray below meth c H locs 0 0 (MQ below (qiW (dC, dI) (q_ty cI cB cZ) (wcM cI cZ o0 a0 s0 t0) (wcM cI cZ o0 a0 z0 t0) sz r) [.ref o0, .int p1].toArray s 0 0 (va_A (wcM cI cZ o0 a0 s0 t0) sz)) (F0 m 45 ls [.int v5, .ref o0]) := by
      intro v5 ev5 H locs hP hD hS ls hl
      subst ev5
      obtain ⟨sc7, h8, hf⟩ := q_b1o hf
      refine q_rwVv (As := [.int v5]) (rest := []) (ci := 8) (wr := []) (w2 := (wcM cI cZ o0 a0 sc7 t0)) ⟨hx, hb, hml, hown, hts⟩ (kX8_began l dC dI cI cB cZ o0 a0 sj3 t0 v5 H.size sc7 h8) (cwV 1 hts gX8_sizeOf_X8_began rfl rfl rfl hdX8_began ⟨Nat.le_of_ble_eq_true rfl, Nat.le_of_ble_eq_true rfl⟩) hK hP hD hS hA [0, 1, 2, 3, 4, 5, 6, 7, 8, 9, 10] [] [0, 1, 2, 3, 4, 5, 6, 7, 8, 9, 10] rfl rfl (by decide) (by decide) (by decide) rfl (by decide) rfl rfl rfl hl.1 rfl (Nat.le_of_ble_eq_true rfl) dX8_sizeOf_45 ⟨Nat.zero_le _, Nat.zero_le _⟩ (fun H locs hP hD hS => ?_)
      refine lv_aload_n hx hb dX8_sizeOf_48 rfl (lv_at hl 1 rfl) ?_
      refine lv_iload_n hx hb dX8_sizeOf_49 rfl (lv_at hl 2 rfl) ?_
      obtain ⟨r9, sc10, h11, hf⟩ := q_b2o hf
      refine q_rwVi (As := [.int p1]) (rest := []) (ci := 8) (wr := []) (w2 := (wcM cI cZ o0 a0 sc10 t0)) ⟨hx, hb, hml, hown, hts⟩ (kX8_plainSize l dC dI cI cB cZ o0 a0 sc7 t0 p1 H.size r9 sc10 h11) (cwV 1 hts gX8_sizeOf_X8_plainSize rfl rfl rfl hdX8_plainSize ⟨Nat.le_of_ble_eq_true rfl, Nat.le_of_ble_eq_true rfl⟩) hK hP hD hS hA [0, 1, 2, 3, 4, 5, 6, 7, 8, 9, 10] [] [0, 1, 2, 3, 4, 5, 6, 7, 8, 9, 10] rfl rfl (by decide) (by decide) (by decide) rfl (by decide) rfl rfl rfl hl.1 rfl (Nat.le_of_ble_eq_true rfl) dX8_sizeOf_50 ⟨Nat.zero_le _, Nat.zero_le _⟩ (fun H locs hP hD hS => ?_)
      refine lv_istore_n (lv' := [(3, .int r9), (2, .int r1), (0, .ref o0), (1, .int p1)]) hx hb dX8_sizeOf_53 rfl hl (by decide) rfl (fun ls hl => ?_)
      refine lv_aload_n hx hb dX8_sizeOf_54 rfl (lv_at hl 2 rfl) ?_
      refine lv_iload_n hx hb dX8_sizeOf_55 rfl (lv_at hl 3 rfl) ?_
      obtain ⟨r12, sc13, h14, hf⟩ := q_b2o hf
      refine q_rwVi (As := [.int p1]) (rest := []) (ci := 8) (wr := []) (w2 := (wcM cI cZ o0 a0 sc13 t0)) ⟨hx, hb, hml, hown, hts⟩ (kX8_markOf l dC dI cI cB cZ o0 a0 sc10 t0 p1 H.size r12 sc13 h14) (cwV 1 hts gX8_sizeOf_X8_markOf rfl rfl rfl hdX8_markOf ⟨Nat.le_of_ble_eq_true rfl, Nat.le_of_ble_eq_true rfl⟩) hK hP hD hS hA [0, 1, 2, 3, 4, 5, 6, 7, 8, 9, 10] [] [0, 1, 2, 3, 4, 5, 6, 7, 8, 9, 10] rfl rfl (by decide) (by decide) (by decide) rfl (by decide) rfl rfl rfl hl.1 rfl (Nat.le_of_ble_eq_true rfl) dX8_sizeOf_56 ⟨Nat.zero_le _, Nat.zero_le _⟩ (fun H locs hP hD hS => ?_)
      refine lv_istore (lv' := [(4, .int r12), (3, .int r9), (2, .int r1), (0, .ref o0), (1, .int p1)]) hx hb dX8_sizeOf_59 hl (by decide) rfl (fun ls hl => ?_)
      refine lv_iload_n hx hb dX8_sizeOf_61 rfl (lv_at hl 2 rfl) ?_
      refine lv_iconst (v := 3) hx hb dX8_sizeOf_62 (by decide) ?_
      refine lv_icmp_ne (tgt := 74) hx hb dX8_sizeOf_63 (by decide) (fun c15 => ?_) (fun c15 => ?_)
      · have hf := q_f c15 hf
        refine lv_iload_n hx hb dX8_sizeOf_74 rfl (lv_at hl 2 rfl) ?_
        refine lv_iconst (v := 4) hx hb dX8_sizeOf_75 (by decide) ?_
        refine lv_icmp_ge (tgt := 86) hx hb dX8_sizeOf_76 (by decide) (fun c16 => ?_) (fun c16 => ?_)
        · have hf := q_t c16 hf
          refine lv_iload_n hx hb dX8_sizeOf_86 rfl (lv_at hl 2 rfl) ?_
          refine lv_iconst (v := 4) hx hb dX8_sizeOf_87 (by decide) ?_
          refine lv_icmp_ne (tgt := 98) hx hb dX8_sizeOf_88 (by decide) (fun c17 => ?_) (fun c17 => ?_)
          · have hf := q_f c17 hf
            refine lv_iconst (v := 2) hx hb dX8_sizeOf_98 (by decide) ?_
            refine lv_iload_n hx hb dX8_sizeOf_99 rfl (lv_at hl 1 rfl) ?_
            refine lv_iload hx hb dX8_sizeOf_100 (lv_at hl 0 rfl) ?_
            refine lv_isub hx hb dX8_sizeOf_102 ?_
            refine lv_imul hx hb dX8_sizeOf_103 ?_
            obtain ⟨ee0, ee1⟩ := q_s2 hf
            subst ee1
            exact q_wretI hx hb hr hlk hAe hK hP hD hS ee0 dX8_sizeOf_104
          · have hf := q_t c17 hf
            refine lv_iload_n hx hb dX8_sizeOf_91 rfl (lv_at hl 1 rfl) ?_
            refine lv_iload hx hb dX8_sizeOf_92 (lv_at hl 0 rfl) ?_
            refine lv_isub hx hb dX8_sizeOf_94 ?_
            refine lv_goto (tgt := 104) hx hb dX8_sizeOf_95 (by decide) ?_
            obtain ⟨ee0, ee1⟩ := q_s2 hf
            subst ee1
            exact q_wretI hx hb hr hlk hAe hK hP hD hS ee0 dX8_sizeOf_104
        · have hf := q_f c16 hf
          refine lv_iload_n hx hb dX8_sizeOf_79 rfl (lv_at hl 1 rfl) ?_
          refine lv_iload hx hb dX8_sizeOf_80 (lv_at hl 0 rfl) ?_
          refine lv_iadd hx hb dX8_sizeOf_82 ?_
          refine lv_goto (tgt := 104) hx hb dX8_sizeOf_83 (by decide) ?_
          obtain ⟨ee0, ee1⟩ := q_s2 hf
          subst ee1
          exact q_wretI hx hb hr hlk hAe hK hP hD hS ee0 dX8_sizeOf_104
      · have hf := q_t c15 hf
        refine lv_iload_n hx hb dX8_sizeOf_66 rfl (lv_at hl 1 rfl) ?_
        refine lv_ineg hx hb dX8_sizeOf_67 ?_
        refine lv_iload hx hb dX8_sizeOf_68 (lv_at hl 0 rfl) ?_
        refine lv_isub hx hb dX8_sizeOf_70 ?_
        refine lv_goto (tgt := 104) hx hb dX8_sizeOf_71 (by decide) ?_
        obtain ⟨ee0, ee1⟩ := q_s2 hf
        subst ee1
        exact q_wretI hx hb hr hlk hAe hK hP hD hS ee0 dX8_sizeOf_104
    have hf := hqj6
    refine lv_icmp_ge (tgt := 43) hx hb dX8_sizeOf_35 (by decide) (fun c18 => ?_) (fun c18 => ?_)
    · have hf := q_t c18 hf
      refine lv_bipush (v := 13) hx hb dX8_sizeOf_43 (by decide) ?_
      exact kj6 (13 : Int32) (q_s1 hf) _ _ hP hD hS _ hl
    · have hf := q_f c18 hf
      refine lv_bipush (v := 11) hx hb dX8_sizeOf_38 (by decide) ?_
      refine lv_goto (tgt := 45) hx hb dX8_sizeOf_40 (by decide) ?_
      exact kj6 (11 : Int32) (q_s1 hf) _ _ hP hD hS _ hl
  have hf := hqj4
  refine lv_icmp_eq (tgt := 16) hx hb dX8_sizeOf_8 (by decide) (fun c19 => ?_) (fun c19 => ?_)
  · have hf := q_t c19 hf
    refine lv_aload_n hx hb dX8_sizeOf_16 rfl (lv_at hl 1 rfl) ?_
    refine lv_iload_n hx hb dX8_sizeOf_17 rfl (lv_at hl 0 rfl) ?_
    refine lv_iconst (v := 3) hx hb dX8_sizeOf_18 (by decide) ?_
    obtain ⟨ov20, hqj21, hf⟩ := q_b1o hf
    have kj21 : ∀ v20 : Int32, v20 = ov20 → ∀ (H : Heap) (locs : List Loc), va_P (dC, dI) vwCl (wcM cI cZ o0 a0 s0 t0) H → va_D A (wcM cI cZ o0 a0 s0 t0) → va_S A s.heap H locs → ∀ ls : Array Slot, lv_has ls 5 [(2, .int r1), (0, .ref o0), (1, .int p1)] → W p l e ({ frames := 2, cells := 0, slots := 0, locals := 45 } : Room) s m [.ref o0, .int p1].toArray below meth c H locs 0 0 (MQ below (qiW (dC, dI) (q_ty cI cB cZ) (wcM cI cZ o0 a0 s0 t0) (wcM cI cZ o0 a0 z0 t0) sz r) [.ref o0, .int p1].toArray s 0 0 (va_A (wcM cI cZ o0 a0 s0 t0) sz)) (F0 m 29 ls [.int v20, .ref o0]) := by
      intro v20 ev20 H locs hP hD hS ls hl
      subst ev20
      obtain ⟨sc22, h23, hf⟩ := q_b1o hf
      refine q_rwVv (As := [.int v20]) (rest := []) (ci := 8) (wr := []) (w2 := (wcM cI cZ o0 a0 sc22 t0)) ⟨hx, hb, hml, hown, hts⟩ (kX8_began l dC dI cI cB cZ o0 a0 s0 t0 v20 H.size sc22 h23) (cwV 1 hts gX8_sizeOf_X8_began rfl rfl rfl hdX8_began ⟨Nat.le_of_ble_eq_true rfl, Nat.le_of_ble_eq_true rfl⟩) hK hP hD hS hA [0, 1, 2, 3, 4, 5, 6, 7, 8, 9, 10] [] [0, 1, 2, 3, 4, 5, 6, 7, 8, 9, 10] rfl rfl (by decide) (by decide) (by decide) rfl (by decide) rfl rfl rfl hl.1 rfl (Nat.le_of_ble_eq_true rfl) dX8_sizeOf_29 ⟨Nat.zero_le _, Nat.zero_le _⟩ (fun H locs hP hD hS => ?_)
      exact kj4 sc22 (q_s1 hf) _ _ hP hD hS _ hl
    have hf := hqj21
    refine lv_icmp_ne (tgt := 27) hx hb dX8_sizeOf_19 (by decide) (fun c24 => ?_) (fun c24 => ?_)
    · have hf := q_f c24 hf
      refine lv_bipush (v := 14) hx hb dX8_sizeOf_27 (by decide) ?_
      exact kj21 (14 : Int32) (q_s1 hf) _ _ hP hD hS _ hl
    · have hf := q_t c24 hf
      refine lv_bipush (v := 12) hx hb dX8_sizeOf_22 (by decide) ?_
      refine lv_goto (tgt := 29) hx hb dX8_sizeOf_24 (by decide) ?_
      exact kj21 (12 : Int32) (q_s1 hf) _ _ hP hD hS _ hl
  · have hf := q_f c19 hf
    refine lv_iload_n hx hb dX8_sizeOf_11 rfl (lv_at hl 0 rfl) ?_
    refine lv_iconst (v := 5) hx hb dX8_sizeOf_12 (by decide) ?_
    refine lv_icmp_ne (tgt := 32) hx hb dX8_sizeOf_13 (by decide) (fun c25 => ?_) (fun c25 => ?_)
    · have hf := q_f c25 hf
      exact kj4 s0 (q_s1 hf) _ _ hP hD hS _ hl
    · have hf := q_t c25 hf
      refine lv_aload_n hx hb dX8_sizeOf_16 rfl (lv_at hl 1 rfl) ?_
      refine lv_iload_n hx hb dX8_sizeOf_17 rfl (lv_at hl 0 rfl) ?_
      refine lv_iconst (v := 3) hx hb dX8_sizeOf_18 (by decide) ?_
      obtain ⟨ov26, hqj27, hf⟩ := q_b1o hf
      have kj27 : ∀ v26 : Int32, v26 = ov26 → ∀ (H : Heap) (locs : List Loc), va_P (dC, dI) vwCl (wcM cI cZ o0 a0 s0 t0) H → va_D A (wcM cI cZ o0 a0 s0 t0) → va_S A s.heap H locs → ∀ ls : Array Slot, lv_has ls 5 [(2, .int r1), (0, .ref o0), (1, .int p1)] → W p l e ({ frames := 2, cells := 0, slots := 0, locals := 45 } : Room) s m [.ref o0, .int p1].toArray below meth c H locs 0 0 (MQ below (qiW (dC, dI) (q_ty cI cB cZ) (wcM cI cZ o0 a0 s0 t0) (wcM cI cZ o0 a0 z0 t0) sz r) [.ref o0, .int p1].toArray s 0 0 (va_A (wcM cI cZ o0 a0 s0 t0) sz)) (F0 m 29 ls [.int v26, .ref o0]) := by
        intro v26 ev26 H locs hP hD hS ls hl
        subst ev26
        obtain ⟨sc28, h29, hf⟩ := q_b1o hf
        refine q_rwVv (As := [.int v26]) (rest := []) (ci := 8) (wr := []) (w2 := (wcM cI cZ o0 a0 sc28 t0)) ⟨hx, hb, hml, hown, hts⟩ (kX8_began l dC dI cI cB cZ o0 a0 s0 t0 v26 H.size sc28 h29) (cwV 1 hts gX8_sizeOf_X8_began rfl rfl rfl hdX8_began ⟨Nat.le_of_ble_eq_true rfl, Nat.le_of_ble_eq_true rfl⟩) hK hP hD hS hA [0, 1, 2, 3, 4, 5, 6, 7, 8, 9, 10] [] [0, 1, 2, 3, 4, 5, 6, 7, 8, 9, 10] rfl rfl (by decide) (by decide) (by decide) rfl (by decide) rfl rfl rfl hl.1 rfl (Nat.le_of_ble_eq_true rfl) dX8_sizeOf_29 ⟨Nat.zero_le _, Nat.zero_le _⟩ (fun H locs hP hD hS => ?_)
        exact kj4 sc28 (q_s1 hf) _ _ hP hD hS _ hl
      have hf := hqj27
      refine lv_icmp_ne (tgt := 27) hx hb dX8_sizeOf_19 (by decide) (fun c30 => ?_) (fun c30 => ?_)
      · have hf := q_f c30 hf
        refine lv_bipush (v := 14) hx hb dX8_sizeOf_27 (by decide) ?_
        exact kj27 (14 : Int32) (q_s1 hf) _ _ hP hD hS _ hl
      · have hf := q_t c30 hf
        refine lv_bipush (v := 12) hx hb dX8_sizeOf_22 (by decide) ?_
        refine lv_goto (tgt := 29) hx hb dX8_sizeOf_24 (by decide) ?_
        exact kj27 (12 : Int32) (q_s1 hf) _ _ hP hD hS _ hl
theorem hdX8_shape : yX8_shape.cls = RX8 ∧ yX8_shape.cls ≠ "java/lang/invoke/MethodHandle" ∧ yX8_shape.cls ≠ "java/lang/invoke/VarHandle" ∧ (parseMethodDescriptor yX8_shape.desc).map (fun d => d.parameters.length) = some 2 := by decide +kernel
theorem qX8_shape_1 : (Cond.fieldLink RX8 41 "DeadAskedModel" "thrown" "I") ∈ wsX8_shape := List.mem_of_getElem? (i := 1) (by decide +kernel)
theorem qX8_shape_2 : (Cond.constantLong RX8 62 (-9000000000000000001)) ∈ wsX8_shape := List.mem_of_getElem? (i := 2) (by decide +kernel)
theorem qX8_shape_3 : (Cond.fieldLink RX8 301 "DeadAskedModel" "traced" "I") ∈ wsX8_shape := List.mem_of_getElem? (i := 3) (by decide +kernel)
theorem nX8_shape_8 : ∀ w ∈ u_ws RX8 TX8 27, w ∈ wsX8_shape := fun _ h => (List.mem_cons_of_mem _ (List.mem_append_right _ h))
set_option maxHeartbeats 4000000 in
set_option maxRecDepth 100000 in
theorem kX8_shape (o0 : Nat) (a0 : Nat → Nat) (s0 : St) (t0 : Lt) (p1 : Int32) (p2 : Int32) (sz : Nat) (r : Int64) (z0 : St) (hf : fX8_shape s0 p1 p2 = some (r, z0)) : Met l yX8_shape wsX8_shape ({ frames := 3, cells := 0, slots := 0, locals := 69 } : Room) (pcW (dC, dI) (q_ty cI cB cZ) [.ref o0, .int p1, .int p2] (wcM cI cZ o0 a0 s0 t0) sz) (qlW (dC, dI) (q_ty cI cB cZ) (wcM cI cZ o0 a0 s0 t0) (wcM cI cZ o0 a0 z0 t0) sz r) 0 0 (va_A (wcM cI cZ o0 a0 s0 t0) sz) := by
  refine q_rwM (cc := cX8_shape) (maxL := 3) (ret := (some .long)) (by decide +kernel) rfl (Nat.le_of_ble_eq_true rfl) ?_
  intro p e s m below meth c hx hb hr hlk hml hown hts hK A H hAe hH hsz hP hD hA hS ls hl
  have hown : s.vm.findClass RX8 = some m.cls := hown
  have hl : lv_has ls 3 [(0, .ref o0), (1, .int p1), (2, .int p2)] := hl
  unfold fX8_shape at hf
  refine lv_aload_n hx hb dX8_shape_0 rfl (lv_at hl 0 rfl) ?_
  refine lv_iconst (v := 0) hx hb dX8_shape_1 (by decide) ?_
  obtain ⟨sn1, esn1, hf⟩ := q_lto hf
  refine va_put (D := (dC, dI)) (ci := 8) (v := .int (0 : Int32)) (ty := .int) (C := RX8) (T := TX8) (N := 27) hx hb hts nX8_shape_8 tyX8 tyX8_ok nmX8 hown hK hP hD hS 0 rfl rfl 0 (by decide) (hts _ qX8_shape_1) (fun _ h9 => h9) rfl (by decide +kernel) rfl rfl (Nat.le_of_ble_eq_true rfl) dX8_shape_2 (fun H locs hP hD hS => ?_)
  have hP : va_P (dC, dI) vwCl (wcM cI cZ o0 a0 sn1 t0) H := by rw [esn1]; exact hP
  have hD : va_D A (wcM cI cZ o0 a0 sn1 t0) := by rw [esn1]; exact hD
  refine lv_aload_n hx hb dX8_shape_5 rfl (lv_at hl 0 rfl) ?_
  refine lv_iload_n hx hb dX8_shape_6 rfl (lv_at hl 1 rfl) ?_
  obtain ⟨r2, h3, hf⟩ := q_b1o hf
  refine q_roVi (As := [.int p1]) (rest := []) (ci := 8) ⟨hx, hb, hml, hown, hts⟩ (kX8_isTree l dC dI cI cB cZ o0 a0 sn1 t0 p1 r2 h3) (cwV 1 hts gX8_shape_X8_isTree rfl rfl rfl hdX8_isTree ⟨Nat.le_of_ble_eq_true rfl, Nat.le_of_ble_eq_true rfl⟩) hK hP rfl rfl rfl hl.1 rfl (Nat.le_of_ble_eq_true rfl) dX8_shape_7 ⟨Nat.zero_le _, Nat.zero_le _⟩ ?_
  refine lv_if_eq (tgt := 23) hx hb dX8_shape_10 (by decide) (fun c4 => ?_) (fun c4 => ?_)
  · have hf := q_t c4 hf
    refine lv_ldc2 (v := -9000000000000000001) hx hb hown (hts _ qX8_shape_2) dX8_shape_23 ?_
    obtain ⟨ee0, ee1⟩ := q_s2 hf
    subst ee1
    exact q_wretL hx hb hr hlk hAe hK hP hD hS ee0 dX8_shape_26
  · have hf := q_f c4 hf
    refine lv_iload_n hx hb dX8_shape_13 rfl (lv_at hl 2 rfl) ?_
    refine lv_i2l (v := p2.toInt64) hx hb dX8_shape_14 rfl ?_
    refine lv_lconst (v := 0) hx hb dX8_shape_15 (by decide) ?_
    refine lv_lconst (v := 1) hx hb dX8_shape_16 (by decide) ?_
    obtain ⟨r5, h6, hf⟩ := q_b1o hf
    refine q_roSi (As := [.long p2.toInt64, .long (0 : Int64), .long (1 : Int64)]) (rest := []) ⟨hx, hb, hml, hown, hts⟩ (kX8_in l p2.toInt64 (0 : Int64) (1 : Int64) r5 h6) (va_cwS 3 hts gX8_shape_X8_in rfl rfl rfl hdX8_in ⟨Nat.le_of_ble_eq_true rfl, Nat.le_of_ble_eq_true rfl⟩) rfl hl.1 rfl (Nat.le_of_ble_eq_true rfl) dX8_shape_17 ⟨Nat.zero_le _, Nat.zero_le _⟩ ?_
    refine lv_if_ne (tgt := 27) hx hb dX8_shape_20 (by decide) (fun c7 => ?_) (fun c7 => ?_)
    · have hf := q_f c7 hf
      refine lv_aload_n hx hb dX8_shape_27 rfl (lv_at hl 0 rfl) ?_
      refine lv_iconst (v := 0) hx hb dX8_shape_28 (by decide) ?_
      obtain ⟨sn8, esn8, hf⟩ := q_lto hf
      refine va_put (D := (dC, dI)) (ci := 8) (v := .int (0 : Int32)) (ty := .int) (C := RX8) (T := TX8) (N := 27) hx hb hts nX8_shape_8 tyX8 tyX8_ok nmX8 hown hK hP hD hS 0 rfl rfl 26 (by decide) (hts _ qX8_shape_3) (fun _ h9 => h9) rfl (by decide +kernel) rfl rfl (Nat.le_of_ble_eq_true rfl) dX8_shape_29 (fun H locs hP hD hS => ?_)
      have hP : va_P (dC, dI) vwCl (wcM cI cZ o0 a0 sn8 t0) H := by rw [esn8]; exact hP
      have hD : va_D A (wcM cI cZ o0 a0 sn8 t0) := by rw [esn8]; exact hD
      refine lv_iload_n hx hb dX8_shape_32 rfl (lv_at hl 2 rfl) ?_
      refine lv_if_ne (tgt := 45) hx hb dX8_shape_33 (by decide) (fun c9 => ?_) (fun c9 => ?_)
      · have hf := q_f c9 hf
        refine lv_aload_n hx hb dX8_shape_45 rfl (lv_at hl 0 rfl) ?_
        refine lv_iload_n hx hb dX8_shape_46 rfl (lv_at hl 1 rfl) ?_
        obtain ⟨r10, sc11, h12, hf⟩ := q_b2o hf
        refine q_rwVi (As := [.int p1]) (rest := []) (ci := 8) (wr := []) (w2 := (wcM cI cZ o0 a0 sc11 t0)) ⟨hx, hb, hml, hown, hts⟩ (kX8_markOf l dC dI cI cB cZ o0 a0 sn8 t0 p1 H.size r10 sc11 h12) (cwV 1 hts gX8_shape_X8_markOf rfl rfl rfl hdX8_markOf ⟨Nat.le_of_ble_eq_true rfl, Nat.le_of_ble_eq_true rfl⟩) hK hP hD hS hA [0, 1, 2, 3, 4, 5, 6, 7, 8, 9, 10] [] [0, 1, 2, 3, 4, 5, 6, 7, 8, 9, 10] rfl rfl (by decide) (by decide) (by decide) rfl (by decide) rfl rfl rfl hl.1 rfl (Nat.le_of_ble_eq_true rfl) dX8_shape_47 ⟨Nat.zero_le _, Nat.zero_le _⟩ (fun H locs hP hD hS => ?_)
        refine lv_i2l (v := r10.toInt64) hx hb dX8_shape_50 rfl ?_
        obtain ⟨ee0, ee1⟩ := q_s2 hf
        subst ee1
        exact q_wretL hx hb hr hlk hAe hK hP hD hS ee0 dX8_shape_51
      · have hf := q_t c9 hf
        refine lv_aload_n hx hb dX8_shape_36 rfl (lv_at hl 0 rfl) ?_
        refine lv_iload_n hx hb dX8_shape_37 rfl (lv_at hl 1 rfl) ?_
        obtain ⟨r13, sc14, h15, hf⟩ := q_b2o hf
        refine q_rwVi (As := [.int p1]) (rest := []) (ci := 8) (wr := []) (w2 := (wcM cI cZ o0 a0 sc14 t0)) ⟨hx, hb, hml, hown, hts⟩ (kX8_sizeOf l dC dI cI cB cZ o0 a0 sn8 t0 p1 H.size r13 sc14 h15) (cwV 1 hts gX8_shape_X8_sizeOf rfl rfl rfl hdX8_sizeOf ⟨Nat.le_of_ble_eq_true rfl, Nat.le_of_ble_eq_true rfl⟩) hK hP hD hS hA [0, 1, 2, 3, 4, 5, 6, 7, 8, 9, 10] [] [0, 1, 2, 3, 4, 5, 6, 7, 8, 9, 10] rfl rfl (by decide) (by decide) (by decide) rfl (by decide) rfl rfl rfl hl.1 rfl (Nat.le_of_ble_eq_true rfl) dX8_shape_38 ⟨Nat.zero_le _, Nat.zero_le _⟩ (fun H locs hP hD hS => ?_)
        refine lv_i2l (v := r13.toInt64) hx hb dX8_shape_41 rfl ?_
        refine lv_goto (tgt := 51) hx hb dX8_shape_42 (by decide) ?_
        obtain ⟨ee0, ee1⟩ := q_s2 hf
        subst ee1
        exact q_wretL hx hb hr hlk hAe hK hP hD hS ee0 dX8_shape_51
    · have hf := q_t c7 hf
      refine lv_ldc2 (v := -9000000000000000001) hx hb hown (hts _ qX8_shape_2) dX8_shape_23 ?_
      obtain ⟨ee0, ee1⟩ := q_s2 hf
      subst ee1
      exact q_wretL hx hb hr hlk hAe hK hP hD hS ee0 dX8_shape_26
theorem hdX8_trace : yX8_trace.cls = RX8 ∧ yX8_trace.cls ≠ "java/lang/invoke/MethodHandle" ∧ yX8_trace.cls ≠ "java/lang/invoke/VarHandle" ∧ (parseMethodDescriptor yX8_trace.desc).map (fun d => d.parameters.length) = some 1 := by decide +kernel
theorem qX8_trace_1 : (Cond.fieldLink RX8 41 "DeadAskedModel" "thrown" "I") ∈ wsX8_trace := List.mem_of_getElem? (i := 1) (by decide +kernel)
theorem qX8_trace_2 : (Cond.fieldLink RX8 301 "DeadAskedModel" "traced" "I") ∈ wsX8_trace := List.mem_of_getElem? (i := 2) (by decide +kernel)
theorem qX8_trace_3 : (Cond.fieldLink RX8 38 "DeadAskedModel" "trace" "[I") ∈ wsX8_trace := List.mem_of_getElem? (i := 3) (by decide +kernel)
theorem qX8_trace_4 : (Cond.constant RX8 80 (-1000000)) ∈ wsX8_trace := List.mem_of_getElem? (i := 4) (by decide +kernel)
theorem nX8_trace_8 : ∀ w ∈ u_ws RX8 TX8 27, w ∈ wsX8_trace := fun _ h => (List.mem_cons_of_mem _ (List.mem_append_right _ h))
set_option maxHeartbeats 4000000 in
set_option maxRecDepth 100000 in
theorem kX8_trace (o0 : Nat) (a0 : Nat → Nat) (s0 : St) (t0 : Lt) (p1 : Int32) (sz : Nat) (r : Int32) (z0 : St) (hf : fX8_trace s0 p1 = some (r, z0)) : Met l yX8_trace wsX8_trace ({ frames := 1, cells := 0, slots := 0, locals := 25 } : Room) (pcW (dC, dI) (q_ty cI cB cZ) [.ref o0, .int p1] (wcM cI cZ o0 a0 s0 t0) sz) (qiW (dC, dI) (q_ty cI cB cZ) (wcM cI cZ o0 a0 s0 t0) (wcM cI cZ o0 a0 z0 t0) sz r) 0 0 (va_A (wcM cI cZ o0 a0 s0 t0) sz) := by
  refine q_rwM (cc := cX8_trace) (maxL := 2) (ret := (some .int)) (by decide +kernel) rfl (Nat.le_of_ble_eq_true rfl) ?_
  intro p e s m below meth c hx hb hr hlk hml hown hts hK A H hAe hH hsz hP hD hA hS ls hl
  have hown : s.vm.findClass RX8 = some m.cls := hown
  have hl : lv_has ls 2 [(0, .ref o0), (1, .int p1)] := hl
  unfold fX8_trace at hf
  refine lv_aload_n hx hb dX8_trace_0 rfl (lv_at hl 0 rfl) ?_
  refine lv_iconst (v := 0) hx hb dX8_trace_1 (by decide) ?_
  obtain ⟨sn1, esn1, hf⟩ := q_lto hf
  refine va_put (D := (dC, dI)) (ci := 8) (v := .int (0 : Int32)) (ty := .int) (C := RX8) (T := TX8) (N := 27) hx hb hts nX8_trace_8 tyX8 tyX8_ok nmX8 hown hK hP hD hS 0 rfl rfl 0 (by decide) (hts _ qX8_trace_1) (fun _ h9 => h9) rfl (by decide +kernel) rfl rfl (Nat.le_of_ble_eq_true rfl) dX8_trace_2 (fun H locs hP hD hS => ?_)
  have hP : va_P (dC, dI) vwCl (wcM cI cZ o0 a0 sn1 t0) H := by rw [esn1]; exact hP
  have hD : va_D A (wcM cI cZ o0 a0 sn1 t0) := by rw [esn1]; exact hD
  refine lv_iload_n hx hb dX8_trace_5 rfl (lv_at hl 1 rfl) ?_
  refine lv_i2l (v := p1.toInt64) hx hb dX8_trace_6 rfl ?_
  refine lv_lconst (v := 0) hx hb dX8_trace_7 (by decide) ?_
  refine lv_aload_n hx hb dX8_trace_8 rfl (lv_at hl 0 rfl) ?_
  refine va_get (D := (dC, dI)) (ci := 8) (v := .int (sn1 26 0)) (C := RX8) (T := TX8) (N := 27) hx hb hts nX8_trace_8 hown hK hP 0 rfl rfl 26 (by decide) (hts _ qX8_trace_2) (fun _ h9 => h9) rfl dX8_trace_9 ?_
  refine lv_iconst (v := 1) hx hb dX8_trace_12 (by decide) ?_
  refine lv_isub hx hb dX8_trace_13 ?_
  refine lv_i2l (v := ((sn1 26 0) - (1 : Int32)).toInt64) hx hb dX8_trace_14 rfl ?_
  obtain ⟨r2, h3, hf⟩ := q_b1o hf
  refine q_roSi (As := [.long p1.toInt64, .long (0 : Int64), .long (((sn1 26 0) - (1 : Int32)).toInt64)]) (rest := []) ⟨hx, hb, hml, hown, hts⟩ (kX8_in l p1.toInt64 (0 : Int64) (((sn1 26 0) - (1 : Int32)).toInt64) r2 h3) (va_cwS 3 hts gX8_trace_X8_in rfl rfl rfl hdX8_in ⟨Nat.le_of_ble_eq_true rfl, Nat.le_of_ble_eq_true rfl⟩) rfl hl.1 rfl (Nat.le_of_ble_eq_true rfl) dX8_trace_15 ⟨Nat.zero_le _, Nat.zero_le _⟩ ?_
  refine lv_if_eq (tgt := 30) hx hb dX8_trace_18 (by decide) (fun c4 => ?_) (fun c4 => ?_)
  · have hf := q_t c4 hf
    refine lv_ldc (v := -1000000) hx hb hown (hts _ qX8_trace_4) dX8_trace_30 ?_
    obtain ⟨ee0, ee1⟩ := q_s2 hf
    subst ee1
    exact q_wretI hx hb hr hlk hAe hK hP hD hS ee0 dX8_trace_32
  · have hf := q_f c4 hf
    refine lv_aload_n hx hb dX8_trace_21 rfl (lv_at hl 0 rfl) ?_
    refine va_get (D := (dC, dI)) (ci := 8) (v := .ref (a0 25)) (C := RX8) (T := TX8) (N := 27) hx hb hts nX8_trace_8 hown hK hP 0 rfl rfl 25 (by decide) (hts _ qX8_trace_3) (fun _ h9 => h9) rfl dX8_trace_22 ?_
    refine lv_iload_n hx hb dX8_trace_25 rfl (lv_at hl 1 rfl) ?_
    obtain ⟨c5, hf⟩ := q_ck hf
    refine va_iald hx hb hK hP 10 0 rfl rfl c5 dX8_trace_26 ?_
    refine lv_goto (tgt := 32) hx hb dX8_trace_27 (by decide) ?_
    obtain ⟨ee0, ee1⟩ := q_s2 hf
    subst ee1
    exact q_wretI hx hb hr hlk hAe hK hP hD hS ee0 dX8_trace_32
theorem hdX8_count : yX8_count.cls = RX8 ∧ yX8_count.cls ≠ "java/lang/invoke/MethodHandle" ∧ yX8_count.cls ≠ "java/lang/invoke/VarHandle" ∧ (parseMethodDescriptor yX8_count.desc).map (fun d => d.parameters.length) = some 1 := by decide +kernel
theorem qX8_count_1 : (Cond.fieldLink RX8 41 "DeadAskedModel" "thrown" "I") ∈ wsX8_count := List.mem_of_getElem? (i := 1) (by decide +kernel)
theorem qX8_count_2 : (Cond.fieldLink RX8 9 "DeadAskedModel" "lane" "[I") ∈ wsX8_count := List.mem_of_getElem? (i := 2) (by decide +kernel)
theorem qX8_count_3 : (Cond.fieldLink RX8 19 "DeadAskedModel" "hill" "[I") ∈ wsX8_count := List.mem_of_getElem? (i := 3) (by decide +kernel)
theorem qX8_count_4 : (Cond.fieldLink RX8 188 "DeadAskedModel" "acts" "I") ∈ wsX8_count := List.mem_of_getElem? (i := 4) (by decide +kernel)
theorem qX8_count_5 : (Cond.fieldLink RX8 70 "DeadAskedModel" "taped" "I") ∈ wsX8_count := List.mem_of_getElem? (i := 5) (by decide +kernel)
theorem qX8_count_6 : (Cond.constantLong RX8 62 (-9000000000000000001)) ∈ wsX8_count := List.mem_of_getElem? (i := 6) (by decide +kernel)
theorem nX8_count_8 : ∀ w ∈ u_ws RX8 TX8 27, w ∈ wsX8_count := fun _ h => (List.mem_cons_of_mem _ (List.mem_append_right _ h))
set_option maxHeartbeats 4000000 in
set_option maxRecDepth 100000 in
theorem kX8_count (o0 : Nat) (a0 : Nat → Nat) (s0 : St) (t0 : Lt) (p1 : Int32) (sz : Nat) (r : Int64) (z0 : St) (hf : fX8_count s0 p1 = some (r, z0)) : Met l yX8_count wsX8_count ({ frames := 1, cells := 0, slots := 0, locals := 21 } : Room) (pcW (dC, dI) (q_ty cI cB cZ) [.ref o0, .int p1] (wcM cI cZ o0 a0 s0 t0) sz) (qlW (dC, dI) (q_ty cI cB cZ) (wcM cI cZ o0 a0 s0 t0) (wcM cI cZ o0 a0 z0 t0) sz r) 0 0 (va_A (wcM cI cZ o0 a0 s0 t0) sz) := by
  refine q_rwM (cc := cX8_count) (maxL := 4) (ret := (some .long)) (by decide +kernel) rfl (Nat.le_of_ble_eq_true rfl) ?_
  intro p e s m below meth c hx hb hr hlk hml hown hts hK A H hAe hH hsz hP hD hA hS ls hl
  have hown : s.vm.findClass RX8 = some m.cls := hown
  have hl : lv_has ls 4 [(0, .ref o0), (1, .int p1)] := hl
  unfold fX8_count at hf
  refine lv_aload_n hx hb dX8_count_0 rfl (lv_at hl 0 rfl) ?_
  refine lv_iconst (v := 0) hx hb dX8_count_1 (by decide) ?_
  obtain ⟨sn1, esn1, hf⟩ := q_lto hf
  refine va_put (D := (dC, dI)) (ci := 8) (v := .int (0 : Int32)) (ty := .int) (C := RX8) (T := TX8) (N := 27) hx hb hts nX8_count_8 tyX8 tyX8_ok nmX8 hown hK hP hD hS 0 rfl rfl 0 (by decide) (hts _ qX8_count_1) (fun _ h9 => h9) rfl (by decide +kernel) rfl rfl (Nat.le_of_ble_eq_true rfl) dX8_count_2 (fun H locs hP hD hS => ?_)
  have hP : va_P (dC, dI) vwCl (wcM cI cZ o0 a0 sn1 t0) H := by rw [esn1]; exact hP
  have hD : va_D A (wcM cI cZ o0 a0 sn1 t0) := by rw [esn1]; exact hD
  refine lv_iconst (v := 0) hx hb dX8_count_5 (by decide) ?_
  refine lv_istore_n (lv' := [(2, .int (0 : Int32)), (0, .ref o0), (1, .int p1)]) hx hb dX8_count_6 rfl hl (by decide) rfl (fun ls hl => ?_)
  refine lv_iload_n hx hb dX8_count_7 rfl (lv_at hl 2 rfl) ?_
  by_cases c2 : p1 = (0 : Int32)
  · have hf := q_t c2 hf
    refine lv_tableIn (off := 44) (tgt := 52) hx hb dX8_count_8 (by rw [c2]; decide) (by rw [c2]; decide) (by rw [c2]; decide) (by decide) ?_
    refine lv_iconst (v := 0) hx hb dX8_count_52 (by decide) ?_
    refine lv_istore_n (lv' := [(3, .int (0 : Int32)), (2, .int (0 : Int32)), (0, .ref o0), (1, .int p1)]) hx hb dX8_count_53 rfl hl (by decide) rfl (fun ls hl => ?_)
    obtain ⟨oz6, hqn5, hf⟩ := q_b1o hf
    have kxn5 : ∀ z6 : Int32, z6 = oz6 → ∀ (H : Heap) (locs : List Loc), va_P (dC, dI) vwCl (wcM cI cZ o0 a0 sn1 t0) H → va_D A (wcM cI cZ o0 a0 sn1 t0) → va_S A s.heap H locs → ∀ ls : Array Slot, lv_has ls 4 [(2, .int z6)] → W p l e ({ frames := 1, cells := 0, slots := 0, locals := 21 } : Room) s m [.ref o0, .int p1].toArray below meth c H locs 0 0 (MQ below (qlW (dC, dI) (q_ty cI cB cZ) (wcM cI cZ o0 a0 s0 t0) (wcM cI cZ o0 a0 z0 t0) sz r) [.ref o0, .int p1].toArray s 0 0 (va_A (wcM cI cZ o0 a0 s0 t0) sz)) (F0 m 83 ls []) := by
      intro z6 ez6 H locs hP hD hS ls hl
      subst ez6
      refine lv_iload_n hx hb dX8_count_83 rfl (lv_at hl 0 rfl) ?_
      refine lv_i2l (v := z6.toInt64) hx hb dX8_count_84 rfl ?_
      obtain ⟨ee0, ee1⟩ := q_s2 hf
      subst ee1
      exact q_wretL hx hb hr hlk hAe hK hP hD hS ee0 dX8_count_85
    have aihn5 : ∀ n5 : Nat, ∀ l2_3 : Int32, ∀ l3_4 : Int32, fX8_count_L54 sn1 n5 l2_3 l3_4 = some oz6 → ∀ (H : Heap) (locs : List Loc), va_P (dC, dI) vwCl (wcM cI cZ o0 a0 sn1 t0) H → va_D A (wcM cI cZ o0 a0 sn1 t0) → va_S A s.heap H locs → ∀ ls : Array Slot, lv_has ls 4 [(3, .int l3_4), (2, .int l2_3), (0, .ref o0)] → W p l e ({ frames := 1, cells := 0, slots := 0, locals := 21 } : Room) s m [.ref o0, .int p1].toArray below meth c H locs 0 0 (MQ below (qlW (dC, dI) (q_ty cI cB cZ) (wcM cI cZ o0 a0 s0 t0) (wcM cI cZ o0 a0 z0 t0) sz r) [.ref o0, .int p1].toArray s 0 0 (va_A (wcM cI cZ o0 a0 s0 t0) sz)) (F0 m 54 ls []) := by
      intro n5
      induction n5 with
      | zero =>
        intro l2_3 l3_4 hf
        exact q_no hf
      | succ n5 ihn5 =>
        intro l2_3 l3_4 hf H locs hP hD hS ls hl
        rw [fX8_count_L54] at hf
        refine lv_iload_n hx hb dX8_count_54 rfl (lv_at hl 0 rfl) ?_
        refine lv_bipush (v := 8) hx hb dX8_count_55 (by decide) ?_
        refine lv_icmp_ge (tgt := 83) hx hb dX8_count_57 (by decide) (fun c7 => ?_) (fun c7 => ?_)
        · have hf := q_t c7 hf
          exact kxn5 l2_3 (q_s1 hf) _ _ hP hD hS _ (lv_sub hl [1] rfl)
        · have hf := q_f c7 hf
          refine lv_iload_n hx hb dX8_count_60 rfl (lv_at hl 1 rfl) ?_
          refine lv_aload_n hx hb dX8_count_61 rfl (lv_at hl 2 rfl) ?_
          refine va_get (D := (dC, dI)) (ci := 8) (v := .ref (a0 2)) (C := RX8) (T := TX8) (N := 27) hx hb hts nX8_count_8 hown hK hP 0 rfl rfl 2 (by decide) (hts _ qX8_count_2) (fun _ h9 => h9) rfl dX8_count_62 ?_
          refine lv_iload_n hx hb dX8_count_65 rfl (lv_at hl 0 rfl) ?_
          obtain ⟨c8, hf⟩ := q_ck hf
          refine va_iald hx hb hK hP 1 0 rfl rfl c8 dX8_count_66 ?_
          obtain ⟨ov9, hqj10, hf⟩ := q_b1o hf
          have kj10 : ∀ v9 : Int32, v9 = ov9 → ∀ (H : Heap) (locs : List Loc), va_P (dC, dI) vwCl (wcM cI cZ o0 a0 sn1 t0) H → va_D A (wcM cI cZ o0 a0 sn1 t0) → va_S A s.heap H locs → ∀ ls : Array Slot, lv_has ls 4 [(3, .int l3_4), (0, .ref o0)] → W p l e ({ frames := 1, cells := 0, slots := 0, locals := 21 } : Room) s m [.ref o0, .int p1].toArray below meth c H locs 0 0 (MQ below (qlW (dC, dI) (q_ty cI cB cZ) (wcM cI cZ o0 a0 s0 t0) (wcM cI cZ o0 a0 z0 t0) sz r) [.ref o0, .int p1].toArray s 0 0 (va_A (wcM cI cZ o0 a0 s0 t0) sz)) (F0 m 75 ls [.int v9, .int l2_3]) := by
            intro v9 ev9 H locs hP hD hS ls hl
            subst ev9
            refine lv_iadd hx hb dX8_count_75 ?_
            refine lv_istore_n (lv' := [(2, .int (l2_3 + v9)), (3, .int l3_4), (0, .ref o0)]) hx hb dX8_count_76 rfl hl (by decide) rfl (fun ls hl => ?_)
            refine lv_iinc (v := l3_4 + (1 : Int32)) (lv' := [(3, .int (l3_4 + (1 : Int32))), (2, .int (l2_3 + v9)), (0, .ref o0)]) hx hb dX8_count_77 hl (k := 1) rfl rfl (by decide) rfl (fun ls hl => ?_)
            refine lv_goto (tgt := 54) hx hb dX8_count_80 (by decide) ?_
            exact ihn5 (l2_3 + v9) (l3_4 + (1 : Int32)) hf _ _ hP hD hS _ hl
          have hf := hqj10
          refine lv_if_lt (tgt := 74) hx hb dX8_count_67 (by decide) (fun c11 => ?_) (fun c11 => ?_)
          · have hf := q_t c11 hf
            refine lv_iconst (v := 0) hx hb dX8_count_74 (by decide) ?_
            exact kj10 (0 : Int32) (q_s1 hf) _ _ hP hD hS _ (lv_sub hl [0, 2] rfl)
          · have hf := q_f c11 hf
            refine lv_iconst (v := 1) hx hb dX8_count_70 (by decide) ?_
            refine lv_goto (tgt := 75) hx hb dX8_count_71 (by decide) ?_
            exact kj10 (1 : Int32) (q_s1 hf) _ _ hP hD hS _ (lv_sub hl [0, 2] rfl)
    exact aihn5 5000 (0 : Int32) (0 : Int32) hqn5 _ _ hP hD hS _ (lv_sub hl [0, 1, 2] rfl)
  · have hf := q_f c2 hf
    by_cases c12 : p1 = (1 : Int32)
    · have hf := q_t c12 hf
      refine lv_tableIn (off := 78) (tgt := 86) hx hb dX8_count_8 (by rw [c12]; decide) (by rw [c12]; decide) (by rw [c12]; decide) (by decide) ?_
      refine lv_aload_n hx hb dX8_count_86 rfl (lv_at hl 1 rfl) ?_
      refine va_get (D := (dC, dI)) (ci := 8) (v := .ref (a0 5)) (C := RX8) (T := TX8) (N := 27) hx hb hts nX8_count_8 hown hK hP 0 rfl rfl 5 (by decide) (hts _ qX8_count_3) (fun _ h9 => h9) rfl dX8_count_87 ?_
      refine lv_iconst (v := 0) hx hb dX8_count_90 (by decide) ?_
      obtain ⟨c13, hf⟩ := q_ck hf
      refine va_iald hx hb hK hP 4 0 rfl rfl c13 dX8_count_91 ?_
      refine lv_i2l (v := (sn1 5 (0 : Int32).toNatClampNeg).toInt64) hx hb dX8_count_92 rfl ?_
      obtain ⟨ee0, ee1⟩ := q_s2 hf
      subst ee1
      exact q_wretL hx hb hr hlk hAe hK hP hD hS ee0 dX8_count_93
    · have hf := q_f c12 hf
      by_cases c14 : p1 = (2 : Int32)
      · have hf := q_t c14 hf
        refine lv_tableIn (off := 86) (tgt := 94) hx hb dX8_count_8 (by rw [c14]; decide) (by rw [c14]; decide) (by rw [c14]; decide) (by decide) ?_
        refine lv_iconst (v := 0) hx hb dX8_count_94 (by decide) ?_
        refine lv_istore_n (lv' := [(3, .int (0 : Int32)), (2, .int (0 : Int32)), (0, .ref o0), (1, .int p1)]) hx hb dX8_count_95 rfl hl (by decide) rfl (fun ls hl => ?_)
        obtain ⟨oz18, hqn17, hf⟩ := q_b1o hf
        have kxn17 : ∀ z18 : Int32, z18 = oz18 → ∀ (H : Heap) (locs : List Loc), va_P (dC, dI) vwCl (wcM cI cZ o0 a0 sn1 t0) H → va_D A (wcM cI cZ o0 a0 sn1 t0) → va_S A s.heap H locs → ∀ ls : Array Slot, lv_has ls 4 [(2, .int z18)] → W p l e ({ frames := 1, cells := 0, slots := 0, locals := 21 } : Room) s m [.ref o0, .int p1].toArray below meth c H locs 0 0 (MQ below (qlW (dC, dI) (q_ty cI cB cZ) (wcM cI cZ o0 a0 s0 t0) (wcM cI cZ o0 a0 z0 t0) sz r) [.ref o0, .int p1].toArray s 0 0 (va_A (wcM cI cZ o0 a0 s0 t0) sz)) (F0 m 130 ls []) := by
          intro z18 ez18 H locs hP hD hS ls hl
          subst ez18
          refine lv_iload_n hx hb dX8_count_130 rfl (lv_at hl 0 rfl) ?_
          refine lv_i2l (v := z18.toInt64) hx hb dX8_count_131 rfl ?_
          obtain ⟨ee0, ee1⟩ := q_s2 hf
          subst ee1
          exact q_wretL hx hb hr hlk hAe hK hP hD hS ee0 dX8_count_132
        have aihn17 : ∀ n17 : Nat, ∀ l2_15 : Int32, ∀ l3_16 : Int32, fX8_count_L96 sn1 n17 l2_15 l3_16 = some oz18 → ∀ (H : Heap) (locs : List Loc), va_P (dC, dI) vwCl (wcM cI cZ o0 a0 sn1 t0) H → va_D A (wcM cI cZ o0 a0 sn1 t0) → va_S A s.heap H locs → ∀ ls : Array Slot, lv_has ls 4 [(3, .int l3_16), (2, .int l2_15), (0, .ref o0)] → W p l e ({ frames := 1, cells := 0, slots := 0, locals := 21 } : Room) s m [.ref o0, .int p1].toArray below meth c H locs 0 0 (MQ below (qlW (dC, dI) (q_ty cI cB cZ) (wcM cI cZ o0 a0 s0 t0) (wcM cI cZ o0 a0 z0 t0) sz r) [.ref o0, .int p1].toArray s 0 0 (va_A (wcM cI cZ o0 a0 s0 t0) sz)) (F0 m 96 ls []) := by
          intro n17
          induction n17 with
          | zero =>
            intro l2_15 l3_16 hf
            exact q_no hf
          | succ n17 ihn17 =>
            intro l2_15 l3_16 hf H locs hP hD hS ls hl
            rw [fX8_count_L96] at hf
            refine lv_iload_n hx hb dX8_count_96 rfl (lv_at hl 0 rfl) ?_
            refine lv_aload_n hx hb dX8_count_97 rfl (lv_at hl 2 rfl) ?_
            refine va_get (D := (dC, dI)) (ci := 8) (v := .ref (a0 5)) (C := RX8) (T := TX8) (N := 27) hx hb hts nX8_count_8 hown hK hP 0 rfl rfl 5 (by decide) (hts _ qX8_count_3) (fun _ h9 => h9) rfl dX8_count_98 ?_
            refine lv_iconst (v := 1) hx hb dX8_count_101 (by decide) ?_
            obtain ⟨c19, hf⟩ := q_ck hf
            refine va_iald hx hb hK hP 4 0 rfl rfl c19 dX8_count_102 ?_
            refine lv_icmp_ge (tgt := 130) hx hb dX8_count_103 (by decide) (fun c20 => ?_) (fun c20 => ?_)
            · have hf := q_t c20 hf
              exact kxn17 l2_15 (q_s1 hf) _ _ hP hD hS _ (lv_sub hl [1] rfl)
            · have hf := q_f c20 hf
              refine lv_iload_n hx hb dX8_count_106 rfl (lv_at hl 1 rfl) ?_
              refine lv_iconst (v := 1) hx hb dX8_count_107 (by decide) ?_
              refine lv_aload_n hx hb dX8_count_108 rfl (lv_at hl 2 rfl) ?_
              refine va_get (D := (dC, dI)) (ci := 8) (v := .ref (a0 5)) (C := RX8) (T := TX8) (N := 27) hx hb hts nX8_count_8 hown hK hP 0 rfl rfl 5 (by decide) (hts _ qX8_count_3) (fun _ h9 => h9) rfl dX8_count_109 ?_
              refine lv_bipush (v := 35) hx hb dX8_count_112 (by decide) ?_
              refine lv_iconst (v := 3) hx hb dX8_count_114 (by decide) ?_
              refine lv_iload_n hx hb dX8_count_115 rfl (lv_at hl 0 rfl) ?_
              refine lv_imul hx hb dX8_count_116 ?_
              refine lv_iadd hx hb dX8_count_117 ?_
              refine lv_iconst (v := 2) hx hb dX8_count_118 (by decide) ?_
              refine lv_iadd hx hb dX8_count_119 ?_
              obtain ⟨c21, hf⟩ := q_ck hf
              refine va_iald hx hb hK hP 4 0 rfl rfl c21 dX8_count_120 ?_
              refine lv_isub hx hb dX8_count_121 ?_
              refine lv_iadd hx hb dX8_count_122 ?_
              obtain ⟨x22, ex22, hf⟩ := q_lto hf
              refine W.eq (g2 := F0 m 123 ls [.int x22]) (by rw [ex22]) ?_
              refine lv_istore_n (lv' := [(2, .int x22), (3, .int l3_16), (0, .ref o0)]) hx hb dX8_count_123 rfl hl (by decide) rfl (fun ls hl => ?_)
              refine lv_iinc (v := l3_16 + (1 : Int32)) (lv' := [(3, .int (l3_16 + (1 : Int32))), (2, .int x22), (0, .ref o0)]) hx hb dX8_count_124 hl (k := 1) rfl rfl (by decide) rfl (fun ls hl => ?_)
              refine lv_goto (tgt := 96) hx hb dX8_count_127 (by decide) ?_
              exact ihn17 x22 (l3_16 + (1 : Int32)) hf _ _ hP hD hS _ hl
        exact aihn17 5000 (0 : Int32) (0 : Int32) hqn17 _ _ hP hD hS _ (lv_sub hl [0, 1, 2] rfl)
      · have hf := q_f c14 hf
        by_cases c23 : p1 = (3 : Int32)
        · have hf := q_t c23 hf
          refine lv_tableIn (off := 125) (tgt := 133) hx hb dX8_count_8 (by rw [c23]; decide) (by rw [c23]; decide) (by rw [c23]; decide) (by decide) ?_
          refine lv_aload_n hx hb dX8_count_133 rfl (lv_at hl 1 rfl) ?_
          refine va_get (D := (dC, dI)) (ci := 8) (v := .ref (a0 5)) (C := RX8) (T := TX8) (N := 27) hx hb hts nX8_count_8 hown hK hP 0 rfl rfl 5 (by decide) (hts _ qX8_count_3) (fun _ h9 => h9) rfl dX8_count_134 ?_
          refine lv_iconst (v := 2) hx hb dX8_count_137 (by decide) ?_
          obtain ⟨c24, hf⟩ := q_ck hf
          refine va_iald hx hb hK hP 4 0 rfl rfl c24 dX8_count_138 ?_
          refine lv_i2l (v := (sn1 5 (2 : Int32).toNatClampNeg).toInt64) hx hb dX8_count_139 rfl ?_
          obtain ⟨ee0, ee1⟩ := q_s2 hf
          subst ee1
          exact q_wretL hx hb hr hlk hAe hK hP hD hS ee0 dX8_count_140
        · have hf := q_f c23 hf
          by_cases c25 : p1 = (4 : Int32)
          · have hf := q_t c25 hf
            refine lv_tableIn (off := 133) (tgt := 141) hx hb dX8_count_8 (by rw [c25]; decide) (by rw [c25]; decide) (by rw [c25]; decide) (by decide) ?_
            refine lv_aload_n hx hb dX8_count_141 rfl (lv_at hl 1 rfl) ?_
            refine va_get (D := (dC, dI)) (ci := 8) (v := .int (sn1 9 0)) (C := RX8) (T := TX8) (N := 27) hx hb hts nX8_count_8 hown hK hP 0 rfl rfl 9 (by decide) (hts _ qX8_count_4) (fun _ h9 => h9) rfl dX8_count_142 ?_
            refine lv_i2l (v := (sn1 9 0).toInt64) hx hb dX8_count_145 rfl ?_
            obtain ⟨ee0, ee1⟩ := q_s2 hf
            subst ee1
            exact q_wretL hx hb hr hlk hAe hK hP hD hS ee0 dX8_count_146
          · have hf := q_f c25 hf
            by_cases c26 : p1 = (5 : Int32)
            · have hf := q_t c26 hf
              refine lv_tableIn (off := 139) (tgt := 147) hx hb dX8_count_8 (by rw [c26]; decide) (by rw [c26]; decide) (by rw [c26]; decide) (by decide) ?_
              refine lv_iconst (v := 0) hx hb dX8_count_147 (by decide) ?_
              refine lv_istore_n (lv' := [(3, .int (0 : Int32)), (2, .int (0 : Int32)), (0, .ref o0), (1, .int p1)]) hx hb dX8_count_148 rfl hl (by decide) rfl (fun ls hl => ?_)
              obtain ⟨oz30, hqn29, hf⟩ := q_b1o hf
              have kxn29 : ∀ z30 : Int32, z30 = oz30 → ∀ (H : Heap) (locs : List Loc), va_P (dC, dI) vwCl (wcM cI cZ o0 a0 sn1 t0) H → va_D A (wcM cI cZ o0 a0 sn1 t0) → va_S A s.heap H locs → ∀ ls : Array Slot, lv_has ls 4 [(2, .int z30)] → W p l e ({ frames := 1, cells := 0, slots := 0, locals := 21 } : Room) s m [.ref o0, .int p1].toArray below meth c H locs 0 0 (MQ below (qlW (dC, dI) (q_ty cI cB cZ) (wcM cI cZ o0 a0 s0 t0) (wcM cI cZ o0 a0 z0 t0) sz r) [.ref o0, .int p1].toArray s 0 0 (va_A (wcM cI cZ o0 a0 s0 t0) sz)) (F0 m 173 ls []) := by
                intro z30 ez30 H locs hP hD hS ls hl
                subst ez30
                refine lv_iload_n hx hb dX8_count_173 rfl (lv_at hl 0 rfl) ?_
                refine lv_i2l (v := z30.toInt64) hx hb dX8_count_174 rfl ?_
                obtain ⟨ee0, ee1⟩ := q_s2 hf
                subst ee1
                exact q_wretL hx hb hr hlk hAe hK hP hD hS ee0 dX8_count_175
              have aihn29 : ∀ n29 : Nat, ∀ l2_27 : Int32, ∀ l3_28 : Int32, fX8_count_L149 sn1 n29 l2_27 l3_28 = some oz30 → ∀ (H : Heap) (locs : List Loc), va_P (dC, dI) vwCl (wcM cI cZ o0 a0 sn1 t0) H → va_D A (wcM cI cZ o0 a0 sn1 t0) → va_S A s.heap H locs → ∀ ls : Array Slot, lv_has ls 4 [(3, .int l3_28), (2, .int l2_27), (0, .ref o0)] → W p l e ({ frames := 1, cells := 0, slots := 0, locals := 21 } : Room) s m [.ref o0, .int p1].toArray below meth c H locs 0 0 (MQ below (qlW (dC, dI) (q_ty cI cB cZ) (wcM cI cZ o0 a0 s0 t0) (wcM cI cZ o0 a0 z0 t0) sz r) [.ref o0, .int p1].toArray s 0 0 (va_A (wcM cI cZ o0 a0 s0 t0) sz)) (F0 m 149 ls []) := by
                intro n29
                induction n29 with
                | zero =>
                  intro l2_27 l3_28 hf
                  exact q_no hf
                | succ n29 ihn29 =>
                  intro l2_27 l3_28 hf H locs hP hD hS ls hl
                  rw [fX8_count_L149] at hf
                  refine lv_iload_n hx hb dX8_count_149 rfl (lv_at hl 0 rfl) ?_
                  refine lv_aload_n hx hb dX8_count_150 rfl (lv_at hl 2 rfl) ?_
                  refine va_get (D := (dC, dI)) (ci := 8) (v := .ref (a0 5)) (C := RX8) (T := TX8) (N := 27) hx hb hts nX8_count_8 hown hK hP 0 rfl rfl 5 (by decide) (hts _ qX8_count_3) (fun _ h9 => h9) rfl dX8_count_151 ?_
                  refine lv_iconst (v := 2) hx hb dX8_count_154 (by decide) ?_
                  obtain ⟨c31, hf⟩ := q_ck hf
                  refine va_iald hx hb hK hP 4 0 rfl rfl c31 dX8_count_155 ?_
                  refine lv_icmp_ge (tgt := 173) hx hb dX8_count_156 (by decide) (fun c32 => ?_) (fun c32 => ?_)
                  · have hf := q_t c32 hf
                    exact kxn29 l2_27 (q_s1 hf) _ _ hP hD hS _ (lv_sub hl [1] rfl)
                  · have hf := q_f c32 hf
                    refine lv_iload_n hx hb dX8_count_159 rfl (lv_at hl 1 rfl) ?_
                    refine lv_aload_n hx hb dX8_count_160 rfl (lv_at hl 2 rfl) ?_
                    refine lv_iload_n hx hb dX8_count_161 rfl (lv_at hl 0 rfl) ?_
                    obtain ⟨r33, h34, hf⟩ := q_b1o hf
                    refine q_roVi (As := [.int l3_28]) (rest := [.int l2_27]) (ci := 8) ⟨hx, hb, hml, hown, hts⟩ (kX8_fruit l dC dI cI cB cZ o0 a0 sn1 t0 l3_28 r33 h34) (cwV 1 hts gX8_count_X8_fruit rfl rfl rfl hdX8_fruit ⟨Nat.le_of_ble_eq_true rfl, Nat.le_of_ble_eq_true rfl⟩) hK hP rfl rfl rfl hl.1 rfl (Nat.le_of_ble_eq_true rfl) dX8_count_162 ⟨Nat.zero_le _, Nat.zero_le _⟩ ?_
                    refine lv_iadd hx hb dX8_count_165 ?_
                    refine lv_istore_n (lv' := [(2, .int (l2_27 + r33)), (3, .int l3_28), (0, .ref o0)]) hx hb dX8_count_166 rfl hl (by decide) rfl (fun ls hl => ?_)
                    refine lv_iinc (v := l3_28 + (1 : Int32)) (lv' := [(3, .int (l3_28 + (1 : Int32))), (2, .int (l2_27 + r33)), (0, .ref o0)]) hx hb dX8_count_167 hl (k := 1) rfl rfl (by decide) rfl (fun ls hl => ?_)
                    refine lv_goto (tgt := 149) hx hb dX8_count_170 (by decide) ?_
                    exact ihn29 (l2_27 + r33) (l3_28 + (1 : Int32)) hf _ _ hP hD hS _ hl
              exact aihn29 5000 (0 : Int32) (0 : Int32) hqn29 _ _ hP hD hS _ (lv_sub hl [0, 1, 2] rfl)
            · have hf := q_f c26 hf
              by_cases c35 : p1 = (6 : Int32)
              · have hf := q_t c35 hf
                refine lv_tableIn (off := 168) (tgt := 176) hx hb dX8_count_8 (by rw [c35]; decide) (by rw [c35]; decide) (by rw [c35]; decide) (by decide) ?_
                refine lv_aload_n hx hb dX8_count_176 rfl (lv_at hl 1 rfl) ?_
                refine va_get (D := (dC, dI)) (ci := 8) (v := .int (sn1 11 0)) (C := RX8) (T := TX8) (N := 27) hx hb hts nX8_count_8 hown hK hP 0 rfl rfl 11 (by decide) (hts _ qX8_count_5) (fun _ h9 => h9) rfl dX8_count_177 ?_
                refine lv_i2l (v := (sn1 11 0).toInt64) hx hb dX8_count_180 rfl ?_
                obtain ⟨ee0, ee1⟩ := q_s2 hf
                subst ee1
                exact q_wretL hx hb hr hlk hAe hK hP hD hS ee0 dX8_count_181
              · have hf := q_f c35 hf
                refine lv_tableOut (tgt := 182) hx hb dX8_count_8 (q_tso (x := p1) (lo := 0) (n := 7) (by intro k hk; match k, hk with | 0, _ => exact c2 | 1, _ => exact c12 | 2, _ => exact c14 | 3, _ => exact c23 | 4, _ => exact c25 | 5, _ => exact c26 | 6, _ => exact c35 | k + 7, hk => exact absurd hk (by omega)) (by decide)) (by decide) ?_
                refine lv_ldc2 (v := -9000000000000000001) hx hb hown (hts _ qX8_count_6) dX8_count_182 ?_
                obtain ⟨ee0, ee1⟩ := q_s2 hf
                subst ee1
                exact q_wretL hx hb hr hlk hAe hK hP hD hS ee0 dX8_count_185
theorem hdX8_status : yX8_status.cls = RX8 ∧ yX8_status.cls ≠ "java/lang/invoke/MethodHandle" ∧ yX8_status.cls ≠ "java/lang/invoke/VarHandle" ∧ (parseMethodDescriptor yX8_status.desc).map (fun d => d.parameters.length) = some 0 := by decide +kernel
theorem qX8_status_1 : (Cond.fieldLink RX8 41 "DeadAskedModel" "thrown" "I") ∈ wsX8_status := List.mem_of_getElem? (i := 1) (by decide +kernel)
theorem qX8_status_2 : (Cond.fieldLink RX8 45 "DeadAskedModel" "status" "I") ∈ wsX8_status := List.mem_of_getElem? (i := 2) (by decide +kernel)
theorem nX8_status_8 : ∀ w ∈ u_ws RX8 TX8 27, w ∈ wsX8_status := fun _ h => (List.mem_cons_of_mem _ (List.mem_append_right _ h))
set_option maxHeartbeats 4000000 in
set_option maxRecDepth 100000 in
theorem kX8_status (o0 : Nat) (a0 : Nat → Nat) (s0 : St) (t0 : Lt) (sz : Nat) (r : Int32) (z0 : St) (hf : fX8_status s0 = some (r, z0)) : Met l yX8_status wsX8_status ({ frames := 0, cells := 0, slots := 0, locals := 0 } : Room) (pcW (dC, dI) (q_ty cI cB cZ) [.ref o0] (wcM cI cZ o0 a0 s0 t0) sz) (qiW (dC, dI) (q_ty cI cB cZ) (wcM cI cZ o0 a0 s0 t0) (wcM cI cZ o0 a0 z0 t0) sz r) 0 0 (va_A (wcM cI cZ o0 a0 s0 t0) sz) := by
  refine q_rwM (cc := cX8_status) (maxL := 1) (ret := (some .int)) (by decide +kernel) rfl (Nat.le_of_ble_eq_true rfl) ?_
  intro p e s m below meth c hx hb hr hlk hml hown hts hK A H hAe hH hsz hP hD hA hS ls hl
  have hown : s.vm.findClass RX8 = some m.cls := hown
  have hl : lv_has ls 1 [(0, .ref o0)] := hl
  unfold fX8_status at hf
  refine lv_aload_n hx hb dX8_status_0 rfl (lv_at hl 0 rfl) ?_
  refine lv_iconst (v := 0) hx hb dX8_status_1 (by decide) ?_
  obtain ⟨sn1, esn1, hf⟩ := q_lto hf
  refine va_put (D := (dC, dI)) (ci := 8) (v := .int (0 : Int32)) (ty := .int) (C := RX8) (T := TX8) (N := 27) hx hb hts nX8_status_8 tyX8 tyX8_ok nmX8 hown hK hP hD hS 0 rfl rfl 0 (by decide) (hts _ qX8_status_1) (fun _ h9 => h9) rfl (by decide +kernel) rfl rfl (Nat.le_of_ble_eq_true rfl) dX8_status_2 (fun H locs hP hD hS => ?_)
  have hP : va_P (dC, dI) vwCl (wcM cI cZ o0 a0 sn1 t0) H := by rw [esn1]; exact hP
  have hD : va_D A (wcM cI cZ o0 a0 sn1 t0) := by rw [esn1]; exact hD
  refine lv_aload_n hx hb dX8_status_5 rfl (lv_at hl 0 rfl) ?_
  refine va_get (D := (dC, dI)) (ci := 8) (v := .int (sn1 1 0)) (C := RX8) (T := TX8) (N := 27) hx hb hts nX8_status_8 hown hK hP 0 rfl rfl 1 (by decide) (hts _ qX8_status_2) (fun _ h9 => h9) rfl dX8_status_6 ?_
  obtain ⟨ee0, ee1⟩ := q_s2 hf
  subst ee1
  exact q_wretI hx hb hr hlk hAe hK hP hD hS ee0 dX8_status_9
