variable (l : Launch) (dC : Nat → ClassId) (dI : Nat → Nat → Nat) (cI cB cZ : ClassId)
theorem hdX0_kept : yX0_kept.cls = RX0 ∧ yX0_kept.cls ≠ "java/lang/invoke/MethodHandle" ∧ yX0_kept.cls ≠ "java/lang/invoke/VarHandle" ∧ (parseMethodDescriptor yX0_kept.desc).map (fun d => d.parameters.length) = some 0 := by decide +kernel
theorem qX0_kept_1 : (Cond.fieldLink RX0 19 "DeadAsked$Acts" "kept" "I") ∈ wsX0_kept := List.mem_of_getElem? (i := 1) (by decide +kernel)
theorem nX0_kept_0 : ∀ w ∈ u_ws RX0 TX0 5, w ∈ wsX0_kept := fun _ h => (List.mem_cons_of_mem _ (List.mem_append_right _ h))
set_option maxHeartbeats 4000000 in
set_option maxRecDepth 100000 in
theorem kX0_kept (o0 : Nat) (a0 : Nat → Nat) (s0 : St) (r : Int32) (hf : fX0_kept s0 = some r) : Met l yX0_kept wsX0_kept ({ frames := 0, cells := 0, slots := 0, locals := 0 } : Room) (pcR (dC, dI) (q_ty cI cB cZ) [.ref o0] (wcA cI o0 a0 s0)) (qiR r) 0 0 (fun _ => False) := by
  refine q_roM (cc := cX0_kept) (maxL := 1) (ret := (some .int)) (by decide +kernel) rfl (Nat.le_of_ble_eq_true rfl) ?_
  intro p e s m below meth c hx hb hr hlk hml hown hts hK hP ls hl
  have hown : s.vm.findClass RX0 = some m.cls := hown
  have hl : lv_has ls 1 [(0, .ref o0)] := hl
  unfold fX0_kept at hf
  refine lv_aload_n hx hb dX0_kept_0 rfl (lv_at hl 0 rfl) ?_
  refine va_get (D := (dC, dI)) (ci := 0) (v := .int (s0 4 0)) (C := RX0) (T := TX0) (N := 5) hx hb hts nX0_kept_0 hown hK hP 0 rfl rfl 4 (by decide) (hts _ qX0_kept_1) (fun _ h9 => h9) rfl dX0_kept_1 ?_
  have ee0 := q_s1 hf
  exact q_retI hx hb hr hlk ee0 dX0_kept_4
theorem hdX0_forgetAll : yX0_forgetAll.cls = RX0 ∧ yX0_forgetAll.cls ≠ "java/lang/invoke/MethodHandle" ∧ yX0_forgetAll.cls ≠ "java/lang/invoke/VarHandle" ∧ (parseMethodDescriptor yX0_forgetAll.desc).map (fun d => d.parameters.length) = some 0 := by decide +kernel
theorem qX0_forgetAll_1 : (Cond.fieldLink RX0 19 "DeadAsked$Acts" "kept" "I") ∈ wsX0_forgetAll := List.mem_of_getElem? (i := 1) (by decide +kernel)
theorem nX0_forgetAll_0 : ∀ w ∈ u_ws RX0 TX0 5, w ∈ wsX0_forgetAll := fun _ h => (List.mem_cons_of_mem _ (List.mem_append_right _ h))
set_option maxHeartbeats 4000000 in
set_option maxRecDepth 100000 in
theorem kX0_forgetAll (o0 : Nat) (a0 : Nat → Nat) (s0 : St) (sz : Nat) (z0 : St) (hf : fX0_forgetAll s0 = some z0) : Met l yX0_forgetAll wsX0_forgetAll ({ frames := 0, cells := 0, slots := 0, locals := 0 } : Room) (pcW (dC, dI) (q_ty cI cB cZ) [.ref o0] (wcA cI o0 a0 s0) sz) (qvW (dC, dI) (q_ty cI cB cZ) (wcA cI o0 a0 s0) (wcA cI o0 a0 z0) sz) 0 0 (va_A (wcA cI o0 a0 s0) sz) := by
  refine q_rwM (cc := cX0_forgetAll) (maxL := 1) (ret := none) (by decide +kernel) rfl (Nat.le_of_ble_eq_true rfl) ?_
  intro p e s m below meth c hx hb hr hlk hml hown hts hK A H hAe hH hsz hP hD hA hS ls hl
  have hown : s.vm.findClass RX0 = some m.cls := hown
  have hl : lv_has ls 1 [(0, .ref o0)] := hl
  unfold fX0_forgetAll at hf
  refine lv_aload_n hx hb dX0_forgetAll_0 rfl (lv_at hl 0 rfl) ?_
  refine lv_iconst (v := 0) hx hb dX0_forgetAll_1 (by decide) ?_
  obtain ⟨sn1, esn1, hf⟩ := q_lto hf
  refine va_put (D := (dC, dI)) (ci := 0) (v := .int (0 : Int32)) (ty := .int) (C := RX0) (T := TX0) (N := 5) hx hb hts nX0_forgetAll_0 tyX0 tyX0_ok nmX0 hown hK hP hD hS 0 rfl rfl 4 (by decide) (hts _ qX0_forgetAll_1) (fun _ h9 => h9) rfl (by decide +kernel) rfl rfl (Nat.le_of_ble_eq_true rfl) dX0_forgetAll_2 (fun H locs hP hD hS => ?_)
  have hP : va_P (dC, dI) vwCl (wcA cI o0 a0 sn1) H := by rw [esn1]; exact hP
  have hD : va_D A (wcA cI o0 a0 sn1) := by rw [esn1]; exact hD
  have ee0 := q_s1 hf
  subst ee0
  exact q_wretV hx hb hr hlk hAe hK hP hD hS dX0_forgetAll_5
theorem hdX0_keep : yX0_keep.cls = RX0 ∧ yX0_keep.cls ≠ "java/lang/invoke/MethodHandle" ∧ yX0_keep.cls ≠ "java/lang/invoke/VarHandle" ∧ (parseMethodDescriptor yX0_keep.desc).map (fun d => d.parameters.length) = some 3 := by decide +kernel
theorem qX0_keep_1 : (Cond.fieldLink RX0 9 "DeadAsked$Acts" "sorts" "[I") ∈ wsX0_keep := List.mem_of_getElem? (i := 1) (by decide +kernel)
theorem qX0_keep_2 : (Cond.fieldLink RX0 23 "DeadAsked$Acts" "next" "I") ∈ wsX0_keep := List.mem_of_getElem? (i := 2) (by decide +kernel)
theorem qX0_keep_3 : (Cond.fieldLink RX0 13 "DeadAsked$Acts" "subjects" "[I") ∈ wsX0_keep := List.mem_of_getElem? (i := 3) (by decide +kernel)
theorem qX0_keep_4 : (Cond.fieldLink RX0 16 "DeadAsked$Acts" "amounts" "[I") ∈ wsX0_keep := List.mem_of_getElem? (i := 4) (by decide +kernel)
theorem qX0_keep_5 : (Cond.fieldLink RX0 19 "DeadAsked$Acts" "kept" "I") ∈ wsX0_keep := List.mem_of_getElem? (i := 5) (by decide +kernel)
theorem qX0_keep_6 : (Cond.methodLink RX0 26 yJ9_min_7cf53) ∈ wsX0_keep := List.mem_of_getElem? (i := 6) (by decide +kernel)
theorem qX0_keep_7 : (Cond.static yJ9_min_7cf53) ∈ wsX0_keep := List.mem_of_getElem? (i := 7) (by decide +kernel)
theorem qX0_keep_8 : (Cond.initialized "java/lang/Math") ∈ wsX0_keep := List.mem_of_getElem? (i := 8) (by decide +kernel)
theorem qX0_keep_9 : (Cond.code yJ9_min_7cf53 Lib.Math.min.code 2 (some .int)) ∈ wsX0_keep := List.mem_of_getElem? (i := 9) (by decide +kernel)
theorem nX0_keep_0 : ∀ w ∈ u_ws RX0 TX0 5, w ∈ wsX0_keep := fun _ h => (List.mem_cons_of_mem _ (List.mem_append_right _ h))
set_option maxHeartbeats 4000000 in
set_option maxRecDepth 100000 in
theorem kX0_keep (o0 : Nat) (a0 : Nat → Nat) (s0 : St) (p1 : Int32) (p2 : Int32) (p3 : Int32) (sz : Nat) (z0 : St) (hf : fX0_keep s0 p1 p2 p3 = some z0) : Met l yX0_keep wsX0_keep ({ frames := 1, cells := 0, slots := 0, locals := 21 } : Room) (pcW (dC, dI) (q_ty cI cB cZ) [.ref o0, .int p1, .int p2, .int p3] (wcA cI o0 a0 s0) sz) (qvW (dC, dI) (q_ty cI cB cZ) (wcA cI o0 a0 s0) (wcA cI o0 a0 z0) sz) 0 0 (va_A (wcA cI o0 a0 s0) sz) := by
  refine q_rwM (cc := cX0_keep) (maxL := 4) (ret := none) (by decide +kernel) rfl (Nat.le_of_ble_eq_true rfl) ?_
  intro p e s m below meth c hx hb hr hlk hml hown hts hK A H hAe hH hsz hP hD hA hS ls hl
  have hown : s.vm.findClass RX0 = some m.cls := hown
  have hl : lv_has ls 4 [(0, .ref o0), (1, .int p1), (2, .int p2), (3, .int p3)] := hl
  unfold fX0_keep at hf
  refine lv_aload_n hx hb dX0_keep_0 rfl (lv_at hl 0 rfl) ?_
  refine va_get (D := (dC, dI)) (ci := 0) (v := .ref (a0 0)) (C := RX0) (T := TX0) (N := 5) hx hb hts nX0_keep_0 hown hK hP 0 rfl rfl 0 (by decide) (hts _ qX0_keep_1) (fun _ h9 => h9) rfl dX0_keep_1 ?_
  refine lv_aload_n hx hb dX0_keep_4 rfl (lv_at hl 0 rfl) ?_
  refine va_get (D := (dC, dI)) (ci := 0) (v := .int (s0 3 0)) (C := RX0) (T := TX0) (N := 5) hx hb hts nX0_keep_0 hown hK hP 0 rfl rfl 3 (by decide) (hts _ qX0_keep_2) (fun _ h9 => h9) rfl dX0_keep_5 ?_
  refine lv_iload_n hx hb dX0_keep_8 rfl (lv_at hl 1 rfl) ?_
  obtain ⟨c1, hf⟩ := q_ck hf
  obtain ⟨sn2, esn2, hf⟩ := q_lto hf
  refine va_iast hx hb hK hP hD hS 1 0 rfl rfl c1 dX0_keep_9 (fun H locs hP hD hS => ?_)
  have hP : va_P (dC, dI) vwCl (wcA cI o0 a0 sn2) H := by rw [esn2]; exact hP
  have hD : va_D A (wcA cI o0 a0 sn2) := by rw [esn2]; exact hD
  refine lv_aload_n hx hb dX0_keep_10 rfl (lv_at hl 0 rfl) ?_
  refine va_get (D := (dC, dI)) (ci := 0) (v := .ref (a0 1)) (C := RX0) (T := TX0) (N := 5) hx hb hts nX0_keep_0 hown hK hP 0 rfl rfl 1 (by decide) (hts _ qX0_keep_3) (fun _ h9 => h9) rfl dX0_keep_11 ?_
  refine lv_aload_n hx hb dX0_keep_14 rfl (lv_at hl 0 rfl) ?_
  refine va_get (D := (dC, dI)) (ci := 0) (v := .int (sn2 3 0)) (C := RX0) (T := TX0) (N := 5) hx hb hts nX0_keep_0 hown hK hP 0 rfl rfl 3 (by decide) (hts _ qX0_keep_2) (fun _ h9 => h9) rfl dX0_keep_15 ?_
  refine lv_iload_n hx hb dX0_keep_18 rfl (lv_at hl 2 rfl) ?_
  obtain ⟨c3, hf⟩ := q_ck hf
  obtain ⟨sn4, esn4, hf⟩ := q_lto hf
  refine va_iast hx hb hK hP hD hS 2 0 rfl rfl c3 dX0_keep_19 (fun H locs hP hD hS => ?_)
  have hP : va_P (dC, dI) vwCl (wcA cI o0 a0 sn4) H := by rw [esn4]; exact hP
  have hD : va_D A (wcA cI o0 a0 sn4) := by rw [esn4]; exact hD
  refine lv_aload_n hx hb dX0_keep_20 rfl (lv_at hl 0 rfl) ?_
  refine va_get (D := (dC, dI)) (ci := 0) (v := .ref (a0 2)) (C := RX0) (T := TX0) (N := 5) hx hb hts nX0_keep_0 hown hK hP 0 rfl rfl 2 (by decide) (hts _ qX0_keep_4) (fun _ h9 => h9) rfl dX0_keep_21 ?_
  refine lv_aload_n hx hb dX0_keep_24 rfl (lv_at hl 0 rfl) ?_
  refine va_get (D := (dC, dI)) (ci := 0) (v := .int (sn4 3 0)) (C := RX0) (T := TX0) (N := 5) hx hb hts nX0_keep_0 hown hK hP 0 rfl rfl 3 (by decide) (hts _ qX0_keep_2) (fun _ h9 => h9) rfl dX0_keep_25 ?_
  refine lv_iload_n hx hb dX0_keep_28 rfl (lv_at hl 3 rfl) ?_
  obtain ⟨c5, hf⟩ := q_ck hf
  obtain ⟨sn6, esn6, hf⟩ := q_lto hf
  refine va_iast hx hb hK hP hD hS 3 0 rfl rfl c5 dX0_keep_29 (fun H locs hP hD hS => ?_)
  have hP : va_P (dC, dI) vwCl (wcA cI o0 a0 sn6) H := by rw [esn6]; exact hP
  have hD : va_D A (wcA cI o0 a0 sn6) := by rw [esn6]; exact hD
  refine lv_aload_n hx hb dX0_keep_30 rfl (lv_at hl 0 rfl) ?_
  refine lv_aload_n hx hb dX0_keep_31 rfl (lv_at hl 0 rfl) ?_
  refine va_get (D := (dC, dI)) (ci := 0) (v := .int (sn6 3 0)) (C := RX0) (T := TX0) (N := 5) hx hb hts nX0_keep_0 hown hK hP 0 rfl rfl 3 (by decide) (hts _ qX0_keep_2) (fun _ h9 => h9) rfl dX0_keep_32 ?_
  refine lv_bipush (v := 23) hx hb dX0_keep_35 (by decide) ?_
  obtain ⟨ov7, hqj8, hf⟩ := q_b1o hf
  have kj8 : ∀ v7 : Int32, v7 = ov7 → ∀ (H : Heap) (locs : List Loc), va_P (dC, dI) vwCl (wcA cI o0 a0 sn6) H → va_D A (wcA cI o0 a0 sn6) → va_S A s.heap H locs → ∀ ls : Array Slot, lv_has ls 4 [(0, .ref o0)] → W p l e ({ frames := 1, cells := 0, slots := 0, locals := 21 } : Room) s m [.ref o0, .int p1, .int p2, .int p3].toArray below meth c H locs 0 0 (MQ below (qvW (dC, dI) (q_ty cI cB cZ) (wcA cI o0 a0 s0) (wcA cI o0 a0 z0) sz) [.ref o0, .int p1, .int p2, .int p3].toArray s 0 0 (va_A (wcA cI o0 a0 s0) sz)) (F0 m 50 ls [.int v7, .ref o0]) := by
    intro v7 ev7 H locs hP hD hS ls hl
    subst ev7
    obtain ⟨sn9, esn9, hf⟩ := q_lto hf
    refine va_put (D := (dC, dI)) (ci := 0) (v := .int v7) (ty := .int) (C := RX0) (T := TX0) (N := 5) hx hb hts nX0_keep_0 tyX0 tyX0_ok nmX0 hown hK hP hD hS 0 rfl rfl 3 (by decide) (hts _ qX0_keep_2) (fun _ h9 => h9) rfl (by decide +kernel) rfl rfl (Nat.le_of_ble_eq_true rfl) dX0_keep_50 (fun H locs hP hD hS => ?_)
    have hP : va_P (dC, dI) vwCl (wcA cI o0 a0 sn9) H := by rw [esn9]; exact hP
    have hD : va_D A (wcA cI o0 a0 sn9) := by rw [esn9]; exact hD
    refine lv_aload_n hx hb dX0_keep_53 rfl (lv_at hl 0 rfl) ?_
    refine lv_aload_n hx hb dX0_keep_54 rfl (lv_at hl 0 rfl) ?_
    refine va_get (D := (dC, dI)) (ci := 0) (v := .int (sn9 4 0)) (C := RX0) (T := TX0) (N := 5) hx hb hts nX0_keep_0 hown hK hP 0 rfl rfl 4 (by decide) (hts _ qX0_keep_5) (fun _ h9 => h9) rfl dX0_keep_55 ?_
    refine lv_iconst (v := 1) hx hb dX0_keep_58 (by decide) ?_
    refine lv_iadd hx hb dX0_keep_59 ?_
    refine lv_bipush (v := 24) hx hb dX0_keep_60 (by decide) ?_
    refine va_mmin hx hb (hml.trans hl.1.symm) hown (hts _ qX0_keep_6) (hts _ qX0_keep_7) (hts _ qX0_keep_8) (hts _ qX0_keep_9) (Nat.le_of_ble_eq_true rfl) (Nat.le_of_ble_eq_true rfl) (Nat.zero_le _) (Nat.zero_le _) dX0_keep_62 ?_
    obtain ⟨sn10, esn10, hf⟩ := q_lto hf
    refine va_put (D := (dC, dI)) (ci := 0) (v := .int (if (24 : Int32) < ((sn9 4 0) + (1 : Int32)) then (24 : Int32) else ((sn9 4 0) + (1 : Int32)))) (ty := .int) (C := RX0) (T := TX0) (N := 5) hx hb hts nX0_keep_0 tyX0 tyX0_ok nmX0 hown hK hP hD hS 0 rfl rfl 4 (by decide) (hts _ qX0_keep_5) (fun _ h9 => h9) rfl (by decide +kernel) rfl rfl (Nat.le_of_ble_eq_true rfl) dX0_keep_65 (fun H locs hP hD hS => ?_)
    have hP : va_P (dC, dI) vwCl (wcA cI o0 a0 sn10) H := by rw [esn10]; exact hP
    have hD : va_D A (wcA cI o0 a0 sn10) := by rw [esn10]; exact hD
    have ee0 := q_s1 hf
    subst ee0
    exact q_wretV hx hb hr hlk hAe hK hP hD hS dX0_keep_68
  have hf := hqj8
  refine lv_icmp_ne (tgt := 44) hx hb dX0_keep_37 (by decide) (fun c11 => ?_) (fun c11 => ?_)
  · have hf := q_f c11 hf
    refine lv_aload_n hx hb dX0_keep_44 rfl (lv_at hl 0 rfl) ?_
    refine va_get (D := (dC, dI)) (ci := 0) (v := .int (sn6 3 0)) (C := RX0) (T := TX0) (N := 5) hx hb hts nX0_keep_0 hown hK hP 0 rfl rfl 3 (by decide) (hts _ qX0_keep_2) (fun _ h9 => h9) rfl dX0_keep_45 ?_
    refine lv_iconst (v := 1) hx hb dX0_keep_48 (by decide) ?_
    refine lv_iadd hx hb dX0_keep_49 ?_
    exact kj8 ((sn6 3 0) + (1 : Int32)) (q_s1 hf) _ _ hP hD hS _ (lv_sub hl [0] rfl)
  · have hf := q_t c11 hf
    refine lv_iconst (v := 0) hx hb dX0_keep_40 (by decide) ?_
    refine lv_goto (tgt := 50) hx hb dX0_keep_41 (by decide) ?_
    exact kj8 (0 : Int32) (q_s1 hf) _ _ hP hD hS _ (lv_sub hl [0] rfl)
theorem hdX0_undoLatest : yX0_undoLatest.cls = RX0 ∧ yX0_undoLatest.cls ≠ "java/lang/invoke/MethodHandle" ∧ yX0_undoLatest.cls ≠ "java/lang/invoke/VarHandle" ∧ (parseMethodDescriptor yX0_undoLatest.desc).map (fun d => d.parameters.length) = some 1 := by decide +kernel
theorem qX0_undoLatest_1 : (Cond.fieldLink RX0 19 "DeadAsked$Acts" "kept" "I") ∈ wsX0_undoLatest := List.mem_of_getElem? (i := 1) (by decide +kernel)
theorem qX0_undoLatest_2 : (Cond.fieldLink RX0 23 "DeadAsked$Acts" "next" "I") ∈ wsX0_undoLatest := List.mem_of_getElem? (i := 2) (by decide +kernel)
theorem qX0_undoLatest_3 : (Cond.fieldLink RX0 13 "DeadAsked$Acts" "subjects" "[I") ∈ wsX0_undoLatest := List.mem_of_getElem? (i := 3) (by decide +kernel)
theorem qX0_undoLatest_4 : (Cond.fieldLink RX0 9 "DeadAsked$Acts" "sorts" "[I") ∈ wsX0_undoLatest := List.mem_of_getElem? (i := 4) (by decide +kernel)
theorem qX0_undoLatest_5 : (Cond.fieldLink RX0 38 "DeadAsked$Hill" "graveX" "[I") ∈ wsX0_undoLatest := List.mem_of_getElem? (i := 5) (by decide +kernel)
theorem qX0_undoLatest_6 : (Cond.fieldLink RX0 16 "DeadAsked$Acts" "amounts" "[I") ∈ wsX0_undoLatest := List.mem_of_getElem? (i := 6) (by decide +kernel)
theorem qX0_undoLatest_7 : (Cond.fieldLink RX0 41 "DeadAsked$Hill" "cracked" "I") ∈ wsX0_undoLatest := List.mem_of_getElem? (i := 7) (by decide +kernel)
theorem nX0_undoLatest_0 : ∀ w ∈ u_ws RX0 TX0 5, w ∈ wsX0_undoLatest := fun _ h => (List.mem_cons_of_mem _ (List.mem_append_left _ (List.mem_append_right _ h)))
theorem nX0_undoLatest_3 : ∀ w ∈ u_ws RX3 TX3 14, w ∈ wsX0_undoLatest := fun _ h => (List.mem_cons_of_mem _ (List.mem_append_right _ h))
set_option maxHeartbeats 4000000 in
set_option maxRecDepth 100000 in
theorem kX0_undoLatest (o0 : Nat) (a0 : Nat → Nat) (o1 : Nat) (a1 : Nat → Nat) (s0 : St) (s1 : St) (sz : Nat) (z0 : St) (z1 : St) (hf : fX0_undoLatest s0 s1 = some (z0, z1)) : Met l yX0_undoLatest wsX0_undoLatest ({ frames := 2, cells := 0, slots := 0, locals := 44 } : Room) (pcW (dC, dI) (q_ty cI cB cZ) [.ref o0, .ref o1] ((wcA cI o0 a0 s0) ++ (wcH cI o1 a1 s1)) sz) (qvW (dC, dI) (q_ty cI cB cZ) ((wcA cI o0 a0 s0) ++ (wcH cI o1 a1 s1)) ((wcA cI o0 a0 z0) ++ (wcH cI o1 a1 z1)) sz) 0 0 (va_A ((wcA cI o0 a0 s0) ++ (wcH cI o1 a1 s1)) sz) := by
  refine q_rwM (cc := cX0_undoLatest) (maxL := 3) (ret := none) (by decide +kernel) rfl (Nat.le_of_ble_eq_true rfl) ?_
  intro p e s m below meth c hx hb hr hlk hml hown hts hK A H hAe hH hsz hP hD hA hS ls hl
  have hown : s.vm.findClass RX0 = some m.cls := hown
  have hl : lv_has ls 3 [(0, .ref o0), (1, .ref o1)] := hl
  unfold fX0_undoLatest at hf
  refine lv_aload_n hx hb dX0_undoLatest_0 rfl (lv_at hl 0 rfl) ?_
  refine va_get (D := (dC, dI)) (ci := 0) (v := .int (s0 4 0)) (C := RX0) (T := TX0) (N := 5) hx hb hts nX0_undoLatest_0 hown hK hP 0 rfl rfl 4 (by decide) (hts _ qX0_undoLatest_1) (fun _ h9 => h9) rfl dX0_undoLatest_1 ?_
  refine lv_if_ne (tgt := 8) hx hb dX0_undoLatest_4 (by decide) (fun c1 => ?_) (fun c1 => ?_)
  · have hf := q_f c1 hf
    refine lv_aload_n hx hb dX0_undoLatest_8 rfl (lv_at hl 0 rfl) ?_
    refine lv_dup hx hb dX0_undoLatest_9 rfl ?_
    refine va_get (D := (dC, dI)) (ci := 0) (v := .int (s0 4 0)) (C := RX0) (T := TX0) (N := 5) hx hb hts nX0_undoLatest_0 hown hK hP 0 rfl rfl 4 (by decide) (hts _ qX0_undoLatest_1) (fun _ h9 => h9) rfl dX0_undoLatest_10 ?_
    refine lv_iconst (v := 1) hx hb dX0_undoLatest_13 (by decide) ?_
    refine lv_isub hx hb dX0_undoLatest_14 ?_
    obtain ⟨sn2, esn2, hf⟩ := q_lto hf
    refine va_put (D := (dC, dI)) (ci := 0) (v := .int ((s0 4 0) - (1 : Int32))) (ty := .int) (C := RX0) (T := TX0) (N := 5) hx hb hts nX0_undoLatest_0 tyX0 tyX0_ok nmX0 hown hK hP hD hS 0 rfl rfl 4 (by decide) (hts _ qX0_undoLatest_1) (fun _ h9 => h9) rfl (by decide +kernel) rfl rfl (Nat.le_of_ble_eq_true rfl) dX0_undoLatest_15 (fun H locs hP hD hS => ?_)
    have hP : va_P (dC, dI) vwCl ((wcA cI o0 a0 sn2) ++ (wcH cI o1 a1 s1)) H := by rw [esn2]; exact hP
    have hD : va_D A ((wcA cI o0 a0 sn2) ++ (wcH cI o1 a1 s1)) := by rw [esn2]; exact hD
    refine lv_aload_n hx hb dX0_undoLatest_18 rfl (lv_at hl 0 rfl) ?_
    refine lv_aload_n hx hb dX0_undoLatest_19 rfl (lv_at hl 0 rfl) ?_
    refine va_get (D := (dC, dI)) (ci := 0) (v := .int (sn2 3 0)) (C := RX0) (T := TX0) (N := 5) hx hb hts nX0_undoLatest_0 hown hK hP 0 rfl rfl 3 (by decide) (hts _ qX0_undoLatest_2) (fun _ h9 => h9) rfl dX0_undoLatest_20 ?_
    obtain ⟨ov3, hqj4, hf⟩ := q_b1o hf
    have kj4 : ∀ v3 : Int32, v3 = ov3 → ∀ (H : Heap) (locs : List Loc), va_P (dC, dI) vwCl ((wcA cI o0 a0 sn2) ++ (wcH cI o1 a1 s1)) H → va_D A ((wcA cI o0 a0 sn2) ++ (wcH cI o1 a1 s1)) → va_S A s.heap H locs → ∀ ls : Array Slot, lv_has ls 3 [(0, .ref o0), (1, .ref o1)] → W p l e ({ frames := 2, cells := 0, slots := 0, locals := 44 } : Room) s m [.ref o0, .ref o1].toArray below meth c H locs 0 0 (MQ below (qvW (dC, dI) (q_ty cI cB cZ) ((wcA cI o0 a0 s0) ++ (wcH cI o1 a1 s1)) ((wcA cI o0 a0 z0) ++ (wcH cI o1 a1 z1)) sz) [.ref o0, .ref o1].toArray s 0 0 (va_A ((wcA cI o0 a0 s0) ++ (wcH cI o1 a1 s1)) sz)) (F0 m 37 ls [.int v3, .ref o0]) := by
      intro v3 ev3 H locs hP hD hS ls hl
      subst ev3
      obtain ⟨sn5, esn5, hf⟩ := q_lto hf
      refine va_put (D := (dC, dI)) (ci := 0) (v := .int v3) (ty := .int) (C := RX0) (T := TX0) (N := 5) hx hb hts nX0_undoLatest_0 tyX0 tyX0_ok nmX0 hown hK hP hD hS 0 rfl rfl 3 (by decide) (hts _ qX0_undoLatest_2) (fun _ h9 => h9) rfl (by decide +kernel) rfl rfl (Nat.le_of_ble_eq_true rfl) dX0_undoLatest_37 (fun H locs hP hD hS => ?_)
      have hP : va_P (dC, dI) vwCl ((wcA cI o0 a0 sn5) ++ (wcH cI o1 a1 s1)) H := by rw [esn5]; exact hP
      have hD : va_D A ((wcA cI o0 a0 sn5) ++ (wcH cI o1 a1 s1)) := by rw [esn5]; exact hD
      refine lv_aload_n hx hb dX0_undoLatest_40 rfl (lv_at hl 0 rfl) ?_
      refine va_get (D := (dC, dI)) (ci := 0) (v := .ref (a0 1)) (C := RX0) (T := TX0) (N := 5) hx hb hts nX0_undoLatest_0 hown hK hP 0 rfl rfl 1 (by decide) (hts _ qX0_undoLatest_3) (fun _ h9 => h9) rfl dX0_undoLatest_41 ?_
      refine lv_aload_n hx hb dX0_undoLatest_44 rfl (lv_at hl 0 rfl) ?_
      refine va_get (D := (dC, dI)) (ci := 0) (v := .int (sn5 3 0)) (C := RX0) (T := TX0) (N := 5) hx hb hts nX0_undoLatest_0 hown hK hP 0 rfl rfl 3 (by decide) (hts _ qX0_undoLatest_2) (fun _ h9 => h9) rfl dX0_undoLatest_45 ?_
      obtain ⟨c6, hf⟩ := q_ck hf
      refine va_iald hx hb hK hP 2 0 rfl rfl c6 dX0_undoLatest_48 ?_
      obtain ⟨x7, ex7, hf⟩ := q_lto hf
      refine W.eq (g2 := F0 m 49 ls [.int x7]) (by rw [ex7]) ?_
      refine lv_istore_n (lv' := [(2, .int x7), (0, .ref o0), (1, .ref o1)]) hx hb dX0_undoLatest_49 rfl hl (by decide) rfl (fun ls hl => ?_)
      refine lv_aload_n hx hb dX0_undoLatest_50 rfl (lv_at hl 1 rfl) ?_
      refine va_get (D := (dC, dI)) (ci := 0) (v := .ref (a0 0)) (C := RX0) (T := TX0) (N := 5) hx hb hts nX0_undoLatest_0 hown hK hP 0 rfl rfl 0 (by decide) (hts _ qX0_undoLatest_4) (fun _ h9 => h9) rfl dX0_undoLatest_51 ?_
      refine lv_aload_n hx hb dX0_undoLatest_54 rfl (lv_at hl 1 rfl) ?_
      refine va_get (D := (dC, dI)) (ci := 0) (v := .int (sn5 3 0)) (C := RX0) (T := TX0) (N := 5) hx hb hts nX0_undoLatest_0 hown hK hP 0 rfl rfl 3 (by decide) (hts _ qX0_undoLatest_2) (fun _ h9 => h9) rfl dX0_undoLatest_55 ?_
      obtain ⟨c8, hf⟩ := q_ck hf
      refine va_iald hx hb hK hP 1 0 rfl rfl c8 dX0_undoLatest_58 ?_
      refine lv_iconst (v := 2) hx hb dX0_undoLatest_59 (by decide) ?_
      refine lv_icmp_ne (tgt := 89) hx hb dX0_undoLatest_60 (by decide) (fun c9 => ?_) (fun c9 => ?_)
      · have hf := q_f c9 hf
        refine lv_aload_n hx hb dX0_undoLatest_89 rfl (lv_at hl 1 rfl) ?_
        refine va_get (D := (dC, dI)) (ci := 0) (v := .ref (a0 0)) (C := RX0) (T := TX0) (N := 5) hx hb hts nX0_undoLatest_0 hown hK hP 0 rfl rfl 0 (by decide) (hts _ qX0_undoLatest_4) (fun _ h9 => h9) rfl dX0_undoLatest_90 ?_
        refine lv_aload_n hx hb dX0_undoLatest_93 rfl (lv_at hl 1 rfl) ?_
        refine va_get (D := (dC, dI)) (ci := 0) (v := .int (sn5 3 0)) (C := RX0) (T := TX0) (N := 5) hx hb hts nX0_undoLatest_0 hown hK hP 0 rfl rfl 3 (by decide) (hts _ qX0_undoLatest_2) (fun _ h9 => h9) rfl dX0_undoLatest_94 ?_
        obtain ⟨c10, hf⟩ := q_ck hf
        refine va_iald hx hb hK hP 1 0 rfl rfl c10 dX0_undoLatest_97 ?_
        refine lv_iconst (v := 3) hx hb dX0_undoLatest_98 (by decide) ?_
        refine lv_icmp_ne (tgt := 119) hx hb dX0_undoLatest_99 (by decide) (fun c11 => ?_) (fun c11 => ?_)
        · have hf := q_f c11 hf
          refine lv_aload_n hx hb dX0_undoLatest_119 rfl (lv_at hl 1 rfl) ?_
          refine va_get (D := (dC, dI)) (ci := 0) (v := .ref (a0 0)) (C := RX0) (T := TX0) (N := 5) hx hb hts nX0_undoLatest_0 hown hK hP 0 rfl rfl 0 (by decide) (hts _ qX0_undoLatest_4) (fun _ h9 => h9) rfl dX0_undoLatest_120 ?_
          refine lv_aload_n hx hb dX0_undoLatest_123 rfl (lv_at hl 1 rfl) ?_
          refine va_get (D := (dC, dI)) (ci := 0) (v := .int (sn5 3 0)) (C := RX0) (T := TX0) (N := 5) hx hb hts nX0_undoLatest_0 hown hK hP 0 rfl rfl 3 (by decide) (hts _ qX0_undoLatest_2) (fun _ h9 => h9) rfl dX0_undoLatest_124 ?_
          obtain ⟨c12, hf⟩ := q_ck hf
          refine va_iald hx hb hK hP 1 0 rfl rfl c12 dX0_undoLatest_127 ?_
          refine lv_if_eq (tgt := 144) hx hb dX0_undoLatest_128 (by decide) (fun c13 => ?_) (fun c13 => ?_)
          · have hf := q_t c13 hf
            refine lv_aload_n hx hb dX0_undoLatest_144 rfl (lv_at hl 2 rfl) ?_
            refine lv_iload_n hx hb dX0_undoLatest_145 rfl (lv_at hl 0 rfl) ?_
            refine lv_aload_n hx hb dX0_undoLatest_146 rfl (lv_at hl 1 rfl) ?_
            refine va_get (D := (dC, dI)) (ci := 0) (v := .ref (a0 2)) (C := RX0) (T := TX0) (N := 5) hx hb hts nX0_undoLatest_0 hown hK hP 0 rfl rfl 2 (by decide) (hts _ qX0_undoLatest_6) (fun _ h9 => h9) rfl dX0_undoLatest_147 ?_
            refine lv_aload_n hx hb dX0_undoLatest_150 rfl (lv_at hl 1 rfl) ?_
            refine va_get (D := (dC, dI)) (ci := 0) (v := .int (sn5 3 0)) (C := RX0) (T := TX0) (N := 5) hx hb hts nX0_undoLatest_0 hown hK hP 0 rfl rfl 3 (by decide) (hts _ qX0_undoLatest_2) (fun _ h9 => h9) rfl dX0_undoLatest_151 ?_
            obtain ⟨c14, hf⟩ := q_ck hf
            refine va_iald hx hb hK hP 3 0 rfl rfl c14 dX0_undoLatest_154 ?_
            obtain ⟨sc15, h16, hf⟩ := q_b1o hf
            refine q_rwVv (As := [.int x7, .int (sn5 2 (sn5 3 0).toNatClampNeg)]) (rest := []) (ci := 3) (wr := ((wcA cI o0 a0 sn5))) (w2 := ((wcA cI o0 a0 sn5) ++ (wcH cI o1 a1 sc15))) ⟨hx, hb, hml, hown, hts⟩ (kX3_addFruit l dC dI cI cB cZ o1 a1 s1 x7 (sn5 2 (sn5 3 0).toNatClampNeg) H.size sc15 h16) (cwV 2 hts gX0_undoLatest_X3_addFruit rfl rfl rfl hdX3_addFruit ⟨Nat.le_of_ble_eq_true rfl, Nat.le_of_ble_eq_true rfl⟩) hK hP hD hS hA [4, 5, 6, 7, 8, 9, 10, 11, 12, 13, 14] [0, 1, 2, 3] [0, 1, 2, 3, 4, 5, 6, 7, 8, 9, 10, 11, 12, 13, 14] rfl rfl (by decide) (by decide) (by decide) rfl (by decide) rfl rfl rfl hl.1 rfl (Nat.le_of_ble_eq_true rfl) dX0_undoLatest_155 ⟨Nat.zero_le _, Nat.zero_le _⟩ (fun H locs hP hD hS => ?_)
            obtain ⟨ee0, ee1⟩ := q_s2 hf
            subst ee0
            subst ee1
            exact q_wretV hx hb hr hlk hAe hK hP hD hS dX0_undoLatest_158
          · have hf := q_f c13 hf
            refine lv_aload_n hx hb dX0_undoLatest_131 rfl (lv_at hl 1 rfl) ?_
            refine va_get (D := (dC, dI)) (ci := 0) (v := .ref (a0 0)) (C := RX0) (T := TX0) (N := 5) hx hb hts nX0_undoLatest_0 hown hK hP 0 rfl rfl 0 (by decide) (hts _ qX0_undoLatest_4) (fun _ h9 => h9) rfl dX0_undoLatest_132 ?_
            refine lv_aload_n hx hb dX0_undoLatest_135 rfl (lv_at hl 1 rfl) ?_
            refine va_get (D := (dC, dI)) (ci := 0) (v := .int (sn5 3 0)) (C := RX0) (T := TX0) (N := 5) hx hb hts nX0_undoLatest_0 hown hK hP 0 rfl rfl 3 (by decide) (hts _ qX0_undoLatest_2) (fun _ h9 => h9) rfl dX0_undoLatest_136 ?_
            obtain ⟨c17, hf⟩ := q_ck hf
            refine va_iald hx hb hK hP 1 0 rfl rfl c17 dX0_undoLatest_139 ?_
            refine lv_iconst (v := 1) hx hb dX0_undoLatest_140 (by decide) ?_
            refine lv_icmp_ne (tgt := 158) hx hb dX0_undoLatest_141 (by decide) (fun c18 => ?_) (fun c18 => ?_)
            · have hf := q_f c18 hf
              obtain ⟨ee0, ee1⟩ := q_s2 hf
              subst ee0
              subst ee1
              exact q_wretV hx hb hr hlk hAe hK hP hD hS dX0_undoLatest_158
            · have hf := q_t c18 hf
              refine lv_aload_n hx hb dX0_undoLatest_144 rfl (lv_at hl 2 rfl) ?_
              refine lv_iload_n hx hb dX0_undoLatest_145 rfl (lv_at hl 0 rfl) ?_
              refine lv_aload_n hx hb dX0_undoLatest_146 rfl (lv_at hl 1 rfl) ?_
              refine va_get (D := (dC, dI)) (ci := 0) (v := .ref (a0 2)) (C := RX0) (T := TX0) (N := 5) hx hb hts nX0_undoLatest_0 hown hK hP 0 rfl rfl 2 (by decide) (hts _ qX0_undoLatest_6) (fun _ h9 => h9) rfl dX0_undoLatest_147 ?_
              refine lv_aload_n hx hb dX0_undoLatest_150 rfl (lv_at hl 1 rfl) ?_
              refine va_get (D := (dC, dI)) (ci := 0) (v := .int (sn5 3 0)) (C := RX0) (T := TX0) (N := 5) hx hb hts nX0_undoLatest_0 hown hK hP 0 rfl rfl 3 (by decide) (hts _ qX0_undoLatest_2) (fun _ h9 => h9) rfl dX0_undoLatest_151 ?_
              obtain ⟨c19, hf⟩ := q_ck hf
              refine va_iald hx hb hK hP 3 0 rfl rfl c19 dX0_undoLatest_154 ?_
              obtain ⟨sc20, h21, hf⟩ := q_b1o hf
              refine q_rwVv (As := [.int x7, .int (sn5 2 (sn5 3 0).toNatClampNeg)]) (rest := []) (ci := 3) (wr := ((wcA cI o0 a0 sn5))) (w2 := ((wcA cI o0 a0 sn5) ++ (wcH cI o1 a1 sc20))) ⟨hx, hb, hml, hown, hts⟩ (kX3_addFruit l dC dI cI cB cZ o1 a1 s1 x7 (sn5 2 (sn5 3 0).toNatClampNeg) H.size sc20 h21) (cwV 2 hts gX0_undoLatest_X3_addFruit rfl rfl rfl hdX3_addFruit ⟨Nat.le_of_ble_eq_true rfl, Nat.le_of_ble_eq_true rfl⟩) hK hP hD hS hA [4, 5, 6, 7, 8, 9, 10, 11, 12, 13, 14] [0, 1, 2, 3] [0, 1, 2, 3, 4, 5, 6, 7, 8, 9, 10, 11, 12, 13, 14] rfl rfl (by decide) (by decide) (by decide) rfl (by decide) rfl rfl rfl hl.1 rfl (Nat.le_of_ble_eq_true rfl) dX0_undoLatest_155 ⟨Nat.zero_le _, Nat.zero_le _⟩ (fun H locs hP hD hS => ?_)
              obtain ⟨ee0, ee1⟩ := q_s2 hf
              subst ee0
              subst ee1
              exact q_wretV hx hb hr hlk hAe hK hP hD hS dX0_undoLatest_158
        · have hf := q_t c11 hf
          refine lv_aload_n hx hb dX0_undoLatest_102 rfl (lv_at hl 2 rfl) ?_
          refine lv_dup hx hb dX0_undoLatest_103 rfl ?_
          refine va_get (D := (dC, dI)) (ci := 3) (v := .int (s1 13 0)) (C := RX3) (T := TX3) (N := 14) hx hb hts nX0_undoLatest_3 hown hK hP 4 rfl rfl 13 (by decide) (hts _ qX0_undoLatest_7) (fun _ h9 => h9) rfl dX0_undoLatest_104 ?_
          refine lv_iconst (v := 1) hx hb dX0_undoLatest_107 (by decide) ?_
          refine lv_iload_n hx hb dX0_undoLatest_108 rfl (lv_at hl 0 rfl) ?_
          refine lv_ishl hx hb dX0_undoLatest_109 ?_
          refine lv_iconst (v := -1) hx hb dX0_undoLatest_110 (by decide) ?_
          refine lv_ixor hx hb dX0_undoLatest_111 ?_
          refine lv_iand hx hb dX0_undoLatest_112 ?_
          obtain ⟨sn22, esn22, hf⟩ := q_lto hf
          refine va_put (D := (dC, dI)) (ci := 3) (v := .int ((s1 13 0) &&& (((1 : Int32) <<< (x7 &&& 31)) ^^^ (-1 : Int32)))) (ty := .int) (C := RX3) (T := TX3) (N := 14) hx hb hts nX0_undoLatest_3 tyX3 tyX3_ok nmX3 hown hK hP hD hS 4 rfl rfl 13 (by decide) (hts _ qX0_undoLatest_7) (fun _ h9 => h9) rfl (by decide +kernel) rfl rfl (Nat.le_of_ble_eq_true rfl) dX0_undoLatest_113 (fun H locs hP hD hS => ?_)
          have hP : va_P (dC, dI) vwCl ((wcA cI o0 a0 sn5) ++ (wcH cI o1 a1 sn22)) H := by rw [esn22]; exact hP
          have hD : va_D A ((wcA cI o0 a0 sn5) ++ (wcH cI o1 a1 sn22)) := by rw [esn22]; exact hD
          refine lv_goto (tgt := 158) hx hb dX0_undoLatest_116 (by decide) ?_
          obtain ⟨ee0, ee1⟩ := q_s2 hf
          subst ee0
          subst ee1
          exact q_wretV hx hb hr hlk hAe hK hP hD hS dX0_undoLatest_158
      · have hf := q_t c9 hf
        refine lv_aload_n hx hb dX0_undoLatest_63 rfl (lv_at hl 2 rfl) ?_
        refine lv_iload_n hx hb dX0_undoLatest_64 rfl (lv_at hl 0 rfl) ?_
        obtain ⟨r23, h24, hf⟩ := q_b1o hf
        refine q_roVi (As := [.int x7]) (rest := []) (ci := 3) ⟨hx, hb, hml, hown, hts⟩ (kX3_isGrave l dC dI cI cB cZ o1 a1 s1 x7 r23 h24) (cwV 1 hts gX0_undoLatest_X3_isGrave rfl rfl rfl hdX3_isGrave ⟨Nat.le_of_ble_eq_true rfl, Nat.le_of_ble_eq_true rfl⟩) hK (hP.sub [4, 5, 6, 7, 8, 9, 10, 11, 12, 13, 14] rfl) rfl rfl rfl hl.1 rfl (Nat.le_of_ble_eq_true rfl) dX0_undoLatest_65 ⟨Nat.zero_le _, Nat.zero_le _⟩ ?_
        refine lv_if_eq (tgt := 89) hx hb dX0_undoLatest_68 (by decide) (fun c25 => ?_) (fun c25 => ?_)
        · have hf := q_t c25 hf
          refine lv_aload_n hx hb dX0_undoLatest_89 rfl (lv_at hl 1 rfl) ?_
          refine va_get (D := (dC, dI)) (ci := 0) (v := .ref (a0 0)) (C := RX0) (T := TX0) (N := 5) hx hb hts nX0_undoLatest_0 hown hK hP 0 rfl rfl 0 (by decide) (hts _ qX0_undoLatest_4) (fun _ h9 => h9) rfl dX0_undoLatest_90 ?_
          refine lv_aload_n hx hb dX0_undoLatest_93 rfl (lv_at hl 1 rfl) ?_
          refine va_get (D := (dC, dI)) (ci := 0) (v := .int (sn5 3 0)) (C := RX0) (T := TX0) (N := 5) hx hb hts nX0_undoLatest_0 hown hK hP 0 rfl rfl 3 (by decide) (hts _ qX0_undoLatest_2) (fun _ h9 => h9) rfl dX0_undoLatest_94 ?_
          obtain ⟨c26, hf⟩ := q_ck hf
          refine va_iald hx hb hK hP 1 0 rfl rfl c26 dX0_undoLatest_97 ?_
          refine lv_iconst (v := 3) hx hb dX0_undoLatest_98 (by decide) ?_
          refine lv_icmp_ne (tgt := 119) hx hb dX0_undoLatest_99 (by decide) (fun c27 => ?_) (fun c27 => ?_)
          · have hf := q_f c27 hf
            refine lv_aload_n hx hb dX0_undoLatest_119 rfl (lv_at hl 1 rfl) ?_
            refine va_get (D := (dC, dI)) (ci := 0) (v := .ref (a0 0)) (C := RX0) (T := TX0) (N := 5) hx hb hts nX0_undoLatest_0 hown hK hP 0 rfl rfl 0 (by decide) (hts _ qX0_undoLatest_4) (fun _ h9 => h9) rfl dX0_undoLatest_120 ?_
            refine lv_aload_n hx hb dX0_undoLatest_123 rfl (lv_at hl 1 rfl) ?_
            refine va_get (D := (dC, dI)) (ci := 0) (v := .int (sn5 3 0)) (C := RX0) (T := TX0) (N := 5) hx hb hts nX0_undoLatest_0 hown hK hP 0 rfl rfl 3 (by decide) (hts _ qX0_undoLatest_2) (fun _ h9 => h9) rfl dX0_undoLatest_124 ?_
            obtain ⟨c28, hf⟩ := q_ck hf
            refine va_iald hx hb hK hP 1 0 rfl rfl c28 dX0_undoLatest_127 ?_
            refine lv_if_eq (tgt := 144) hx hb dX0_undoLatest_128 (by decide) (fun c29 => ?_) (fun c29 => ?_)
            · have hf := q_t c29 hf
              refine lv_aload_n hx hb dX0_undoLatest_144 rfl (lv_at hl 2 rfl) ?_
              refine lv_iload_n hx hb dX0_undoLatest_145 rfl (lv_at hl 0 rfl) ?_
              refine lv_aload_n hx hb dX0_undoLatest_146 rfl (lv_at hl 1 rfl) ?_
              refine va_get (D := (dC, dI)) (ci := 0) (v := .ref (a0 2)) (C := RX0) (T := TX0) (N := 5) hx hb hts nX0_undoLatest_0 hown hK hP 0 rfl rfl 2 (by decide) (hts _ qX0_undoLatest_6) (fun _ h9 => h9) rfl dX0_undoLatest_147 ?_
              refine lv_aload_n hx hb dX0_undoLatest_150 rfl (lv_at hl 1 rfl) ?_
              refine va_get (D := (dC, dI)) (ci := 0) (v := .int (sn5 3 0)) (C := RX0) (T := TX0) (N := 5) hx hb hts nX0_undoLatest_0 hown hK hP 0 rfl rfl 3 (by decide) (hts _ qX0_undoLatest_2) (fun _ h9 => h9) rfl dX0_undoLatest_151 ?_
              obtain ⟨c30, hf⟩ := q_ck hf
              refine va_iald hx hb hK hP 3 0 rfl rfl c30 dX0_undoLatest_154 ?_
              obtain ⟨sc31, h32, hf⟩ := q_b1o hf
              refine q_rwVv (As := [.int x7, .int (sn5 2 (sn5 3 0).toNatClampNeg)]) (rest := []) (ci := 3) (wr := ((wcA cI o0 a0 sn5))) (w2 := ((wcA cI o0 a0 sn5) ++ (wcH cI o1 a1 sc31))) ⟨hx, hb, hml, hown, hts⟩ (kX3_addFruit l dC dI cI cB cZ o1 a1 s1 x7 (sn5 2 (sn5 3 0).toNatClampNeg) H.size sc31 h32) (cwV 2 hts gX0_undoLatest_X3_addFruit rfl rfl rfl hdX3_addFruit ⟨Nat.le_of_ble_eq_true rfl, Nat.le_of_ble_eq_true rfl⟩) hK hP hD hS hA [4, 5, 6, 7, 8, 9, 10, 11, 12, 13, 14] [0, 1, 2, 3] [0, 1, 2, 3, 4, 5, 6, 7, 8, 9, 10, 11, 12, 13, 14] rfl rfl (by decide) (by decide) (by decide) rfl (by decide) rfl rfl rfl hl.1 rfl (Nat.le_of_ble_eq_true rfl) dX0_undoLatest_155 ⟨Nat.zero_le _, Nat.zero_le _⟩ (fun H locs hP hD hS => ?_)
              obtain ⟨ee0, ee1⟩ := q_s2 hf
              subst ee0
              subst ee1
              exact q_wretV hx hb hr hlk hAe hK hP hD hS dX0_undoLatest_158
            · have hf := q_f c29 hf
              refine lv_aload_n hx hb dX0_undoLatest_131 rfl (lv_at hl 1 rfl) ?_
              refine va_get (D := (dC, dI)) (ci := 0) (v := .ref (a0 0)) (C := RX0) (T := TX0) (N := 5) hx hb hts nX0_undoLatest_0 hown hK hP 0 rfl rfl 0 (by decide) (hts _ qX0_undoLatest_4) (fun _ h9 => h9) rfl dX0_undoLatest_132 ?_
              refine lv_aload_n hx hb dX0_undoLatest_135 rfl (lv_at hl 1 rfl) ?_
              refine va_get (D := (dC, dI)) (ci := 0) (v := .int (sn5 3 0)) (C := RX0) (T := TX0) (N := 5) hx hb hts nX0_undoLatest_0 hown hK hP 0 rfl rfl 3 (by decide) (hts _ qX0_undoLatest_2) (fun _ h9 => h9) rfl dX0_undoLatest_136 ?_
              obtain ⟨c33, hf⟩ := q_ck hf
              refine va_iald hx hb hK hP 1 0 rfl rfl c33 dX0_undoLatest_139 ?_
              refine lv_iconst (v := 1) hx hb dX0_undoLatest_140 (by decide) ?_
              refine lv_icmp_ne (tgt := 158) hx hb dX0_undoLatest_141 (by decide) (fun c34 => ?_) (fun c34 => ?_)
              · have hf := q_f c34 hf
                obtain ⟨ee0, ee1⟩ := q_s2 hf
                subst ee0
                subst ee1
                exact q_wretV hx hb hr hlk hAe hK hP hD hS dX0_undoLatest_158
              · have hf := q_t c34 hf
                refine lv_aload_n hx hb dX0_undoLatest_144 rfl (lv_at hl 2 rfl) ?_
                refine lv_iload_n hx hb dX0_undoLatest_145 rfl (lv_at hl 0 rfl) ?_
                refine lv_aload_n hx hb dX0_undoLatest_146 rfl (lv_at hl 1 rfl) ?_
                refine va_get (D := (dC, dI)) (ci := 0) (v := .ref (a0 2)) (C := RX0) (T := TX0) (N := 5) hx hb hts nX0_undoLatest_0 hown hK hP 0 rfl rfl 2 (by decide) (hts _ qX0_undoLatest_6) (fun _ h9 => h9) rfl dX0_undoLatest_147 ?_
                refine lv_aload_n hx hb dX0_undoLatest_150 rfl (lv_at hl 1 rfl) ?_
                refine va_get (D := (dC, dI)) (ci := 0) (v := .int (sn5 3 0)) (C := RX0) (T := TX0) (N := 5) hx hb hts nX0_undoLatest_0 hown hK hP 0 rfl rfl 3 (by decide) (hts _ qX0_undoLatest_2) (fun _ h9 => h9) rfl dX0_undoLatest_151 ?_
                obtain ⟨c35, hf⟩ := q_ck hf
                refine va_iald hx hb hK hP 3 0 rfl rfl c35 dX0_undoLatest_154 ?_
                obtain ⟨sc36, h37, hf⟩ := q_b1o hf
                refine q_rwVv (As := [.int x7, .int (sn5 2 (sn5 3 0).toNatClampNeg)]) (rest := []) (ci := 3) (wr := ((wcA cI o0 a0 sn5))) (w2 := ((wcA cI o0 a0 sn5) ++ (wcH cI o1 a1 sc36))) ⟨hx, hb, hml, hown, hts⟩ (kX3_addFruit l dC dI cI cB cZ o1 a1 s1 x7 (sn5 2 (sn5 3 0).toNatClampNeg) H.size sc36 h37) (cwV 2 hts gX0_undoLatest_X3_addFruit rfl rfl rfl hdX3_addFruit ⟨Nat.le_of_ble_eq_true rfl, Nat.le_of_ble_eq_true rfl⟩) hK hP hD hS hA [4, 5, 6, 7, 8, 9, 10, 11, 12, 13, 14] [0, 1, 2, 3] [0, 1, 2, 3, 4, 5, 6, 7, 8, 9, 10, 11, 12, 13, 14] rfl rfl (by decide) (by decide) (by decide) rfl (by decide) rfl rfl rfl hl.1 rfl (Nat.le_of_ble_eq_true rfl) dX0_undoLatest_155 ⟨Nat.zero_le _, Nat.zero_le _⟩ (fun H locs hP hD hS => ?_)
                obtain ⟨ee0, ee1⟩ := q_s2 hf
                subst ee0
                subst ee1
                exact q_wretV hx hb hr hlk hAe hK hP hD hS dX0_undoLatest_158
          · have hf := q_t c27 hf
            refine lv_aload_n hx hb dX0_undoLatest_102 rfl (lv_at hl 2 rfl) ?_
            refine lv_dup hx hb dX0_undoLatest_103 rfl ?_
            refine va_get (D := (dC, dI)) (ci := 3) (v := .int (s1 13 0)) (C := RX3) (T := TX3) (N := 14) hx hb hts nX0_undoLatest_3 hown hK hP 4 rfl rfl 13 (by decide) (hts _ qX0_undoLatest_7) (fun _ h9 => h9) rfl dX0_undoLatest_104 ?_
            refine lv_iconst (v := 1) hx hb dX0_undoLatest_107 (by decide) ?_
            refine lv_iload_n hx hb dX0_undoLatest_108 rfl (lv_at hl 0 rfl) ?_
            refine lv_ishl hx hb dX0_undoLatest_109 ?_
            refine lv_iconst (v := -1) hx hb dX0_undoLatest_110 (by decide) ?_
            refine lv_ixor hx hb dX0_undoLatest_111 ?_
            refine lv_iand hx hb dX0_undoLatest_112 ?_
            obtain ⟨sn38, esn38, hf⟩ := q_lto hf
            refine va_put (D := (dC, dI)) (ci := 3) (v := .int ((s1 13 0) &&& (((1 : Int32) <<< (x7 &&& 31)) ^^^ (-1 : Int32)))) (ty := .int) (C := RX3) (T := TX3) (N := 14) hx hb hts nX0_undoLatest_3 tyX3 tyX3_ok nmX3 hown hK hP hD hS 4 rfl rfl 13 (by decide) (hts _ qX0_undoLatest_7) (fun _ h9 => h9) rfl (by decide +kernel) rfl rfl (Nat.le_of_ble_eq_true rfl) dX0_undoLatest_113 (fun H locs hP hD hS => ?_)
            have hP : va_P (dC, dI) vwCl ((wcA cI o0 a0 sn5) ++ (wcH cI o1 a1 sn38)) H := by rw [esn38]; exact hP
            have hD : va_D A ((wcA cI o0 a0 sn5) ++ (wcH cI o1 a1 sn38)) := by rw [esn38]; exact hD
            refine lv_goto (tgt := 158) hx hb dX0_undoLatest_116 (by decide) ?_
            obtain ⟨ee0, ee1⟩ := q_s2 hf
            subst ee0
            subst ee1
            exact q_wretV hx hb hr hlk hAe hK hP hD hS dX0_undoLatest_158
        · have hf := q_f c25 hf
          refine lv_aload_n hx hb dX0_undoLatest_71 rfl (lv_at hl 2 rfl) ?_
          refine va_get (D := (dC, dI)) (ci := 3) (v := .ref (a1 1)) (C := RX3) (T := TX3) (N := 14) hx hb hts nX0_undoLatest_3 hown hK hP 4 rfl rfl 1 (by decide) (hts _ qX0_undoLatest_5) (fun _ h9 => h9) rfl dX0_undoLatest_72 ?_
          refine lv_iload_n hx hb dX0_undoLatest_75 rfl (lv_at hl 0 rfl) ?_
          refine lv_aload_n hx hb dX0_undoLatest_76 rfl (lv_at hl 1 rfl) ?_
          refine va_get (D := (dC, dI)) (ci := 0) (v := .ref (a0 2)) (C := RX0) (T := TX0) (N := 5) hx hb hts nX0_undoLatest_0 hown hK hP 0 rfl rfl 2 (by decide) (hts _ qX0_undoLatest_6) (fun _ h9 => h9) rfl dX0_undoLatest_77 ?_
          refine lv_aload_n hx hb dX0_undoLatest_80 rfl (lv_at hl 1 rfl) ?_
          refine va_get (D := (dC, dI)) (ci := 0) (v := .int (sn5 3 0)) (C := RX0) (T := TX0) (N := 5) hx hb hts nX0_undoLatest_0 hown hK hP 0 rfl rfl 3 (by decide) (hts _ qX0_undoLatest_2) (fun _ h9 => h9) rfl dX0_undoLatest_81 ?_
          obtain ⟨c39, hf⟩ := q_ck hf
          refine va_iald hx hb hK hP 3 0 rfl rfl c39 dX0_undoLatest_84 ?_
          obtain ⟨c40, hf⟩ := q_ck hf
          obtain ⟨sn41, esn41, hf⟩ := q_lto hf
          refine va_iast hx hb hK hP hD hS 6 0 rfl rfl c40 dX0_undoLatest_85 (fun H locs hP hD hS => ?_)
          have hP : va_P (dC, dI) vwCl ((wcA cI o0 a0 sn5) ++ (wcH cI o1 a1 sn41)) H := by rw [esn41]; exact hP
          have hD : va_D A ((wcA cI o0 a0 sn5) ++ (wcH cI o1 a1 sn41)) := by rw [esn41]; exact hD
          refine lv_goto (tgt := 158) hx hb dX0_undoLatest_86 (by decide) ?_
          obtain ⟨ee0, ee1⟩ := q_s2 hf
          subst ee0
          subst ee1
          exact q_wretV hx hb hr hlk hAe hK hP hD hS dX0_undoLatest_158
    have hf := hqj4
    refine lv_if_ne (tgt := 31) hx hb dX0_undoLatest_23 (by decide) (fun c42 => ?_) (fun c42 => ?_)
    · have hf := q_f c42 hf
      refine lv_aload_n hx hb dX0_undoLatest_31 rfl (lv_at hl 0 rfl) ?_
      refine va_get (D := (dC, dI)) (ci := 0) (v := .int (sn2 3 0)) (C := RX0) (T := TX0) (N := 5) hx hb hts nX0_undoLatest_0 hown hK hP 0 rfl rfl 3 (by decide) (hts _ qX0_undoLatest_2) (fun _ h9 => h9) rfl dX0_undoLatest_32 ?_
      refine lv_iconst (v := 1) hx hb dX0_undoLatest_35 (by decide) ?_
      refine lv_isub hx hb dX0_undoLatest_36 ?_
      exact kj4 ((sn2 3 0) - (1 : Int32)) (q_s1 hf) _ _ hP hD hS _ hl
    · have hf := q_t c42 hf
      refine lv_bipush (v := 23) hx hb dX0_undoLatest_26 (by decide) ?_
      refine lv_goto (tgt := 37) hx hb dX0_undoLatest_28 (by decide) ?_
      exact kj4 (23 : Int32) (q_s1 hf) _ _ hP hD hS _ hl
  · have hf := q_t c1 hf
    obtain ⟨ee0, ee1⟩ := q_s2 hf
    subst ee0
    subst ee1
    exact q_wretV hx hb hr hlk hAe hK hP hD hS dX0_undoLatest_7
theorem hdX1_begin : yX1_begin.cls = RX1 ∧ yX1_begin.cls ≠ "java/lang/invoke/MethodHandle" ∧ yX1_begin.cls ≠ "java/lang/invoke/VarHandle" ∧ (parseMethodDescriptor yX1_begin.desc).map (fun d => d.parameters.length) = some 2 := by decide +kernel
theorem qX1_begin_1 : (Cond.fieldLink RX1 15 "DeadAsked$Bodies" "left" "I") ∈ wsX1_begin := List.mem_of_getElem? (i := 1) (by decide +kernel)
theorem qX1_begin_2 : (Cond.fieldLink RX1 25 "DeadAsked$Bodies" "number" "I") ∈ wsX1_begin := List.mem_of_getElem? (i := 2) (by decide +kernel)
theorem qX1_begin_3 : (Cond.fieldLink RX1 28 "DeadAsked$Hill" "kinds" "[I") ∈ wsX1_begin := List.mem_of_getElem? (i := 3) (by decide +kernel)
theorem qX1_begin_4 : (Cond.fieldLink RX1 31 "DeadAsked$Bodies" "kind" "I") ∈ wsX1_begin := List.mem_of_getElem? (i := 4) (by decide +kernel)
theorem qX1_begin_5 : (Cond.fieldLink RX1 34 "DeadAsked$Hill" "treeX" "[I") ∈ wsX1_begin := List.mem_of_getElem? (i := 5) (by decide +kernel)
theorem qX1_begin_6 : (Cond.fieldLink RX1 37 "DeadAsked$Bodies" "x" "I") ∈ wsX1_begin := List.mem_of_getElem? (i := 6) (by decide +kernel)
theorem qX1_begin_7 : (Cond.fieldLink RX1 40 "DeadAsked$Hill" "fruit" "[I") ∈ wsX1_begin := List.mem_of_getElem? (i := 7) (by decide +kernel)
theorem qX1_begin_8 : (Cond.fieldLink RX1 43 "DeadAsked$Bodies" "fruit" "I") ∈ wsX1_begin := List.mem_of_getElem? (i := 8) (by decide +kernel)
theorem qX1_begin_9 : (Cond.fieldLink RX1 49 "DeadAsked$Bodies" "loose" "I") ∈ wsX1_begin := List.mem_of_getElem? (i := 9) (by decide +kernel)
theorem nX1_begin_1 : ∀ w ∈ u_ws RX1 TX1 7, w ∈ wsX1_begin := fun _ h => (List.mem_cons_of_mem _ (List.mem_append_left _ (List.mem_append_right _ h)))
theorem nX1_begin_3 : ∀ w ∈ u_ws RX3 TX3 14, w ∈ wsX1_begin := fun _ h => (List.mem_cons_of_mem _ (List.mem_append_right _ h))
set_option maxHeartbeats 4000000 in
set_option maxRecDepth 100000 in
theorem kX1_begin (o0 : Nat) (a0 : Nat → Nat) (o1 : Nat) (a1 : Nat → Nat) (s0 : St) (s1 : St) (p2 : Int32) (sz : Nat) (z0 : St) (hf : fX1_begin s0 s1 p2 = some z0) : Met l yX1_begin wsX1_begin ({ frames := 2, cells := 0, slots := 0, locals := 42 } : Room) (pcW (dC, dI) (q_ty cI cB cZ) [.ref o0, .ref o1, .int p2] ((wcB cI o0 a0 s0) ++ (wcH cI o1 a1 s1)) sz) (qvW (dC, dI) (q_ty cI cB cZ) ((wcB cI o0 a0 s0) ++ (wcH cI o1 a1 s1)) ((wcB cI o0 a0 z0) ++ (wcH cI o1 a1 s1)) sz) 0 0 (va_A ((wcB cI o0 a0 s0) ++ (wcH cI o1 a1 s1)) sz) := by
  refine q_rwM (cc := cX1_begin) (maxL := 3) (ret := none) (by decide +kernel) rfl (Nat.le_of_ble_eq_true rfl) ?_
  intro p e s m below meth c hx hb hr hlk hml hown hts hK A H hAe hH hsz hP hD hA hS ls hl
  have hown : s.vm.findClass RX1 = some m.cls := hown
  have hl : lv_has ls 3 [(0, .ref o0), (1, .ref o1), (2, .int p2)] := hl
  unfold fX1_begin at hf
  refine lv_aload_n hx hb dX1_begin_0 rfl (lv_at hl 0 rfl) ?_
  refine lv_iconst (v := 0) hx hb dX1_begin_1 (by decide) ?_
  obtain ⟨sn1, esn1, hf⟩ := q_lto hf
  refine va_put (D := (dC, dI)) (ci := 1) (v := .int (0 : Int32)) (ty := .int) (C := RX1) (T := TX1) (N := 7) hx hb hts nX1_begin_1 tyX1 tyX1_ok nmX1 hown hK hP hD hS 0 rfl rfl 1 (by decide) (hts _ qX1_begin_1) (fun _ h9 => h9) rfl (by decide +kernel) rfl rfl (Nat.le_of_ble_eq_true rfl) dX1_begin_2 (fun H locs hP hD hS => ?_)
  have hP : va_P (dC, dI) vwCl ((wcB cI o0 a0 sn1) ++ (wcH cI o1 a1 s1)) H := by rw [esn1]; exact hP
  have hD : va_D A ((wcB cI o0 a0 sn1) ++ (wcH cI o1 a1 s1)) := by rw [esn1]; exact hD
  refine lv_aload_n hx hb dX1_begin_5 rfl (lv_at hl 1 rfl) ?_
  refine lv_iload_n hx hb dX1_begin_6 rfl (lv_at hl 2 rfl) ?_
  obtain ⟨r2, h3, hf⟩ := q_b1o hf
  refine q_roVi (As := [.int p2]) (rest := []) (ci := 3) ⟨hx, hb, hml, hown, hts⟩ (kX3_isTree l dC dI cI cB cZ o1 a1 s1 p2 r2 h3) (cwV 1 hts gX1_begin_X3_isTree rfl rfl rfl hdX3_isTree ⟨Nat.le_of_ble_eq_true rfl, Nat.le_of_ble_eq_true rfl⟩) hK (hP.sub [2, 3, 4, 5, 6, 7, 8, 9, 10, 11, 12] rfl) rfl rfl rfl hl.1 rfl (Nat.le_of_ble_eq_true rfl) dX1_begin_7 ⟨Nat.zero_le _, Nat.zero_le _⟩ ?_
  refine lv_if_ne (tgt := 14) hx hb dX1_begin_10 (by decide) (fun c4 => ?_) (fun c4 => ?_)
  · have hf := q_f c4 hf
    refine lv_aload_n hx hb dX1_begin_14 rfl (lv_at hl 0 rfl) ?_
    refine lv_iload_n hx hb dX1_begin_15 rfl (lv_at hl 2 rfl) ?_
    obtain ⟨sn5, esn5, hf⟩ := q_lto hf
    refine va_put (D := (dC, dI)) (ci := 1) (v := .int p2) (ty := .int) (C := RX1) (T := TX1) (N := 7) hx hb hts nX1_begin_1 tyX1 tyX1_ok nmX1 hown hK hP hD hS 0 rfl rfl 2 (by decide) (hts _ qX1_begin_2) (fun _ h9 => h9) rfl (by decide +kernel) rfl rfl (Nat.le_of_ble_eq_true rfl) dX1_begin_16 (fun H locs hP hD hS => ?_)
    have hP : va_P (dC, dI) vwCl ((wcB cI o0 a0 sn5) ++ (wcH cI o1 a1 s1)) H := by rw [esn5]; exact hP
    have hD : va_D A ((wcB cI o0 a0 sn5) ++ (wcH cI o1 a1 s1)) := by rw [esn5]; exact hD
    refine lv_aload_n hx hb dX1_begin_19 rfl (lv_at hl 0 rfl) ?_
    refine lv_aload_n hx hb dX1_begin_20 rfl (lv_at hl 1 rfl) ?_
    refine va_get (D := (dC, dI)) (ci := 3) (v := .ref (a1 7)) (C := RX3) (T := TX3) (N := 14) hx hb hts nX1_begin_3 hown hK hP 2 rfl rfl 7 (by decide) (hts _ qX1_begin_3) (fun _ h9 => h9) rfl dX1_begin_21 ?_
    refine lv_iload_n hx hb dX1_begin_24 rfl (lv_at hl 2 rfl) ?_
    obtain ⟨c6, hf⟩ := q_ck hf
    refine va_iald hx hb hK hP 10 0 rfl rfl c6 dX1_begin_25 ?_
    obtain ⟨sn7, esn7, hf⟩ := q_lto hf
    refine va_put (D := (dC, dI)) (ci := 1) (v := .int (s1 7 p2.toNatClampNeg)) (ty := .int) (C := RX1) (T := TX1) (N := 7) hx hb hts nX1_begin_1 tyX1 tyX1_ok nmX1 hown hK hP hD hS 0 rfl rfl 3 (by decide) (hts _ qX1_begin_4) (fun _ h9 => h9) rfl (by decide +kernel) rfl rfl (Nat.le_of_ble_eq_true rfl) dX1_begin_26 (fun H locs hP hD hS => ?_)
    have hP : va_P (dC, dI) vwCl ((wcB cI o0 a0 sn7) ++ (wcH cI o1 a1 s1)) H := by rw [esn7]; exact hP
    have hD : va_D A ((wcB cI o0 a0 sn7) ++ (wcH cI o1 a1 s1)) := by rw [esn7]; exact hD
    refine lv_aload_n hx hb dX1_begin_29 rfl (lv_at hl 0 rfl) ?_
    refine lv_aload_n hx hb dX1_begin_30 rfl (lv_at hl 1 rfl) ?_
    refine va_get (D := (dC, dI)) (ci := 3) (v := .ref (a1 8)) (C := RX3) (T := TX3) (N := 14) hx hb hts nX1_begin_3 hown hK hP 2 rfl rfl 8 (by decide) (hts _ qX1_begin_5) (fun _ h9 => h9) rfl dX1_begin_31 ?_
    refine lv_iload_n hx hb dX1_begin_34 rfl (lv_at hl 2 rfl) ?_
    obtain ⟨c8, hf⟩ := q_ck hf
    refine va_iald hx hb hK hP 11 0 rfl rfl c8 dX1_begin_35 ?_
    obtain ⟨sn9, esn9, hf⟩ := q_lto hf
    refine va_put (D := (dC, dI)) (ci := 1) (v := .int (s1 8 p2.toNatClampNeg)) (ty := .int) (C := RX1) (T := TX1) (N := 7) hx hb hts nX1_begin_1 tyX1 tyX1_ok nmX1 hown hK hP hD hS 0 rfl rfl 4 (by decide) (hts _ qX1_begin_6) (fun _ h9 => h9) rfl (by decide +kernel) rfl rfl (Nat.le_of_ble_eq_true rfl) dX1_begin_36 (fun H locs hP hD hS => ?_)
    have hP : va_P (dC, dI) vwCl ((wcB cI o0 a0 sn9) ++ (wcH cI o1 a1 s1)) H := by rw [esn9]; exact hP
    have hD : va_D A ((wcB cI o0 a0 sn9) ++ (wcH cI o1 a1 s1)) := by rw [esn9]; exact hD
    refine lv_aload_n hx hb dX1_begin_39 rfl (lv_at hl 0 rfl) ?_
    refine lv_aload_n hx hb dX1_begin_40 rfl (lv_at hl 1 rfl) ?_
    refine va_get (D := (dC, dI)) (ci := 3) (v := .ref (a1 9)) (C := RX3) (T := TX3) (N := 14) hx hb hts nX1_begin_3 hown hK hP 2 rfl rfl 9 (by decide) (hts _ qX1_begin_7) (fun _ h9 => h9) rfl dX1_begin_41 ?_
    refine lv_iload_n hx hb dX1_begin_44 rfl (lv_at hl 2 rfl) ?_
    obtain ⟨c10, hf⟩ := q_ck hf
    refine va_iald hx hb hK hP 12 0 rfl rfl c10 dX1_begin_45 ?_
    obtain ⟨sn11, esn11, hf⟩ := q_lto hf
    refine va_put (D := (dC, dI)) (ci := 1) (v := .int (s1 9 p2.toNatClampNeg)) (ty := .int) (C := RX1) (T := TX1) (N := 7) hx hb hts nX1_begin_1 tyX1 tyX1_ok nmX1 hown hK hP hD hS 0 rfl rfl 5 (by decide) (hts _ qX1_begin_8) (fun _ h9 => h9) rfl (by decide +kernel) rfl rfl (Nat.le_of_ble_eq_true rfl) dX1_begin_46 (fun H locs hP hD hS => ?_)
    have hP : va_P (dC, dI) vwCl ((wcB cI o0 a0 sn11) ++ (wcH cI o1 a1 s1)) H := by rw [esn11]; exact hP
    have hD : va_D A ((wcB cI o0 a0 sn11) ++ (wcH cI o1 a1 s1)) := by rw [esn11]; exact hD
    refine lv_aload_n hx hb dX1_begin_49 rfl (lv_at hl 0 rfl) ?_
    refine lv_aload_n hx hb dX1_begin_50 rfl (lv_at hl 1 rfl) ?_
    refine lv_iload_n hx hb dX1_begin_51 rfl (lv_at hl 2 rfl) ?_
    obtain ⟨r12, h13, hf⟩ := q_b1o hf
    refine q_roVi (As := [.int p2]) (rest := [.ref o0]) (ci := 3) ⟨hx, hb, hml, hown, hts⟩ (kX3_loose l dC dI cI cB cZ o1 a1 s1 p2 r12 h13) (cwV 1 hts gX1_begin_X3_loose rfl rfl rfl hdX3_loose ⟨Nat.le_of_ble_eq_true rfl, Nat.le_of_ble_eq_true rfl⟩) hK (hP.sub [2, 3, 4, 5, 6, 7, 8, 9, 10, 11, 12] rfl) rfl rfl rfl hl.1 rfl (Nat.le_of_ble_eq_true rfl) dX1_begin_52 ⟨Nat.zero_le _, Nat.zero_le _⟩ ?_
    obtain ⟨sn14, esn14, hf⟩ := q_lto hf
    refine va_put (D := (dC, dI)) (ci := 1) (v := .int r12) (ty := .int) (C := RX1) (T := TX1) (N := 7) hx hb hts nX1_begin_1 tyX1 tyX1_ok nmX1 hown hK hP hD hS 0 rfl rfl 6 (by decide) (hts _ qX1_begin_9) (fun _ h9 => h9) rfl (by decide +kernel) rfl rfl (Nat.le_of_ble_eq_true rfl) dX1_begin_55 (fun H locs hP hD hS => ?_)
    have hP : va_P (dC, dI) vwCl ((wcB cI o0 a0 sn14) ++ (wcH cI o1 a1 s1)) H := by rw [esn14]; exact hP
    have hD : va_D A ((wcB cI o0 a0 sn14) ++ (wcH cI o1 a1 s1)) := by rw [esn14]; exact hD
    have ee0 := q_s1 hf
    subst ee0
    exact q_wretV hx hb hr hlk hAe hK hP hD hS dX1_begin_58
  · have hf := q_t c4 hf
    have ee0 := q_s1 hf
    subst ee0
    exact q_wretV hx hb hr hlk hAe hK hP hD hS dX1_begin_13
theorem hdX1_traced : yX1_traced.cls = RX1 ∧ yX1_traced.cls ≠ "java/lang/invoke/MethodHandle" ∧ yX1_traced.cls ≠ "java/lang/invoke/VarHandle" ∧ (parseMethodDescriptor yX1_traced.desc).map (fun d => d.parameters.length) = some 1 := by decide +kernel
theorem qX1_traced_1 : (Cond.fieldLink RX1 15 "DeadAsked$Bodies" "left" "I") ∈ wsX1_traced := List.mem_of_getElem? (i := 1) (by decide +kernel)
theorem qX1_traced_2 : (Cond.fieldLink RX1 11 "DeadAsked$Bodies" "traced" "[I") ∈ wsX1_traced := List.mem_of_getElem? (i := 2) (by decide +kernel)
theorem qX1_traced_3 : (Cond.constant RX1 51 (-1000000)) ∈ wsX1_traced := List.mem_of_getElem? (i := 3) (by decide +kernel)
theorem nX1_traced_1 : ∀ w ∈ u_ws RX1 TX1 7, w ∈ wsX1_traced := fun _ h => (List.mem_cons_of_mem _ (List.mem_append_right _ h))
set_option maxHeartbeats 4000000 in
set_option maxRecDepth 100000 in
theorem kX1_traced (o0 : Nat) (a0 : Nat → Nat) (s0 : St) (p1 : Int32) (r : Int32) (hf : fX1_traced s0 p1 = some r) : Met l yX1_traced wsX1_traced ({ frames := 0, cells := 0, slots := 0, locals := 0 } : Room) (pcR (dC, dI) (q_ty cI cB cZ) [.ref o0, .int p1] (wcB cI o0 a0 s0)) (qiR r) 0 0 (fun _ => False) := by
  refine q_roM (cc := cX1_traced) (maxL := 2) (ret := (some .int)) (by decide +kernel) rfl (Nat.le_of_ble_eq_true rfl) ?_
  intro p e s m below meth c hx hb hr hlk hml hown hts hK hP ls hl
  have hown : s.vm.findClass RX1 = some m.cls := hown
  have hl : lv_has ls 2 [(0, .ref o0), (1, .int p1)] := hl
  unfold fX1_traced at hf
  refine lv_iload_n hx hb dX1_traced_0 rfl (lv_at hl 1 rfl) ?_
  refine lv_if_lt (tgt := 27) hx hb dX1_traced_1 (by decide) (fun c1 => ?_) (fun c1 => ?_)
  · have hf := q_t c1 hf
    refine lv_ldc (v := -1000000) hx hb hown (hts _ qX1_traced_3) dX1_traced_27 ?_
    have ee0 := q_s1 hf
    exact q_retI hx hb hr hlk ee0 dX1_traced_29
  · have hf := q_f c1 hf
    refine lv_iload_n hx hb dX1_traced_4 rfl (lv_at hl 1 rfl) ?_
    refine lv_aload_n hx hb dX1_traced_5 rfl (lv_at hl 0 rfl) ?_
    refine va_get (D := (dC, dI)) (ci := 1) (v := .int (s0 1 0)) (C := RX1) (T := TX1) (N := 7) hx hb hts nX1_traced_1 hown hK hP 0 rfl rfl 1 (by decide) (hts _ qX1_traced_1) (fun _ h9 => h9) rfl dX1_traced_6 ?_
    refine lv_icmp_ge (tgt := 27) hx hb dX1_traced_9 (by decide) (fun c2 => ?_) (fun c2 => ?_)
    · have hf := q_t c2 hf
      refine lv_ldc (v := -1000000) hx hb hown (hts _ qX1_traced_3) dX1_traced_27 ?_
      have ee0 := q_s1 hf
      exact q_retI hx hb hr hlk ee0 dX1_traced_29
    · have hf := q_f c2 hf
      refine lv_iload_n hx hb dX1_traced_12 rfl (lv_at hl 1 rfl) ?_
      refine lv_bipush (v := 16) hx hb dX1_traced_13 (by decide) ?_
      refine lv_icmp_ge (tgt := 27) hx hb dX1_traced_15 (by decide) (fun c3 => ?_) (fun c3 => ?_)
      · have hf := q_t c3 hf
        refine lv_ldc (v := -1000000) hx hb hown (hts _ qX1_traced_3) dX1_traced_27 ?_
        have ee0 := q_s1 hf
        exact q_retI hx hb hr hlk ee0 dX1_traced_29
      · have hf := q_f c3 hf
        refine lv_aload_n hx hb dX1_traced_18 rfl (lv_at hl 0 rfl) ?_
        refine va_get (D := (dC, dI)) (ci := 1) (v := .ref (a0 0)) (C := RX1) (T := TX1) (N := 7) hx hb hts nX1_traced_1 hown hK hP 0 rfl rfl 0 (by decide) (hts _ qX1_traced_2) (fun _ h9 => h9) rfl dX1_traced_19 ?_
        refine lv_iload_n hx hb dX1_traced_22 rfl (lv_at hl 1 rfl) ?_
        obtain ⟨c4, hf⟩ := q_ck hf
        refine va_iald hx hb hK hP 1 0 rfl rfl c4 dX1_traced_23 ?_
        refine lv_goto (tgt := 29) hx hb dX1_traced_24 (by decide) ?_
        have ee0 := q_s1 hf
        exact q_retI hx hb hr hlk ee0 dX1_traced_29
theorem hdX1_leave : yX1_leave.cls = RX1 ∧ yX1_leave.cls ≠ "java/lang/invoke/MethodHandle" ∧ yX1_leave.cls ≠ "java/lang/invoke/VarHandle" ∧ (parseMethodDescriptor yX1_leave.desc).map (fun d => d.parameters.length) = some 1 := by decide +kernel
theorem qX1_leave_1 : (Cond.fieldLink RX1 15 "DeadAsked$Bodies" "left" "I") ∈ wsX1_leave := List.mem_of_getElem? (i := 1) (by decide +kernel)
theorem qX1_leave_2 : (Cond.fieldLink RX1 11 "DeadAsked$Bodies" "traced" "[I") ∈ wsX1_leave := List.mem_of_getElem? (i := 2) (by decide +kernel)
theorem nX1_leave_1 : ∀ w ∈ u_ws RX1 TX1 7, w ∈ wsX1_leave := fun _ h => (List.mem_cons_of_mem _ (List.mem_append_right _ h))
set_option maxHeartbeats 4000000 in
set_option maxRecDepth 100000 in
theorem kX1_leave (o0 : Nat) (a0 : Nat → Nat) (s0 : St) (p1 : Int32) (sz : Nat) (z0 : St) (hf : fX1_leave s0 p1 = some z0) : Met l yX1_leave wsX1_leave ({ frames := 0, cells := 0, slots := 0, locals := 0 } : Room) (pcW (dC, dI) (q_ty cI cB cZ) [.ref o0, .int p1] (wcB cI o0 a0 s0) sz) (qvW (dC, dI) (q_ty cI cB cZ) (wcB cI o0 a0 s0) (wcB cI o0 a0 z0) sz) 0 0 (va_A (wcB cI o0 a0 s0) sz) := by
  refine q_rwM (cc := cX1_leave) (maxL := 2) (ret := none) (by decide +kernel) rfl (Nat.le_of_ble_eq_true rfl) ?_
  intro p e s m below meth c hx hb hr hlk hml hown hts hK A H hAe hH hsz hP hD hA hS ls hl
  have hown : s.vm.findClass RX1 = some m.cls := hown
  have hl : lv_has ls 2 [(0, .ref o0), (1, .int p1)] := hl
  unfold fX1_leave at hf
  refine lv_aload_n hx hb dX1_leave_0 rfl (lv_at hl 0 rfl) ?_
  refine va_get (D := (dC, dI)) (ci := 1) (v := .int (s0 1 0)) (C := RX1) (T := TX1) (N := 7) hx hb hts nX1_leave_1 hown hK hP 0 rfl rfl 1 (by decide) (hts _ qX1_leave_1) (fun _ h9 => h9) rfl dX1_leave_1 ?_
  refine lv_bipush (v := 16) hx hb dX1_leave_4 (by decide) ?_
  refine lv_icmp_ge (tgt := 29) hx hb dX1_leave_6 (by decide) (fun c1 => ?_) (fun c1 => ?_)
  · have hf := q_t c1 hf
    have ee0 := q_s1 hf
    subst ee0
    exact q_wretV hx hb hr hlk hAe hK hP hD hS dX1_leave_29
  · have hf := q_f c1 hf
    refine lv_aload_n hx hb dX1_leave_9 rfl (lv_at hl 0 rfl) ?_
    refine va_get (D := (dC, dI)) (ci := 1) (v := .ref (a0 0)) (C := RX1) (T := TX1) (N := 7) hx hb hts nX1_leave_1 hown hK hP 0 rfl rfl 0 (by decide) (hts _ qX1_leave_2) (fun _ h9 => h9) rfl dX1_leave_10 ?_
    refine lv_aload_n hx hb dX1_leave_13 rfl (lv_at hl 0 rfl) ?_
    refine va_get (D := (dC, dI)) (ci := 1) (v := .int (s0 1 0)) (C := RX1) (T := TX1) (N := 7) hx hb hts nX1_leave_1 hown hK hP 0 rfl rfl 1 (by decide) (hts _ qX1_leave_1) (fun _ h9 => h9) rfl dX1_leave_14 ?_
    refine lv_iload_n hx hb dX1_leave_17 rfl (lv_at hl 1 rfl) ?_
    obtain ⟨c2, hf⟩ := q_ck hf
    obtain ⟨sn3, esn3, hf⟩ := q_lto hf
    refine va_iast hx hb hK hP hD hS 1 0 rfl rfl c2 dX1_leave_18 (fun H locs hP hD hS => ?_)
    have hP : va_P (dC, dI) vwCl (wcB cI o0 a0 sn3) H := by rw [esn3]; exact hP
    have hD : va_D A (wcB cI o0 a0 sn3) := by rw [esn3]; exact hD
    refine lv_aload_n hx hb dX1_leave_19 rfl (lv_at hl 0 rfl) ?_
    refine lv_dup hx hb dX1_leave_20 rfl ?_
    refine va_get (D := (dC, dI)) (ci := 1) (v := .int (sn3 1 0)) (C := RX1) (T := TX1) (N := 7) hx hb hts nX1_leave_1 hown hK hP 0 rfl rfl 1 (by decide) (hts _ qX1_leave_1) (fun _ h9 => h9) rfl dX1_leave_21 ?_
    refine lv_iconst (v := 1) hx hb dX1_leave_24 (by decide) ?_
    refine lv_iadd hx hb dX1_leave_25 ?_
    obtain ⟨sn4, esn4, hf⟩ := q_lto hf
    refine va_put (D := (dC, dI)) (ci := 1) (v := .int ((sn3 1 0) + (1 : Int32))) (ty := .int) (C := RX1) (T := TX1) (N := 7) hx hb hts nX1_leave_1 tyX1 tyX1_ok nmX1 hown hK hP hD hS 0 rfl rfl 1 (by decide) (hts _ qX1_leave_1) (fun _ h9 => h9) rfl (by decide +kernel) rfl rfl (Nat.le_of_ble_eq_true rfl) dX1_leave_26 (fun H locs hP hD hS => ?_)
    have hP : va_P (dC, dI) vwCl (wcB cI o0 a0 sn4) H := by rw [esn4]; exact hP
    have hD : va_D A (wcB cI o0 a0 sn4) := by rw [esn4]; exact hD
    have ee0 := q_s1 hf
    subst ee0
    exact q_wretV hx hb hr hlk hAe hK hP hD hS dX1_leave_29
theorem hdX1_lentSize : yX1_lentSize.cls = RX1 ∧ yX1_lentSize.cls ≠ "java/lang/invoke/MethodHandle" ∧ yX1_lentSize.cls ≠ "java/lang/invoke/VarHandle" ∧ (parseMethodDescriptor yX1_lentSize.desc).map (fun d => d.parameters.length) = some 0 := by decide +kernel
theorem qX1_lentSize_1 : (Cond.fieldLink RX1 43 "DeadAsked$Bodies" "fruit" "I") ∈ wsX1_lentSize := List.mem_of_getElem? (i := 1) (by decide +kernel)
theorem nX1_lentSize_1 : ∀ w ∈ u_ws RX1 TX1 7, w ∈ wsX1_lentSize := fun _ h => (List.mem_cons_of_mem _ (List.mem_append_right _ h))
set_option maxHeartbeats 4000000 in
set_option maxRecDepth 100000 in
theorem kX1_lentSize (o0 : Nat) (a0 : Nat → Nat) (s0 : St) (sz : Nat) (r : Int32) (z0 : St) (hf : fX1_lentSize s0 = some (r, z0)) : Met l yX1_lentSize wsX1_lentSize ({ frames := 1, cells := 0, slots := 0, locals := 21 } : Room) (pcW (dC, dI) (q_ty cI cB cZ) [.ref o0] (wcB cI o0 a0 s0) sz) (qiW (dC, dI) (q_ty cI cB cZ) (wcB cI o0 a0 s0) (wcB cI o0 a0 z0) sz r) 0 0 (va_A (wcB cI o0 a0 s0) sz) := by
  refine q_rwM (cc := cX1_lentSize) (maxL := 1) (ret := (some .int)) (by decide +kernel) rfl (Nat.le_of_ble_eq_true rfl) ?_
  intro p e s m below meth c hx hb hr hlk hml hown hts hK A H hAe hH hsz hP hD hA hS ls hl
  have hown : s.vm.findClass RX1 = some m.cls := hown
  have hl : lv_has ls 1 [(0, .ref o0)] := hl
  unfold fX1_lentSize at hf
  refine lv_aload_n hx hb dX1_lentSize_0 rfl (lv_at hl 0 rfl) ?_
  refine lv_bipush (v := 10) hx hb dX1_lentSize_1 (by decide) ?_
  obtain ⟨sc1, h2, hf⟩ := q_b1o hf
  refine q_rwVv (As := [.int (10 : Int32)]) (rest := []) (ci := 1) (wr := []) (w2 := (wcB cI o0 a0 sc1)) ⟨hx, hb, hml, hown, hts⟩ (kX1_leave l dC dI cI cB cZ o0 a0 s0 (10 : Int32) H.size sc1 h2) (cwV 1 hts gX1_lentSize_X1_leave rfl rfl rfl hdX1_leave ⟨Nat.le_of_ble_eq_true rfl, Nat.le_of_ble_eq_true rfl⟩) hK hP hD hS hA [0, 1] [] [0, 1] rfl rfl (by decide) (by decide) (by decide) rfl (by decide) rfl rfl rfl hl.1 rfl (Nat.le_of_ble_eq_true rfl) dX1_lentSize_3 ⟨Nat.zero_le _, Nat.zero_le _⟩ (fun H locs hP hD hS => ?_)
  refine lv_aload_n hx hb dX1_lentSize_6 rfl (lv_at hl 0 rfl) ?_
  refine va_get (D := (dC, dI)) (ci := 1) (v := .int (sc1 5 0)) (C := RX1) (T := TX1) (N := 7) hx hb hts nX1_lentSize_1 hown hK hP 0 rfl rfl 5 (by decide) (hts _ qX1_lentSize_1) (fun _ h9 => h9) rfl dX1_lentSize_7 ?_
  obtain ⟨ee0, ee1⟩ := q_s2 hf
  subst ee1
  exact q_wretI hx hb hr hlk hAe hK hP hD hS ee0 dX1_lentSize_10
theorem hdX1_lentMark : yX1_lentMark.cls = RX1 ∧ yX1_lentMark.cls ≠ "java/lang/invoke/MethodHandle" ∧ yX1_lentMark.cls ≠ "java/lang/invoke/VarHandle" ∧ (parseMethodDescriptor yX1_lentMark.desc).map (fun d => d.parameters.length) = some 0 := by decide +kernel
theorem qX1_lentMark_1 : (Cond.fieldLink RX1 25 "DeadAsked$Bodies" "number" "I") ∈ wsX1_lentMark := List.mem_of_getElem? (i := 1) (by decide +kernel)
theorem nX1_lentMark_1 : ∀ w ∈ u_ws RX1 TX1 7, w ∈ wsX1_lentMark := fun _ h => (List.mem_cons_of_mem _ (List.mem_append_right _ h))
set_option maxHeartbeats 4000000 in
set_option maxRecDepth 100000 in
theorem kX1_lentMark (o0 : Nat) (a0 : Nat → Nat) (s0 : St) (sz : Nat) (r : Int32) (z0 : St) (hf : fX1_lentMark s0 = some (r, z0)) : Met l yX1_lentMark wsX1_lentMark ({ frames := 1, cells := 0, slots := 0, locals := 21 } : Room) (pcW (dC, dI) (q_ty cI cB cZ) [.ref o0] (wcB cI o0 a0 s0) sz) (qiW (dC, dI) (q_ty cI cB cZ) (wcB cI o0 a0 s0) (wcB cI o0 a0 z0) sz r) 0 0 (va_A (wcB cI o0 a0 s0) sz) := by
  refine q_rwM (cc := cX1_lentMark) (maxL := 1) (ret := (some .int)) (by decide +kernel) rfl (Nat.le_of_ble_eq_true rfl) ?_
  intro p e s m below meth c hx hb hr hlk hml hown hts hK A H hAe hH hsz hP hD hA hS ls hl
  have hown : s.vm.findClass RX1 = some m.cls := hown
  have hl : lv_has ls 1 [(0, .ref o0)] := hl
  unfold fX1_lentMark at hf
  refine lv_aload_n hx hb dX1_lentMark_0 rfl (lv_at hl 0 rfl) ?_
  refine lv_bipush (v := 20) hx hb dX1_lentMark_1 (by decide) ?_
  obtain ⟨sc1, h2, hf⟩ := q_b1o hf
  refine q_rwVv (As := [.int (20 : Int32)]) (rest := []) (ci := 1) (wr := []) (w2 := (wcB cI o0 a0 sc1)) ⟨hx, hb, hml, hown, hts⟩ (kX1_leave l dC dI cI cB cZ o0 a0 s0 (20 : Int32) H.size sc1 h2) (cwV 1 hts gX1_lentMark_X1_leave rfl rfl rfl hdX1_leave ⟨Nat.le_of_ble_eq_true rfl, Nat.le_of_ble_eq_true rfl⟩) hK hP hD hS hA [0, 1] [] [0, 1] rfl rfl (by decide) (by decide) (by decide) rfl (by decide) rfl rfl rfl hl.1 rfl (Nat.le_of_ble_eq_true rfl) dX1_lentMark_3 ⟨Nat.zero_le _, Nat.zero_le _⟩ (fun H locs hP hD hS => ?_)
  refine lv_aload_n hx hb dX1_lentMark_6 rfl (lv_at hl 0 rfl) ?_
  refine va_get (D := (dC, dI)) (ci := 1) (v := .int (sc1 2 0)) (C := RX1) (T := TX1) (N := 7) hx hb hts nX1_lentMark_1 hown hK hP 0 rfl rfl 2 (by decide) (hts _ qX1_lentMark_1) (fun _ h9 => h9) rfl dX1_lentMark_7 ?_
  obtain ⟨ee0, ee1⟩ := q_s2 hf
  subst ee1
  exact q_wretI hx hb hr hlk hAe hK hP hD hS ee0 dX1_lentMark_10
theorem hdX1_pearMark : yX1_pearMark.cls = RX1 ∧ yX1_pearMark.cls ≠ "java/lang/invoke/MethodHandle" ∧ yX1_pearMark.cls ≠ "java/lang/invoke/VarHandle" ∧ (parseMethodDescriptor yX1_pearMark.desc).map (fun d => d.parameters.length) = some 0 := by decide +kernel
theorem qX1_pearMark_1 : (Cond.fieldLink RX1 37 "DeadAsked$Bodies" "x" "I") ∈ wsX1_pearMark := List.mem_of_getElem? (i := 1) (by decide +kernel)
theorem nX1_pearMark_1 : ∀ w ∈ u_ws RX1 TX1 7, w ∈ wsX1_pearMark := fun _ h => (List.mem_cons_of_mem _ (List.mem_append_right _ h))
set_option maxHeartbeats 4000000 in
set_option maxRecDepth 100000 in
theorem kX1_pearMark (o0 : Nat) (a0 : Nat → Nat) (s0 : St) (sz : Nat) (r : Int32) (z0 : St) (hf : fX1_pearMark s0 = some (r, z0)) : Met l yX1_pearMark wsX1_pearMark ({ frames := 2, cells := 0, slots := 0, locals := 41 } : Room) (pcW (dC, dI) (q_ty cI cB cZ) [.ref o0] (wcB cI o0 a0 s0) sz) (qiW (dC, dI) (q_ty cI cB cZ) (wcB cI o0 a0 s0) (wcB cI o0 a0 z0) sz r) 0 0 (va_A (wcB cI o0 a0 s0) sz) := by
  refine q_rwM (cc := cX1_pearMark) (maxL := 1) (ret := (some .int)) (by decide +kernel) rfl (Nat.le_of_ble_eq_true rfl) ?_
  intro p e s m below meth c hx hb hr hlk hml hown hts hK A H hAe hH hsz hP hD hA hS ls hl
  have hown : s.vm.findClass RX1 = some m.cls := hown
  have hl : lv_has ls 1 [(0, .ref o0)] := hl
  unfold fX1_pearMark at hf
  refine lv_aload_n hx hb dX1_pearMark_0 rfl (lv_at hl 0 rfl) ?_
  refine lv_bipush (v := 21) hx hb dX1_pearMark_1 (by decide) ?_
  obtain ⟨sc1, h2, hf⟩ := q_b1o hf
  refine q_rwVv (As := [.int (21 : Int32)]) (rest := []) (ci := 1) (wr := []) (w2 := (wcB cI o0 a0 sc1)) ⟨hx, hb, hml, hown, hts⟩ (kX1_leave l dC dI cI cB cZ o0 a0 s0 (21 : Int32) H.size sc1 h2) (cwV 1 hts gX1_pearMark_X1_leave rfl rfl rfl hdX1_leave ⟨Nat.le_of_ble_eq_true rfl, Nat.le_of_ble_eq_true rfl⟩) hK hP hD hS hA [0, 1] [] [0, 1] rfl rfl (by decide) (by decide) (by decide) rfl (by decide) rfl rfl rfl hl.1 rfl (Nat.le_of_ble_eq_true rfl) dX1_pearMark_3 ⟨Nat.zero_le _, Nat.zero_le _⟩ (fun H locs hP hD hS => ?_)
  refine lv_aload_n hx hb dX1_pearMark_6 rfl (lv_at hl 0 rfl) ?_
  obtain ⟨r3, sc4, h5, hf⟩ := q_b2o hf
  refine q_rwVi (As := []) (rest := []) (ci := 1) (wr := []) (w2 := (wcB cI o0 a0 sc4)) ⟨hx, hb, hml, hown, hts⟩ (kX1_lentMark l dC dI cI cB cZ o0 a0 sc1 H.size r3 sc4 h5) (cwV 0 hts gX1_pearMark_X1_lentMark rfl rfl rfl hdX1_lentMark ⟨Nat.le_of_ble_eq_true rfl, Nat.le_of_ble_eq_true rfl⟩) hK hP hD hS hA [0, 1] [] [0, 1] rfl rfl (by decide) (by decide) (by decide) rfl (by decide) rfl rfl rfl hl.1 rfl (Nat.le_of_ble_eq_true rfl) dX1_pearMark_7 ⟨Nat.zero_le _, Nat.zero_le _⟩ (fun H locs hP hD hS => ?_)
  refine lv_aload_n hx hb dX1_pearMark_10 rfl (lv_at hl 0 rfl) ?_
  refine va_get (D := (dC, dI)) (ci := 1) (v := .int (sc4 4 0)) (C := RX1) (T := TX1) (N := 7) hx hb hts nX1_pearMark_1 hown hK hP 0 rfl rfl 4 (by decide) (hts _ qX1_pearMark_1) (fun _ h9 => h9) rfl dX1_pearMark_11 ?_
  refine lv_iadd hx hb dX1_pearMark_14 ?_
  obtain ⟨ee0, ee1⟩ := q_s2 hf
  subst ee1
  exact q_wretI hx hb hr hlk hAe hK hP hD hS ee0 dX1_pearMark_15
theorem hdX1_nutMark : yX1_nutMark.cls = RX1 ∧ yX1_nutMark.cls ≠ "java/lang/invoke/MethodHandle" ∧ yX1_nutMark.cls ≠ "java/lang/invoke/VarHandle" ∧ (parseMethodDescriptor yX1_nutMark.desc).map (fun d => d.parameters.length) = some 0 := by decide +kernel
set_option maxHeartbeats 4000000 in
set_option maxRecDepth 100000 in
theorem kX1_nutMark (o0 : Nat) (a0 : Nat → Nat) (s0 : St) (sz : Nat) (r : Int32) (z0 : St) (hf : fX1_nutMark s0 = some (r, z0)) : Met l yX1_nutMark wsX1_nutMark ({ frames := 3, cells := 0, slots := 0, locals := 61 } : Room) (pcW (dC, dI) (q_ty cI cB cZ) [.ref o0] (wcB cI o0 a0 s0) sz) (qiW (dC, dI) (q_ty cI cB cZ) (wcB cI o0 a0 s0) (wcB cI o0 a0 z0) sz r) 0 0 (va_A (wcB cI o0 a0 s0) sz) := by
  refine q_rwM (cc := cX1_nutMark) (maxL := 1) (ret := (some .int)) (by decide +kernel) rfl (Nat.le_of_ble_eq_true rfl) ?_
  intro p e s m below meth c hx hb hr hlk hml hown hts hK A H hAe hH hsz hP hD hA hS ls hl
  have hown : s.vm.findClass RX1 = some m.cls := hown
  have hl : lv_has ls 1 [(0, .ref o0)] := hl
  unfold fX1_nutMark at hf
  refine lv_aload_n hx hb dX1_nutMark_0 rfl (lv_at hl 0 rfl) ?_
  refine lv_bipush (v := 22) hx hb dX1_nutMark_1 (by decide) ?_
  obtain ⟨sc1, h2, hf⟩ := q_b1o hf
  refine q_rwVv (As := [.int (22 : Int32)]) (rest := []) (ci := 1) (wr := []) (w2 := (wcB cI o0 a0 sc1)) ⟨hx, hb, hml, hown, hts⟩ (kX1_leave l dC dI cI cB cZ o0 a0 s0 (22 : Int32) H.size sc1 h2) (cwV 1 hts gX1_nutMark_X1_leave rfl rfl rfl hdX1_leave ⟨Nat.le_of_ble_eq_true rfl, Nat.le_of_ble_eq_true rfl⟩) hK hP hD hS hA [0, 1] [] [0, 1] rfl rfl (by decide) (by decide) (by decide) rfl (by decide) rfl rfl rfl hl.1 rfl (Nat.le_of_ble_eq_true rfl) dX1_nutMark_3 ⟨Nat.zero_le _, Nat.zero_le _⟩ (fun H locs hP hD hS => ?_)
  refine lv_aload_n hx hb dX1_nutMark_6 rfl (lv_at hl 0 rfl) ?_
  obtain ⟨r3, sc4, h5, hf⟩ := q_b2o hf
  refine q_rwVi (As := []) (rest := []) (ci := 1) (wr := []) (w2 := (wcB cI o0 a0 sc4)) ⟨hx, hb, hml, hown, hts⟩ (kX1_pearMark l dC dI cI cB cZ o0 a0 sc1 H.size r3 sc4 h5) (cwV 0 hts gX1_nutMark_X1_pearMark rfl rfl rfl hdX1_pearMark ⟨Nat.le_of_ble_eq_true rfl, Nat.le_of_ble_eq_true rfl⟩) hK hP hD hS hA [0, 1] [] [0, 1] rfl rfl (by decide) (by decide) (by decide) rfl (by decide) rfl rfl rfl hl.1 rfl (Nat.le_of_ble_eq_true rfl) dX1_nutMark_7 ⟨Nat.zero_le _, Nat.zero_le _⟩ (fun H locs hP hD hS => ?_)
  refine lv_sipush (v := 1000) hx hb dX1_nutMark_10 (by decide) ?_
  refine lv_isub hx hb dX1_nutMark_13 ?_
  obtain ⟨ee0, ee1⟩ := q_s2 hf
  subst ee1
  exact q_wretI hx hb hr hlk hAe hK hP hD hS ee0 dX1_nutMark_14
theorem hdX1_ashMark : yX1_ashMark.cls = RX1 ∧ yX1_ashMark.cls ≠ "java/lang/invoke/MethodHandle" ∧ yX1_ashMark.cls ≠ "java/lang/invoke/VarHandle" ∧ (parseMethodDescriptor yX1_ashMark.desc).map (fun d => d.parameters.length) = some 0 := by decide +kernel
theorem qX1_ashMark_1 : (Cond.fieldLink RX1 49 "DeadAsked$Bodies" "loose" "I") ∈ wsX1_ashMark := List.mem_of_getElem? (i := 1) (by decide +kernel)
theorem nX1_ashMark_1 : ∀ w ∈ u_ws RX1 TX1 7, w ∈ wsX1_ashMark := fun _ h => (List.mem_cons_of_mem _ (List.mem_append_right _ h))
set_option maxHeartbeats 4000000 in
set_option maxRecDepth 100000 in
theorem kX1_ashMark (o0 : Nat) (a0 : Nat → Nat) (s0 : St) (sz : Nat) (r : Int32) (z0 : St) (hf : fX1_ashMark s0 = some (r, z0)) : Met l yX1_ashMark wsX1_ashMark ({ frames := 2, cells := 0, slots := 0, locals := 41 } : Room) (pcW (dC, dI) (q_ty cI cB cZ) [.ref o0] (wcB cI o0 a0 s0) sz) (qiW (dC, dI) (q_ty cI cB cZ) (wcB cI o0 a0 s0) (wcB cI o0 a0 z0) sz r) 0 0 (va_A (wcB cI o0 a0 s0) sz) := by
  refine q_rwM (cc := cX1_ashMark) (maxL := 1) (ret := (some .int)) (by decide +kernel) rfl (Nat.le_of_ble_eq_true rfl) ?_
  intro p e s m below meth c hx hb hr hlk hml hown hts hK A H hAe hH hsz hP hD hA hS ls hl
  have hown : s.vm.findClass RX1 = some m.cls := hown
  have hl : lv_has ls 1 [(0, .ref o0)] := hl
  unfold fX1_ashMark at hf
  refine lv_aload_n hx hb dX1_ashMark_0 rfl (lv_at hl 0 rfl) ?_
  refine lv_bipush (v := 23) hx hb dX1_ashMark_1 (by decide) ?_
  obtain ⟨sc1, h2, hf⟩ := q_b1o hf
  refine q_rwVv (As := [.int (23 : Int32)]) (rest := []) (ci := 1) (wr := []) (w2 := (wcB cI o0 a0 sc1)) ⟨hx, hb, hml, hown, hts⟩ (kX1_leave l dC dI cI cB cZ o0 a0 s0 (23 : Int32) H.size sc1 h2) (cwV 1 hts gX1_ashMark_X1_leave rfl rfl rfl hdX1_leave ⟨Nat.le_of_ble_eq_true rfl, Nat.le_of_ble_eq_true rfl⟩) hK hP hD hS hA [0, 1] [] [0, 1] rfl rfl (by decide) (by decide) (by decide) rfl (by decide) rfl rfl rfl hl.1 rfl (Nat.le_of_ble_eq_true rfl) dX1_ashMark_3 ⟨Nat.zero_le _, Nat.zero_le _⟩ (fun H locs hP hD hS => ?_)
  refine lv_aload_n hx hb dX1_ashMark_6 rfl (lv_at hl 0 rfl) ?_
  obtain ⟨r3, sc4, h5, hf⟩ := q_b2o hf
  refine q_rwVi (As := []) (rest := []) (ci := 1) (wr := []) (w2 := (wcB cI o0 a0 sc4)) ⟨hx, hb, hml, hown, hts⟩ (kX1_lentMark l dC dI cI cB cZ o0 a0 sc1 H.size r3 sc4 h5) (cwV 0 hts gX1_ashMark_X1_lentMark rfl rfl rfl hdX1_lentMark ⟨Nat.le_of_ble_eq_true rfl, Nat.le_of_ble_eq_true rfl⟩) hK hP hD hS hA [0, 1] [] [0, 1] rfl rfl (by decide) (by decide) (by decide) rfl (by decide) rfl rfl rfl hl.1 rfl (Nat.le_of_ble_eq_true rfl) dX1_ashMark_7 ⟨Nat.zero_le _, Nat.zero_le _⟩ (fun H locs hP hD hS => ?_)
  refine lv_bipush (v := 10) hx hb dX1_ashMark_10 (by decide) ?_
  refine lv_aload_n hx hb dX1_ashMark_12 rfl (lv_at hl 0 rfl) ?_
  refine va_get (D := (dC, dI)) (ci := 1) (v := .int (sc4 6 0)) (C := RX1) (T := TX1) (N := 7) hx hb hts nX1_ashMark_1 hown hK hP 0 rfl rfl 6 (by decide) (hts _ qX1_ashMark_1) (fun _ h9 => h9) rfl dX1_ashMark_13 ?_
  refine lv_imul hx hb dX1_ashMark_16 ?_
  refine lv_iadd hx hb dX1_ashMark_17 ?_
  obtain ⟨ee0, ee1⟩ := q_s2 hf
  subst ee1
  exact q_wretI hx hb hr hlk hAe hK hP hD hS ee0 dX1_ashMark_18
theorem hdX1_mark : yX1_mark.cls = RX1 ∧ yX1_mark.cls ≠ "java/lang/invoke/MethodHandle" ∧ yX1_mark.cls ≠ "java/lang/invoke/VarHandle" ∧ (parseMethodDescriptor yX1_mark.desc).map (fun d => d.parameters.length) = some 0 := by decide +kernel
theorem qX1_mark_1 : (Cond.fieldLink RX1 31 "DeadAsked$Bodies" "kind" "I") ∈ wsX1_mark := List.mem_of_getElem? (i := 1) (by decide +kernel)
theorem nX1_mark_1 : ∀ w ∈ u_ws RX1 TX1 7, w ∈ wsX1_mark := fun _ h => (List.mem_cons_of_mem _ (List.mem_append_right _ h))
set_option maxHeartbeats 4000000 in
set_option maxRecDepth 100000 in
theorem kX1_mark (o0 : Nat) (a0 : Nat → Nat) (s0 : St) (sz : Nat) (r : Int32) (z0 : St) (hf : fX1_mark s0 = some (r, z0)) : Met l yX1_mark wsX1_mark ({ frames := 4, cells := 0, slots := 0, locals := 81 } : Room) (pcW (dC, dI) (q_ty cI cB cZ) [.ref o0] (wcB cI o0 a0 s0) sz) (qiW (dC, dI) (q_ty cI cB cZ) (wcB cI o0 a0 s0) (wcB cI o0 a0 z0) sz r) 0 0 (va_A (wcB cI o0 a0 s0) sz) := by
  refine q_rwM (cc := cX1_mark) (maxL := 1) (ret := (some .int)) (by decide +kernel) rfl (Nat.le_of_ble_eq_true rfl) ?_
  intro p e s m below meth c hx hb hr hlk hml hown hts hK A H hAe hH hsz hP hD hA hS ls hl
  have hown : s.vm.findClass RX1 = some m.cls := hown
  have hl : lv_has ls 1 [(0, .ref o0)] := hl
  unfold fX1_mark at hf
  refine lv_aload_n hx hb dX1_mark_0 rfl (lv_at hl 0 rfl) ?_
  refine va_get (D := (dC, dI)) (ci := 1) (v := .int (s0 3 0)) (C := RX1) (T := TX1) (N := 7) hx hb hts nX1_mark_1 hown hK hP 0 rfl rfl 3 (by decide) (hts _ qX1_mark_1) (fun _ h9 => h9) rfl dX1_mark_1 ?_
  by_cases c1 : s0 3 0 = (1 : Int32)
  · have hf := q_t c1 hf
    refine lv_tableIn (off := 36) (tgt := 40) hx hb dX1_mark_4 (by rw [c1]; decide) (by rw [c1]; decide) (by rw [c1]; decide) (by decide) ?_
    refine lv_aload_n hx hb dX1_mark_40 rfl (lv_at hl 0 rfl) ?_
    obtain ⟨r2, sc3, h4, hf⟩ := q_b2o hf
    refine q_rwVi (As := []) (rest := []) (ci := 1) (wr := []) (w2 := (wcB cI o0 a0 sc3)) ⟨hx, hb, hml, hown, hts⟩ (kX1_pearMark l dC dI cI cB cZ o0 a0 s0 H.size r2 sc3 h4) (cwV 0 hts gX1_mark_X1_pearMark rfl rfl rfl hdX1_pearMark ⟨Nat.le_of_ble_eq_true rfl, Nat.le_of_ble_eq_true rfl⟩) hK hP hD hS hA [0, 1] [] [0, 1] rfl rfl (by decide) (by decide) (by decide) rfl (by decide) rfl rfl rfl hl.1 rfl (Nat.le_of_ble_eq_true rfl) dX1_mark_41 ⟨Nat.zero_le _, Nat.zero_le _⟩ (fun H locs hP hD hS => ?_)
    obtain ⟨ee0, ee1⟩ := q_s2 hf
    subst ee1
    exact q_wretI hx hb hr hlk hAe hK hP hD hS ee0 dX1_mark_44
  · have hf := q_f c1 hf
    by_cases c5 : s0 3 0 = (2 : Int32)
    · have hf := q_t c5 hf
      refine lv_tableIn (off := 41) (tgt := 45) hx hb dX1_mark_4 (by rw [c5]; decide) (by rw [c5]; decide) (by rw [c5]; decide) (by decide) ?_
      refine lv_aload_n hx hb dX1_mark_45 rfl (lv_at hl 0 rfl) ?_
      obtain ⟨r6, sc7, h8, hf⟩ := q_b2o hf
      refine q_rwVi (As := []) (rest := []) (ci := 1) (wr := []) (w2 := (wcB cI o0 a0 sc7)) ⟨hx, hb, hml, hown, hts⟩ (kX1_nutMark l dC dI cI cB cZ o0 a0 s0 H.size r6 sc7 h8) (cwV 0 hts gX1_mark_X1_nutMark rfl rfl rfl hdX1_nutMark ⟨Nat.le_of_ble_eq_true rfl, Nat.le_of_ble_eq_true rfl⟩) hK hP hD hS hA [0, 1] [] [0, 1] rfl rfl (by decide) (by decide) (by decide) rfl (by decide) rfl rfl rfl hl.1 rfl (Nat.le_of_ble_eq_true rfl) dX1_mark_46 ⟨Nat.zero_le _, Nat.zero_le _⟩ (fun H locs hP hD hS => ?_)
      obtain ⟨ee0, ee1⟩ := q_s2 hf
      subst ee1
      exact q_wretI hx hb hr hlk hAe hK hP hD hS ee0 dX1_mark_49
    · have hf := q_f c5 hf
      by_cases c9 : s0 3 0 = (3 : Int32)
      · have hf := q_t c9 hf
        refine lv_tableIn (off := 46) (tgt := 50) hx hb dX1_mark_4 (by rw [c9]; decide) (by rw [c9]; decide) (by rw [c9]; decide) (by decide) ?_
        refine lv_aload_n hx hb dX1_mark_50 rfl (lv_at hl 0 rfl) ?_
        refine lv_bipush (v := 24) hx hb dX1_mark_51 (by decide) ?_
        obtain ⟨sc10, h11, hf⟩ := q_b1o hf
        refine q_rwVv (As := [.int (24 : Int32)]) (rest := []) (ci := 1) (wr := []) (w2 := (wcB cI o0 a0 sc10)) ⟨hx, hb, hml, hown, hts⟩ (kX1_leave l dC dI cI cB cZ o0 a0 s0 (24 : Int32) H.size sc10 h11) (cwV 1 hts gX1_mark_X1_leave rfl rfl rfl hdX1_leave ⟨Nat.le_of_ble_eq_true rfl, Nat.le_of_ble_eq_true rfl⟩) hK hP hD hS hA [0, 1] [] [0, 1] rfl rfl (by decide) (by decide) (by decide) rfl (by decide) rfl rfl rfl hl.1 rfl (Nat.le_of_ble_eq_true rfl) dX1_mark_53 ⟨Nat.zero_le _, Nat.zero_le _⟩ (fun H locs hP hD hS => ?_)
        refine lv_iconst (v := 2) hx hb dX1_mark_56 (by decide) ?_
        refine lv_aload_n hx hb dX1_mark_57 rfl (lv_at hl 0 rfl) ?_
        obtain ⟨r12, sc13, h14, hf⟩ := q_b2o hf
        refine q_rwVi (As := []) (rest := [.int (2 : Int32)]) (ci := 1) (wr := []) (w2 := (wcB cI o0 a0 sc13)) ⟨hx, hb, hml, hown, hts⟩ (kX1_nutMark l dC dI cI cB cZ o0 a0 sc10 H.size r12 sc13 h14) (cwV 0 hts gX1_mark_X1_nutMark rfl rfl rfl hdX1_nutMark ⟨Nat.le_of_ble_eq_true rfl, Nat.le_of_ble_eq_true rfl⟩) hK hP hD hS hA [0, 1] [] [0, 1] rfl rfl (by decide) (by decide) (by decide) rfl (by decide) rfl rfl rfl hl.1 rfl (Nat.le_of_ble_eq_true rfl) dX1_mark_58 ⟨Nat.zero_le _, Nat.zero_le _⟩ (fun H locs hP hD hS => ?_)
        refine lv_imul hx hb dX1_mark_61 ?_
        obtain ⟨ee0, ee1⟩ := q_s2 hf
        subst ee1
        exact q_wretI hx hb hr hlk hAe hK hP hD hS ee0 dX1_mark_62
      · have hf := q_f c9 hf
        by_cases c15 : s0 3 0 = (4 : Int32)
        · have hf := q_t c15 hf
          refine lv_tableIn (off := 59) (tgt := 63) hx hb dX1_mark_4 (by rw [c15]; decide) (by rw [c15]; decide) (by rw [c15]; decide) (by decide) ?_
          refine lv_aload_n hx hb dX1_mark_63 rfl (lv_at hl 0 rfl) ?_
          obtain ⟨r16, sc17, h18, hf⟩ := q_b2o hf
          refine q_rwVi (As := []) (rest := []) (ci := 1) (wr := []) (w2 := (wcB cI o0 a0 sc17)) ⟨hx, hb, hml, hown, hts⟩ (kX1_ashMark l dC dI cI cB cZ o0 a0 s0 H.size r16 sc17 h18) (cwV 0 hts gX1_mark_X1_ashMark rfl rfl rfl hdX1_ashMark ⟨Nat.le_of_ble_eq_true rfl, Nat.le_of_ble_eq_true rfl⟩) hK hP hD hS hA [0, 1] [] [0, 1] rfl rfl (by decide) (by decide) (by decide) rfl (by decide) rfl rfl rfl hl.1 rfl (Nat.le_of_ble_eq_true rfl) dX1_mark_64 ⟨Nat.zero_le _, Nat.zero_le _⟩ (fun H locs hP hD hS => ?_)
          obtain ⟨ee0, ee1⟩ := q_s2 hf
          subst ee1
          exact q_wretI hx hb hr hlk hAe hK hP hD hS ee0 dX1_mark_67
        · have hf := q_f c15 hf
          by_cases c19 : s0 3 0 = (5 : Int32)
          · have hf := q_t c19 hf
            refine lv_tableIn (off := 59) (tgt := 63) hx hb dX1_mark_4 (by rw [c19]; decide) (by rw [c19]; decide) (by rw [c19]; decide) (by decide) ?_
            refine lv_aload_n hx hb dX1_mark_63 rfl (lv_at hl 0 rfl) ?_
            obtain ⟨r20, sc21, h22, hf⟩ := q_b2o hf
            refine q_rwVi (As := []) (rest := []) (ci := 1) (wr := []) (w2 := (wcB cI o0 a0 sc21)) ⟨hx, hb, hml, hown, hts⟩ (kX1_ashMark l dC dI cI cB cZ o0 a0 s0 H.size r20 sc21 h22) (cwV 0 hts gX1_mark_X1_ashMark rfl rfl rfl hdX1_ashMark ⟨Nat.le_of_ble_eq_true rfl, Nat.le_of_ble_eq_true rfl⟩) hK hP hD hS hA [0, 1] [] [0, 1] rfl rfl (by decide) (by decide) (by decide) rfl (by decide) rfl rfl rfl hl.1 rfl (Nat.le_of_ble_eq_true rfl) dX1_mark_64 ⟨Nat.zero_le _, Nat.zero_le _⟩ (fun H locs hP hD hS => ?_)
            obtain ⟨ee0, ee1⟩ := q_s2 hf
            subst ee1
            exact q_wretI hx hb hr hlk hAe hK hP hD hS ee0 dX1_mark_67
          · have hf := q_f c19 hf
            refine lv_tableOut (tgt := 68) hx hb dX1_mark_4 (q_tso (x := s0 3 0) (lo := 1) (n := 5) (by intro k hk; match k, hk with | 0, _ => exact c1 | 1, _ => exact c5 | 2, _ => exact c9 | 3, _ => exact c15 | 4, _ => exact c19 | k + 5, hk => exact absurd hk (by omega)) (by decide)) (by decide) ?_
            refine lv_aload_n hx hb dX1_mark_68 rfl (lv_at hl 0 rfl) ?_
            obtain ⟨r23, sc24, h25, hf⟩ := q_b2o hf
            refine q_rwVi (As := []) (rest := []) (ci := 1) (wr := []) (w2 := (wcB cI o0 a0 sc24)) ⟨hx, hb, hml, hown, hts⟩ (kX1_lentMark l dC dI cI cB cZ o0 a0 s0 H.size r23 sc24 h25) (cwV 0 hts gX1_mark_X1_lentMark rfl rfl rfl hdX1_lentMark ⟨Nat.le_of_ble_eq_true rfl, Nat.le_of_ble_eq_true rfl⟩) hK hP hD hS hA [0, 1] [] [0, 1] rfl rfl (by decide) (by decide) (by decide) rfl (by decide) rfl rfl rfl hl.1 rfl (Nat.le_of_ble_eq_true rfl) dX1_mark_69 ⟨Nat.zero_le _, Nat.zero_le _⟩ (fun H locs hP hD hS => ?_)
            obtain ⟨ee0, ee1⟩ := q_s2 hf
            subst ee1
            exact q_wretI hx hb hr hlk hAe hK hP hD hS ee0 dX1_mark_72
theorem hdX1_pearSize : yX1_pearSize.cls = RX1 ∧ yX1_pearSize.cls ≠ "java/lang/invoke/MethodHandle" ∧ yX1_pearSize.cls ≠ "java/lang/invoke/VarHandle" ∧ (parseMethodDescriptor yX1_pearSize.desc).map (fun d => d.parameters.length) = some 0 := by decide +kernel
set_option maxHeartbeats 4000000 in
set_option maxRecDepth 100000 in
theorem kX1_pearSize (o0 : Nat) (a0 : Nat → Nat) (s0 : St) (sz : Nat) (r : Int32) (z0 : St) (hf : fX1_pearSize s0 = some (r, z0)) : Met l yX1_pearSize wsX1_pearSize ({ frames := 5, cells := 0, slots := 0, locals := 101 } : Room) (pcW (dC, dI) (q_ty cI cB cZ) [.ref o0] (wcB cI o0 a0 s0) sz) (qiW (dC, dI) (q_ty cI cB cZ) (wcB cI o0 a0 s0) (wcB cI o0 a0 z0) sz r) 0 0 (va_A (wcB cI o0 a0 s0) sz) := by
  refine q_rwM (cc := cX1_pearSize) (maxL := 2) (ret := (some .int)) (by decide +kernel) rfl (Nat.le_of_ble_eq_true rfl) ?_
  intro p e s m below meth c hx hb hr hlk hml hown hts hK A H hAe hH hsz hP hD hA hS ls hl
  have hown : s.vm.findClass RX1 = some m.cls := hown
  have hl : lv_has ls 2 [(0, .ref o0)] := hl
  unfold fX1_pearSize at hf
  refine lv_aload_n hx hb dX1_pearSize_0 rfl (lv_at hl 0 rfl) ?_
  refine lv_bipush (v := 11) hx hb dX1_pearSize_1 (by decide) ?_
  obtain ⟨sc1, h2, hf⟩ := q_b1o hf
  refine q_rwVv (As := [.int (11 : Int32)]) (rest := []) (ci := 1) (wr := []) (w2 := (wcB cI o0 a0 sc1)) ⟨hx, hb, hml, hown, hts⟩ (kX1_leave l dC dI cI cB cZ o0 a0 s0 (11 : Int32) H.size sc1 h2) (cwV 1 hts gX1_pearSize_X1_leave rfl rfl rfl hdX1_leave ⟨Nat.le_of_ble_eq_true rfl, Nat.le_of_ble_eq_true rfl⟩) hK hP hD hS hA [0, 1] [] [0, 1] rfl rfl (by decide) (by decide) (by decide) rfl (by decide) rfl rfl rfl hl.1 rfl (Nat.le_of_ble_eq_true rfl) dX1_pearSize_3 ⟨Nat.zero_le _, Nat.zero_le _⟩ (fun H locs hP hD hS => ?_)
  refine lv_aload_n hx hb dX1_pearSize_6 rfl (lv_at hl 0 rfl) ?_
  obtain ⟨r3, sc4, h5, hf⟩ := q_b2o hf
  refine q_rwVi (As := []) (rest := []) (ci := 1) (wr := []) (w2 := (wcB cI o0 a0 sc4)) ⟨hx, hb, hml, hown, hts⟩ (kX1_lentSize l dC dI cI cB cZ o0 a0 sc1 H.size r3 sc4 h5) (cwV 0 hts gX1_pearSize_X1_lentSize rfl rfl rfl hdX1_lentSize ⟨Nat.le_of_ble_eq_true rfl, Nat.le_of_ble_eq_true rfl⟩) hK hP hD hS hA [0, 1] [] [0, 1] rfl rfl (by decide) (by decide) (by decide) rfl (by decide) rfl rfl rfl hl.1 rfl (Nat.le_of_ble_eq_true rfl) dX1_pearSize_7 ⟨Nat.zero_le _, Nat.zero_le _⟩ (fun H locs hP hD hS => ?_)
  refine lv_istore_n (lv' := [(1, .int r3), (0, .ref o0)]) hx hb dX1_pearSize_10 rfl hl (by decide) rfl (fun ls hl => ?_)
  refine lv_iload_n hx hb dX1_pearSize_11 rfl (lv_at hl 0 rfl) ?_
  refine lv_aload_n hx hb dX1_pearSize_12 rfl (lv_at hl 1 rfl) ?_
  obtain ⟨r6, sc7, h8, hf⟩ := q_b2o hf
  refine q_rwVi (As := []) (rest := [.int r3]) (ci := 1) (wr := []) (w2 := (wcB cI o0 a0 sc7)) ⟨hx, hb, hml, hown, hts⟩ (kX1_mark l dC dI cI cB cZ o0 a0 sc4 H.size r6 sc7 h8) (cwV 0 hts gX1_pearSize_X1_mark rfl rfl rfl hdX1_mark ⟨Nat.le_of_ble_eq_true rfl, Nat.le_of_ble_eq_true rfl⟩) hK hP hD hS hA [0, 1] [] [0, 1] rfl rfl (by decide) (by decide) (by decide) rfl (by decide) rfl rfl rfl hl.1 rfl (Nat.le_of_ble_eq_true rfl) dX1_pearSize_13 ⟨Nat.zero_le _, Nat.zero_le _⟩ (fun H locs hP hD hS => ?_)
  refine lv_iadd hx hb dX1_pearSize_16 ?_
  obtain ⟨ee0, ee1⟩ := q_s2 hf
  subst ee1
  exact q_wretI hx hb hr hlk hAe hK hP hD hS ee0 dX1_pearSize_17
theorem hdX1_ashSize : yX1_ashSize.cls = RX1 ∧ yX1_ashSize.cls ≠ "java/lang/invoke/MethodHandle" ∧ yX1_ashSize.cls ≠ "java/lang/invoke/VarHandle" ∧ (parseMethodDescriptor yX1_ashSize.desc).map (fun d => d.parameters.length) = some 0 := by decide +kernel
set_option maxHeartbeats 4000000 in
set_option maxRecDepth 100000 in
theorem kX1_ashSize (o0 : Nat) (a0 : Nat → Nat) (s0 : St) (sz : Nat) (r : Int32) (z0 : St) (hf : fX1_ashSize s0 = some (r, z0)) : Met l yX1_ashSize wsX1_ashSize ({ frames := 5, cells := 0, slots := 0, locals := 101 } : Room) (pcW (dC, dI) (q_ty cI cB cZ) [.ref o0] (wcB cI o0 a0 s0) sz) (qiW (dC, dI) (q_ty cI cB cZ) (wcB cI o0 a0 s0) (wcB cI o0 a0 z0) sz r) 0 0 (va_A (wcB cI o0 a0 s0) sz) := by
  refine q_rwM (cc := cX1_ashSize) (maxL := 2) (ret := (some .int)) (by decide +kernel) rfl (Nat.le_of_ble_eq_true rfl) ?_
  intro p e s m below meth c hx hb hr hlk hml hown hts hK A H hAe hH hsz hP hD hA hS ls hl
  have hown : s.vm.findClass RX1 = some m.cls := hown
  have hl : lv_has ls 2 [(0, .ref o0)] := hl
  unfold fX1_ashSize at hf
  refine lv_aload_n hx hb dX1_ashSize_0 rfl (lv_at hl 0 rfl) ?_
  refine lv_bipush (v := 13) hx hb dX1_ashSize_1 (by decide) ?_
  obtain ⟨sc1, h2, hf⟩ := q_b1o hf
  refine q_rwVv (As := [.int (13 : Int32)]) (rest := []) (ci := 1) (wr := []) (w2 := (wcB cI o0 a0 sc1)) ⟨hx, hb, hml, hown, hts⟩ (kX1_leave l dC dI cI cB cZ o0 a0 s0 (13 : Int32) H.size sc1 h2) (cwV 1 hts gX1_ashSize_X1_leave rfl rfl rfl hdX1_leave ⟨Nat.le_of_ble_eq_true rfl, Nat.le_of_ble_eq_true rfl⟩) hK hP hD hS hA [0, 1] [] [0, 1] rfl rfl (by decide) (by decide) (by decide) rfl (by decide) rfl rfl rfl hl.1 rfl (Nat.le_of_ble_eq_true rfl) dX1_ashSize_3 ⟨Nat.zero_le _, Nat.zero_le _⟩ (fun H locs hP hD hS => ?_)
  refine lv_aload_n hx hb dX1_ashSize_6 rfl (lv_at hl 0 rfl) ?_
  obtain ⟨r3, sc4, h5, hf⟩ := q_b2o hf
  refine q_rwVi (As := []) (rest := []) (ci := 1) (wr := []) (w2 := (wcB cI o0 a0 sc4)) ⟨hx, hb, hml, hown, hts⟩ (kX1_lentSize l dC dI cI cB cZ o0 a0 sc1 H.size r3 sc4 h5) (cwV 0 hts gX1_ashSize_X1_lentSize rfl rfl rfl hdX1_lentSize ⟨Nat.le_of_ble_eq_true rfl, Nat.le_of_ble_eq_true rfl⟩) hK hP hD hS hA [0, 1] [] [0, 1] rfl rfl (by decide) (by decide) (by decide) rfl (by decide) rfl rfl rfl hl.1 rfl (Nat.le_of_ble_eq_true rfl) dX1_ashSize_7 ⟨Nat.zero_le _, Nat.zero_le _⟩ (fun H locs hP hD hS => ?_)
  refine lv_istore_n (lv' := [(1, .int r3), (0, .ref o0)]) hx hb dX1_ashSize_10 rfl hl (by decide) rfl (fun ls hl => ?_)
  refine lv_iload_n hx hb dX1_ashSize_11 rfl (lv_at hl 0 rfl) ?_
  refine lv_aload_n hx hb dX1_ashSize_12 rfl (lv_at hl 1 rfl) ?_
  obtain ⟨r6, sc7, h8, hf⟩ := q_b2o hf
  refine q_rwVi (As := []) (rest := [.int r3]) (ci := 1) (wr := []) (w2 := (wcB cI o0 a0 sc7)) ⟨hx, hb, hml, hown, hts⟩ (kX1_mark l dC dI cI cB cZ o0 a0 sc4 H.size r6 sc7 h8) (cwV 0 hts gX1_ashSize_X1_mark rfl rfl rfl hdX1_mark ⟨Nat.le_of_ble_eq_true rfl, Nat.le_of_ble_eq_true rfl⟩) hK hP hD hS hA [0, 1] [] [0, 1] rfl rfl (by decide) (by decide) (by decide) rfl (by decide) rfl rfl rfl hl.1 rfl (Nat.le_of_ble_eq_true rfl) dX1_ashSize_13 ⟨Nat.zero_le _, Nat.zero_le _⟩ (fun H locs hP hD hS => ?_)
  refine lv_isub hx hb dX1_ashSize_16 ?_
  obtain ⟨ee0, ee1⟩ := q_s2 hf
  subst ee1
  exact q_wretI hx hb hr hlk hAe hK hP hD hS ee0 dX1_ashSize_17
theorem hdX1_size : yX1_size.cls = RX1 ∧ yX1_size.cls ≠ "java/lang/invoke/MethodHandle" ∧ yX1_size.cls ≠ "java/lang/invoke/VarHandle" ∧ (parseMethodDescriptor yX1_size.desc).map (fun d => d.parameters.length) = some 0 := by decide +kernel
theorem qX1_size_1 : (Cond.fieldLink RX1 31 "DeadAsked$Bodies" "kind" "I") ∈ wsX1_size := List.mem_of_getElem? (i := 1) (by decide +kernel)
theorem nX1_size_1 : ∀ w ∈ u_ws RX1 TX1 7, w ∈ wsX1_size := fun _ h => (List.mem_cons_of_mem _ (List.mem_append_right _ h))
set_option maxHeartbeats 4000000 in
set_option maxRecDepth 100000 in
theorem kX1_size (o0 : Nat) (a0 : Nat → Nat) (s0 : St) (sz : Nat) (r : Int32) (z0 : St) (hf : fX1_size s0 = some (r, z0)) : Met l yX1_size wsX1_size ({ frames := 6, cells := 0, slots := 0, locals := 122 } : Room) (pcW (dC, dI) (q_ty cI cB cZ) [.ref o0] (wcB cI o0 a0 s0) sz) (qiW (dC, dI) (q_ty cI cB cZ) (wcB cI o0 a0 s0) (wcB cI o0 a0 z0) sz r) 0 0 (va_A (wcB cI o0 a0 s0) sz) := by
  refine q_rwM (cc := cX1_size) (maxL := 1) (ret := (some .int)) (by decide +kernel) rfl (Nat.le_of_ble_eq_true rfl) ?_
  intro p e s m below meth c hx hb hr hlk hml hown hts hK A H hAe hH hsz hP hD hA hS ls hl
  have hown : s.vm.findClass RX1 = some m.cls := hown
  have hl : lv_has ls 1 [(0, .ref o0)] := hl
  unfold fX1_size at hf
  refine lv_aload_n hx hb dX1_size_0 rfl (lv_at hl 0 rfl) ?_
  refine va_get (D := (dC, dI)) (ci := 1) (v := .int (s0 3 0)) (C := RX1) (T := TX1) (N := 7) hx hb hts nX1_size_1 hown hK hP 0 rfl rfl 3 (by decide) (hts _ qX1_size_1) (fun _ h9 => h9) rfl dX1_size_1 ?_
  by_cases c1 : s0 3 0 = (1 : Int32)
  · have hf := q_t c1 hf
    refine lv_tableIn (off := 36) (tgt := 40) hx hb dX1_size_4 (by rw [c1]; decide) (by rw [c1]; decide) (by rw [c1]; decide) (by decide) ?_
    refine lv_aload_n hx hb dX1_size_40 rfl (lv_at hl 0 rfl) ?_
    obtain ⟨r2, sc3, h4, hf⟩ := q_b2o hf
    refine q_rwVi (As := []) (rest := []) (ci := 1) (wr := []) (w2 := (wcB cI o0 a0 sc3)) ⟨hx, hb, hml, hown, hts⟩ (kX1_pearSize l dC dI cI cB cZ o0 a0 s0 H.size r2 sc3 h4) (cwV 0 hts gX1_size_X1_pearSize rfl rfl rfl hdX1_pearSize ⟨Nat.le_of_ble_eq_true rfl, Nat.le_of_ble_eq_true rfl⟩) hK hP hD hS hA [0, 1] [] [0, 1] rfl rfl (by decide) (by decide) (by decide) rfl (by decide) rfl rfl rfl hl.1 rfl (Nat.le_of_ble_eq_true rfl) dX1_size_41 ⟨Nat.zero_le _, Nat.zero_le _⟩ (fun H locs hP hD hS => ?_)
    obtain ⟨ee0, ee1⟩ := q_s2 hf
    subst ee1
    exact q_wretI hx hb hr hlk hAe hK hP hD hS ee0 dX1_size_44
  · have hf := q_f c1 hf
    by_cases c5 : s0 3 0 = (2 : Int32)
    · have hf := q_t c5 hf
      refine lv_tableIn (off := 36) (tgt := 40) hx hb dX1_size_4 (by rw [c5]; decide) (by rw [c5]; decide) (by rw [c5]; decide) (by decide) ?_
      refine lv_aload_n hx hb dX1_size_40 rfl (lv_at hl 0 rfl) ?_
      obtain ⟨r6, sc7, h8, hf⟩ := q_b2o hf
      refine q_rwVi (As := []) (rest := []) (ci := 1) (wr := []) (w2 := (wcB cI o0 a0 sc7)) ⟨hx, hb, hml, hown, hts⟩ (kX1_pearSize l dC dI cI cB cZ o0 a0 s0 H.size r6 sc7 h8) (cwV 0 hts gX1_size_X1_pearSize rfl rfl rfl hdX1_pearSize ⟨Nat.le_of_ble_eq_true rfl, Nat.le_of_ble_eq_true rfl⟩) hK hP hD hS hA [0, 1] [] [0, 1] rfl rfl (by decide) (by decide) (by decide) rfl (by decide) rfl rfl rfl hl.1 rfl (Nat.le_of_ble_eq_true rfl) dX1_size_41 ⟨Nat.zero_le _, Nat.zero_le _⟩ (fun H locs hP hD hS => ?_)
      obtain ⟨ee0, ee1⟩ := q_s2 hf
      subst ee1
      exact q_wretI hx hb hr hlk hAe hK hP hD hS ee0 dX1_size_44
    · have hf := q_f c5 hf
      by_cases c9 : s0 3 0 = (3 : Int32)
      · have hf := q_t c9 hf
        refine lv_tableIn (off := 41) (tgt := 45) hx hb dX1_size_4 (by rw [c9]; decide) (by rw [c9]; decide) (by rw [c9]; decide) (by decide) ?_
        refine lv_aload_n hx hb dX1_size_45 rfl (lv_at hl 0 rfl) ?_
        refine lv_bipush (v := 12) hx hb dX1_size_46 (by decide) ?_
        obtain ⟨sc10, h11, hf⟩ := q_b1o hf
        refine q_rwVv (As := [.int (12 : Int32)]) (rest := []) (ci := 1) (wr := []) (w2 := (wcB cI o0 a0 sc10)) ⟨hx, hb, hml, hown, hts⟩ (kX1_leave l dC dI cI cB cZ o0 a0 s0 (12 : Int32) H.size sc10 h11) (cwV 1 hts gX1_size_X1_leave rfl rfl rfl hdX1_leave ⟨Nat.le_of_ble_eq_true rfl, Nat.le_of_ble_eq_true rfl⟩) hK hP hD hS hA [0, 1] [] [0, 1] rfl rfl (by decide) (by decide) (by decide) rfl (by decide) rfl rfl rfl hl.1 rfl (Nat.le_of_ble_eq_true rfl) dX1_size_48 ⟨Nat.zero_le _, Nat.zero_le _⟩ (fun H locs hP hD hS => ?_)
        refine lv_aload_n hx hb dX1_size_51 rfl (lv_at hl 0 rfl) ?_
        obtain ⟨r12, sc13, h14, hf⟩ := q_b2o hf
        refine q_rwVi (As := []) (rest := []) (ci := 1) (wr := []) (w2 := (wcB cI o0 a0 sc13)) ⟨hx, hb, hml, hown, hts⟩ (kX1_pearSize l dC dI cI cB cZ o0 a0 sc10 H.size r12 sc13 h14) (cwV 0 hts gX1_size_X1_pearSize rfl rfl rfl hdX1_pearSize ⟨Nat.le_of_ble_eq_true rfl, Nat.le_of_ble_eq_true rfl⟩) hK hP hD hS hA [0, 1] [] [0, 1] rfl rfl (by decide) (by decide) (by decide) rfl (by decide) rfl rfl rfl hl.1 rfl (Nat.le_of_ble_eq_true rfl) dX1_size_52 ⟨Nat.zero_le _, Nat.zero_le _⟩ (fun H locs hP hD hS => ?_)
        refine lv_ineg hx hb dX1_size_55 ?_
        obtain ⟨ee0, ee1⟩ := q_s2 hf
        subst ee1
        exact q_wretI hx hb hr hlk hAe hK hP hD hS ee0 dX1_size_56
      · have hf := q_f c9 hf
        by_cases c15 : s0 3 0 = (4 : Int32)
        · have hf := q_t c15 hf
          refine lv_tableIn (off := 53) (tgt := 57) hx hb dX1_size_4 (by rw [c15]; decide) (by rw [c15]; decide) (by rw [c15]; decide) (by decide) ?_
          refine lv_aload_n hx hb dX1_size_57 rfl (lv_at hl 0 rfl) ?_
          obtain ⟨r16, sc17, h18, hf⟩ := q_b2o hf
          refine q_rwVi (As := []) (rest := []) (ci := 1) (wr := []) (w2 := (wcB cI o0 a0 sc17)) ⟨hx, hb, hml, hown, hts⟩ (kX1_ashSize l dC dI cI cB cZ o0 a0 s0 H.size r16 sc17 h18) (cwV 0 hts gX1_size_X1_ashSize rfl rfl rfl hdX1_ashSize ⟨Nat.le_of_ble_eq_true rfl, Nat.le_of_ble_eq_true rfl⟩) hK hP hD hS hA [0, 1] [] [0, 1] rfl rfl (by decide) (by decide) (by decide) rfl (by decide) rfl rfl rfl hl.1 rfl (Nat.le_of_ble_eq_true rfl) dX1_size_58 ⟨Nat.zero_le _, Nat.zero_le _⟩ (fun H locs hP hD hS => ?_)
          obtain ⟨ee0, ee1⟩ := q_s2 hf
          subst ee1
          exact q_wretI hx hb hr hlk hAe hK hP hD hS ee0 dX1_size_61
        · have hf := q_f c15 hf
          by_cases c19 : s0 3 0 = (5 : Int32)
          · have hf := q_t c19 hf
            refine lv_tableIn (off := 58) (tgt := 62) hx hb dX1_size_4 (by rw [c19]; decide) (by rw [c19]; decide) (by rw [c19]; decide) (by decide) ?_
            refine lv_aload_n hx hb dX1_size_62 rfl (lv_at hl 0 rfl) ?_
            refine lv_bipush (v := 14) hx hb dX1_size_63 (by decide) ?_
            obtain ⟨sc20, h21, hf⟩ := q_b1o hf
            refine q_rwVv (As := [.int (14 : Int32)]) (rest := []) (ci := 1) (wr := []) (w2 := (wcB cI o0 a0 sc20)) ⟨hx, hb, hml, hown, hts⟩ (kX1_leave l dC dI cI cB cZ o0 a0 s0 (14 : Int32) H.size sc20 h21) (cwV 1 hts gX1_size_X1_leave rfl rfl rfl hdX1_leave ⟨Nat.le_of_ble_eq_true rfl, Nat.le_of_ble_eq_true rfl⟩) hK hP hD hS hA [0, 1] [] [0, 1] rfl rfl (by decide) (by decide) (by decide) rfl (by decide) rfl rfl rfl hl.1 rfl (Nat.le_of_ble_eq_true rfl) dX1_size_65 ⟨Nat.zero_le _, Nat.zero_le _⟩ (fun H locs hP hD hS => ?_)
            refine lv_iconst (v := 2) hx hb dX1_size_68 (by decide) ?_
            refine lv_aload_n hx hb dX1_size_69 rfl (lv_at hl 0 rfl) ?_
            obtain ⟨r22, sc23, h24, hf⟩ := q_b2o hf
            refine q_rwVi (As := []) (rest := [.int (2 : Int32)]) (ci := 1) (wr := []) (w2 := (wcB cI o0 a0 sc23)) ⟨hx, hb, hml, hown, hts⟩ (kX1_ashSize l dC dI cI cB cZ o0 a0 sc20 H.size r22 sc23 h24) (cwV 0 hts gX1_size_X1_ashSize rfl rfl rfl hdX1_ashSize ⟨Nat.le_of_ble_eq_true rfl, Nat.le_of_ble_eq_true rfl⟩) hK hP hD hS hA [0, 1] [] [0, 1] rfl rfl (by decide) (by decide) (by decide) rfl (by decide) rfl rfl rfl hl.1 rfl (Nat.le_of_ble_eq_true rfl) dX1_size_70 ⟨Nat.zero_le _, Nat.zero_le _⟩ (fun H locs hP hD hS => ?_)
            refine lv_imul hx hb dX1_size_73 ?_
            obtain ⟨ee0, ee1⟩ := q_s2 hf
            subst ee1
            exact q_wretI hx hb hr hlk hAe hK hP hD hS ee0 dX1_size_74
          · have hf := q_f c19 hf
            refine lv_tableOut (tgt := 75) hx hb dX1_size_4 (q_tso (x := s0 3 0) (lo := 1) (n := 5) (by intro k hk; match k, hk with | 0, _ => exact c1 | 1, _ => exact c5 | 2, _ => exact c9 | 3, _ => exact c15 | 4, _ => exact c19 | k + 5, hk => exact absurd hk (by omega)) (by decide)) (by decide) ?_
            refine lv_aload_n hx hb dX1_size_75 rfl (lv_at hl 0 rfl) ?_
            obtain ⟨r25, sc26, h27, hf⟩ := q_b2o hf
            refine q_rwVi (As := []) (rest := []) (ci := 1) (wr := []) (w2 := (wcB cI o0 a0 sc26)) ⟨hx, hb, hml, hown, hts⟩ (kX1_lentSize l dC dI cI cB cZ o0 a0 s0 H.size r25 sc26 h27) (cwV 0 hts gX1_size_X1_lentSize rfl rfl rfl hdX1_lentSize ⟨Nat.le_of_ble_eq_true rfl, Nat.le_of_ble_eq_true rfl⟩) hK hP hD hS hA [0, 1] [] [0, 1] rfl rfl (by decide) (by decide) (by decide) rfl (by decide) rfl rfl rfl hl.1 rfl (Nat.le_of_ble_eq_true rfl) dX1_size_76 ⟨Nat.zero_le _, Nat.zero_le _⟩ (fun H locs hP hD hS => ?_)
            obtain ⟨ee0, ee1⟩ := q_s2 hf
            subst ee1
            exact q_wretI hx hb hr hlk hAe hK hP hD hS ee0 dX1_size_79
theorem hdX2_commonDivisor : yX2_commonDivisor.cls ≠ "java/lang/invoke/MethodHandle" ∧ yX2_commonDivisor.cls ≠ "java/lang/invoke/VarHandle" ∧ (parseMethodDescriptor yX2_commonDivisor.desc).map (fun d => d.parameters.length) = some 2 := by decide +kernel
set_option maxHeartbeats 4000000 in
set_option maxRecDepth 100000 in
theorem kX2_commonDivisor (p0 : Int64) (p2 : Int64) (r : Int64) (hf : fX2_commonDivisor p0 p2 = some r) : Met l yX2_commonDivisor wsX2_commonDivisor ({ frames := 0, cells := 0, slots := 0, locals := 0 } : Room) (pcS [.long p0, .long p2]) (qlR r) 0 0 (fun _ => False) := by
  refine q_roS (cc := cX2_commonDivisor) (maxL := 11) (ret := (some .long)) (by decide +kernel) rfl (Nat.le_of_ble_eq_true rfl) ?_
  intro p e s m below meth c hx hb hr hlk hml hown hts ls hl
  have hown : s.vm.findClass RX2 = some m.cls := hown
  have hl : lv_has ls 11 [(0, .long p0), (2, .long p2)] := hl
  unfold fX2_commonDivisor at hf
  refine lv_lload_n hx hb dX2_commonDivisor_0 rfl (lv_at hl 0 rfl) ?_
  refine lv_lstore (lv' := [(4, .long p0), (0, .long p0), (2, .long p2)]) hx hb dX2_commonDivisor_1 hl (by decide) rfl (fun ls hl => ?_)
  refine lv_lload_n hx hb dX2_commonDivisor_3 rfl (lv_at hl 2 rfl) ?_
  refine lv_lstore (lv' := [(6, .long p2), (4, .long p0), (0, .long p0), (2, .long p2)]) hx hb dX2_commonDivisor_4 hl (by decide) rfl (fun ls hl => ?_)
  refine lv_iconst (v := 0) hx hb dX2_commonDivisor_6 (by decide) ?_
  refine lv_istore (lv' := [(8, .int (0 : Int32)), (6, .long p2), (4, .long p0), (0, .long p0), (2, .long p2)]) hx hb dX2_commonDivisor_7 hl (by decide) rfl (fun ls hl => ?_)
  obtain ⟨oz5, hqn4, hf⟩ := q_b1o hf
  have kxn4 : ∀ z5 : Int64, z5 = oz5 → ∀ ls : Array Slot, lv_has ls 11 [(4, .long z5)] → W p l e ({ frames := 0, cells := 0, slots := 0, locals := 0 } : Room) s m [.long p0, .long p2].toArray below meth c s.heap [] 0 0 (MQ below (qlR r) [.long p0, .long p2].toArray s 0 0 (fun _ => False)) (F0 m 45 ls []) := by
    intro z5 ez5 ls hl
    subst ez5
    refine lv_lload hx hb dX2_commonDivisor_45 (lv_at hl 0 rfl) ?_
    have ee0 := q_s1 hf
    exact q_retL hx hb hr hlk ee0 dX2_commonDivisor_47
  have aihn4 : ∀ n4 : Nat, ∀ l4_1 : Int64, ∀ l6_2 : Int64, ∀ l8_3 : Int32, fX2_commonDivisor_L9 n4 l4_1 l6_2 l8_3 = some oz5 → ∀ ls : Array Slot, lv_has ls 11 [(8, .int l8_3), (6, .long l6_2), (4, .long l4_1)] → W p l e ({ frames := 0, cells := 0, slots := 0, locals := 0 } : Room) s m [.long p0, .long p2].toArray below meth c s.heap [] 0 0 (MQ below (qlR r) [.long p0, .long p2].toArray s 0 0 (fun _ => False)) (F0 m 9 ls []) := by
    intro n4
    induction n4 with
    | zero =>
      intro l4_1 l6_2 l8_3 hf
      exact q_no hf
    | succ n4 ihn4 =>
      intro l4_1 l6_2 l8_3 hf ls hl
      rw [fX2_commonDivisor_L9] at hf
      refine lv_iload hx hb dX2_commonDivisor_9 (lv_at hl 0 rfl) ?_
      refine lv_sipush (v := 1000) hx hb dX2_commonDivisor_11 (by decide) ?_
      refine lv_icmp_ge (tgt := 45) hx hb dX2_commonDivisor_14 (by decide) (fun c6 => ?_) (fun c6 => ?_)
      · have hf := q_t c6 hf
        exact kxn4 l4_1 (q_s1 hf) _ (lv_sub hl [2] rfl)
      · have hf := q_f c6 hf
        refine lv_lload hx hb dX2_commonDivisor_17 (lv_at hl 1 rfl) ?_
        refine lv_lconst (v := 0) hx hb dX2_commonDivisor_19 (by decide) ?_
        refine W.lcmp hx hb dX2_commonDivisor_20 ?_
        refine lv_if_eq (tgt := 45) hx hb dX2_commonDivisor_21 (by decide) (fun c7 => ?_) (fun c7 => ?_)
        · have hf := q_t c7 hf
          exact kxn4 l4_1 (q_s1 hf) _ (lv_sub hl [2] rfl)
        · have hf := q_f c7 hf
          refine lv_lload hx hb dX2_commonDivisor_24 (lv_at hl 2 rfl) ?_
          refine lv_lload hx hb dX2_commonDivisor_26 (lv_at hl 1 rfl) ?_
          obtain ⟨c8, hf⟩ := q_ck hf
          refine lv_lrem hx hb dX2_commonDivisor_28 c8 ?_
          obtain ⟨x9, ex9, hf⟩ := q_lto hf
          refine W.eq (g2 := F0 m 29 ls [.long x9]) (by rw [ex9]) ?_
          refine lv_lstore (lv' := [(9, .long x9), (8, .int l8_3), (6, .long l6_2), (4, .long l4_1)]) hx hb dX2_commonDivisor_29 hl (by decide) rfl (fun ls hl => ?_)
          refine lv_lload hx hb dX2_commonDivisor_31 (lv_at hl 2 rfl) ?_
          refine lv_lstore (lv' := [(4, .long l6_2), (9, .long x9), (8, .int l8_3), (6, .long l6_2)]) hx hb dX2_commonDivisor_33 hl (by decide) rfl (fun ls hl => ?_)
          refine lv_lload hx hb dX2_commonDivisor_35 (lv_at hl 1 rfl) ?_
          refine lv_lstore (lv' := [(6, .long x9), (4, .long l6_2), (9, .long x9), (8, .int l8_3)]) hx hb dX2_commonDivisor_37 hl (by decide) rfl (fun ls hl => ?_)
          refine lv_iinc (v := l8_3 + (1 : Int32)) (lv' := [(8, .int (l8_3 + (1 : Int32))), (6, .long x9), (4, .long l6_2), (9, .long x9)]) hx hb dX2_commonDivisor_39 hl (k := 3) rfl rfl (by decide) rfl (fun ls hl => ?_)
          refine lv_goto (tgt := 9) hx hb dX2_commonDivisor_42 (by decide) ?_
          exact ihn4 l6_2 x9 (l8_3 + (1 : Int32)) hf _ (lv_sub hl [0, 1, 2] rfl)
  exact aihn4 5000 p0 p2 (0 : Int32) hqn4 _ (lv_sub hl [0, 1, 2] rfl)
theorem hdX2_become : yX2_become.cls = RX2 ∧ yX2_become.cls ≠ "java/lang/invoke/MethodHandle" ∧ yX2_become.cls ≠ "java/lang/invoke/VarHandle" ∧ (parseMethodDescriptor yX2_become.desc).map (fun d => d.parameters.length) = some 2 := by decide +kernel
theorem qX2_become_1 : (Cond.fieldLink RX2 17 "DeadAsked$Fraction" "above" "J") ∈ wsX2_become := List.mem_of_getElem? (i := 1) (by decide +kernel)
theorem qX2_become_2 : (Cond.fieldLink RX2 7 "DeadAsked$Fraction" "below" "J") ∈ wsX2_become := List.mem_of_getElem? (i := 2) (by decide +kernel)
theorem nX2_become_2 : ∀ w ∈ u_ws RX2 TX2 2, w ∈ wsX2_become := fun _ h => (List.mem_cons_of_mem _ (List.mem_append_right _ h))
set_option maxHeartbeats 4000000 in
set_option maxRecDepth 100000 in
theorem kX2_become (o0 : Nat) (t0 : Lt) (p1 : Int64) (p3 : Int64) (sz : Nat) (y0 : Lt) (hf : fX2_become t0 p1 p3 = some y0) : Met l yX2_become wsX2_become ({ frames := 1, cells := 0, slots := 0, locals := 30 } : Room) (pcW (dC, dI) (q_ty cI cB cZ) [.ref o0, .long p1, .long p3] (wcF o0 t0) sz) (qvW (dC, dI) (q_ty cI cB cZ) (wcF o0 t0) (wcF o0 y0) sz) 0 0 (va_A (wcF o0 t0) sz) := by
  refine q_rwM (cc := cX2_become) (maxL := 7) (ret := none) (by decide +kernel) rfl (Nat.le_of_ble_eq_true rfl) ?_
  intro p e s m below meth c hx hb hr hlk hml hown hts hK A H hAe hH hsz hP hD hA hS ls hl
  have hown : s.vm.findClass RX2 = some m.cls := hown
  have hl : lv_has ls 7 [(0, .ref o0), (1, .long p1), (3, .long p3)] := hl
  unfold fX2_become at hf
  refine lv_lload_n hx hb dX2_become_0 rfl (lv_at hl 1 rfl) ?_
  refine lv_lload_n hx hb dX2_become_1 rfl (lv_at hl 2 rfl) ?_
  obtain ⟨r1, h2, hf⟩ := q_b1o hf
  refine q_roSl (As := [.long p1, .long p3]) (rest := []) ⟨hx, hb, hml, hown, hts⟩ (kX2_commonDivisor l p1 p3 r1 h2) (va_cwS 2 hts gX2_become_X2_commonDivisor rfl rfl rfl hdX2_commonDivisor ⟨Nat.le_of_ble_eq_true rfl, Nat.le_of_ble_eq_true rfl⟩) rfl hl.1 rfl (Nat.le_of_ble_eq_true rfl) dX2_become_2 ⟨Nat.zero_le _, Nat.zero_le _⟩ ?_
  refine lv_lstore (lv' := [(5, .long r1), (0, .ref o0), (1, .long p1), (3, .long p3)]) hx hb dX2_become_5 hl (by decide) rfl (fun ls hl => ?_)
  refine lv_lload hx hb dX2_become_7 (lv_at hl 0 rfl) ?_
  refine lv_lconst (v := 0) hx hb dX2_become_9 (by decide) ?_
  refine W.lcmp hx hb dX2_become_10 ?_
  refine lv_if_eq (tgt := 30) hx hb dX2_become_11 (by decide) (fun c3 => ?_) (fun c3 => ?_)
  · have hf := q_t c3 hf
    have ee0 := q_s1 hf
    subst ee0
    exact q_wretV hx hb hr hlk hAe hK hP hD hS dX2_become_30
  · have hf := q_f c3 hf
    refine lv_aload_n hx hb dX2_become_14 rfl (lv_at hl 1 rfl) ?_
    refine lv_lload_n hx hb dX2_become_15 rfl (lv_at hl 2 rfl) ?_
    refine lv_lload hx hb dX2_become_16 (lv_at hl 0 rfl) ?_
    obtain ⟨c4, hf⟩ := q_ck hf
    refine lv_ldiv hx hb dX2_become_18 c4 ?_
    obtain ⟨tn5, etn5, hf⟩ := q_lto hf
    refine va_put (D := (dC, dI)) (ci := 2) (v := .long (p1 / r1)) (ty := .long) (C := RX2) (T := TX2) (N := 2) hx hb hts nX2_become_2 tyX2 tyX2_ok nmX2 hown hK hP hD hS 0 rfl rfl 0 (by decide) (hts _ qX2_become_1) (fun _ h9 => h9) rfl (by decide +kernel) rfl rfl (Nat.le_of_ble_eq_true rfl) dX2_become_19 (fun H locs hP hD hS => ?_)
    have hP : va_P (dC, dI) vwCl (wcF o0 tn5) H := by rw [etn5]; exact hP
    have hD : va_D A (wcF o0 tn5) := by rw [etn5]; exact hD
    refine lv_aload_n hx hb dX2_become_22 rfl (lv_at hl 1 rfl) ?_
    refine lv_lload_n hx hb dX2_become_23 rfl (lv_at hl 3 rfl) ?_
    refine lv_lload hx hb dX2_become_24 (lv_at hl 0 rfl) ?_
    obtain ⟨c6, hf⟩ := q_ck hf
    refine lv_ldiv hx hb dX2_become_26 c6 ?_
    obtain ⟨tn7, etn7, hf⟩ := q_lto hf
    refine va_put (D := (dC, dI)) (ci := 2) (v := .long (p3 / r1)) (ty := .long) (C := RX2) (T := TX2) (N := 2) hx hb hts nX2_become_2 tyX2 tyX2_ok nmX2 hown hK hP hD hS 0 rfl rfl 1 (by decide) (hts _ qX2_become_2) (fun _ h9 => h9) rfl (by decide +kernel) rfl rfl (Nat.le_of_ble_eq_true rfl) dX2_become_27 (fun H locs hP hD hS => ?_)
    have hP : va_P (dC, dI) vwCl (wcF o0 tn7) H := by rw [etn7]; exact hP
    have hD : va_D A (wcF o0 tn7) := by rw [etn7]; exact hD
    have ee0 := q_s1 hf
    subst ee0
    exact q_wretV hx hb hr hlk hAe hK hP hD hS dX2_become_30
theorem hdX2_part : yX2_part.cls = RX2 ∧ yX2_part.cls ≠ "java/lang/invoke/MethodHandle" ∧ yX2_part.cls ≠ "java/lang/invoke/VarHandle" ∧ (parseMethodDescriptor yX2_part.desc).map (fun d => d.parameters.length) = some 1 := by decide +kernel
theorem qX2_part_1 : (Cond.fieldLink RX2 17 "DeadAsked$Fraction" "above" "J") ∈ wsX2_part := List.mem_of_getElem? (i := 1) (by decide +kernel)
theorem qX2_part_2 : (Cond.fieldLink RX2 7 "DeadAsked$Fraction" "below" "J") ∈ wsX2_part := List.mem_of_getElem? (i := 2) (by decide +kernel)
theorem nX2_part_2 : ∀ w ∈ u_ws RX2 TX2 2, w ∈ wsX2_part := fun _ h => (List.mem_cons_of_mem _ (List.mem_append_right _ h))
set_option maxHeartbeats 4000000 in
set_option maxRecDepth 100000 in
theorem kX2_part (o0 : Nat) (t0 : Lt) (p1 : Int32) (r : Int64) (hf : fX2_part t0 p1 = some r) : Met l yX2_part wsX2_part ({ frames := 0, cells := 0, slots := 0, locals := 0 } : Room) (pcR (dC, dI) (q_ty cI cB cZ) [.ref o0, .int p1] (wcF o0 t0)) (qlR r) 0 0 (fun _ => False) := by
  refine q_roM (cc := cX2_part) (maxL := 2) (ret := (some .long)) (by decide +kernel) rfl (Nat.le_of_ble_eq_true rfl) ?_
  intro p e s m below meth c hx hb hr hlk hml hown hts hK hP ls hl
  have hown : s.vm.findClass RX2 = some m.cls := hown
  have hl : lv_has ls 2 [(0, .ref o0), (1, .int p1)] := hl
  unfold fX2_part at hf
  refine lv_iload_n hx hb dX2_part_0 rfl (lv_at hl 1 rfl) ?_
  refine lv_if_ne (tgt := 11) hx hb dX2_part_1 (by decide) (fun c1 => ?_) (fun c1 => ?_)
  · have hf := q_f c1 hf
    refine lv_aload_n hx hb dX2_part_11 rfl (lv_at hl 0 rfl) ?_
    refine va_get (D := (dC, dI)) (ci := 2) (v := .long (t0 1)) (C := RX2) (T := TX2) (N := 2) hx hb hts nX2_part_2 hown hK hP 0 rfl rfl 1 (by decide) (hts _ qX2_part_2) (fun _ h9 => h9) rfl dX2_part_12 ?_
    have ee0 := q_s1 hf
    exact q_retL hx hb hr hlk ee0 dX2_part_15
  · have hf := q_t c1 hf
    refine lv_aload_n hx hb dX2_part_4 rfl (lv_at hl 0 rfl) ?_
    refine va_get (D := (dC, dI)) (ci := 2) (v := .long (t0 0)) (C := RX2) (T := TX2) (N := 2) hx hb hts nX2_part_2 hown hK hP 0 rfl rfl 0 (by decide) (hts _ qX2_part_1) (fun _ h9 => h9) rfl dX2_part_5 ?_
    refine lv_goto (tgt := 15) hx hb dX2_part_8 (by decide) ?_
    have ee0 := q_s1 hf
    exact q_retL hx hb hr hlk ee0 dX2_part_15
