variable (l : Launch) (dC : Nat → ClassId) (dI : Nat → Nat → Nat) (cI cB cZ : ClassId)
theorem hdX8_doesMind : yX8_doesMind.cls = RX8 ∧ yX8_doesMind.cls ≠ "java/lang/invoke/MethodHandle" ∧ yX8_doesMind.cls ≠ "java/lang/invoke/VarHandle" ∧ (parseMethodDescriptor yX8_doesMind.desc).map (fun d => d.parameters.length) = some 4 := by decide +kernel
theorem qX8_doesMind_1 : (Cond.constant RX8 80 (-1000000)) ∈ wsX8_doesMind := List.mem_of_getElem? (i := 1) (by decide +kernel)
set_option maxHeartbeats 4000000 in
set_option maxRecDepth 100000 in
theorem kX8_doesMind (o0 : Nat) (a0 : Nat → Nat) (s0 : St) (t0 : Lt) (p1 : Int32) (p2 : Int32) (p3 : Int32) (p4 : Int32) (r : Int32) (hf : fX8_doesMind s0 p1 p2 p3 p4 = some r) : Met l yX8_doesMind wsX8_doesMind ({ frames := 2, cells := 0, slots := 0, locals := 48 } : Room) (pcR (dC, dI) (q_ty cI cB cZ) [.ref o0, .int p1, .int p2, .int p3, .int p4] (wcM cI cZ o0 a0 s0 t0)) (qiR r) 0 0 (fun _ => False) := by
  refine q_roM (cc := cX8_doesMind) (maxL := 5) (ret := (some .boolean)) (by decide +kernel) rfl (Nat.le_of_ble_eq_true rfl) ?_
  intro p e s m below meth c hx hb hr hlk hml hown hts hK hP ls hl
  have hown : s.vm.findClass RX8 = some m.cls := hown
  have hl : lv_has ls 5 [(0, .ref o0), (1, .int p1), (2, .int p2), (3, .int p3), (4, .int p4)] := hl
  unfold fX8_doesMind at hf
  refine lv_aload_n hx hb dX8_doesMind_0 rfl (lv_at hl 0 rfl) ?_
  refine lv_iload_n hx hb dX8_doesMind_1 rfl (lv_at hl 1 rfl) ?_
  obtain ⟨r1, h2, hf⟩ := q_b1o hf
  refine q_roVi (As := [.int p1]) (rest := []) (ci := 8) ⟨hx, hb, hml, hown, hts⟩ (kX8_heard l dC dI cI cB cZ o0 a0 s0 t0 p1 r1 h2) (cwV 1 hts gX8_doesMind_X8_heard rfl rfl rfl hdX8_heard ⟨Nat.le_of_ble_eq_true rfl, Nat.le_of_ble_eq_true rfl⟩) hK hP rfl rfl rfl hl.1 rfl (Nat.le_of_ble_eq_true rfl) dX8_doesMind_2 ⟨Nat.zero_le _, Nat.zero_le _⟩ ?_
  refine lv_iload_n hx hb dX8_doesMind_5 rfl (lv_at hl 3 rfl) ?_
  refine lv_iand hx hb dX8_doesMind_6 ?_
  refine lv_if_eq (tgt := 37) hx hb dX8_doesMind_7 (by decide) (fun c3 => ?_) (fun c3 => ?_)
  · have hf := q_t c3 hf
    refine lv_iconst (v := 0) hx hb dX8_doesMind_37 (by decide) ?_
    have ee0 := q_s1 hf
    exact q_retZ hx hb hr hlk rfl ee0 dX8_doesMind_38
  · have hf := q_f c3 hf
    refine lv_aload_n hx hb dX8_doesMind_10 rfl (lv_at hl 0 rfl) ?_
    refine lv_iload_n hx hb dX8_doesMind_11 rfl (lv_at hl 1 rfl) ?_
    refine lv_iconst (v := 3) hx hb dX8_doesMind_12 (by decide) ?_
    obtain ⟨r4, h5, hf⟩ := q_b1o hf
    refine q_roVi (As := [.int p1, .int (3 : Int32)]) (rest := []) (ci := 8) ⟨hx, hb, hml, hown, hts⟩ (kX8_ofGrave l dC dI cI cB cZ o0 a0 s0 t0 p1 (3 : Int32) r4 h5) (cwV 2 hts gX8_doesMind_X8_ofGrave rfl rfl rfl hdX8_ofGrave ⟨Nat.le_of_ble_eq_true rfl, Nat.le_of_ble_eq_true rfl⟩) hK hP rfl rfl rfl hl.1 rfl (Nat.le_of_ble_eq_true rfl) dX8_doesMind_13 ⟨Nat.zero_le _, Nat.zero_le _⟩ ?_
    refine lv_iload_n hx hb dX8_doesMind_16 rfl (lv_at hl 2 rfl) ?_
    refine lv_iand hx hb dX8_doesMind_17 ?_
    refine lv_if_eq (tgt := 37) hx hb dX8_doesMind_18 (by decide) (fun c6 => ?_) (fun c6 => ?_)
    · have hf := q_t c6 hf
      refine lv_iconst (v := 0) hx hb dX8_doesMind_37 (by decide) ?_
      have ee0 := q_s1 hf
      exact q_retZ hx hb hr hlk rfl ee0 dX8_doesMind_38
    · have hf := q_f c6 hf
      refine lv_aload_n hx hb dX8_doesMind_21 rfl (lv_at hl 0 rfl) ?_
      refine lv_iload_n hx hb dX8_doesMind_22 rfl (lv_at hl 1 rfl) ?_
      refine lv_iload hx hb dX8_doesMind_23 (lv_at hl 4 rfl) ?_
      obtain ⟨r7, h8, hf⟩ := q_b1o hf
      refine q_roVi (As := [.int p1, .int p4]) (rest := []) (ci := 8) ⟨hx, hb, hml, hown, hts⟩ (kX8_itsTree l dC dI cI cB cZ o0 a0 s0 t0 p1 p4 r7 h8) (cwV 2 hts gX8_doesMind_X8_itsTree rfl rfl rfl hdX8_itsTree ⟨Nat.le_of_ble_eq_true rfl, Nat.le_of_ble_eq_true rfl⟩) hK hP rfl rfl rfl hl.1 rfl (Nat.le_of_ble_eq_true rfl) dX8_doesMind_25 ⟨Nat.zero_le _, Nat.zero_le _⟩ ?_
      refine lv_ldc (v := -1000000) hx hb hown (hts _ qX8_doesMind_1) dX8_doesMind_28 ?_
      refine lv_icmp_eq (tgt := 37) hx hb dX8_doesMind_30 (by decide) (fun c9 => ?_) (fun c9 => ?_)
      · have hf := q_t c9 hf
        refine lv_iconst (v := 0) hx hb dX8_doesMind_37 (by decide) ?_
        have ee0 := q_s1 hf
        exact q_retZ hx hb hr hlk rfl ee0 dX8_doesMind_38
      · have hf := q_f c9 hf
        refine lv_iconst (v := 1) hx hb dX8_doesMind_33 (by decide) ?_
        refine lv_goto (tgt := 38) hx hb dX8_doesMind_34 (by decide) ?_
        have ee0 := q_s1 hf
        exact q_retZ hx hb hr hlk rfl ee0 dX8_doesMind_38
theorem hdX8_keep : yX8_keep.cls = RX8 ∧ yX8_keep.cls ≠ "java/lang/invoke/MethodHandle" ∧ yX8_keep.cls ≠ "java/lang/invoke/VarHandle" ∧ (parseMethodDescriptor yX8_keep.desc).map (fun d => d.parameters.length) = some 0 := by decide +kernel
theorem qX8_keep_1 : (Cond.fieldLink RX8 188 "DeadAskedModel" "acts" "I") ∈ wsX8_keep := List.mem_of_getElem? (i := 1) (by decide +kernel)
theorem qX8_keep_2 : (Cond.fieldLink RX8 25 "DeadAskedModel" "was" "[I") ∈ wsX8_keep := List.mem_of_getElem? (i := 2) (by decide +kernel)
theorem qX8_keep_3 : (Cond.fieldLink RX8 19 "DeadAskedModel" "hill" "[I") ∈ wsX8_keep := List.mem_of_getElem? (i := 3) (by decide +kernel)
theorem nX8_keep_8 : ∀ w ∈ u_ws RX8 TX8 27, w ∈ wsX8_keep := fun _ h => (List.mem_cons_of_mem _ (List.mem_append_right _ h))
set_option maxHeartbeats 4000000 in
set_option maxRecDepth 100000 in
theorem kX8_keep (o0 : Nat) (a0 : Nat → Nat) (s0 : St) (t0 : Lt) (sz : Nat) (z0 : St) (hf : fX8_keep s0 = some z0) : Met l yX8_keep wsX8_keep ({ frames := 0, cells := 0, slots := 0, locals := 0 } : Room) (pcW (dC, dI) (q_ty cI cB cZ) [.ref o0] (wcM cI cZ o0 a0 s0 t0) sz) (qvW (dC, dI) (q_ty cI cB cZ) (wcM cI cZ o0 a0 s0 t0) (wcM cI cZ o0 a0 z0 t0) sz) 0 0 (va_A (wcM cI cZ o0 a0 s0 t0) sz) := by
  refine q_rwM (cc := cX8_keep) (maxL := 2) (ret := none) (by decide +kernel) rfl (Nat.le_of_ble_eq_true rfl) ?_
  intro p e s m below meth c hx hb hr hlk hml hown hts hK A H hAe hH hsz hP hD hA hS ls hl
  have hown : s.vm.findClass RX8 = some m.cls := hown
  have hl : lv_has ls 2 [(0, .ref o0)] := hl
  unfold fX8_keep at hf
  refine lv_aload_n hx hb dX8_keep_0 rfl (lv_at hl 0 rfl) ?_
  refine va_get (D := (dC, dI)) (ci := 8) (v := .int (s0 9 0)) (C := RX8) (T := TX8) (N := 27) hx hb hts nX8_keep_8 hown hK hP 0 rfl rfl 9 (by decide) (hts _ qX8_keep_1) (fun _ h9 => h9) rfl dX8_keep_1 ?_
  refine lv_bipush (v := 24) hx hb dX8_keep_4 (by decide) ?_
  obtain ⟨osj1, hqj2, hf⟩ := q_b1o hf
  have kj2 : ∀ sj1 : St, sj1 = osj1 → ∀ (H : Heap) (locs : List Loc), va_P (dC, dI) vwCl (wcM cI cZ o0 a0 sj1 t0) H → va_D A (wcM cI cZ o0 a0 sj1 t0) → va_S A s.heap H locs → ∀ ls : Array Slot, lv_has ls 2 [(0, .ref o0)] → W p l e ({ frames := 0, cells := 0, slots := 0, locals := 0 } : Room) s m [.ref o0].toArray below meth c H locs 0 0 (MQ below (qvW (dC, dI) (q_ty cI cB cZ) (wcM cI cZ o0 a0 s0 t0) (wcM cI cZ o0 a0 z0 t0) sz) [.ref o0].toArray s 0 0 (va_A (wcM cI cZ o0 a0 s0 t0) sz)) (F0 m 49 ls []) := by
    intro sj1 esj1 H locs hP hD hS ls hl
    subst esj1
    refine lv_iconst (v := 0) hx hb dX8_keep_49 (by decide) ?_
    refine lv_istore_n (lv' := [(1, .int (0 : Int32)), (0, .ref o0)]) hx hb dX8_keep_50 rfl hl (by decide) rfl (fun ls hl => ?_)
    obtain ⟨oz6, hqn5, hf⟩ := q_b1o hf
    have kxn5 : ∀ z6 : St, z6 = oz6 → ∀ (H : Heap) (locs : List Loc), va_P (dC, dI) vwCl (wcM cI cZ o0 a0 z6 t0) H → va_D A (wcM cI cZ o0 a0 z6 t0) → va_S A s.heap H locs → ∀ ls : Array Slot, lv_has ls 2 [(0, .ref o0)] → W p l e ({ frames := 0, cells := 0, slots := 0, locals := 0 } : Room) s m [.ref o0].toArray below meth c H locs 0 0 (MQ below (qvW (dC, dI) (q_ty cI cB cZ) (wcM cI cZ o0 a0 s0 t0) (wcM cI cZ o0 a0 z0 t0) sz) [.ref o0].toArray s 0 0 (va_A (wcM cI cZ o0 a0 s0 t0) sz)) (F0 m 83 ls []) := by
      intro z6 ez6 H locs hP hD hS ls hl
      subst ez6
      refine lv_aload_n hx hb dX8_keep_83 rfl (lv_at hl 0 rfl) ?_
      refine lv_dup hx hb dX8_keep_84 rfl ?_
      refine va_get (D := (dC, dI)) (ci := 8) (v := .int (z6 9 0)) (C := RX8) (T := TX8) (N := 27) hx hb hts nX8_keep_8 hown hK hP 0 rfl rfl 9 (by decide) (hts _ qX8_keep_1) (fun _ h9 => h9) rfl dX8_keep_85 ?_
      refine lv_iconst (v := 1) hx hb dX8_keep_88 (by decide) ?_
      refine lv_iadd hx hb dX8_keep_89 ?_
      obtain ⟨sn11, esn11, hf⟩ := q_lto hf
      refine va_put (D := (dC, dI)) (ci := 8) (v := .int ((z6 9 0) + (1 : Int32))) (ty := .int) (C := RX8) (T := TX8) (N := 27) hx hb hts nX8_keep_8 tyX8 tyX8_ok nmX8 hown hK hP hD hS 0 rfl rfl 9 (by decide) (hts _ qX8_keep_1) (fun _ h9 => h9) rfl (by decide +kernel) rfl rfl (Nat.le_of_ble_eq_true rfl) dX8_keep_90 (fun H locs hP hD hS => ?_)
      have hP : va_P (dC, dI) vwCl (wcM cI cZ o0 a0 sn11 t0) H := by rw [esn11]; exact hP
      have hD : va_D A (wcM cI cZ o0 a0 sn11 t0) := by rw [esn11]; exact hD
      have ee0 := q_s1 hf
      subst ee0
      exact q_wretV hx hb hr hlk hAe hK hP hD hS dX8_keep_93
    have aihn5 : ∀ n5 : Nat, ∀ l1_3 : Int32, ∀ sl4 : St, fX8_keep_L51 n5 l1_3 sl4 = some oz6 → ∀ (H : Heap) (locs : List Loc), va_P (dC, dI) vwCl (wcM cI cZ o0 a0 sl4 t0) H → va_D A (wcM cI cZ o0 a0 sl4 t0) → va_S A s.heap H locs → ∀ ls : Array Slot, lv_has ls 2 [(1, .int l1_3), (0, .ref o0)] → W p l e ({ frames := 0, cells := 0, slots := 0, locals := 0 } : Room) s m [.ref o0].toArray below meth c H locs 0 0 (MQ below (qvW (dC, dI) (q_ty cI cB cZ) (wcM cI cZ o0 a0 s0 t0) (wcM cI cZ o0 a0 z0 t0) sz) [.ref o0].toArray s 0 0 (va_A (wcM cI cZ o0 a0 s0 t0) sz)) (F0 m 51 ls []) := by
      intro n5
      induction n5 with
      | zero =>
        intro l1_3 sl4 hf
        exact q_no hf
      | succ n5 ihn5 =>
        intro l1_3 sl4 hf H locs hP hD hS ls hl
        rw [fX8_keep_L51] at hf
        refine lv_iload_n hx hb dX8_keep_51 rfl (lv_at hl 0 rfl) ?_
        refine lv_bipush (v := 59) hx hb dX8_keep_52 (by decide) ?_
        refine lv_icmp_ge (tgt := 83) hx hb dX8_keep_54 (by decide) (fun c7 => ?_) (fun c7 => ?_)
        · have hf := q_t c7 hf
          exact kxn5 sl4 (q_s1 hf) _ _ hP hD hS _ (lv_sub hl [1] rfl)
        · have hf := q_f c7 hf
          refine lv_aload_n hx hb dX8_keep_57 rfl (lv_at hl 1 rfl) ?_
          refine va_get (D := (dC, dI)) (ci := 8) (v := .ref (a0 8)) (C := RX8) (T := TX8) (N := 27) hx hb hts nX8_keep_8 hown hK hP 0 rfl rfl 8 (by decide) (hts _ qX8_keep_2) (fun _ h9 => h9) rfl dX8_keep_58 ?_
          refine lv_bipush (v := 59) hx hb dX8_keep_61 (by decide) ?_
          refine lv_aload_n hx hb dX8_keep_63 rfl (lv_at hl 1 rfl) ?_
          refine va_get (D := (dC, dI)) (ci := 8) (v := .int (sl4 9 0)) (C := RX8) (T := TX8) (N := 27) hx hb hts nX8_keep_8 hown hK hP 0 rfl rfl 9 (by decide) (hts _ qX8_keep_1) (fun _ h9 => h9) rfl dX8_keep_64 ?_
          refine lv_imul hx hb dX8_keep_67 ?_
          refine lv_iload_n hx hb dX8_keep_68 rfl (lv_at hl 0 rfl) ?_
          refine lv_iadd hx hb dX8_keep_69 ?_
          refine lv_aload_n hx hb dX8_keep_70 rfl (lv_at hl 1 rfl) ?_
          refine va_get (D := (dC, dI)) (ci := 8) (v := .ref (a0 5)) (C := RX8) (T := TX8) (N := 27) hx hb hts nX8_keep_8 hown hK hP 0 rfl rfl 5 (by decide) (hts _ qX8_keep_3) (fun _ h9 => h9) rfl dX8_keep_71 ?_
          refine lv_iload_n hx hb dX8_keep_74 rfl (lv_at hl 0 rfl) ?_
          obtain ⟨c8, hf⟩ := q_ck hf
          refine va_iald hx hb hK hP 4 0 rfl rfl c8 dX8_keep_75 ?_
          obtain ⟨c9, hf⟩ := q_ck hf
          obtain ⟨sn10, esn10, hf⟩ := q_lto hf
          refine va_iast hx hb hK hP hD hS 6 0 rfl rfl c9 dX8_keep_76 (fun H locs hP hD hS => ?_)
          have hP : va_P (dC, dI) vwCl (wcM cI cZ o0 a0 sn10 t0) H := by rw [esn10]; exact hP
          have hD : va_D A (wcM cI cZ o0 a0 sn10 t0) := by rw [esn10]; exact hD
          refine lv_iinc (v := l1_3 + (1 : Int32)) (lv' := [(1, .int (l1_3 + (1 : Int32))), (0, .ref o0)]) hx hb dX8_keep_77 hl (k := 0) rfl rfl (by decide) rfl (fun ls hl => ?_)
          refine lv_goto (tgt := 51) hx hb dX8_keep_80 (by decide) ?_
          exact ihn5 (l1_3 + (1 : Int32)) sn10 hf _ _ hP hD hS _ hl
    exact aihn5 5000 (0 : Int32) sj1 hqn5 _ _ hP hD hS _ hl
  have hf := hqj2
  refine lv_icmp_ne (tgt := 49) hx hb dX8_keep_6 (by decide) (fun c12 => ?_) (fun c12 => ?_)
  · have hf := q_f c12 hf
    exact kj2 s0 (q_s1 hf) _ _ hP hD hS _ hl
  · have hf := q_t c12 hf
    refine lv_iconst (v := 0) hx hb dX8_keep_9 (by decide) ?_
    refine lv_istore_n (lv' := [(1, .int (0 : Int32)), (0, .ref o0)]) hx hb dX8_keep_10 rfl hl (by decide) rfl (fun ls hl => ?_)
    obtain ⟨oz16, hqn15, hf⟩ := q_b1o hf
    have kxn15 : ∀ z16 : St, z16 = oz16 → ∀ (H : Heap) (locs : List Loc), va_P (dC, dI) vwCl (wcM cI cZ o0 a0 z16 t0) H → va_D A (wcM cI cZ o0 a0 z16 t0) → va_S A s.heap H locs → ∀ ls : Array Slot, lv_has ls 2 [(0, .ref o0)] → W p l e ({ frames := 0, cells := 0, slots := 0, locals := 0 } : Room) s m [.ref o0].toArray below meth c H locs 0 0 (MQ below (qvW (dC, dI) (q_ty cI cB cZ) (wcM cI cZ o0 a0 s0 t0) (wcM cI cZ o0 a0 z0 t0) sz) [.ref o0].toArray s 0 0 (va_A (wcM cI cZ o0 a0 s0 t0) sz)) (F0 m 39 ls []) := by
      intro z16 ez16 H locs hP hD hS ls hl
      subst ez16
      refine lv_aload_n hx hb dX8_keep_39 rfl (lv_at hl 0 rfl) ?_
      refine lv_dup hx hb dX8_keep_40 rfl ?_
      refine va_get (D := (dC, dI)) (ci := 8) (v := .int (z16 9 0)) (C := RX8) (T := TX8) (N := 27) hx hb hts nX8_keep_8 hown hK hP 0 rfl rfl 9 (by decide) (hts _ qX8_keep_1) (fun _ h9 => h9) rfl dX8_keep_41 ?_
      refine lv_iconst (v := 1) hx hb dX8_keep_44 (by decide) ?_
      refine lv_isub hx hb dX8_keep_45 ?_
      obtain ⟨sn21, esn21, hf⟩ := q_lto hf
      refine va_put (D := (dC, dI)) (ci := 8) (v := .int ((z16 9 0) - (1 : Int32))) (ty := .int) (C := RX8) (T := TX8) (N := 27) hx hb hts nX8_keep_8 tyX8 tyX8_ok nmX8 hown hK hP hD hS 0 rfl rfl 9 (by decide) (hts _ qX8_keep_1) (fun _ h9 => h9) rfl (by decide +kernel) rfl rfl (Nat.le_of_ble_eq_true rfl) dX8_keep_46 (fun H locs hP hD hS => ?_)
      have hP : va_P (dC, dI) vwCl (wcM cI cZ o0 a0 sn21 t0) H := by rw [esn21]; exact hP
      have hD : va_D A (wcM cI cZ o0 a0 sn21 t0) := by rw [esn21]; exact hD
      exact kj2 sn21 (q_s1 hf) _ _ hP hD hS _ hl
    have aihn15 : ∀ n15 : Nat, ∀ l1_13 : Int32, ∀ sl14 : St, fX8_keep_L11 n15 l1_13 sl14 = some oz16 → ∀ (H : Heap) (locs : List Loc), va_P (dC, dI) vwCl (wcM cI cZ o0 a0 sl14 t0) H → va_D A (wcM cI cZ o0 a0 sl14 t0) → va_S A s.heap H locs → ∀ ls : Array Slot, lv_has ls 2 [(1, .int l1_13), (0, .ref o0)] → W p l e ({ frames := 0, cells := 0, slots := 0, locals := 0 } : Room) s m [.ref o0].toArray below meth c H locs 0 0 (MQ below (qvW (dC, dI) (q_ty cI cB cZ) (wcM cI cZ o0 a0 s0 t0) (wcM cI cZ o0 a0 z0 t0) sz) [.ref o0].toArray s 0 0 (va_A (wcM cI cZ o0 a0 s0 t0) sz)) (F0 m 11 ls []) := by
      intro n15
      induction n15 with
      | zero =>
        intro l1_13 sl14 hf
        exact q_no hf
      | succ n15 ihn15 =>
        intro l1_13 sl14 hf H locs hP hD hS ls hl
        rw [fX8_keep_L11] at hf
        refine lv_iload_n hx hb dX8_keep_11 rfl (lv_at hl 0 rfl) ?_
        refine lv_sipush (v := 1357) hx hb dX8_keep_12 (by decide) ?_
        refine lv_icmp_ge (tgt := 39) hx hb dX8_keep_15 (by decide) (fun c17 => ?_) (fun c17 => ?_)
        · have hf := q_t c17 hf
          exact kxn15 sl14 (q_s1 hf) _ _ hP hD hS _ (lv_sub hl [1] rfl)
        · have hf := q_f c17 hf
          refine lv_aload_n hx hb dX8_keep_18 rfl (lv_at hl 1 rfl) ?_
          refine va_get (D := (dC, dI)) (ci := 8) (v := .ref (a0 8)) (C := RX8) (T := TX8) (N := 27) hx hb hts nX8_keep_8 hown hK hP 0 rfl rfl 8 (by decide) (hts _ qX8_keep_2) (fun _ h9 => h9) rfl dX8_keep_19 ?_
          refine lv_iload_n hx hb dX8_keep_22 rfl (lv_at hl 0 rfl) ?_
          refine lv_aload_n hx hb dX8_keep_23 rfl (lv_at hl 1 rfl) ?_
          refine va_get (D := (dC, dI)) (ci := 8) (v := .ref (a0 8)) (C := RX8) (T := TX8) (N := 27) hx hb hts nX8_keep_8 hown hK hP 0 rfl rfl 8 (by decide) (hts _ qX8_keep_2) (fun _ h9 => h9) rfl dX8_keep_24 ?_
          refine lv_iload_n hx hb dX8_keep_27 rfl (lv_at hl 0 rfl) ?_
          refine lv_bipush (v := 59) hx hb dX8_keep_28 (by decide) ?_
          refine lv_iadd hx hb dX8_keep_30 ?_
          obtain ⟨c18, hf⟩ := q_ck hf
          refine va_iald hx hb hK hP 6 0 rfl rfl c18 dX8_keep_31 ?_
          obtain ⟨c19, hf⟩ := q_ck hf
          obtain ⟨sn20, esn20, hf⟩ := q_lto hf
          refine va_iast hx hb hK hP hD hS 6 0 rfl rfl c19 dX8_keep_32 (fun H locs hP hD hS => ?_)
          have hP : va_P (dC, dI) vwCl (wcM cI cZ o0 a0 sn20 t0) H := by rw [esn20]; exact hP
          have hD : va_D A (wcM cI cZ o0 a0 sn20 t0) := by rw [esn20]; exact hD
          refine lv_iinc (v := l1_13 + (1 : Int32)) (lv' := [(1, .int (l1_13 + (1 : Int32))), (0, .ref o0)]) hx hb dX8_keep_33 hl (k := 0) rfl rfl (by decide) rfl (fun ls hl => ?_)
          refine lv_goto (tgt := 11) hx hb dX8_keep_36 (by decide) ?_
          exact ihn15 (l1_13 + (1 : Int32)) sn20 hf _ _ hP hD hS _ hl
    exact aihn15 5000 (0 : Int32) s0 hqn15 _ _ hP hD hS _ hl
theorem hdX8_draws : yX8_draws.cls = RX8 ∧ yX8_draws.cls ≠ "java/lang/invoke/MethodHandle" ∧ yX8_draws.cls ≠ "java/lang/invoke/VarHandle" ∧ (parseMethodDescriptor yX8_draws.desc).map (fun d => d.parameters.length) = some 1 := by decide +kernel
theorem qX8_draws_1 : (Cond.fieldLink RX8 209 "DeadAskedModel" "drawn" "J") ∈ wsX8_draws := List.mem_of_getElem? (i := 1) (by decide +kernel)
theorem qX8_draws_2 : (Cond.constantLong RX8 213 16807) ∈ wsX8_draws := List.mem_of_getElem? (i := 2) (by decide +kernel)
theorem qX8_draws_3 : (Cond.constantLong RX8 215 2147483647) ∈ wsX8_draws := List.mem_of_getElem? (i := 3) (by decide +kernel)
theorem qX8_draws_4 : (Cond.constantLong RX8 217 10) ∈ wsX8_draws := List.mem_of_getElem? (i := 4) (by decide +kernel)
theorem nX8_draws_8 : ∀ w ∈ u_ws RX8 TX8 27, w ∈ wsX8_draws := fun _ h => (List.mem_cons_of_mem _ (List.mem_append_right _ h))
set_option maxHeartbeats 4000000 in
set_option maxRecDepth 100000 in
theorem kX8_draws (o0 : Nat) (a0 : Nat → Nat) (s0 : St) (t0 : Lt) (p1 : Int32) (sz : Nat) (r : Int32) (y0 : Lt) (hf : fX8_draws t0 p1 = some (r, y0)) : Met l yX8_draws wsX8_draws ({ frames := 0, cells := 0, slots := 0, locals := 0 } : Room) (pcW (dC, dI) (q_ty cI cB cZ) [.ref o0, .int p1] (wcM cI cZ o0 a0 s0 t0) sz) (qiW (dC, dI) (q_ty cI cB cZ) (wcM cI cZ o0 a0 s0 t0) (wcM cI cZ o0 a0 s0 y0) sz r) 0 0 (va_A (wcM cI cZ o0 a0 s0 t0) sz) := by
  refine q_rwM (cc := cX8_draws) (maxL := 2) (ret := (some .boolean)) (by decide +kernel) rfl (Nat.le_of_ble_eq_true rfl) ?_
  intro p e s m below meth c hx hb hr hlk hml hown hts hK A H hAe hH hsz hP hD hA hS ls hl
  have hown : s.vm.findClass RX8 = some m.cls := hown
  have hl : lv_has ls 2 [(0, .ref o0), (1, .int p1)] := hl
  unfold fX8_draws at hf
  refine lv_aload_n hx hb dX8_draws_0 rfl (lv_at hl 0 rfl) ?_
  refine lv_aload_n hx hb dX8_draws_1 rfl (lv_at hl 0 rfl) ?_
  refine va_get (D := (dC, dI)) (ci := 8) (v := .long (t0 20)) (C := RX8) (T := TX8) (N := 27) hx hb hts nX8_draws_8 hown hK hP 0 rfl rfl 20 (by decide) (hts _ qX8_draws_1) (fun _ h9 => h9) rfl dX8_draws_2 ?_
  refine lv_ldc2 (v := 16807) hx hb hown (hts _ qX8_draws_2) dX8_draws_5 ?_
  refine lv_lmul hx hb dX8_draws_8 ?_
  refine lv_ldc2 (v := 2147483647) hx hb hown (hts _ qX8_draws_3) dX8_draws_9 ?_
  refine lv_lrem hx hb dX8_draws_12 (by decide) ?_
  obtain ⟨tn1, etn1, hf⟩ := q_lto hf
  refine va_put (D := (dC, dI)) (ci := 8) (v := .long (((t0 20) * (16807 : Int64)) - ((t0 20) * (16807 : Int64)) / (2147483647 : Int64) * (2147483647 : Int64))) (ty := .long) (C := RX8) (T := TX8) (N := 27) hx hb hts nX8_draws_8 tyX8 tyX8_ok nmX8 hown hK hP hD hS 0 rfl rfl 20 (by decide) (hts _ qX8_draws_1) (fun _ h9 => h9) rfl (by decide +kernel) rfl rfl (Nat.le_of_ble_eq_true rfl) dX8_draws_13 (fun H locs hP hD hS => ?_)
  have hP : va_P (dC, dI) vwCl (wcM cI cZ o0 a0 s0 tn1) H := by rw [etn1]; exact hP
  have hD : va_D A (wcM cI cZ o0 a0 s0 tn1) := by rw [etn1]; exact hD
  refine lv_aload_n hx hb dX8_draws_16 rfl (lv_at hl 0 rfl) ?_
  refine va_get (D := (dC, dI)) (ci := 8) (v := .long (tn1 20)) (C := RX8) (T := TX8) (N := 27) hx hb hts nX8_draws_8 hown hK hP 0 rfl rfl 20 (by decide) (hts _ qX8_draws_1) (fun _ h9 => h9) rfl dX8_draws_17 ?_
  refine lv_ldc2 (v := 10) hx hb hown (hts _ qX8_draws_4) dX8_draws_20 ?_
  refine lv_lrem hx hb dX8_draws_23 (by decide) ?_
  refine lv_iload_n hx hb dX8_draws_24 rfl (lv_at hl 1 rfl) ?_
  refine lv_i2l (v := p1.toInt64) hx hb dX8_draws_25 rfl ?_
  refine W.lcmp hx hb dX8_draws_26 ?_
  refine lv_if_ge (tgt := 34) hx hb dX8_draws_27 (by decide) (fun c2 => ?_) (fun c2 => ?_)
  · have hf := q_t c2 hf
    refine lv_iconst (v := 0) hx hb dX8_draws_34 (by decide) ?_
    obtain ⟨ee0, ee1⟩ := q_s2 hf
    subst ee1
    exact q_wretZ hx hb hr hlk rfl hAe hK hP hD hS ee0 dX8_draws_35
  · have hf := q_f c2 hf
    refine lv_iconst (v := 1) hx hb dX8_draws_30 (by decide) ?_
    refine lv_goto (tgt := 35) hx hb dX8_draws_31 (by decide) ?_
    obtain ⟨ee0, ee1⟩ := q_s2 hf
    subst ee1
    exact q_wretZ hx hb hr hlk rfl hAe hK hP hD hS ee0 dX8_draws_35
theorem hdX8_isMatter : yX8_isMatter.cls ≠ "java/lang/invoke/MethodHandle" ∧ yX8_isMatter.cls ≠ "java/lang/invoke/VarHandle" ∧ (parseMethodDescriptor yX8_isMatter.desc).map (fun d => d.parameters.length) = some 1 := by decide +kernel
theorem qX8_isMatter_1 : (Cond.constantLong RX8 219 15) ∈ wsX8_isMatter := List.mem_of_getElem? (i := 1) (by decide +kernel)
set_option maxHeartbeats 4000000 in
set_option maxRecDepth 100000 in
theorem kX8_isMatter (p0 : Int32) (r : Int32) (hf : fX8_isMatter p0 = some r) : Met l yX8_isMatter wsX8_isMatter ({ frames := 1, cells := 0, slots := 0, locals := 25 } : Room) (pcS [.int p0]) (qiR r) 0 0 (fun _ => False) := by
  refine q_roS (cc := cX8_isMatter) (maxL := 1) (ret := (some .boolean)) (by decide +kernel) rfl (Nat.le_of_ble_eq_true rfl) ?_
  intro p e s m below meth c hx hb hr hlk hml hown hts ls hl
  have hown : s.vm.findClass RX8 = some m.cls := hown
  have hl : lv_has ls 1 [(0, .int p0)] := hl
  unfold fX8_isMatter at hf
  refine lv_iload_n hx hb dX8_isMatter_0 rfl (lv_at hl 0 rfl) ?_
  refine lv_i2l (v := p0.toInt64) hx hb dX8_isMatter_1 rfl ?_
  refine lv_lconst (v := 1) hx hb dX8_isMatter_2 (by decide) ?_
  refine lv_ldc2 (v := 15) hx hb hown (hts _ qX8_isMatter_1) dX8_isMatter_3 ?_
  obtain ⟨r1, h2, hf⟩ := q_b1o hf
  refine q_roSi (As := [.long p0.toInt64, .long (1 : Int64), .long (15 : Int64)]) (rest := []) ⟨hx, hb, hml, hown, hts⟩ (kX8_in l p0.toInt64 (1 : Int64) (15 : Int64) r1 h2) (va_cwS 3 hts gX8_isMatter_X8_in rfl rfl rfl hdX8_in ⟨Nat.le_of_ble_eq_true rfl, Nat.le_of_ble_eq_true rfl⟩) rfl hl.1 rfl (Nat.le_of_ble_eq_true rfl) dX8_isMatter_6 ⟨Nat.zero_le _, Nat.zero_le _⟩ ?_
  obtain ⟨c3, hf⟩ := q_ck hf
  have ee0 := q_s1 hf
  exact q_retZ hx hb hr hlk (q_nb c3) ee0 dX8_isMatter_9
theorem hdX8_areHorns : yX8_areHorns.cls ≠ "java/lang/invoke/MethodHandle" ∧ yX8_areHorns.cls ≠ "java/lang/invoke/VarHandle" ∧ (parseMethodDescriptor yX8_areHorns.desc).map (fun d => d.parameters.length) = some 1 := by decide +kernel
theorem qX8_areHorns_1 : (Cond.constantLong RX8 219 15) ∈ wsX8_areHorns := List.mem_of_getElem? (i := 1) (by decide +kernel)
set_option maxHeartbeats 4000000 in
set_option maxRecDepth 100000 in
theorem kX8_areHorns (p0 : Int32) (r : Int32) (hf : fX8_areHorns p0 = some r) : Met l yX8_areHorns wsX8_areHorns ({ frames := 1, cells := 0, slots := 0, locals := 25 } : Room) (pcS [.int p0]) (qiR r) 0 0 (fun _ => False) := by
  refine q_roS (cc := cX8_areHorns) (maxL := 1) (ret := (some .boolean)) (by decide +kernel) rfl (Nat.le_of_ble_eq_true rfl) ?_
  intro p e s m below meth c hx hb hr hlk hml hown hts ls hl
  have hown : s.vm.findClass RX8 = some m.cls := hown
  have hl : lv_has ls 1 [(0, .int p0)] := hl
  unfold fX8_areHorns at hf
  refine lv_iload_n hx hb dX8_areHorns_0 rfl (lv_at hl 0 rfl) ?_
  refine lv_i2l (v := p0.toInt64) hx hb dX8_areHorns_1 rfl ?_
  refine lv_lconst (v := 0) hx hb dX8_areHorns_2 (by decide) ?_
  refine lv_ldc2 (v := 15) hx hb hown (hts _ qX8_areHorns_1) dX8_areHorns_3 ?_
  obtain ⟨r1, h2, hf⟩ := q_b1o hf
  refine q_roSi (As := [.long p0.toInt64, .long (0 : Int64), .long (15 : Int64)]) (rest := []) ⟨hx, hb, hml, hown, hts⟩ (kX8_in l p0.toInt64 (0 : Int64) (15 : Int64) r1 h2) (va_cwS 3 hts gX8_areHorns_X8_in rfl rfl rfl hdX8_in ⟨Nat.le_of_ble_eq_true rfl, Nat.le_of_ble_eq_true rfl⟩) rfl hl.1 rfl (Nat.le_of_ble_eq_true rfl) dX8_areHorns_6 ⟨Nat.zero_le _, Nat.zero_le _⟩ ?_
  obtain ⟨c3, hf⟩ := q_ck hf
  have ee0 := q_s1 hf
  exact q_retZ hx hb hr hlk (q_nb c3) ee0 dX8_areHorns_9
theorem hdX8_isHour : yX8_isHour.cls ≠ "java/lang/invoke/MethodHandle" ∧ yX8_isHour.cls ≠ "java/lang/invoke/VarHandle" ∧ (parseMethodDescriptor yX8_isHour.desc).map (fun d => d.parameters.length) = some 1 := by decide +kernel
theorem qX8_isHour_1 : (Cond.constantLong RX8 221 11) ∈ wsX8_isHour := List.mem_of_getElem? (i := 1) (by decide +kernel)
set_option maxHeartbeats 4000000 in
set_option maxRecDepth 100000 in
theorem kX8_isHour (p0 : Int32) (r : Int32) (hf : fX8_isHour p0 = some r) : Met l yX8_isHour wsX8_isHour ({ frames := 1, cells := 0, slots := 0, locals := 25 } : Room) (pcS [.int p0]) (qiR r) 0 0 (fun _ => False) := by
  refine q_roS (cc := cX8_isHour) (maxL := 1) (ret := (some .boolean)) (by decide +kernel) rfl (Nat.le_of_ble_eq_true rfl) ?_
  intro p e s m below meth c hx hb hr hlk hml hown hts ls hl
  have hown : s.vm.findClass RX8 = some m.cls := hown
  have hl : lv_has ls 1 [(0, .int p0)] := hl
  unfold fX8_isHour at hf
  refine lv_iload_n hx hb dX8_isHour_0 rfl (lv_at hl 0 rfl) ?_
  refine lv_i2l (v := p0.toInt64) hx hb dX8_isHour_1 rfl ?_
  refine lv_lconst (v := 0) hx hb dX8_isHour_2 (by decide) ?_
  refine lv_ldc2 (v := 11) hx hb hown (hts _ qX8_isHour_1) dX8_isHour_3 ?_
  obtain ⟨r1, h2, hf⟩ := q_b1o hf
  refine q_roSi (As := [.long p0.toInt64, .long (0 : Int64), .long (11 : Int64)]) (rest := []) ⟨hx, hb, hml, hown, hts⟩ (kX8_in l p0.toInt64 (0 : Int64) (11 : Int64) r1 h2) (va_cwS 3 hts gX8_isHour_X8_in rfl rfl rfl hdX8_in ⟨Nat.le_of_ble_eq_true rfl, Nat.le_of_ble_eq_true rfl⟩) rfl hl.1 rfl (Nat.le_of_ble_eq_true rfl) dX8_isHour_6 ⟨Nat.zero_le _, Nat.zero_le _⟩ ?_
  obtain ⟨c3, hf⟩ := q_ck hf
  have ee0 := q_s1 hf
  exact q_retZ hx hb hr hlk (q_nb c3) ee0 dX8_isHour_9
theorem hdX8_ask : yX8_ask.cls = RX8 ∧ yX8_ask.cls ≠ "java/lang/invoke/MethodHandle" ∧ yX8_ask.cls ≠ "java/lang/invoke/VarHandle" ∧ (parseMethodDescriptor yX8_ask.desc).map (fun d => d.parameters.length) = some 4 := by decide +kernel
theorem qX8_ask_1 : (Cond.fieldLink RX8 41 "DeadAskedModel" "thrown" "I") ∈ wsX8_ask := List.mem_of_getElem? (i := 1) (by decide +kernel)
theorem qX8_ask_2 : (Cond.fieldLink RX8 184 "DeadAskedModel" "isThere" "Z") ∈ wsX8_ask := List.mem_of_getElem? (i := 2) (by decide +kernel)
theorem qX8_ask_3 : (Cond.constantLong RX8 223 (-9000000000000000002)) ∈ wsX8_ask := List.mem_of_getElem? (i := 3) (by decide +kernel)
theorem qX8_ask_4 : (Cond.constantLong RX8 234 999999) ∈ wsX8_ask := List.mem_of_getElem? (i := 4) (by decide +kernel)
theorem qX8_ask_5 : (Cond.constantLong RX8 62 (-9000000000000000001)) ∈ wsX8_ask := List.mem_of_getElem? (i := 5) (by decide +kernel)
theorem qX8_ask_6 : (Cond.fieldLink RX8 209 "DeadAskedModel" "drawn" "J") ∈ wsX8_ask := List.mem_of_getElem? (i := 6) (by decide +kernel)
theorem qX8_ask_7 : (Cond.fieldLink RX8 19 "DeadAskedModel" "hill" "[I") ∈ wsX8_ask := List.mem_of_getElem? (i := 7) (by decide +kernel)
theorem nX8_ask_8 : ∀ w ∈ u_ws RX8 TX8 27, w ∈ wsX8_ask := fun _ h => (List.mem_cons_of_mem _ (List.mem_append_right _ h))
set_option maxHeartbeats 4000000 in
set_option maxRecDepth 100000 in
theorem kX8_ask (o0 : Nat) (a0 : Nat → Nat) (s0 : St) (t0 : Lt) (p1 : Int32) (p2 : Int32) (p3 : Int32) (p4 : Int32) (sz : Nat) (r : Int64) (z0 : St) (y0 : Lt) (hf : fX8_ask s0 t0 p1 p2 p3 p4 = some (r, z0, y0)) : Met l yX8_ask wsX8_ask ({ frames := 3, cells := 0, slots := 0, locals := 72 } : Room) (pcW (dC, dI) (q_ty cI cB cZ) [.ref o0, .int p1, .int p2, .int p3, .int p4] (wcM cI cZ o0 a0 s0 t0) sz) (qlW (dC, dI) (q_ty cI cB cZ) (wcM cI cZ o0 a0 s0 t0) (wcM cI cZ o0 a0 z0 y0) sz r) 0 0 (va_A (wcM cI cZ o0 a0 s0 t0) sz) := by
  refine q_rwM (cc := cX8_ask) (maxL := 9) (ret := (some .long)) (by decide +kernel) rfl (Nat.le_of_ble_eq_true rfl) ?_
  intro p e s m below meth c hx hb hr hlk hml hown hts hK A H hAe hH hsz hP hD hA hS ls hl
  have hown : s.vm.findClass RX8 = some m.cls := hown
  have hl : lv_has ls 9 [(0, .ref o0), (1, .int p1), (2, .int p2), (3, .int p3), (4, .int p4)] := hl
  unfold fX8_ask at hf
  refine lv_aload_n hx hb dX8_ask_0 rfl (lv_at hl 0 rfl) ?_
  refine lv_iconst (v := 0) hx hb dX8_ask_1 (by decide) ?_
  obtain ⟨sn1, esn1, hf⟩ := q_lto hf
  refine va_put (D := (dC, dI)) (ci := 8) (v := .int (0 : Int32)) (ty := .int) (C := RX8) (T := TX8) (N := 27) hx hb hts nX8_ask_8 tyX8 tyX8_ok nmX8 hown hK hP hD hS 0 rfl rfl 0 (by decide) (hts _ qX8_ask_1) (fun _ h9 => h9) rfl (by decide +kernel) rfl rfl (Nat.le_of_ble_eq_true rfl) dX8_ask_2 (fun H locs hP hD hS => ?_)
  have hP : va_P (dC, dI) vwCl (wcM cI cZ o0 a0 sn1 t0) H := by rw [esn1]; exact hP
  have hD : va_D A (wcM cI cZ o0 a0 sn1 t0) := by rw [esn1]; exact hD
  refine lv_aload_n hx hb dX8_ask_5 rfl (lv_at hl 0 rfl) ?_
  refine va_get (D := (dC, dI)) (ci := 8) (v := .int (sn1 7 0)) (C := RX8) (T := TX8) (N := 27) hx hb hts nX8_ask_8 hown hK hP 0 rfl rfl 7 (by decide) (hts _ qX8_ask_2) (fun _ h9 => h9) rfl dX8_ask_6 ?_
  refine lv_if_ne (tgt := 16) hx hb dX8_ask_9 (by decide) (fun c2 => ?_) (fun c2 => ?_)
  · have hf := q_f c2 hf
    refine lv_iload_n hx hb dX8_ask_16 rfl (lv_at hl 1 rfl) ?_
    obtain ⟨r3, h4, hf⟩ := q_b1o hf
    refine q_roSi (As := [.int p1]) (rest := []) ⟨hx, hb, hml, hown, hts⟩ (kX8_isMatter l p1 r3 h4) (va_cwS 1 hts gX8_ask_X8_isMatter rfl rfl rfl hdX8_isMatter ⟨Nat.le_of_ble_eq_true rfl, Nat.le_of_ble_eq_true rfl⟩) rfl hl.1 rfl (Nat.le_of_ble_eq_true rfl) dX8_ask_17 ⟨Nat.zero_le _, Nat.zero_le _⟩ ?_
    refine lv_if_eq (tgt := 50) hx hb dX8_ask_20 (by decide) (fun c5 => ?_) (fun c5 => ?_)
    · have hf := q_t c5 hf
      refine lv_ldc2 (v := -9000000000000000001) hx hb hown (hts _ qX8_ask_5) dX8_ask_50 ?_
      obtain ⟨ee0, ee1, ee2⟩ := q_s3 hf
      subst ee1
      subst ee2
      exact q_wretL hx hb hr hlk hAe hK hP hD hS ee0 dX8_ask_53
    · have hf := q_f c5 hf
      refine lv_iload_n hx hb dX8_ask_23 rfl (lv_at hl 2 rfl) ?_
      obtain ⟨r6, h7, hf⟩ := q_b1o hf
      refine q_roSi (As := [.int p2]) (rest := []) ⟨hx, hb, hml, hown, hts⟩ (kX8_areHorns l p2 r6 h7) (va_cwS 1 hts gX8_ask_X8_areHorns rfl rfl rfl hdX8_areHorns ⟨Nat.le_of_ble_eq_true rfl, Nat.le_of_ble_eq_true rfl⟩) rfl hl.1 rfl (Nat.le_of_ble_eq_true rfl) dX8_ask_24 ⟨Nat.zero_le _, Nat.zero_le _⟩ ?_
      refine lv_if_eq (tgt := 50) hx hb dX8_ask_27 (by decide) (fun c8 => ?_) (fun c8 => ?_)
      · have hf := q_t c8 hf
        refine lv_ldc2 (v := -9000000000000000001) hx hb hown (hts _ qX8_ask_5) dX8_ask_50 ?_
        obtain ⟨ee0, ee1, ee2⟩ := q_s3 hf
        subst ee1
        subst ee2
        exact q_wretL hx hb hr hlk hAe hK hP hD hS ee0 dX8_ask_53
      · have hf := q_f c8 hf
        refine lv_iload_n hx hb dX8_ask_30 rfl (lv_at hl 3 rfl) ?_
        obtain ⟨r9, h10, hf⟩ := q_b1o hf
        refine q_roSi (As := [.int p3]) (rest := []) ⟨hx, hb, hml, hown, hts⟩ (kX8_isHour l p3 r9 h10) (va_cwS 1 hts gX8_ask_X8_isHour rfl rfl rfl hdX8_isHour ⟨Nat.le_of_ble_eq_true rfl, Nat.le_of_ble_eq_true rfl⟩) rfl hl.1 rfl (Nat.le_of_ble_eq_true rfl) dX8_ask_31 ⟨Nat.zero_le _, Nat.zero_le _⟩ ?_
        refine lv_if_eq (tgt := 50) hx hb dX8_ask_34 (by decide) (fun c11 => ?_) (fun c11 => ?_)
        · have hf := q_t c11 hf
          refine lv_ldc2 (v := -9000000000000000001) hx hb hown (hts _ qX8_ask_5) dX8_ask_50 ?_
          obtain ⟨ee0, ee1, ee2⟩ := q_s3 hf
          subst ee1
          subst ee2
          exact q_wretL hx hb hr hlk hAe hK hP hD hS ee0 dX8_ask_53
        · have hf := q_f c11 hf
          refine lv_iload hx hb dX8_ask_37 (lv_at hl 4 rfl) ?_
          refine lv_i2l (v := p4.toInt64) hx hb dX8_ask_39 rfl ?_
          refine lv_lconst (v := 1) hx hb dX8_ask_40 (by decide) ?_
          refine lv_ldc2 (v := 999999) hx hb hown (hts _ qX8_ask_4) dX8_ask_41 ?_
          obtain ⟨r12, h13, hf⟩ := q_b1o hf
          refine q_roSi (As := [.long p4.toInt64, .long (1 : Int64), .long (999999 : Int64)]) (rest := []) ⟨hx, hb, hml, hown, hts⟩ (kX8_in l p4.toInt64 (1 : Int64) (999999 : Int64) r12 h13) (va_cwS 3 hts gX8_ask_X8_in rfl rfl rfl hdX8_in ⟨Nat.le_of_ble_eq_true rfl, Nat.le_of_ble_eq_true rfl⟩) rfl hl.1 rfl (Nat.le_of_ble_eq_true rfl) dX8_ask_44 ⟨Nat.zero_le _, Nat.zero_le _⟩ ?_
          refine lv_if_ne (tgt := 54) hx hb dX8_ask_47 (by decide) (fun c14 => ?_) (fun c14 => ?_)
          · have hf := q_f c14 hf
            refine lv_aload_n hx hb dX8_ask_54 rfl (lv_at hl 0 rfl) ?_
            refine lv_iload hx hb dX8_ask_55 (lv_at hl 4 rfl) ?_
            refine lv_i2l (v := p4.toInt64) hx hb dX8_ask_57 rfl ?_
            obtain ⟨tn15, etn15, hf⟩ := q_lto hf
            refine va_put (D := (dC, dI)) (ci := 8) (v := .long p4.toInt64) (ty := .long) (C := RX8) (T := TX8) (N := 27) hx hb hts nX8_ask_8 tyX8 tyX8_ok nmX8 hown hK hP hD hS 0 rfl rfl 20 (by decide) (hts _ qX8_ask_6) (fun _ h9 => h9) rfl (by decide +kernel) rfl rfl (Nat.le_of_ble_eq_true rfl) dX8_ask_58 (fun H locs hP hD hS => ?_)
            have hP : va_P (dC, dI) vwCl (wcM cI cZ o0 a0 sn1 tn15) H := by rw [etn15]; exact hP
            have hD : va_D A (wcM cI cZ o0 a0 sn1 tn15) := by rw [etn15]; exact hD
            refine lv_iconst (v := 0) hx hb dX8_ask_61 (by decide) ?_
            refine lv_istore (lv' := [(5, .int (0 : Int32)), (0, .ref o0), (1, .int p1), (2, .int p2), (3, .int p3), (4, .int p4)]) hx hb dX8_ask_62 hl (by decide) rfl (fun ls hl => ?_)
            refine lv_iconst (v := 0) hx hb dX8_ask_64 (by decide) ?_
            refine lv_istore (lv' := [(6, .int (0 : Int32)), (5, .int (0 : Int32)), (0, .ref o0), (1, .int p1), (2, .int p2), (3, .int p3), (4, .int p4)]) hx hb dX8_ask_65 hl (by decide) rfl (fun ls hl => ?_)
            obtain ⟨oz20, oz21, hqn19, hf⟩ := q_b2o hf
            have kxn19 : ∀ z20 : Int32, ∀ z21 : Lt, z20 = oz20 → z21 = oz21 → ∀ (H : Heap) (locs : List Loc), va_P (dC, dI) vwCl (wcM cI cZ o0 a0 sn1 z21) H → va_D A (wcM cI cZ o0 a0 sn1 z21) → va_S A s.heap H locs → ∀ ls : Array Slot, lv_has ls 9 [(5, .int z20), (0, .ref o0)] → W p l e ({ frames := 3, cells := 0, slots := 0, locals := 72 } : Room) s m [.ref o0, .int p1, .int p2, .int p3, .int p4].toArray below meth c H locs 0 0 (MQ below (qlW (dC, dI) (q_ty cI cB cZ) (wcM cI cZ o0 a0 s0 t0) (wcM cI cZ o0 a0 z0 y0) sz r) [.ref o0, .int p1, .int p2, .int p3, .int p4].toArray s 0 0 (va_A (wcM cI cZ o0 a0 s0 t0) sz)) (F0 m 202 ls []) := by
              intro z20 z21 ez20 ez21 H locs hP hD hS ls hl
              subst ez20
              subst ez21
              refine lv_aload_n hx hb dX8_ask_202 rfl (lv_at hl 1 rfl) ?_
              obtain ⟨sc65, h66, hf⟩ := q_b1o hf
              refine q_rwVv (As := []) (rest := []) (ci := 8) (wr := []) (w2 := (wcM cI cZ o0 a0 sc65 z21)) ⟨hx, hb, hml, hown, hts⟩ (kX8_keep l dC dI cI cB cZ o0 a0 sn1 z21 H.size sc65 h66) (cwV 0 hts gX8_ask_X8_keep rfl rfl rfl hdX8_keep ⟨Nat.le_of_ble_eq_true rfl, Nat.le_of_ble_eq_true rfl⟩) hK hP hD hS hA [0, 1, 2, 3, 4, 5, 6, 7, 8, 9, 10] [] [0, 1, 2, 3, 4, 5, 6, 7, 8, 9, 10] rfl rfl (by decide) (by decide) (by decide) rfl (by decide) rfl rfl rfl hl.1 rfl (Nat.le_of_ble_eq_true rfl) dX8_ask_203 ⟨Nat.zero_le _, Nat.zero_le _⟩ (fun H locs hP hD hS => ?_)
              refine lv_iconst (v := 0) hx hb dX8_ask_206 (by decide) ?_
              refine lv_istore (lv' := [(6, .int (0 : Int32)), (5, .int z20), (0, .ref o0)]) hx hb dX8_ask_207 hl (by decide) rfl (fun ls hl => ?_)
              obtain ⟨oz70, hqn69, hf⟩ := q_b1o hf
              have kxn69 : ∀ z70 : St, z70 = oz70 → ∀ (H : Heap) (locs : List Loc), va_P (dC, dI) vwCl (wcM cI cZ o0 a0 z70 z21) H → va_D A (wcM cI cZ o0 a0 z70 z21) → va_S A s.heap H locs → ∀ ls : Array Slot, lv_has ls 9 [(5, .int z20)] → W p l e ({ frames := 3, cells := 0, slots := 0, locals := 72 } : Room) s m [.ref o0, .int p1, .int p2, .int p3, .int p4].toArray below meth c H locs 0 0 (MQ below (qlW (dC, dI) (q_ty cI cB cZ) (wcM cI cZ o0 a0 s0 t0) (wcM cI cZ o0 a0 z0 y0) sz r) [.ref o0, .int p1, .int p2, .int p3, .int p4].toArray s 0 0 (va_A (wcM cI cZ o0 a0 s0 t0) sz)) (F0 m 250 ls []) := by
                intro z70 ez70 H locs hP hD hS ls hl
                subst ez70
                refine lv_iload hx hb dX8_ask_250 (lv_at hl 0 rfl) ?_
                refine lv_i2l (v := z20.toInt64) hx hb dX8_ask_252 rfl ?_
                obtain ⟨ee0, ee1, ee2⟩ := q_s3 hf
                subst ee1
                subst ee2
                exact q_wretL hx hb hr hlk hAe hK hP hD hS ee0 dX8_ask_253
              have aihn69 : ∀ n69 : Nat, ∀ l6_67 : Int32, ∀ sl68 : St, fX8_ask_L209 z20 n69 l6_67 sl68 = some oz70 → ∀ (H : Heap) (locs : List Loc), va_P (dC, dI) vwCl (wcM cI cZ o0 a0 sl68 z21) H → va_D A (wcM cI cZ o0 a0 sl68 z21) → va_S A s.heap H locs → ∀ ls : Array Slot, lv_has ls 9 [(6, .int l6_67), (5, .int z20), (0, .ref o0)] → W p l e ({ frames := 3, cells := 0, slots := 0, locals := 72 } : Room) s m [.ref o0, .int p1, .int p2, .int p3, .int p4].toArray below meth c H locs 0 0 (MQ below (qlW (dC, dI) (q_ty cI cB cZ) (wcM cI cZ o0 a0 s0 t0) (wcM cI cZ o0 a0 z0 y0) sz r) [.ref o0, .int p1, .int p2, .int p3, .int p4].toArray s 0 0 (va_A (wcM cI cZ o0 a0 s0 t0) sz)) (F0 m 209 ls []) := by
                intro n69
                induction n69 with
                | zero =>
                  intro l6_67 sl68 hf
                  exact q_no hf
                | succ n69 ihn69 =>
                  intro l6_67 sl68 hf H locs hP hD hS ls hl
                  rw [fX8_ask_L209] at hf
                  refine lv_iload hx hb dX8_ask_209 (lv_at hl 0 rfl) ?_
                  refine lv_aload_n hx hb dX8_ask_211 rfl (lv_at hl 2 rfl) ?_
                  refine va_get (D := (dC, dI)) (ci := 8) (v := .ref (a0 5)) (C := RX8) (T := TX8) (N := 27) hx hb hts nX8_ask_8 hown hK hP 0 rfl rfl 5 (by decide) (hts _ qX8_ask_7) (fun _ h9 => h9) rfl dX8_ask_212 ?_
                  refine lv_iconst (v := 2) hx hb dX8_ask_215 (by decide) ?_
                  obtain ⟨c71, hf⟩ := q_ck hf
                  refine va_iald hx hb hK hP 4 0 rfl rfl c71 dX8_ask_216 ?_
                  refine lv_icmp_ge (tgt := 250) hx hb dX8_ask_217 (by decide) (fun c72 => ?_) (fun c72 => ?_)
                  · have hf := q_t c72 hf
                    exact kxn69 sl68 (q_s1 hf) _ _ hP hD hS _ (lv_sub hl [1] rfl)
                  · have hf := q_f c72 hf
                    refine lv_aload_n hx hb dX8_ask_220 rfl (lv_at hl 2 rfl) ?_
                    refine va_get (D := (dC, dI)) (ci := 8) (v := .ref (a0 5)) (C := RX8) (T := TX8) (N := 27) hx hb hts nX8_ask_8 hown hK hP 0 rfl rfl 5 (by decide) (hts _ qX8_ask_7) (fun _ h9 => h9) rfl dX8_ask_221 ?_
                    refine lv_bipush (v := 47) hx hb dX8_ask_224 (by decide) ?_
                    refine lv_iconst (v := 3) hx hb dX8_ask_226 (by decide) ?_
                    refine lv_iload hx hb dX8_ask_227 (lv_at hl 0 rfl) ?_
                    refine lv_imul hx hb dX8_ask_229 ?_
                    refine lv_iadd hx hb dX8_ask_230 ?_
                    refine lv_iconst (v := 2) hx hb dX8_ask_231 (by decide) ?_
                    refine lv_iadd hx hb dX8_ask_232 ?_
                    refine lv_dup2_11 hx hb dX8_ask_233 rfl rfl ?_
                    obtain ⟨c73, hf⟩ := q_ck hf
                    refine va_iald hx hb hK hP 4 0 rfl rfl c73 dX8_ask_234 ?_
                    refine lv_iload hx hb dX8_ask_235 (lv_at hl 1 rfl) ?_
                    refine lv_iload hx hb dX8_ask_237 (lv_at hl 0 rfl) ?_
                    refine lv_ishr hx hb dX8_ask_239 ?_
                    refine lv_iconst (v := 1) hx hb dX8_ask_240 (by decide) ?_
                    refine lv_iand hx hb dX8_ask_241 ?_
                    refine lv_isub hx hb dX8_ask_242 ?_
                    obtain ⟨c74, hf⟩ := q_ck hf
                    obtain ⟨sn75, esn75, hf⟩ := q_lto hf
                    refine va_iast hx hb hK hP hD hS 4 0 rfl rfl c74 dX8_ask_243 (fun H locs hP hD hS => ?_)
                    have hP : va_P (dC, dI) vwCl (wcM cI cZ o0 a0 sn75 z21) H := by rw [esn75]; exact hP
                    have hD : va_D A (wcM cI cZ o0 a0 sn75 z21) := by rw [esn75]; exact hD
                    refine lv_iinc (v := l6_67 + (1 : Int32)) (lv' := [(6, .int (l6_67 + (1 : Int32))), (5, .int z20), (0, .ref o0)]) hx hb dX8_ask_244 hl (k := 0) rfl rfl (by decide) rfl (fun ls hl => ?_)
                    refine lv_goto (tgt := 209) hx hb dX8_ask_247 (by decide) ?_
                    exact ihn69 (l6_67 + (1 : Int32)) sn75 hf _ _ hP hD hS _ hl
              exact aihn69 5000 (0 : Int32) sc65 hqn69 _ _ hP hD hS _ hl
            have aihn19 : ∀ n19 : Nat, ∀ l5_16 : Int32, ∀ l6_17 : Int32, ∀ tl18 : Lt, fX8_ask_L67 p1 p2 p3 sn1 n19 l5_16 l6_17 tl18 = some (oz20, oz21) → ∀ (H : Heap) (locs : List Loc), va_P (dC, dI) vwCl (wcM cI cZ o0 a0 sn1 tl18) H → va_D A (wcM cI cZ o0 a0 sn1 tl18) → va_S A s.heap H locs → ∀ ls : Array Slot, lv_has ls 9 [(6, .int l6_17), (5, .int l5_16), (0, .ref o0), (1, .int p1), (2, .int p2), (3, .int p3)] → W p l e ({ frames := 3, cells := 0, slots := 0, locals := 72 } : Room) s m [.ref o0, .int p1, .int p2, .int p3, .int p4].toArray below meth c H locs 0 0 (MQ below (qlW (dC, dI) (q_ty cI cB cZ) (wcM cI cZ o0 a0 s0 t0) (wcM cI cZ o0 a0 z0 y0) sz r) [.ref o0, .int p1, .int p2, .int p3, .int p4].toArray s 0 0 (va_A (wcM cI cZ o0 a0 s0 t0) sz)) (F0 m 67 ls []) := by
              intro n19
              induction n19 with
              | zero =>
                intro l5_16 l6_17 tl18 hf
                exact q_no hf
              | succ n19 ihn19 =>
                intro l5_16 l6_17 tl18 hf H locs hP hD hS ls hl
                rw [fX8_ask_L67] at hf
                refine lv_iload hx hb dX8_ask_67 (lv_at hl 0 rfl) ?_
                refine lv_aload_n hx hb dX8_ask_69 rfl (lv_at hl 2 rfl) ?_
                refine va_get (D := (dC, dI)) (ci := 8) (v := .ref (a0 5)) (C := RX8) (T := TX8) (N := 27) hx hb hts nX8_ask_8 hown hK hP 0 rfl rfl 5 (by decide) (hts _ qX8_ask_7) (fun _ h9 => h9) rfl dX8_ask_70 ?_
                refine lv_iconst (v := 2) hx hb dX8_ask_73 (by decide) ?_
                obtain ⟨c22, hf⟩ := q_ck hf
                refine va_iald hx hb hK hP 4 0 rfl rfl c22 dX8_ask_74 ?_
                refine lv_icmp_ge (tgt := 202) hx hb dX8_ask_75 (by decide) (fun c23 => ?_) (fun c23 => ?_)
                · have hf := q_t c23 hf
                  obtain ⟨w0, w1⟩ := q_s2 hf
                  exact kxn19 l5_16 tl18 w0 w1 _ _ hP hD hS _ (lv_sub hl [1, 2] rfl)
                · have hf := q_f c23 hf
                  refine lv_aload_n hx hb dX8_ask_78 rfl (lv_at hl 2 rfl) ?_
                  refine lv_iload hx hb dX8_ask_79 (lv_at hl 0 rfl) ?_
                  obtain ⟨r24, h25, hf⟩ := q_b1o hf
                  refine q_roVi (As := [.int l6_17]) (rest := []) (ci := 8) ⟨hx, hb, hml, hown, hts⟩ (kX8_fruit l dC dI cI cB cZ o0 a0 sn1 tl18 l6_17 r24 h25) (cwV 1 hts gX8_ask_X8_fruit rfl rfl rfl hdX8_fruit ⟨Nat.le_of_ble_eq_true rfl, Nat.le_of_ble_eq_true rfl⟩) hK hP rfl rfl rfl hl.1 rfl (Nat.le_of_ble_eq_true rfl) dX8_ask_81 ⟨Nat.zero_le _, Nat.zero_le _⟩ ?_
                  obtain ⟨ov26, otj27, hqj28, hf⟩ := q_b2o hf
                  have kj28 : ∀ v26 : Int32, ∀ tj27 : Lt, v26 = ov26 → tj27 = otj27 → ∀ (H : Heap) (locs : List Loc), va_P (dC, dI) vwCl (wcM cI cZ o0 a0 sn1 tj27) H → va_D A (wcM cI cZ o0 a0 sn1 tj27) → va_S A s.heap H locs → ∀ ls : Array Slot, lv_has ls 9 [(6, .int l6_17), (5, .int v26), (0, .ref o0), (1, .int p1), (2, .int p2), (3, .int p3)] → W p l e ({ frames := 3, cells := 0, slots := 0, locals := 72 } : Room) s m [.ref o0, .int p1, .int p2, .int p3, .int p4].toArray below meth c H locs 0 0 (MQ below (qlW (dC, dI) (q_ty cI cB cZ) (wcM cI cZ o0 a0 s0 t0) (wcM cI cZ o0 a0 z0 y0) sz r) [.ref o0, .int p1, .int p2, .int p3, .int p4].toArray s 0 0 (va_A (wcM cI cZ o0 a0 s0 t0) sz)) (F0 m 196 ls []) := by
                    intro v26 tj27 ev26 etj27 H locs hP hD hS ls hl
                    subst ev26
                    subst etj27
                    refine lv_iinc (v := l6_17 + (1 : Int32)) (lv' := [(6, .int (l6_17 + (1 : Int32))), (5, .int v26), (0, .ref o0), (1, .int p1), (2, .int p2), (3, .int p3)]) hx hb dX8_ask_196 hl (k := 0) rfl rfl (by decide) rfl (fun ls hl => ?_)
                    refine lv_goto (tgt := 67) hx hb dX8_ask_199 (by decide) ?_
                    exact ihn19 v26 (l6_17 + (1 : Int32)) tj27 hf _ _ hP hD hS _ hl
                  have hf := hqj28
                  refine lv_if_le (tgt := 196) hx hb dX8_ask_84 (by decide) (fun c29 => ?_) (fun c29 => ?_)
                  · have hf := q_t c29 hf
                    obtain ⟨w0, w1⟩ := q_s2 hf
                    exact kj28 l5_16 tl18 w0 w1 _ _ hP hD hS _ hl
                  · have hf := q_f c29 hf
                    refine lv_aload_n hx hb dX8_ask_87 rfl (lv_at hl 2 rfl) ?_
                    refine lv_aload_n hx hb dX8_ask_88 rfl (lv_at hl 2 rfl) ?_
                    refine lv_iload hx hb dX8_ask_89 (lv_at hl 0 rfl) ?_
                    obtain ⟨r30, h31, hf⟩ := q_b1o hf
                    refine q_roVi (As := [.int l6_17]) (rest := [.ref o0]) (ci := 8) ⟨hx, hb, hml, hown, hts⟩ (kX8_loose l dC dI cI cB cZ o0 a0 sn1 tl18 l6_17 r30 h31) (cwV 1 hts gX8_ask_X8_loose rfl rfl rfl hdX8_loose ⟨Nat.le_of_ble_eq_true rfl, Nat.le_of_ble_eq_true rfl⟩) hK hP rfl rfl rfl hl.1 rfl (Nat.le_of_ble_eq_true rfl) dX8_ask_91 ⟨Nat.zero_le _, Nat.zero_le _⟩ ?_
                    refine lv_aload_n hx hb dX8_ask_94 rfl (lv_at hl 2 rfl) ?_
                    refine va_get (D := (dC, dI)) (ci := 8) (v := .ref (a0 5)) (C := RX8) (T := TX8) (N := 27) hx hb hts nX8_ask_8 hown hK hP 0 rfl rfl 5 (by decide) (hts _ qX8_ask_7) (fun _ h9 => h9) rfl dX8_ask_95 ?_
                    refine lv_iconst (v := 3) hx hb dX8_ask_98 (by decide) ?_
                    refine lv_iload_n hx hb dX8_ask_99 rfl (lv_at hl 5 rfl) ?_
                    refine lv_iadd hx hb dX8_ask_100 ?_
                    obtain ⟨c32, hf⟩ := q_ck hf
                    refine va_iald hx hb hK hP 4 0 rfl rfl c32 dX8_ask_101 ?_
                    refine lv_imul hx hb dX8_ask_102 ?_
                    obtain ⟨r33, tc34, h35, hf⟩ := q_b2o hf
                    refine q_rwVi (As := [.int (r30 * (sn1 5 ((3 : Int32) + p3).toNatClampNeg))]) (rest := []) (ci := 8) (wr := []) (w2 := (wcM cI cZ o0 a0 sn1 tc34)) ⟨hx, hb, hml, hown, hts⟩ (kX8_draws l dC dI cI cB cZ o0 a0 sn1 tl18 (r30 * (sn1 5 ((3 : Int32) + p3).toNatClampNeg)) H.size r33 tc34 h35) (cwV 1 hts gX8_ask_X8_draws rfl rfl rfl hdX8_draws ⟨Nat.le_of_ble_eq_true rfl, Nat.le_of_ble_eq_true rfl⟩) hK hP hD hS hA [0, 1, 2, 3, 4, 5, 6, 7, 8, 9, 10] [] [0, 1, 2, 3, 4, 5, 6, 7, 8, 9, 10] rfl rfl (by decide) (by decide) (by decide) rfl (by decide) rfl rfl rfl hl.1 rfl (Nat.le_of_ble_eq_true rfl) dX8_ask_103 ⟨Nat.zero_le _, Nat.zero_le _⟩ (fun H locs hP hD hS => ?_)
                    refine lv_istore (lv' := [(7, .int r33), (6, .int l6_17), (5, .int l5_16), (0, .ref o0), (1, .int p1), (2, .int p2), (3, .int p3)]) hx hb dX8_ask_106 hl (by decide) rfl (fun ls hl => ?_)
                    refine lv_iconst (v := 0) hx hb dX8_ask_108 (by decide) ?_
                    refine lv_istore (lv' := [(8, .int (0 : Int32)), (7, .int r33), (6, .int l6_17), (5, .int l5_16), (0, .ref o0), (1, .int p1), (2, .int p2), (3, .int p3)]) hx hb dX8_ask_109 hl (by decide) rfl (fun ls hl => ?_)
                    obtain ⟨oz40, oz41, hqn39, hf⟩ := q_b2o hf
                    have kxn39 : ∀ z40 : Int32, ∀ z41 : Lt, z40 = oz40 → z41 = oz41 → ∀ (H : Heap) (locs : List Loc), va_P (dC, dI) vwCl (wcM cI cZ o0 a0 sn1 z41) H → va_D A (wcM cI cZ o0 a0 sn1 z41) → va_S A s.heap H locs → ∀ ls : Array Slot, lv_has ls 9 [(7, .int z40), (6, .int l6_17), (5, .int l5_16), (0, .ref o0), (1, .int p1), (2, .int p2), (3, .int p3)] → W p l e ({ frames := 3, cells := 0, slots := 0, locals := 72 } : Room) s m [.ref o0, .int p1, .int p2, .int p3, .int p4].toArray below meth c H locs 0 0 (MQ below (qlW (dC, dI) (q_ty cI cB cZ) (wcM cI cZ o0 a0 s0 t0) (wcM cI cZ o0 a0 z0 y0) sz r) [.ref o0, .int p1, .int p2, .int p3, .int p4].toArray s 0 0 (va_A (wcM cI cZ o0 a0 s0 t0) sz)) (F0 m 178 ls []) := by
                      intro z40 z41 ez40 ez41 H locs hP hD hS ls hl
                      subst ez40
                      subst ez41
                      refine lv_iload hx hb dX8_ask_178 (lv_at hl 2 rfl) ?_
                      refine lv_iload hx hb dX8_ask_180 (lv_at hl 0 rfl) ?_
                      obtain ⟨ov62, hqj63, hf⟩ := q_b1o hf
                      have kj63 : ∀ v62 : Int32, v62 = ov62 → ∀ (H : Heap) (locs : List Loc), va_P (dC, dI) vwCl (wcM cI cZ o0 a0 sn1 z41) H → va_D A (wcM cI cZ o0 a0 sn1 z41) → va_S A s.heap H locs → ∀ ls : Array Slot, lv_has ls 9 [(6, .int l6_17), (0, .ref o0), (1, .int p1), (2, .int p2), (3, .int p3)] → W p l e ({ frames := 3, cells := 0, slots := 0, locals := 72 } : Room) s m [.ref o0, .int p1, .int p2, .int p3, .int p4].toArray below meth c H locs 0 0 (MQ below (qlW (dC, dI) (q_ty cI cB cZ) (wcM cI cZ o0 a0 s0 t0) (wcM cI cZ o0 a0 z0 y0) sz r) [.ref o0, .int p1, .int p2, .int p3, .int p4].toArray s 0 0 (va_A (wcM cI cZ o0 a0 s0 t0) sz)) (F0 m 193 ls [.int v62, .int l5_16]) := by
                        intro v62 ev62 H locs hP hD hS ls hl
                        subst ev62
                        refine lv_ior hx hb dX8_ask_193 ?_
                        refine lv_istore (lv' := [(5, .int (l5_16 ||| v62)), (6, .int l6_17), (0, .ref o0), (1, .int p1), (2, .int p2), (3, .int p3)]) hx hb dX8_ask_194 hl (by decide) rfl (fun ls hl => ?_)
                        obtain ⟨w0, w1⟩ := q_s2 hf
                        exact kj28 (l5_16 ||| v62) z41 w0 w1 _ _ hP hD hS _ (lv_sub hl [1, 0, 2, 3, 4, 5] rfl)
                      have hf := hqj63
                      refine lv_if_eq (tgt := 192) hx hb dX8_ask_182 (by decide) (fun c64 => ?_) (fun c64 => ?_)
                      · have hf := q_t c64 hf
                        refine lv_iconst (v := 0) hx hb dX8_ask_192 (by decide) ?_
                        exact kj63 (0 : Int32) (q_s1 hf) _ _ hP hD hS _ (lv_sub hl [1, 3, 4, 5, 6] rfl)
                      · have hf := q_f c64 hf
                        refine lv_iconst (v := 1) hx hb dX8_ask_185 (by decide) ?_
                        refine lv_iload hx hb dX8_ask_186 (lv_at hl 1 rfl) ?_
                        refine lv_ishl hx hb dX8_ask_188 ?_
                        refine lv_goto (tgt := 193) hx hb dX8_ask_189 (by decide) ?_
                        exact kj63 ((1 : Int32) <<< (l6_17 &&& 31)) (q_s1 hf) _ _ hP hD hS _ (lv_sub hl [1, 3, 4, 5, 6] rfl)
                    have aihn39 : ∀ n39 : Nat, ∀ l7_36 : Int32, ∀ l8_37 : Int32, ∀ tl38 : Lt, fX8_ask_L111 p1 p2 sn1 l6_17 n39 l7_36 l8_37 tl38 = some (oz40, oz41) → ∀ (H : Heap) (locs : List Loc), va_P (dC, dI) vwCl (wcM cI cZ o0 a0 sn1 tl38) H → va_D A (wcM cI cZ o0 a0 sn1 tl38) → va_S A s.heap H locs → ∀ ls : Array Slot, lv_has ls 9 [(8, .int l8_37), (7, .int l7_36), (6, .int l6_17), (5, .int l5_16), (0, .ref o0), (1, .int p1), (2, .int p2), (3, .int p3)] → W p l e ({ frames := 3, cells := 0, slots := 0, locals := 72 } : Room) s m [.ref o0, .int p1, .int p2, .int p3, .int p4].toArray below meth c H locs 0 0 (MQ below (qlW (dC, dI) (q_ty cI cB cZ) (wcM cI cZ o0 a0 s0 t0) (wcM cI cZ o0 a0 z0 y0) sz r) [.ref o0, .int p1, .int p2, .int p3, .int p4].toArray s 0 0 (va_A (wcM cI cZ o0 a0 s0 t0) sz)) (F0 m 111 ls []) := by
                      intro n39
                      induction n39 with
                      | zero =>
                        intro l7_36 l8_37 tl38 hf
                        exact q_no hf
                      | succ n39 ihn39 =>
                        intro l7_36 l8_37 tl38 hf H locs hP hD hS ls hl
                        rw [fX8_ask_L111] at hf
                        refine lv_iload hx hb dX8_ask_111 (lv_at hl 0 rfl) ?_
                        refine lv_aload_n hx hb dX8_ask_113 rfl (lv_at hl 4 rfl) ?_
                        refine va_get (D := (dC, dI)) (ci := 8) (v := .ref (a0 5)) (C := RX8) (T := TX8) (N := 27) hx hb hts nX8_ask_8 hown hK hP 0 rfl rfl 5 (by decide) (hts _ qX8_ask_7) (fun _ h9 => h9) rfl dX8_ask_114 ?_
                        refine lv_iconst (v := 0) hx hb dX8_ask_117 (by decide) ?_
                        obtain ⟨c42, hf⟩ := q_ck hf
                        refine va_iald hx hb hK hP 4 0 rfl rfl c42 dX8_ask_118 ?_
                        refine lv_icmp_ge (tgt := 178) hx hb dX8_ask_119 (by decide) (fun c43 => ?_) (fun c43 => ?_)
                        · have hf := q_t c43 hf
                          obtain ⟨w0, w1⟩ := q_s2 hf
                          exact kxn39 l7_36 tl38 w0 w1 _ _ hP hD hS _ (lv_sub hl [1, 2, 3, 4, 5, 6, 7] rfl)
                        · have hf := q_f c43 hf
                          refine lv_aload_n hx hb dX8_ask_122 rfl (lv_at hl 4 rfl) ?_
                          refine lv_iload hx hb dX8_ask_123 (lv_at hl 0 rfl) ?_
                          refine lv_iload_n hx hb dX8_ask_125 rfl (lv_at hl 5 rfl) ?_
                          refine lv_iload_n hx hb dX8_ask_126 rfl (lv_at hl 6 rfl) ?_
                          refine lv_iconst (v := 0) hx hb dX8_ask_127 (by decide) ?_
                          obtain ⟨r44, h45, hf⟩ := q_b1o hf
                          refine q_roVi (As := [.int l8_37, .int p1, .int p2, .int (0 : Int32)]) (rest := []) (ci := 8) ⟨hx, hb, hml, hown, hts⟩ (kX8_doesMind l dC dI cI cB cZ o0 a0 sn1 tl38 l8_37 p1 p2 (0 : Int32) r44 h45) (cwV 4 hts gX8_ask_X8_doesMind rfl rfl rfl hdX8_doesMind ⟨Nat.le_of_ble_eq_true rfl, Nat.le_of_ble_eq_true rfl⟩) hK hP rfl rfl rfl hl.1 rfl (Nat.le_of_ble_eq_true rfl) dX8_ask_128 ⟨Nat.zero_le _, Nat.zero_le _⟩ ?_
                          obtain ⟨ov46, otj47, hqj48, hf⟩ := q_b2o hf
                          have kj48 : ∀ v46 : Int32, ∀ tj47 : Lt, v46 = ov46 → tj47 = otj47 → ∀ (H : Heap) (locs : List Loc), va_P (dC, dI) vwCl (wcM cI cZ o0 a0 sn1 tj47) H → va_D A (wcM cI cZ o0 a0 sn1 tj47) → va_S A s.heap H locs → ∀ ls : Array Slot, lv_has ls 9 [(8, .int l8_37), (7, .int v46), (6, .int l6_17), (5, .int l5_16), (0, .ref o0), (1, .int p1), (2, .int p2), (3, .int p3)] → W p l e ({ frames := 3, cells := 0, slots := 0, locals := 72 } : Room) s m [.ref o0, .int p1, .int p2, .int p3, .int p4].toArray below meth c H locs 0 0 (MQ below (qlW (dC, dI) (q_ty cI cB cZ) (wcM cI cZ o0 a0 s0 t0) (wcM cI cZ o0 a0 z0 y0) sz r) [.ref o0, .int p1, .int p2, .int p3, .int p4].toArray s 0 0 (va_A (wcM cI cZ o0 a0 s0 t0) sz)) (F0 m 172 ls []) := by
                            intro v46 tj47 ev46 etj47 H locs hP hD hS ls hl
                            subst ev46
                            subst etj47
                            refine lv_iinc (v := l8_37 + (1 : Int32)) (lv' := [(8, .int (l8_37 + (1 : Int32))), (7, .int v46), (6, .int l6_17), (5, .int l5_16), (0, .ref o0), (1, .int p1), (2, .int p2), (3, .int p3)]) hx hb dX8_ask_172 hl (k := 0) rfl rfl (by decide) rfl (fun ls hl => ?_)
                            refine lv_goto (tgt := 111) hx hb dX8_ask_175 (by decide) ?_
                            exact ihn39 v46 (l8_37 + (1 : Int32)) tj47 hf _ _ hP hD hS _ hl
                          have hf := hqj48
                          refine lv_if_eq (tgt := 172) hx hb dX8_ask_131 (by decide) (fun c49 => ?_) (fun c49 => ?_)
                          · have hf := q_t c49 hf
                            obtain ⟨w0, w1⟩ := q_s2 hf
                            exact kj48 l7_36 tl38 w0 w1 _ _ hP hD hS _ hl
                          · have hf := q_f c49 hf
                            refine lv_aload_n hx hb dX8_ask_134 rfl (lv_at hl 4 rfl) ?_
                            refine lv_iload hx hb dX8_ask_135 (lv_at hl 0 rfl) ?_
                            refine lv_iconst (v := 0) hx hb dX8_ask_137 (by decide) ?_
                            obtain ⟨r50, h51, hf⟩ := q_b1o hf
                            refine q_roVi (As := [.int l8_37, .int (0 : Int32)]) (rest := []) (ci := 8) ⟨hx, hb, hml, hown, hts⟩ (kX8_itsTree l dC dI cI cB cZ o0 a0 sn1 tl38 l8_37 (0 : Int32) r50 h51) (cwV 2 hts gX8_ask_X8_itsTree rfl rfl rfl hdX8_itsTree ⟨Nat.le_of_ble_eq_true rfl, Nat.le_of_ble_eq_true rfl⟩) hK hP rfl rfl rfl hl.1 rfl (Nat.le_of_ble_eq_true rfl) dX8_ask_138 ⟨Nat.zero_le _, Nat.zero_le _⟩ ?_
                            refine lv_iload hx hb dX8_ask_141 (lv_at hl 2 rfl) ?_
                            refine lv_icmp_ne (tgt := 172) hx hb dX8_ask_143 (by decide) (fun c52 => ?_) (fun c52 => ?_)
                            · have hf := q_f c52 hf
                              obtain ⟨w0, w1⟩ := q_s2 hf
                              exact kj48 l7_36 tl38 w0 w1 _ _ hP hD hS _ hl
                            · have hf := q_t c52 hf
                              refine lv_aload_n hx hb dX8_ask_146 rfl (lv_at hl 4 rfl) ?_
                              refine lv_aload_n hx hb dX8_ask_147 rfl (lv_at hl 4 rfl) ?_
                              refine lv_iload hx hb dX8_ask_148 (lv_at hl 0 rfl) ?_
                              refine lv_iconst (v := 2) hx hb dX8_ask_150 (by decide) ?_
                              obtain ⟨r53, h54, hf⟩ := q_b1o hf
                              refine q_roVi (As := [.int l8_37, .int (2 : Int32)]) (rest := [.ref o0]) (ci := 8) ⟨hx, hb, hml, hown, hts⟩ (kX8_ofGrave l dC dI cI cB cZ o0 a0 sn1 tl38 l8_37 (2 : Int32) r53 h54) (cwV 2 hts gX8_ask_X8_ofGrave rfl rfl rfl hdX8_ofGrave ⟨Nat.le_of_ble_eq_true rfl, Nat.le_of_ble_eq_true rfl⟩) hK hP rfl rfl rfl hl.1 rfl (Nat.le_of_ble_eq_true rfl) dX8_ask_151 ⟨Nat.zero_le _, Nat.zero_le _⟩ ?_
                              obtain ⟨r55, tc56, h57, hf⟩ := q_b2o hf
                              refine q_rwVi (As := [.int r53]) (rest := []) (ci := 8) (wr := []) (w2 := (wcM cI cZ o0 a0 sn1 tc56)) ⟨hx, hb, hml, hown, hts⟩ (kX8_draws l dC dI cI cB cZ o0 a0 sn1 tl38 r53 H.size r55 tc56 h57) (cwV 1 hts gX8_ask_X8_draws rfl rfl rfl hdX8_draws ⟨Nat.le_of_ble_eq_true rfl, Nat.le_of_ble_eq_true rfl⟩) hK hP hD hS hA [0, 1, 2, 3, 4, 5, 6, 7, 8, 9, 10] [] [0, 1, 2, 3, 4, 5, 6, 7, 8, 9, 10] rfl rfl (by decide) (by decide) (by decide) rfl (by decide) rfl rfl rfl hl.1 rfl (Nat.le_of_ble_eq_true rfl) dX8_ask_154 ⟨Nat.zero_le _, Nat.zero_le _⟩ (fun H locs hP hD hS => ?_)
                              obtain ⟨ov58, hqj59, hf⟩ := q_b1o hf
                              have kj59 : ∀ v58 : Int32, v58 = ov58 → ∀ (H : Heap) (locs : List Loc), va_P (dC, dI) vwCl (wcM cI cZ o0 a0 sn1 tc56) H → va_D A (wcM cI cZ o0 a0 sn1 tc56) → va_S A s.heap H locs → ∀ ls : Array Slot, lv_has ls 9 [(8, .int l8_37), (6, .int l6_17), (5, .int l5_16), (0, .ref o0), (1, .int p1), (2, .int p2), (3, .int p3)] → W p l e ({ frames := 3, cells := 0, slots := 0, locals := 72 } : Room) s m [.ref o0, .int p1, .int p2, .int p3, .int p4].toArray below meth c H locs 0 0 (MQ below (qlW (dC, dI) (q_ty cI cB cZ) (wcM cI cZ o0 a0 s0 t0) (wcM cI cZ o0 a0 z0 y0) sz r) [.ref o0, .int p1, .int p2, .int p3, .int p4].toArray s 0 0 (va_A (wcM cI cZ o0 a0 s0 t0) sz)) (F0 m 170 ls [.int v58]) := by
                                intro v58 ev58 H locs hP hD hS ls hl
                                subst ev58
                                refine lv_istore (lv' := [(7, .int v58), (8, .int l8_37), (6, .int l6_17), (5, .int l5_16), (0, .ref o0), (1, .int p1), (2, .int p2), (3, .int p3)]) hx hb dX8_ask_170 hl (by decide) rfl (fun ls hl => ?_)
                                obtain ⟨w0, w1⟩ := q_s2 hf
                                exact kj48 v58 tc56 w0 w1 _ _ hP hD hS _ (lv_sub hl [1, 0, 2, 3, 4, 5, 6, 7] rfl)
                              have hf := hqj59
                              refine lv_if_ne (tgt := 165) hx hb dX8_ask_157 (by decide) (fun c60 => ?_) (fun c60 => ?_)
                              · have hf := q_f c60 hf
                                refine lv_iconst (v := 1) hx hb dX8_ask_165 (by decide) ?_
                                refine lv_goto (tgt := 170) hx hb dX8_ask_166 (by decide) ?_
                                exact kj59 (1 : Int32) (q_s1 hf) _ _ hP hD hS _ (lv_sub hl [0, 2, 3, 4, 5, 6, 7] rfl)
                              · have hf := q_t c60 hf
                                refine lv_iload hx hb dX8_ask_160 (lv_at hl 1 rfl) ?_
                                refine lv_if_eq (tgt := 169) hx hb dX8_ask_162 (by decide) (fun c61 => ?_) (fun c61 => ?_)
                                · have hf := q_t c61 hf
                                  refine lv_iconst (v := 0) hx hb dX8_ask_169 (by decide) ?_
                                  exact kj59 (0 : Int32) (q_s1 hf) _ _ hP hD hS _ (lv_sub hl [0, 2, 3, 4, 5, 6, 7] rfl)
                                · have hf := q_f c61 hf
                                  refine lv_iconst (v := 1) hx hb dX8_ask_165 (by decide) ?_
                                  refine lv_goto (tgt := 170) hx hb dX8_ask_166 (by decide) ?_
                                  exact kj59 (1 : Int32) (q_s1 hf) _ _ hP hD hS _ (lv_sub hl [0, 2, 3, 4, 5, 6, 7] rfl)
                    exact aihn39 5000 r33 (0 : Int32) tc34 hqn39 _ _ hP hD hS _ hl
            exact aihn19 5000 (0 : Int32) (0 : Int32) tn15 hqn19 _ _ hP hD hS _ (lv_sub hl [0, 1, 2, 3, 4, 5] rfl)
          · have hf := q_t c14 hf
            refine lv_ldc2 (v := -9000000000000000001) hx hb hown (hts _ qX8_ask_5) dX8_ask_50 ?_
            obtain ⟨ee0, ee1, ee2⟩ := q_s3 hf
            subst ee1
            subst ee2
            exact q_wretL hx hb hr hlk hAe hK hP hD hS ee0 dX8_ask_53
  · have hf := q_t c2 hf
    refine lv_ldc2 (v := -9000000000000000002) hx hb hown (hts _ qX8_ask_3) dX8_ask_12 ?_
    obtain ⟨ee0, ee1, ee2⟩ := q_s3 hf
    subst ee1
    subst ee2
    exact q_wretL hx hb hr hlk hAe hK hP hD hS ee0 dX8_ask_15
theorem hdX8_pick : yX8_pick.cls = RX8 ∧ yX8_pick.cls ≠ "java/lang/invoke/MethodHandle" ∧ yX8_pick.cls ≠ "java/lang/invoke/VarHandle" ∧ (parseMethodDescriptor yX8_pick.desc).map (fun d => d.parameters.length) = some 2 := by decide +kernel
theorem qX8_pick_1 : (Cond.fieldLink RX8 41 "DeadAskedModel" "thrown" "I") ∈ wsX8_pick := List.mem_of_getElem? (i := 1) (by decide +kernel)
theorem qX8_pick_2 : (Cond.constantLong RX8 252 9) ∈ wsX8_pick := List.mem_of_getElem? (i := 2) (by decide +kernel)
theorem qX8_pick_3 : (Cond.constantLong RX8 62 (-9000000000000000001)) ∈ wsX8_pick := List.mem_of_getElem? (i := 3) (by decide +kernel)
theorem qX8_pick_4 : (Cond.constantLong RX8 223 (-9000000000000000002)) ∈ wsX8_pick := List.mem_of_getElem? (i := 4) (by decide +kernel)
theorem qX8_pick_5 : (Cond.fieldLink RX8 19 "DeadAskedModel" "hill" "[I") ∈ wsX8_pick := List.mem_of_getElem? (i := 5) (by decide +kernel)
theorem nX8_pick_8 : ∀ w ∈ u_ws RX8 TX8 27, w ∈ wsX8_pick := fun _ h => (List.mem_cons_of_mem _ (List.mem_append_right _ h))
set_option maxHeartbeats 4000000 in
set_option maxRecDepth 100000 in
theorem kX8_pick (o0 : Nat) (a0 : Nat → Nat) (s0 : St) (t0 : Lt) (p1 : Int32) (p2 : Int32) (sz : Nat) (r : Int64) (z0 : St) (hf : fX8_pick s0 p1 p2 = some (r, z0)) : Met l yX8_pick wsX8_pick ({ frames := 2, cells := 0, slots := 0, locals := 46 } : Room) (pcW (dC, dI) (q_ty cI cB cZ) [.ref o0, .int p1, .int p2] (wcM cI cZ o0 a0 s0 t0) sz) (qlW (dC, dI) (q_ty cI cB cZ) (wcM cI cZ o0 a0 s0 t0) (wcM cI cZ o0 a0 z0 t0) sz r) 0 0 (va_A (wcM cI cZ o0 a0 s0 t0) sz) := by
  refine q_rwM (cc := cX8_pick) (maxL := 3) (ret := (some .long)) (by decide +kernel) rfl (Nat.le_of_ble_eq_true rfl) ?_
  intro p e s m below meth c hx hb hr hlk hml hown hts hK A H hAe hH hsz hP hD hA hS ls hl
  have hown : s.vm.findClass RX8 = some m.cls := hown
  have hl : lv_has ls 3 [(0, .ref o0), (1, .int p1), (2, .int p2)] := hl
  unfold fX8_pick at hf
  refine lv_aload_n hx hb dX8_pick_0 rfl (lv_at hl 0 rfl) ?_
  refine lv_iconst (v := 0) hx hb dX8_pick_1 (by decide) ?_
  obtain ⟨sn1, esn1, hf⟩ := q_lto hf
  refine va_put (D := (dC, dI)) (ci := 8) (v := .int (0 : Int32)) (ty := .int) (C := RX8) (T := TX8) (N := 27) hx hb hts nX8_pick_8 tyX8 tyX8_ok nmX8 hown hK hP hD hS 0 rfl rfl 0 (by decide) (hts _ qX8_pick_1) (fun _ h9 => h9) rfl (by decide +kernel) rfl rfl (Nat.le_of_ble_eq_true rfl) dX8_pick_2 (fun H locs hP hD hS => ?_)
  have hP : va_P (dC, dI) vwCl (wcM cI cZ o0 a0 sn1 t0) H := by rw [esn1]; exact hP
  have hD : va_D A (wcM cI cZ o0 a0 sn1 t0) := by rw [esn1]; exact hD
  refine lv_aload_n hx hb dX8_pick_5 rfl (lv_at hl 0 rfl) ?_
  refine lv_iload_n hx hb dX8_pick_6 rfl (lv_at hl 1 rfl) ?_
  obtain ⟨r2, h3, hf⟩ := q_b1o hf
  refine q_roVi (As := [.int p1]) (rest := []) (ci := 8) ⟨hx, hb, hml, hown, hts⟩ (kX8_isTree l dC dI cI cB cZ o0 a0 sn1 t0 p1 r2 h3) (cwV 1 hts gX8_pick_X8_isTree rfl rfl rfl hdX8_isTree ⟨Nat.le_of_ble_eq_true rfl, Nat.le_of_ble_eq_true rfl⟩) hK hP rfl rfl rfl hl.1 rfl (Nat.le_of_ble_eq_true rfl) dX8_pick_7 ⟨Nat.zero_le _, Nat.zero_le _⟩ ?_
  refine lv_if_eq (tgt := 25) hx hb dX8_pick_10 (by decide) (fun c4 => ?_) (fun c4 => ?_)
  · have hf := q_t c4 hf
    refine lv_ldc2 (v := -9000000000000000001) hx hb hown (hts _ qX8_pick_3) dX8_pick_25 ?_
    obtain ⟨ee0, ee1⟩ := q_s2 hf
    subst ee1
    exact q_wretL hx hb hr hlk hAe hK hP hD hS ee0 dX8_pick_28
  · have hf := q_f c4 hf
    refine lv_iload_n hx hb dX8_pick_13 rfl (lv_at hl 2 rfl) ?_
    refine lv_i2l (v := p2.toInt64) hx hb dX8_pick_14 rfl ?_
    refine lv_lconst (v := 1) hx hb dX8_pick_15 (by decide) ?_
    refine lv_ldc2 (v := 9) hx hb hown (hts _ qX8_pick_2) dX8_pick_16 ?_
    obtain ⟨r5, h6, hf⟩ := q_b1o hf
    refine q_roSi (As := [.long p2.toInt64, .long (1 : Int64), .long (9 : Int64)]) (rest := []) ⟨hx, hb, hml, hown, hts⟩ (kX8_in l p2.toInt64 (1 : Int64) (9 : Int64) r5 h6) (va_cwS 3 hts gX8_pick_X8_in rfl rfl rfl hdX8_in ⟨Nat.le_of_ble_eq_true rfl, Nat.le_of_ble_eq_true rfl⟩) rfl hl.1 rfl (Nat.le_of_ble_eq_true rfl) dX8_pick_19 ⟨Nat.zero_le _, Nat.zero_le _⟩ ?_
    refine lv_if_ne (tgt := 29) hx hb dX8_pick_22 (by decide) (fun c7 => ?_) (fun c7 => ?_)
    · have hf := q_f c7 hf
      refine lv_aload_n hx hb dX8_pick_29 rfl (lv_at hl 0 rfl) ?_
      refine lv_iload_n hx hb dX8_pick_30 rfl (lv_at hl 1 rfl) ?_
      obtain ⟨r8, h9, hf⟩ := q_b1o hf
      refine q_roVi (As := [.int p1]) (rest := []) (ci := 8) ⟨hx, hb, hml, hown, hts⟩ (kX8_fruit l dC dI cI cB cZ o0 a0 sn1 t0 p1 r8 h9) (cwV 1 hts gX8_pick_X8_fruit rfl rfl rfl hdX8_fruit ⟨Nat.le_of_ble_eq_true rfl, Nat.le_of_ble_eq_true rfl⟩) hK hP rfl rfl rfl hl.1 rfl (Nat.le_of_ble_eq_true rfl) dX8_pick_31 ⟨Nat.zero_le _, Nat.zero_le _⟩ ?_
      refine lv_iload_n hx hb dX8_pick_34 rfl (lv_at hl 2 rfl) ?_
      refine lv_icmp_ge (tgt := 42) hx hb dX8_pick_35 (by decide) (fun c10 => ?_) (fun c10 => ?_)
      · have hf := q_t c10 hf
        refine lv_aload_n hx hb dX8_pick_42 rfl (lv_at hl 0 rfl) ?_
        obtain ⟨sc11, h12, hf⟩ := q_b1o hf
        refine q_rwVv (As := []) (rest := []) (ci := 8) (wr := []) (w2 := (wcM cI cZ o0 a0 sc11 t0)) ⟨hx, hb, hml, hown, hts⟩ (kX8_keep l dC dI cI cB cZ o0 a0 sn1 t0 H.size sc11 h12) (cwV 0 hts gX8_pick_X8_keep rfl rfl rfl hdX8_keep ⟨Nat.le_of_ble_eq_true rfl, Nat.le_of_ble_eq_true rfl⟩) hK hP hD hS hA [0, 1, 2, 3, 4, 5, 6, 7, 8, 9, 10] [] [0, 1, 2, 3, 4, 5, 6, 7, 8, 9, 10] rfl rfl (by decide) (by decide) (by decide) rfl (by decide) rfl rfl rfl hl.1 rfl (Nat.le_of_ble_eq_true rfl) dX8_pick_43 ⟨Nat.zero_le _, Nat.zero_le _⟩ (fun H locs hP hD hS => ?_)
        refine lv_aload_n hx hb dX8_pick_46 rfl (lv_at hl 0 rfl) ?_
        refine va_get (D := (dC, dI)) (ci := 8) (v := .ref (a0 5)) (C := RX8) (T := TX8) (N := 27) hx hb hts nX8_pick_8 hown hK hP 0 rfl rfl 5 (by decide) (hts _ qX8_pick_5) (fun _ h9 => h9) rfl dX8_pick_47 ?_
        refine lv_bipush (v := 47) hx hb dX8_pick_50 (by decide) ?_
        refine lv_iconst (v := 3) hx hb dX8_pick_52 (by decide) ?_
        refine lv_iload_n hx hb dX8_pick_53 rfl (lv_at hl 1 rfl) ?_
        refine lv_imul hx hb dX8_pick_54 ?_
        refine lv_iadd hx hb dX8_pick_55 ?_
        refine lv_iconst (v := 2) hx hb dX8_pick_56 (by decide) ?_
        refine lv_iadd hx hb dX8_pick_57 ?_
        refine lv_dup2_11 hx hb dX8_pick_58 rfl rfl ?_
        obtain ⟨c13, hf⟩ := q_ck hf
        refine va_iald hx hb hK hP 4 0 rfl rfl c13 dX8_pick_59 ?_
        refine lv_iload_n hx hb dX8_pick_60 rfl (lv_at hl 2 rfl) ?_
        refine lv_isub hx hb dX8_pick_61 ?_
        obtain ⟨c14, hf⟩ := q_ck hf
        obtain ⟨sn15, esn15, hf⟩ := q_lto hf
        refine va_iast hx hb hK hP hD hS 4 0 rfl rfl c14 dX8_pick_62 (fun H locs hP hD hS => ?_)
        have hP : va_P (dC, dI) vwCl (wcM cI cZ o0 a0 sn15 t0) H := by rw [esn15]; exact hP
        have hD : va_D A (wcM cI cZ o0 a0 sn15 t0) := by rw [esn15]; exact hD
        refine lv_aload_n hx hb dX8_pick_63 rfl (lv_at hl 0 rfl) ?_
        refine lv_iload_n hx hb dX8_pick_64 rfl (lv_at hl 1 rfl) ?_
        obtain ⟨r16, h17, hf⟩ := q_b1o hf
        refine q_roVi (As := [.int p1]) (rest := []) (ci := 8) ⟨hx, hb, hml, hown, hts⟩ (kX8_fruit l dC dI cI cB cZ o0 a0 sn15 t0 p1 r16 h17) (cwV 1 hts gX8_pick_X8_fruit rfl rfl rfl hdX8_fruit ⟨Nat.le_of_ble_eq_true rfl, Nat.le_of_ble_eq_true rfl⟩) hK hP rfl rfl rfl hl.1 rfl (Nat.le_of_ble_eq_true rfl) dX8_pick_65 ⟨Nat.zero_le _, Nat.zero_le _⟩ ?_
        refine lv_i2l (v := r16.toInt64) hx hb dX8_pick_68 rfl ?_
        obtain ⟨ee0, ee1⟩ := q_s2 hf
        subst ee1
        exact q_wretL hx hb hr hlk hAe hK hP hD hS ee0 dX8_pick_69
      · have hf := q_f c10 hf
        refine lv_ldc2 (v := -9000000000000000002) hx hb hown (hts _ qX8_pick_4) dX8_pick_38 ?_
        obtain ⟨ee0, ee1⟩ := q_s2 hf
        subst ee1
        exact q_wretL hx hb hr hlk hAe hK hP hD hS ee0 dX8_pick_41
    · have hf := q_t c7 hf
      refine lv_ldc2 (v := -9000000000000000001) hx hb hown (hts _ qX8_pick_3) dX8_pick_25 ?_
      obtain ⟨ee0, ee1⟩ := q_s2 hf
      subst ee1
      exact q_wretL hx hb hr hlk hAe hK hP hD hS ee0 dX8_pick_28
theorem hdX8_move : yX8_move.cls = RX8 ∧ yX8_move.cls ≠ "java/lang/invoke/MethodHandle" ∧ yX8_move.cls ≠ "java/lang/invoke/VarHandle" ∧ (parseMethodDescriptor yX8_move.desc).map (fun d => d.parameters.length) = some 2 := by decide +kernel
theorem qX8_move_1 : (Cond.fieldLink RX8 41 "DeadAskedModel" "thrown" "I") ∈ wsX8_move := List.mem_of_getElem? (i := 1) (by decide +kernel)
theorem qX8_move_2 : (Cond.constantLong RX8 257 30) ∈ wsX8_move := List.mem_of_getElem? (i := 2) (by decide +kernel)
theorem qX8_move_3 : (Cond.constantLong RX8 62 (-9000000000000000001)) ∈ wsX8_move := List.mem_of_getElem? (i := 3) (by decide +kernel)
theorem qX8_move_4 : (Cond.fieldLink RX8 19 "DeadAskedModel" "hill" "[I") ∈ wsX8_move := List.mem_of_getElem? (i := 4) (by decide +kernel)
theorem nX8_move_8 : ∀ w ∈ u_ws RX8 TX8 27, w ∈ wsX8_move := fun _ h => (List.mem_cons_of_mem _ (List.mem_append_right _ h))
set_option maxHeartbeats 4000000 in
set_option maxRecDepth 100000 in
theorem kX8_move (o0 : Nat) (a0 : Nat → Nat) (s0 : St) (t0 : Lt) (p1 : Int32) (p2 : Int32) (sz : Nat) (r : Int64) (z0 : St) (hf : fX8_move s0 p1 p2 = some (r, z0)) : Met l yX8_move wsX8_move ({ frames := 2, cells := 0, slots := 0, locals := 46 } : Room) (pcW (dC, dI) (q_ty cI cB cZ) [.ref o0, .int p1, .int p2] (wcM cI cZ o0 a0 s0 t0) sz) (qlW (dC, dI) (q_ty cI cB cZ) (wcM cI cZ o0 a0 s0 t0) (wcM cI cZ o0 a0 z0 t0) sz r) 0 0 (va_A (wcM cI cZ o0 a0 s0 t0) sz) := by
  refine q_rwM (cc := cX8_move) (maxL := 4) (ret := (some .long)) (by decide +kernel) rfl (Nat.le_of_ble_eq_true rfl) ?_
  intro p e s m below meth c hx hb hr hlk hml hown hts hK A H hAe hH hsz hP hD hA hS ls hl
  have hown : s.vm.findClass RX8 = some m.cls := hown
  have hl : lv_has ls 4 [(0, .ref o0), (1, .int p1), (2, .int p2)] := hl
  unfold fX8_move at hf
  refine lv_aload_n hx hb dX8_move_0 rfl (lv_at hl 0 rfl) ?_
  refine lv_iconst (v := 0) hx hb dX8_move_1 (by decide) ?_
  obtain ⟨sn1, esn1, hf⟩ := q_lto hf
  refine va_put (D := (dC, dI)) (ci := 8) (v := .int (0 : Int32)) (ty := .int) (C := RX8) (T := TX8) (N := 27) hx hb hts nX8_move_8 tyX8 tyX8_ok nmX8 hown hK hP hD hS 0 rfl rfl 0 (by decide) (hts _ qX8_move_1) (fun _ h9 => h9) rfl (by decide +kernel) rfl rfl (Nat.le_of_ble_eq_true rfl) dX8_move_2 (fun H locs hP hD hS => ?_)
  have hP : va_P (dC, dI) vwCl (wcM cI cZ o0 a0 sn1 t0) H := by rw [esn1]; exact hP
  have hD : va_D A (wcM cI cZ o0 a0 sn1 t0) := by rw [esn1]; exact hD
  refine lv_aload_n hx hb dX8_move_5 rfl (lv_at hl 0 rfl) ?_
  refine lv_iload_n hx hb dX8_move_6 rfl (lv_at hl 1 rfl) ?_
  obtain ⟨r2, h3, hf⟩ := q_b1o hf
  refine q_roVi (As := [.int p1]) (rest := []) (ci := 8) ⟨hx, hb, hml, hown, hts⟩ (kX8_isGrave l dC dI cI cB cZ o0 a0 sn1 t0 p1 r2 h3) (cwV 1 hts gX8_move_X8_isGrave rfl rfl rfl hdX8_isGrave ⟨Nat.le_of_ble_eq_true rfl, Nat.le_of_ble_eq_true rfl⟩) hK hP rfl rfl rfl hl.1 rfl (Nat.le_of_ble_eq_true rfl) dX8_move_7 ⟨Nat.zero_le _, Nat.zero_le _⟩ ?_
  refine lv_if_eq (tgt := 25) hx hb dX8_move_10 (by decide) (fun c4 => ?_) (fun c4 => ?_)
  · have hf := q_t c4 hf
    refine lv_ldc2 (v := -9000000000000000001) hx hb hown (hts _ qX8_move_3) dX8_move_25 ?_
    obtain ⟨ee0, ee1⟩ := q_s2 hf
    subst ee1
    exact q_wretL hx hb hr hlk hAe hK hP hD hS ee0 dX8_move_28
  · have hf := q_f c4 hf
    refine lv_iload_n hx hb dX8_move_13 rfl (lv_at hl 2 rfl) ?_
    refine lv_i2l (v := p2.toInt64) hx hb dX8_move_14 rfl ?_
    refine lv_lconst (v := 0) hx hb dX8_move_15 (by decide) ?_
    refine lv_ldc2 (v := 30) hx hb hown (hts _ qX8_move_2) dX8_move_16 ?_
    obtain ⟨r5, h6, hf⟩ := q_b1o hf
    refine q_roSi (As := [.long p2.toInt64, .long (0 : Int64), .long (30 : Int64)]) (rest := []) ⟨hx, hb, hml, hown, hts⟩ (kX8_in l p2.toInt64 (0 : Int64) (30 : Int64) r5 h6) (va_cwS 3 hts gX8_move_X8_in rfl rfl rfl hdX8_in ⟨Nat.le_of_ble_eq_true rfl, Nat.le_of_ble_eq_true rfl⟩) rfl hl.1 rfl (Nat.le_of_ble_eq_true rfl) dX8_move_19 ⟨Nat.zero_le _, Nat.zero_le _⟩ ?_
    refine lv_if_ne (tgt := 29) hx hb dX8_move_22 (by decide) (fun c7 => ?_) (fun c7 => ?_)
    · have hf := q_f c7 hf
      refine lv_aload_n hx hb dX8_move_29 rfl (lv_at hl 0 rfl) ?_
      obtain ⟨sc8, h9, hf⟩ := q_b1o hf
      refine q_rwVv (As := []) (rest := []) (ci := 8) (wr := []) (w2 := (wcM cI cZ o0 a0 sc8 t0)) ⟨hx, hb, hml, hown, hts⟩ (kX8_keep l dC dI cI cB cZ o0 a0 sn1 t0 H.size sc8 h9) (cwV 0 hts gX8_move_X8_keep rfl rfl rfl hdX8_keep ⟨Nat.le_of_ble_eq_true rfl, Nat.le_of_ble_eq_true rfl⟩) hK hP hD hS hA [0, 1, 2, 3, 4, 5, 6, 7, 8, 9, 10] [] [0, 1, 2, 3, 4, 5, 6, 7, 8, 9, 10] rfl rfl (by decide) (by decide) (by decide) rfl (by decide) rfl rfl rfl hl.1 rfl (Nat.le_of_ble_eq_true rfl) dX8_move_30 ⟨Nat.zero_le _, Nat.zero_le _⟩ (fun H locs hP hD hS => ?_)
      refine lv_aload_n hx hb dX8_move_33 rfl (lv_at hl 0 rfl) ?_
      refine lv_iload_n hx hb dX8_move_34 rfl (lv_at hl 1 rfl) ?_
      refine lv_iconst (v := 0) hx hb dX8_move_35 (by decide) ?_
      obtain ⟨r10, h11, hf⟩ := q_b1o hf
      refine q_roVi (As := [.int p1, .int (0 : Int32)]) (rest := []) (ci := 8) ⟨hx, hb, hml, hown, hts⟩ (kX8_ofGrave l dC dI cI cB cZ o0 a0 sc8 t0 p1 (0 : Int32) r10 h11) (cwV 2 hts gX8_move_X8_ofGrave rfl rfl rfl hdX8_ofGrave ⟨Nat.le_of_ble_eq_true rfl, Nat.le_of_ble_eq_true rfl⟩) hK hP rfl rfl rfl hl.1 rfl (Nat.le_of_ble_eq_true rfl) dX8_move_36 ⟨Nat.zero_le _, Nat.zero_le _⟩ ?_
      refine lv_istore_n (lv' := [(3, .int r10), (0, .ref o0), (1, .int p1), (2, .int p2)]) hx hb dX8_move_39 rfl hl (by decide) rfl (fun ls hl => ?_)
      refine lv_aload_n hx hb dX8_move_40 rfl (lv_at hl 1 rfl) ?_
      refine va_get (D := (dC, dI)) (ci := 8) (v := .ref (a0 5)) (C := RX8) (T := TX8) (N := 27) hx hb hts nX8_move_8 hown hK hP 0 rfl rfl 5 (by decide) (hts _ qX8_move_4) (fun _ h9 => h9) rfl dX8_move_41 ?_
      refine lv_bipush (v := 15) hx hb dX8_move_44 (by decide) ?_
      refine lv_iconst (v := 4) hx hb dX8_move_46 (by decide) ?_
      refine lv_iload_n hx hb dX8_move_47 rfl (lv_at hl 2 rfl) ?_
      refine lv_imul hx hb dX8_move_48 ?_
      refine lv_iadd hx hb dX8_move_49 ?_
      refine lv_iload_n hx hb dX8_move_50 rfl (lv_at hl 3 rfl) ?_
      obtain ⟨c12, hf⟩ := q_ck hf
      obtain ⟨sn13, esn13, hf⟩ := q_lto hf
      refine va_iast hx hb hK hP hD hS 4 0 rfl rfl c12 dX8_move_51 (fun H locs hP hD hS => ?_)
      have hP : va_P (dC, dI) vwCl (wcM cI cZ o0 a0 sn13 t0) H := by rw [esn13]; exact hP
      have hD : va_D A (wcM cI cZ o0 a0 sn13 t0) := by rw [esn13]; exact hD
      refine lv_iload_n hx hb dX8_move_52 rfl (lv_at hl 0 rfl) ?_
      refine lv_i2l (v := r10.toInt64) hx hb dX8_move_53 rfl ?_
      obtain ⟨ee0, ee1⟩ := q_s2 hf
      subst ee1
      exact q_wretL hx hb hr hlk hAe hK hP hD hS ee0 dX8_move_54
    · have hf := q_t c7 hf
      refine lv_ldc2 (v := -9000000000000000001) hx hb hown (hts _ qX8_move_3) dX8_move_25 ?_
      obtain ⟨ee0, ee1⟩ := q_s2 hf
      subst ee1
      exact q_wretL hx hb hr hlk hAe hK hP hD hS ee0 dX8_move_28
theorem hdX8_crack : yX8_crack.cls = RX8 ∧ yX8_crack.cls ≠ "java/lang/invoke/MethodHandle" ∧ yX8_crack.cls ≠ "java/lang/invoke/VarHandle" ∧ (parseMethodDescriptor yX8_crack.desc).map (fun d => d.parameters.length) = some 1 := by decide +kernel
theorem qX8_crack_1 : (Cond.fieldLink RX8 41 "DeadAskedModel" "thrown" "I") ∈ wsX8_crack := List.mem_of_getElem? (i := 1) (by decide +kernel)
theorem qX8_crack_2 : (Cond.constantLong RX8 62 (-9000000000000000001)) ∈ wsX8_crack := List.mem_of_getElem? (i := 2) (by decide +kernel)
theorem qX8_crack_3 : (Cond.fieldLink RX8 19 "DeadAskedModel" "hill" "[I") ∈ wsX8_crack := List.mem_of_getElem? (i := 3) (by decide +kernel)
theorem qX8_crack_4 : (Cond.constantLong RX8 223 (-9000000000000000002)) ∈ wsX8_crack := List.mem_of_getElem? (i := 4) (by decide +kernel)
theorem nX8_crack_8 : ∀ w ∈ u_ws RX8 TX8 27, w ∈ wsX8_crack := fun _ h => (List.mem_cons_of_mem _ (List.mem_append_right _ h))
set_option maxHeartbeats 4000000 in
set_option maxRecDepth 100000 in
theorem kX8_crack (o0 : Nat) (a0 : Nat → Nat) (s0 : St) (t0 : Lt) (p1 : Int32) (sz : Nat) (r : Int64) (z0 : St) (hf : fX8_crack s0 p1 = some (r, z0)) : Met l yX8_crack wsX8_crack ({ frames := 2, cells := 0, slots := 0, locals := 46 } : Room) (pcW (dC, dI) (q_ty cI cB cZ) [.ref o0, .int p1] (wcM cI cZ o0 a0 s0 t0) sz) (qlW (dC, dI) (q_ty cI cB cZ) (wcM cI cZ o0 a0 s0 t0) (wcM cI cZ o0 a0 z0 t0) sz r) 0 0 (va_A (wcM cI cZ o0 a0 s0 t0) sz) := by
  refine q_rwM (cc := cX8_crack) (maxL := 2) (ret := (some .long)) (by decide +kernel) rfl (Nat.le_of_ble_eq_true rfl) ?_
  intro p e s m below meth c hx hb hr hlk hml hown hts hK A H hAe hH hsz hP hD hA hS ls hl
  have hown : s.vm.findClass RX8 = some m.cls := hown
  have hl : lv_has ls 2 [(0, .ref o0), (1, .int p1)] := hl
  unfold fX8_crack at hf
  refine lv_aload_n hx hb dX8_crack_0 rfl (lv_at hl 0 rfl) ?_
  refine lv_iconst (v := 0) hx hb dX8_crack_1 (by decide) ?_
  obtain ⟨sn1, esn1, hf⟩ := q_lto hf
  refine va_put (D := (dC, dI)) (ci := 8) (v := .int (0 : Int32)) (ty := .int) (C := RX8) (T := TX8) (N := 27) hx hb hts nX8_crack_8 tyX8 tyX8_ok nmX8 hown hK hP hD hS 0 rfl rfl 0 (by decide) (hts _ qX8_crack_1) (fun _ h9 => h9) rfl (by decide +kernel) rfl rfl (Nat.le_of_ble_eq_true rfl) dX8_crack_2 (fun H locs hP hD hS => ?_)
  have hP : va_P (dC, dI) vwCl (wcM cI cZ o0 a0 sn1 t0) H := by rw [esn1]; exact hP
  have hD : va_D A (wcM cI cZ o0 a0 sn1 t0) := by rw [esn1]; exact hD
  refine lv_aload_n hx hb dX8_crack_5 rfl (lv_at hl 0 rfl) ?_
  refine lv_iload_n hx hb dX8_crack_6 rfl (lv_at hl 1 rfl) ?_
  obtain ⟨r2, h3, hf⟩ := q_b1o hf
  refine q_roVi (As := [.int p1]) (rest := []) (ci := 8) ⟨hx, hb, hml, hown, hts⟩ (kX8_isHorn l dC dI cI cB cZ o0 a0 sn1 t0 p1 r2 h3) (cwV 1 hts gX8_crack_X8_isHorn rfl rfl rfl hdX8_isHorn ⟨Nat.le_of_ble_eq_true rfl, Nat.le_of_ble_eq_true rfl⟩) hK hP rfl rfl rfl hl.1 rfl (Nat.le_of_ble_eq_true rfl) dX8_crack_7 ⟨Nat.zero_le _, Nat.zero_le _⟩ ?_
  refine lv_if_ne (tgt := 17) hx hb dX8_crack_10 (by decide) (fun c4 => ?_) (fun c4 => ?_)
  · have hf := q_f c4 hf
    refine lv_aload_n hx hb dX8_crack_17 rfl (lv_at hl 0 rfl) ?_
    refine va_get (D := (dC, dI)) (ci := 8) (v := .ref (a0 5)) (C := RX8) (T := TX8) (N := 27) hx hb hts nX8_crack_8 hown hK hP 0 rfl rfl 5 (by decide) (hts _ qX8_crack_3) (fun _ h9 => h9) rfl dX8_crack_18 ?_
    refine lv_bipush (v := 35) hx hb dX8_crack_21 (by decide) ?_
    refine lv_iconst (v := 3) hx hb dX8_crack_23 (by decide) ?_
    refine lv_iload_n hx hb dX8_crack_24 rfl (lv_at hl 1 rfl) ?_
    refine lv_imul hx hb dX8_crack_25 ?_
    refine lv_iadd hx hb dX8_crack_26 ?_
    refine lv_iconst (v := 2) hx hb dX8_crack_27 (by decide) ?_
    refine lv_iadd hx hb dX8_crack_28 ?_
    obtain ⟨c5, hf⟩ := q_ck hf
    refine va_iald hx hb hK hP 4 0 rfl rfl c5 dX8_crack_29 ?_
    refine lv_iconst (v := 1) hx hb dX8_crack_30 (by decide) ?_
    refine lv_icmp_ne (tgt := 38) hx hb dX8_crack_31 (by decide) (fun c6 => ?_) (fun c6 => ?_)
    · have hf := q_f c6 hf
      refine lv_aload_n hx hb dX8_crack_38 rfl (lv_at hl 0 rfl) ?_
      obtain ⟨sc7, h8, hf⟩ := q_b1o hf
      refine q_rwVv (As := []) (rest := []) (ci := 8) (wr := []) (w2 := (wcM cI cZ o0 a0 sc7 t0)) ⟨hx, hb, hml, hown, hts⟩ (kX8_keep l dC dI cI cB cZ o0 a0 sn1 t0 H.size sc7 h8) (cwV 0 hts gX8_crack_X8_keep rfl rfl rfl hdX8_keep ⟨Nat.le_of_ble_eq_true rfl, Nat.le_of_ble_eq_true rfl⟩) hK hP hD hS hA [0, 1, 2, 3, 4, 5, 6, 7, 8, 9, 10] [] [0, 1, 2, 3, 4, 5, 6, 7, 8, 9, 10] rfl rfl (by decide) (by decide) (by decide) rfl (by decide) rfl rfl rfl hl.1 rfl (Nat.le_of_ble_eq_true rfl) dX8_crack_39 ⟨Nat.zero_le _, Nat.zero_le _⟩ (fun H locs hP hD hS => ?_)
      refine lv_aload_n hx hb dX8_crack_42 rfl (lv_at hl 0 rfl) ?_
      refine va_get (D := (dC, dI)) (ci := 8) (v := .ref (a0 5)) (C := RX8) (T := TX8) (N := 27) hx hb hts nX8_crack_8 hown hK hP 0 rfl rfl 5 (by decide) (hts _ qX8_crack_3) (fun _ h9 => h9) rfl dX8_crack_43 ?_
      refine lv_bipush (v := 35) hx hb dX8_crack_46 (by decide) ?_
      refine lv_iconst (v := 3) hx hb dX8_crack_48 (by decide) ?_
      refine lv_iload_n hx hb dX8_crack_49 rfl (lv_at hl 1 rfl) ?_
      refine lv_imul hx hb dX8_crack_50 ?_
      refine lv_iadd hx hb dX8_crack_51 ?_
      refine lv_iconst (v := 2) hx hb dX8_crack_52 (by decide) ?_
      refine lv_iadd hx hb dX8_crack_53 ?_
      refine lv_iconst (v := 1) hx hb dX8_crack_54 (by decide) ?_
      obtain ⟨c9, hf⟩ := q_ck hf
      obtain ⟨sn10, esn10, hf⟩ := q_lto hf
      refine va_iast hx hb hK hP hD hS 4 0 rfl rfl c9 dX8_crack_55 (fun H locs hP hD hS => ?_)
      have hP : va_P (dC, dI) vwCl (wcM cI cZ o0 a0 sn10 t0) H := by rw [esn10]; exact hP
      have hD : va_D A (wcM cI cZ o0 a0 sn10 t0) := by rw [esn10]; exact hD
      refine lv_lconst (v := 1) hx hb dX8_crack_56 (by decide) ?_
      obtain ⟨ee0, ee1⟩ := q_s2 hf
      subst ee1
      exact q_wretL hx hb hr hlk hAe hK hP hD hS ee0 dX8_crack_57
    · have hf := q_t c6 hf
      refine lv_ldc2 (v := -9000000000000000002) hx hb hown (hts _ qX8_crack_4) dX8_crack_34 ?_
      obtain ⟨ee0, ee1⟩ := q_s2 hf
      subst ee1
      exact q_wretL hx hb hr hlk hAe hK hP hD hS ee0 dX8_crack_37
  · have hf := q_t c4 hf
    refine lv_ldc2 (v := -9000000000000000001) hx hb hown (hts _ qX8_crack_2) dX8_crack_13 ?_
    obtain ⟨ee0, ee1⟩ := q_s2 hf
    subst ee1
    exact q_wretL hx hb hr hlk hAe hK hP hD hS ee0 dX8_crack_16
theorem hdX8_undo : yX8_undo.cls = RX8 ∧ yX8_undo.cls ≠ "java/lang/invoke/MethodHandle" ∧ yX8_undo.cls ≠ "java/lang/invoke/VarHandle" ∧ (parseMethodDescriptor yX8_undo.desc).map (fun d => d.parameters.length) = some 0 := by decide +kernel
theorem qX8_undo_1 : (Cond.fieldLink RX8 41 "DeadAskedModel" "thrown" "I") ∈ wsX8_undo := List.mem_of_getElem? (i := 1) (by decide +kernel)
theorem qX8_undo_2 : (Cond.fieldLink RX8 188 "DeadAskedModel" "acts" "I") ∈ wsX8_undo := List.mem_of_getElem? (i := 2) (by decide +kernel)
theorem qX8_undo_3 : (Cond.constantLong RX8 223 (-9000000000000000002)) ∈ wsX8_undo := List.mem_of_getElem? (i := 3) (by decide +kernel)
theorem qX8_undo_4 : (Cond.fieldLink RX8 19 "DeadAskedModel" "hill" "[I") ∈ wsX8_undo := List.mem_of_getElem? (i := 4) (by decide +kernel)
theorem qX8_undo_5 : (Cond.fieldLink RX8 25 "DeadAskedModel" "was" "[I") ∈ wsX8_undo := List.mem_of_getElem? (i := 5) (by decide +kernel)
theorem nX8_undo_8 : ∀ w ∈ u_ws RX8 TX8 27, w ∈ wsX8_undo := fun _ h => (List.mem_cons_of_mem _ (List.mem_append_right _ h))
set_option maxHeartbeats 4000000 in
set_option maxRecDepth 100000 in
theorem kX8_undo (o0 : Nat) (a0 : Nat → Nat) (s0 : St) (t0 : Lt) (sz : Nat) (r : Int64) (z0 : St) (hf : fX8_undo s0 = some (r, z0)) : Met l yX8_undo wsX8_undo ({ frames := 0, cells := 0, slots := 0, locals := 0 } : Room) (pcW (dC, dI) (q_ty cI cB cZ) [.ref o0] (wcM cI cZ o0 a0 s0 t0) sz) (qlW (dC, dI) (q_ty cI cB cZ) (wcM cI cZ o0 a0 s0 t0) (wcM cI cZ o0 a0 z0 t0) sz r) 0 0 (va_A (wcM cI cZ o0 a0 s0 t0) sz) := by
  refine q_rwM (cc := cX8_undo) (maxL := 2) (ret := (some .long)) (by decide +kernel) rfl (Nat.le_of_ble_eq_true rfl) ?_
  intro p e s m below meth c hx hb hr hlk hml hown hts hK A H hAe hH hsz hP hD hA hS ls hl
  have hown : s.vm.findClass RX8 = some m.cls := hown
  have hl : lv_has ls 2 [(0, .ref o0)] := hl
  unfold fX8_undo at hf
  refine lv_aload_n hx hb dX8_undo_0 rfl (lv_at hl 0 rfl) ?_
  refine lv_iconst (v := 0) hx hb dX8_undo_1 (by decide) ?_
  obtain ⟨sn1, esn1, hf⟩ := q_lto hf
  refine va_put (D := (dC, dI)) (ci := 8) (v := .int (0 : Int32)) (ty := .int) (C := RX8) (T := TX8) (N := 27) hx hb hts nX8_undo_8 tyX8 tyX8_ok nmX8 hown hK hP hD hS 0 rfl rfl 0 (by decide) (hts _ qX8_undo_1) (fun _ h9 => h9) rfl (by decide +kernel) rfl rfl (Nat.le_of_ble_eq_true rfl) dX8_undo_2 (fun H locs hP hD hS => ?_)
  have hP : va_P (dC, dI) vwCl (wcM cI cZ o0 a0 sn1 t0) H := by rw [esn1]; exact hP
  have hD : va_D A (wcM cI cZ o0 a0 sn1 t0) := by rw [esn1]; exact hD
  refine lv_aload_n hx hb dX8_undo_5 rfl (lv_at hl 0 rfl) ?_
  refine va_get (D := (dC, dI)) (ci := 8) (v := .int (sn1 9 0)) (C := RX8) (T := TX8) (N := 27) hx hb hts nX8_undo_8 hown hK hP 0 rfl rfl 9 (by decide) (hts _ qX8_undo_2) (fun _ h9 => h9) rfl dX8_undo_6 ?_
  refine lv_if_ne (tgt := 16) hx hb dX8_undo_9 (by decide) (fun c2 => ?_) (fun c2 => ?_)
  · have hf := q_f c2 hf
    refine lv_aload_n hx hb dX8_undo_16 rfl (lv_at hl 0 rfl) ?_
    refine lv_dup hx hb dX8_undo_17 rfl ?_
    refine va_get (D := (dC, dI)) (ci := 8) (v := .int (sn1 9 0)) (C := RX8) (T := TX8) (N := 27) hx hb hts nX8_undo_8 hown hK hP 0 rfl rfl 9 (by decide) (hts _ qX8_undo_2) (fun _ h9 => h9) rfl dX8_undo_18 ?_
    refine lv_iconst (v := 1) hx hb dX8_undo_21 (by decide) ?_
    refine lv_isub hx hb dX8_undo_22 ?_
    obtain ⟨sn3, esn3, hf⟩ := q_lto hf
    refine va_put (D := (dC, dI)) (ci := 8) (v := .int ((sn1 9 0) - (1 : Int32))) (ty := .int) (C := RX8) (T := TX8) (N := 27) hx hb hts nX8_undo_8 tyX8 tyX8_ok nmX8 hown hK hP hD hS 0 rfl rfl 9 (by decide) (hts _ qX8_undo_2) (fun _ h9 => h9) rfl (by decide +kernel) rfl rfl (Nat.le_of_ble_eq_true rfl) dX8_undo_23 (fun H locs hP hD hS => ?_)
    have hP : va_P (dC, dI) vwCl (wcM cI cZ o0 a0 sn3 t0) H := by rw [esn3]; exact hP
    have hD : va_D A (wcM cI cZ o0 a0 sn3 t0) := by rw [esn3]; exact hD
    refine lv_iconst (v := 0) hx hb dX8_undo_26 (by decide) ?_
    refine lv_istore_n (lv' := [(1, .int (0 : Int32)), (0, .ref o0)]) hx hb dX8_undo_27 rfl hl (by decide) rfl (fun ls hl => ?_)
    obtain ⟨oz7, hqn6, hf⟩ := q_b1o hf
    have kxn6 : ∀ z7 : St, z7 = oz7 → ∀ (H : Heap) (locs : List Loc), va_P (dC, dI) vwCl (wcM cI cZ o0 a0 z7 t0) H → va_D A (wcM cI cZ o0 a0 z7 t0) → va_S A s.heap H locs → ∀ ls : Array Slot, lv_has ls 2 [(0, .ref o0)] → W p l e ({ frames := 0, cells := 0, slots := 0, locals := 0 } : Room) s m [.ref o0].toArray below meth c H locs 0 0 (MQ below (qlW (dC, dI) (q_ty cI cB cZ) (wcM cI cZ o0 a0 s0 t0) (wcM cI cZ o0 a0 z0 t0) sz r) [.ref o0].toArray s 0 0 (va_A (wcM cI cZ o0 a0 s0 t0) sz)) (F0 m 60 ls []) := by
      intro z7 ez7 H locs hP hD hS ls hl
      subst ez7
      refine lv_aload_n hx hb dX8_undo_60 rfl (lv_at hl 0 rfl) ?_
      refine va_get (D := (dC, dI)) (ci := 8) (v := .int (z7 9 0)) (C := RX8) (T := TX8) (N := 27) hx hb hts nX8_undo_8 hown hK hP 0 rfl rfl 9 (by decide) (hts _ qX8_undo_2) (fun _ h9 => h9) rfl dX8_undo_61 ?_
      refine lv_i2l (v := (z7 9 0).toInt64) hx hb dX8_undo_64 rfl ?_
      obtain ⟨ee0, ee1⟩ := q_s2 hf
      subst ee1
      exact q_wretL hx hb hr hlk hAe hK hP hD hS ee0 dX8_undo_65
    have aihn6 : ∀ n6 : Nat, ∀ l1_4 : Int32, ∀ sl5 : St, fX8_undo_L28 n6 l1_4 sl5 = some oz7 → ∀ (H : Heap) (locs : List Loc), va_P (dC, dI) vwCl (wcM cI cZ o0 a0 sl5 t0) H → va_D A (wcM cI cZ o0 a0 sl5 t0) → va_S A s.heap H locs → ∀ ls : Array Slot, lv_has ls 2 [(1, .int l1_4), (0, .ref o0)] → W p l e ({ frames := 0, cells := 0, slots := 0, locals := 0 } : Room) s m [.ref o0].toArray below meth c H locs 0 0 (MQ below (qlW (dC, dI) (q_ty cI cB cZ) (wcM cI cZ o0 a0 s0 t0) (wcM cI cZ o0 a0 z0 t0) sz r) [.ref o0].toArray s 0 0 (va_A (wcM cI cZ o0 a0 s0 t0) sz)) (F0 m 28 ls []) := by
      intro n6
      induction n6 with
      | zero =>
        intro l1_4 sl5 hf
        exact q_no hf
      | succ n6 ihn6 =>
        intro l1_4 sl5 hf H locs hP hD hS ls hl
        rw [fX8_undo_L28] at hf
        refine lv_iload_n hx hb dX8_undo_28 rfl (lv_at hl 0 rfl) ?_
        refine lv_bipush (v := 59) hx hb dX8_undo_29 (by decide) ?_
        refine lv_icmp_ge (tgt := 60) hx hb dX8_undo_31 (by decide) (fun c8 => ?_) (fun c8 => ?_)
        · have hf := q_t c8 hf
          exact kxn6 sl5 (q_s1 hf) _ _ hP hD hS _ (lv_sub hl [1] rfl)
        · have hf := q_f c8 hf
          refine lv_aload_n hx hb dX8_undo_34 rfl (lv_at hl 1 rfl) ?_
          refine va_get (D := (dC, dI)) (ci := 8) (v := .ref (a0 5)) (C := RX8) (T := TX8) (N := 27) hx hb hts nX8_undo_8 hown hK hP 0 rfl rfl 5 (by decide) (hts _ qX8_undo_4) (fun _ h9 => h9) rfl dX8_undo_35 ?_
          refine lv_iload_n hx hb dX8_undo_38 rfl (lv_at hl 0 rfl) ?_
          refine lv_aload_n hx hb dX8_undo_39 rfl (lv_at hl 1 rfl) ?_
          refine va_get (D := (dC, dI)) (ci := 8) (v := .ref (a0 8)) (C := RX8) (T := TX8) (N := 27) hx hb hts nX8_undo_8 hown hK hP 0 rfl rfl 8 (by decide) (hts _ qX8_undo_5) (fun _ h9 => h9) rfl dX8_undo_40 ?_
          refine lv_bipush (v := 59) hx hb dX8_undo_43 (by decide) ?_
          refine lv_aload_n hx hb dX8_undo_45 rfl (lv_at hl 1 rfl) ?_
          refine va_get (D := (dC, dI)) (ci := 8) (v := .int (sl5 9 0)) (C := RX8) (T := TX8) (N := 27) hx hb hts nX8_undo_8 hown hK hP 0 rfl rfl 9 (by decide) (hts _ qX8_undo_2) (fun _ h9 => h9) rfl dX8_undo_46 ?_
          refine lv_imul hx hb dX8_undo_49 ?_
          refine lv_iload_n hx hb dX8_undo_50 rfl (lv_at hl 0 rfl) ?_
          refine lv_iadd hx hb dX8_undo_51 ?_
          obtain ⟨c9, hf⟩ := q_ck hf
          refine va_iald hx hb hK hP 6 0 rfl rfl c9 dX8_undo_52 ?_
          obtain ⟨c10, hf⟩ := q_ck hf
          obtain ⟨sn11, esn11, hf⟩ := q_lto hf
          refine va_iast hx hb hK hP hD hS 4 0 rfl rfl c10 dX8_undo_53 (fun H locs hP hD hS => ?_)
          have hP : va_P (dC, dI) vwCl (wcM cI cZ o0 a0 sn11 t0) H := by rw [esn11]; exact hP
          have hD : va_D A (wcM cI cZ o0 a0 sn11 t0) := by rw [esn11]; exact hD
          refine lv_iinc (v := l1_4 + (1 : Int32)) (lv' := [(1, .int (l1_4 + (1 : Int32))), (0, .ref o0)]) hx hb dX8_undo_54 hl (k := 0) rfl rfl (by decide) rfl (fun ls hl => ?_)
          refine lv_goto (tgt := 28) hx hb dX8_undo_57 (by decide) ?_
          exact ihn6 (l1_4 + (1 : Int32)) sn11 hf _ _ hP hD hS _ hl
    exact aihn6 5000 (0 : Int32) sn3 hqn6 _ _ hP hD hS _ hl
  · have hf := q_t c2 hf
    refine lv_ldc2 (v := -9000000000000000002) hx hb hown (hts _ qX8_undo_3) dX8_undo_12 ?_
    obtain ⟨ee0, ee1⟩ := q_s2 hf
    subst ee1
    exact q_wretL hx hb hr hlk hAe hK hP hD hS ee0 dX8_undo_15
theorem hdX8_grave : yX8_grave.cls = RX8 ∧ yX8_grave.cls ≠ "java/lang/invoke/MethodHandle" ∧ yX8_grave.cls ≠ "java/lang/invoke/VarHandle" ∧ (parseMethodDescriptor yX8_grave.desc).map (fun d => d.parameters.length) = some 2 := by decide +kernel
theorem qX8_grave_1 : (Cond.fieldLink RX8 41 "DeadAskedModel" "thrown" "I") ∈ wsX8_grave := List.mem_of_getElem? (i := 1) (by decide +kernel)
theorem qX8_grave_2 : (Cond.constantLong RX8 262 5) ∈ wsX8_grave := List.mem_of_getElem? (i := 2) (by decide +kernel)
theorem qX8_grave_3 : (Cond.constantLong RX8 62 (-9000000000000000001)) ∈ wsX8_grave := List.mem_of_getElem? (i := 3) (by decide +kernel)
theorem nX8_grave_8 : ∀ w ∈ u_ws RX8 TX8 27, w ∈ wsX8_grave := fun _ h => (List.mem_cons_of_mem _ (List.mem_append_right _ h))
set_option maxHeartbeats 4000000 in
set_option maxRecDepth 100000 in
theorem kX8_grave (o0 : Nat) (a0 : Nat → Nat) (s0 : St) (t0 : Lt) (p1 : Int32) (p2 : Int32) (sz : Nat) (r : Int64) (z0 : St) (hf : fX8_grave s0 p1 p2 = some (r, z0)) : Met l yX8_grave wsX8_grave ({ frames := 2, cells := 0, slots := 0, locals := 48 } : Room) (pcW (dC, dI) (q_ty cI cB cZ) [.ref o0, .int p1, .int p2] (wcM cI cZ o0 a0 s0 t0) sz) (qlW (dC, dI) (q_ty cI cB cZ) (wcM cI cZ o0 a0 s0 t0) (wcM cI cZ o0 a0 z0 t0) sz r) 0 0 (va_A (wcM cI cZ o0 a0 s0 t0) sz) := by
  refine q_rwM (cc := cX8_grave) (maxL := 3) (ret := (some .long)) (by decide +kernel) rfl (Nat.le_of_ble_eq_true rfl) ?_
  intro p e s m below meth c hx hb hr hlk hml hown hts hK A H hAe hH hsz hP hD hA hS ls hl
  have hown : s.vm.findClass RX8 = some m.cls := hown
  have hl : lv_has ls 3 [(0, .ref o0), (1, .int p1), (2, .int p2)] := hl
  unfold fX8_grave at hf
  refine lv_aload_n hx hb dX8_grave_0 rfl (lv_at hl 0 rfl) ?_
  refine lv_iconst (v := 0) hx hb dX8_grave_1 (by decide) ?_
  obtain ⟨sn1, esn1, hf⟩ := q_lto hf
  refine va_put (D := (dC, dI)) (ci := 8) (v := .int (0 : Int32)) (ty := .int) (C := RX8) (T := TX8) (N := 27) hx hb hts nX8_grave_8 tyX8 tyX8_ok nmX8 hown hK hP hD hS 0 rfl rfl 0 (by decide) (hts _ qX8_grave_1) (fun _ h9 => h9) rfl (by decide +kernel) rfl rfl (Nat.le_of_ble_eq_true rfl) dX8_grave_2 (fun H locs hP hD hS => ?_)
  have hP : va_P (dC, dI) vwCl (wcM cI cZ o0 a0 sn1 t0) H := by rw [esn1]; exact hP
  have hD : va_D A (wcM cI cZ o0 a0 sn1 t0) := by rw [esn1]; exact hD
  refine lv_aload_n hx hb dX8_grave_5 rfl (lv_at hl 0 rfl) ?_
  refine lv_iload_n hx hb dX8_grave_6 rfl (lv_at hl 1 rfl) ?_
  obtain ⟨r2, h3, hf⟩ := q_b1o hf
  refine q_roVi (As := [.int p1]) (rest := []) (ci := 8) ⟨hx, hb, hml, hown, hts⟩ (kX8_isGrave l dC dI cI cB cZ o0 a0 sn1 t0 p1 r2 h3) (cwV 1 hts gX8_grave_X8_isGrave rfl rfl rfl hdX8_isGrave ⟨Nat.le_of_ble_eq_true rfl, Nat.le_of_ble_eq_true rfl⟩) hK hP rfl rfl rfl hl.1 rfl (Nat.le_of_ble_eq_true rfl) dX8_grave_7 ⟨Nat.zero_le _, Nat.zero_le _⟩ ?_
  refine lv_if_eq (tgt := 25) hx hb dX8_grave_10 (by decide) (fun c4 => ?_) (fun c4 => ?_)
  · have hf := q_t c4 hf
    refine lv_ldc2 (v := -9000000000000000001) hx hb hown (hts _ qX8_grave_3) dX8_grave_25 ?_
    obtain ⟨ee0, ee1⟩ := q_s2 hf
    subst ee1
    exact q_wretL hx hb hr hlk hAe hK hP hD hS ee0 dX8_grave_28
  · have hf := q_f c4 hf
    refine lv_iload_n hx hb dX8_grave_13 rfl (lv_at hl 2 rfl) ?_
    refine lv_i2l (v := p2.toInt64) hx hb dX8_grave_14 rfl ?_
    refine lv_lconst (v := 0) hx hb dX8_grave_15 (by decide) ?_
    refine lv_ldc2 (v := 5) hx hb hown (hts _ qX8_grave_2) dX8_grave_16 ?_
    obtain ⟨r5, h6, hf⟩ := q_b1o hf
    refine q_roSi (As := [.long p2.toInt64, .long (0 : Int64), .long (5 : Int64)]) (rest := []) ⟨hx, hb, hml, hown, hts⟩ (kX8_in l p2.toInt64 (0 : Int64) (5 : Int64) r5 h6) (va_cwS 3 hts gX8_grave_X8_in rfl rfl rfl hdX8_in ⟨Nat.le_of_ble_eq_true rfl, Nat.le_of_ble_eq_true rfl⟩) rfl hl.1 rfl (Nat.le_of_ble_eq_true rfl) dX8_grave_19 ⟨Nat.zero_le _, Nat.zero_le _⟩ ?_
    refine lv_if_ne (tgt := 29) hx hb dX8_grave_22 (by decide) (fun c7 => ?_) (fun c7 => ?_)
    · have hf := q_f c7 hf
      refine lv_iload_n hx hb dX8_grave_29 rfl (lv_at hl 2 rfl) ?_
      refine lv_iconst (v := 4) hx hb dX8_grave_30 (by decide) ?_
      refine lv_icmp_ge (tgt := 44) hx hb dX8_grave_31 (by decide) (fun c8 => ?_) (fun c8 => ?_)
      · have hf := q_t c8 hf
        refine lv_iload_n hx hb dX8_grave_44 rfl (lv_at hl 2 rfl) ?_
        refine lv_iconst (v := 4) hx hb dX8_grave_45 (by decide) ?_
        refine lv_icmp_ne (tgt := 59) hx hb dX8_grave_46 (by decide) (fun c9 => ?_) (fun c9 => ?_)
        · have hf := q_f c9 hf
          refine lv_aload_n hx hb dX8_grave_59 rfl (lv_at hl 0 rfl) ?_
          refine lv_iload_n hx hb dX8_grave_60 rfl (lv_at hl 1 rfl) ?_
          obtain ⟨r10, h11, hf⟩ := q_b1o hf
          refine q_roVi (As := [.int p1]) (rest := []) (ci := 8) ⟨hx, hb, hml, hown, hts⟩ (kX8_heard l dC dI cI cB cZ o0 a0 sn1 t0 p1 r10 h11) (cwV 1 hts gX8_grave_X8_heard rfl rfl rfl hdX8_heard ⟨Nat.le_of_ble_eq_true rfl, Nat.le_of_ble_eq_true rfl⟩) hK hP rfl rfl rfl hl.1 rfl (Nat.le_of_ble_eq_true rfl) dX8_grave_61 ⟨Nat.zero_le _, Nat.zero_le _⟩ ?_
          refine lv_i2l (v := r10.toInt64) hx hb dX8_grave_64 rfl ?_
          obtain ⟨ee0, ee1⟩ := q_s2 hf
          subst ee1
          exact q_wretL hx hb hr hlk hAe hK hP hD hS ee0 dX8_grave_65
        · have hf := q_t c9 hf
          refine lv_aload_n hx hb dX8_grave_49 rfl (lv_at hl 0 rfl) ?_
          refine lv_iload_n hx hb dX8_grave_50 rfl (lv_at hl 1 rfl) ?_
          refine lv_iconst (v := 0) hx hb dX8_grave_51 (by decide) ?_
          obtain ⟨r12, h13, hf⟩ := q_b1o hf
          refine q_roVi (As := [.int p1, .int (0 : Int32)]) (rest := []) (ci := 8) ⟨hx, hb, hml, hown, hts⟩ (kX8_itsTree l dC dI cI cB cZ o0 a0 sn1 t0 p1 (0 : Int32) r12 h13) (cwV 2 hts gX8_grave_X8_itsTree rfl rfl rfl hdX8_itsTree ⟨Nat.le_of_ble_eq_true rfl, Nat.le_of_ble_eq_true rfl⟩) hK hP rfl rfl rfl hl.1 rfl (Nat.le_of_ble_eq_true rfl) dX8_grave_52 ⟨Nat.zero_le _, Nat.zero_le _⟩ ?_
          refine lv_i2l (v := r12.toInt64) hx hb dX8_grave_55 rfl ?_
          refine lv_goto (tgt := 65) hx hb dX8_grave_56 (by decide) ?_
          obtain ⟨ee0, ee1⟩ := q_s2 hf
          subst ee1
          exact q_wretL hx hb hr hlk hAe hK hP hD hS ee0 dX8_grave_65
      · have hf := q_f c8 hf
        refine lv_aload_n hx hb dX8_grave_34 rfl (lv_at hl 0 rfl) ?_
        refine lv_iload_n hx hb dX8_grave_35 rfl (lv_at hl 1 rfl) ?_
        refine lv_iload_n hx hb dX8_grave_36 rfl (lv_at hl 2 rfl) ?_
        obtain ⟨r14, h15, hf⟩ := q_b1o hf
        refine q_roVi (As := [.int p1, .int p2]) (rest := []) (ci := 8) ⟨hx, hb, hml, hown, hts⟩ (kX8_ofGrave l dC dI cI cB cZ o0 a0 sn1 t0 p1 p2 r14 h15) (cwV 2 hts gX8_grave_X8_ofGrave rfl rfl rfl hdX8_ofGrave ⟨Nat.le_of_ble_eq_true rfl, Nat.le_of_ble_eq_true rfl⟩) hK hP rfl rfl rfl hl.1 rfl (Nat.le_of_ble_eq_true rfl) dX8_grave_37 ⟨Nat.zero_le _, Nat.zero_le _⟩ ?_
        refine lv_i2l (v := r14.toInt64) hx hb dX8_grave_40 rfl ?_
        refine lv_goto (tgt := 65) hx hb dX8_grave_41 (by decide) ?_
        obtain ⟨ee0, ee1⟩ := q_s2 hf
        subst ee1
        exact q_wretL hx hb hr hlk hAe hK hP hD hS ee0 dX8_grave_65
    · have hf := q_t c7 hf
      refine lv_ldc2 (v := -9000000000000000001) hx hb hown (hts _ qX8_grave_3) dX8_grave_25 ?_
      obtain ⟨ee0, ee1⟩ := q_s2 hf
      subst ee1
      exact q_wretL hx hb hr hlk hAe hK hP hD hS ee0 dX8_grave_28
theorem hdX8_tree : yX8_tree.cls = RX8 ∧ yX8_tree.cls ≠ "java/lang/invoke/MethodHandle" ∧ yX8_tree.cls ≠ "java/lang/invoke/VarHandle" ∧ (parseMethodDescriptor yX8_tree.desc).map (fun d => d.parameters.length) = some 2 := by decide +kernel
theorem qX8_tree_1 : (Cond.fieldLink RX8 41 "DeadAskedModel" "thrown" "I") ∈ wsX8_tree := List.mem_of_getElem? (i := 1) (by decide +kernel)
theorem qX8_tree_2 : (Cond.constantLong RX8 264 3) ∈ wsX8_tree := List.mem_of_getElem? (i := 2) (by decide +kernel)
theorem qX8_tree_3 : (Cond.constantLong RX8 62 (-9000000000000000001)) ∈ wsX8_tree := List.mem_of_getElem? (i := 3) (by decide +kernel)
theorem qX8_tree_4 : (Cond.fieldLink RX8 19 "DeadAskedModel" "hill" "[I") ∈ wsX8_tree := List.mem_of_getElem? (i := 4) (by decide +kernel)
theorem nX8_tree_8 : ∀ w ∈ u_ws RX8 TX8 27, w ∈ wsX8_tree := fun _ h => (List.mem_cons_of_mem _ (List.mem_append_right _ h))
set_option maxHeartbeats 4000000 in
set_option maxRecDepth 100000 in
theorem kX8_tree (o0 : Nat) (a0 : Nat → Nat) (s0 : St) (t0 : Lt) (p1 : Int32) (p2 : Int32) (sz : Nat) (r : Int64) (z0 : St) (hf : fX8_tree s0 p1 p2 = some (r, z0)) : Met l yX8_tree wsX8_tree ({ frames := 2, cells := 0, slots := 0, locals := 48 } : Room) (pcW (dC, dI) (q_ty cI cB cZ) [.ref o0, .int p1, .int p2] (wcM cI cZ o0 a0 s0 t0) sz) (qlW (dC, dI) (q_ty cI cB cZ) (wcM cI cZ o0 a0 s0 t0) (wcM cI cZ o0 a0 z0 t0) sz r) 0 0 (va_A (wcM cI cZ o0 a0 s0 t0) sz) := by
  refine q_rwM (cc := cX8_tree) (maxL := 5) (ret := (some .long)) (by decide +kernel) rfl (Nat.le_of_ble_eq_true rfl) ?_
  intro p e s m below meth c hx hb hr hlk hml hown hts hK A H hAe hH hsz hP hD hA hS ls hl
  have hown : s.vm.findClass RX8 = some m.cls := hown
  have hl : lv_has ls 5 [(0, .ref o0), (1, .int p1), (2, .int p2)] := hl
  unfold fX8_tree at hf
  refine lv_aload_n hx hb dX8_tree_0 rfl (lv_at hl 0 rfl) ?_
  refine lv_iconst (v := 0) hx hb dX8_tree_1 (by decide) ?_
  obtain ⟨sn1, esn1, hf⟩ := q_lto hf
  refine va_put (D := (dC, dI)) (ci := 8) (v := .int (0 : Int32)) (ty := .int) (C := RX8) (T := TX8) (N := 27) hx hb hts nX8_tree_8 tyX8 tyX8_ok nmX8 hown hK hP hD hS 0 rfl rfl 0 (by decide) (hts _ qX8_tree_1) (fun _ h9 => h9) rfl (by decide +kernel) rfl rfl (Nat.le_of_ble_eq_true rfl) dX8_tree_2 (fun H locs hP hD hS => ?_)
  have hP : va_P (dC, dI) vwCl (wcM cI cZ o0 a0 sn1 t0) H := by rw [esn1]; exact hP
  have hD : va_D A (wcM cI cZ o0 a0 sn1 t0) := by rw [esn1]; exact hD
  refine lv_aload_n hx hb dX8_tree_5 rfl (lv_at hl 0 rfl) ?_
  refine lv_iload_n hx hb dX8_tree_6 rfl (lv_at hl 1 rfl) ?_
  obtain ⟨r2, h3, hf⟩ := q_b1o hf
  refine q_roVi (As := [.int p1]) (rest := []) (ci := 8) ⟨hx, hb, hml, hown, hts⟩ (kX8_isTree l dC dI cI cB cZ o0 a0 sn1 t0 p1 r2 h3) (cwV 1 hts gX8_tree_X8_isTree rfl rfl rfl hdX8_isTree ⟨Nat.le_of_ble_eq_true rfl, Nat.le_of_ble_eq_true rfl⟩) hK hP rfl rfl rfl hl.1 rfl (Nat.le_of_ble_eq_true rfl) dX8_tree_7 ⟨Nat.zero_le _, Nat.zero_le _⟩ ?_
  refine lv_if_eq (tgt := 25) hx hb dX8_tree_10 (by decide) (fun c4 => ?_) (fun c4 => ?_)
  · have hf := q_t c4 hf
    refine lv_ldc2 (v := -9000000000000000001) hx hb hown (hts _ qX8_tree_3) dX8_tree_25 ?_
    obtain ⟨ee0, ee1⟩ := q_s2 hf
    subst ee1
    exact q_wretL hx hb hr hlk hAe hK hP hD hS ee0 dX8_tree_28
  · have hf := q_f c4 hf
    refine lv_iload_n hx hb dX8_tree_13 rfl (lv_at hl 2 rfl) ?_
    refine lv_i2l (v := p2.toInt64) hx hb dX8_tree_14 rfl ?_
    refine lv_lconst (v := 0) hx hb dX8_tree_15 (by decide) ?_
    refine lv_ldc2 (v := 3) hx hb hown (hts _ qX8_tree_2) dX8_tree_16 ?_
    obtain ⟨r5, h6, hf⟩ := q_b1o hf
    refine q_roSi (As := [.long p2.toInt64, .long (0 : Int64), .long (3 : Int64)]) (rest := []) ⟨hx, hb, hml, hown, hts⟩ (kX8_in l p2.toInt64 (0 : Int64) (3 : Int64) r5 h6) (va_cwS 3 hts gX8_tree_X8_in rfl rfl rfl hdX8_in ⟨Nat.le_of_ble_eq_true rfl, Nat.le_of_ble_eq_true rfl⟩) rfl hl.1 rfl (Nat.le_of_ble_eq_true rfl) dX8_tree_19 ⟨Nat.zero_le _, Nat.zero_le _⟩ ?_
    refine lv_if_ne (tgt := 29) hx hb dX8_tree_22 (by decide) (fun c7 => ?_) (fun c7 => ?_)
    · have hf := q_f c7 hf
      refine lv_iconst (v := 0) hx hb dX8_tree_29 (by decide) ?_
      refine lv_istore_n (lv' := [(3, .int (0 : Int32)), (0, .ref o0), (1, .int p1), (2, .int p2)]) hx hb dX8_tree_30 rfl hl (by decide) rfl (fun ls hl => ?_)
      refine lv_iconst (v := 0) hx hb dX8_tree_31 (by decide) ?_
      refine lv_istore (lv' := [(4, .int (0 : Int32)), (3, .int (0 : Int32)), (0, .ref o0), (1, .int p1), (2, .int p2)]) hx hb dX8_tree_32 hl (by decide) rfl (fun ls hl => ?_)
      obtain ⟨oz11, hqn10, hf⟩ := q_b1o hf
      have kxn10 : ∀ z11 : Int32, z11 = oz11 → ∀ (H : Heap) (locs : List Loc), va_P (dC, dI) vwCl (wcM cI cZ o0 a0 sn1 t0) H → va_D A (wcM cI cZ o0 a0 sn1 t0) → va_S A s.heap H locs → ∀ ls : Array Slot, lv_has ls 5 [(3, .int z11), (0, .ref o0), (1, .int p1), (2, .int p2)] → W p l e ({ frames := 2, cells := 0, slots := 0, locals := 48 } : Room) s m [.ref o0, .int p1, .int p2].toArray below meth c H locs 0 0 (MQ below (qlW (dC, dI) (q_ty cI cB cZ) (wcM cI cZ o0 a0 s0 t0) (wcM cI cZ o0 a0 z0 t0) sz r) [.ref o0, .int p1, .int p2].toArray s 0 0 (va_A (wcM cI cZ o0 a0 s0 t0) sz)) (F0 m 73 ls []) := by
        intro z11 ez11 H locs hP hD hS ls hl
        subst ez11
        refine lv_iload_n hx hb dX8_tree_73 rfl (lv_at hl 3 rfl) ?_
        refine lv_if_ne (tgt := 86) hx hb dX8_tree_74 (by decide) (fun c19 => ?_) (fun c19 => ?_)
        · have hf := q_f c19 hf
          refine lv_iload_n hx hb dX8_tree_86 rfl (lv_at hl 3 rfl) ?_
          refine lv_iconst (v := 1) hx hb dX8_tree_87 (by decide) ?_
          refine lv_icmp_ne (tgt := 100) hx hb dX8_tree_88 (by decide) (fun c20 => ?_) (fun c20 => ?_)
          · have hf := q_f c20 hf
            refine lv_iload_n hx hb dX8_tree_100 rfl (lv_at hl 3 rfl) ?_
            refine lv_iconst (v := 2) hx hb dX8_tree_101 (by decide) ?_
            refine lv_icmp_ne (tgt := 114) hx hb dX8_tree_102 (by decide) (fun c21 => ?_) (fun c21 => ?_)
            · have hf := q_f c21 hf
              refine lv_iload_n hx hb dX8_tree_114 rfl (lv_at hl 0 rfl) ?_
              refine lv_i2l (v := z11.toInt64) hx hb dX8_tree_115 rfl ?_
              obtain ⟨ee0, ee1⟩ := q_s2 hf
              subst ee1
              exact q_wretL hx hb hr hlk hAe hK hP hD hS ee0 dX8_tree_116
            · have hf := q_t c21 hf
              refine lv_aload_n hx hb dX8_tree_105 rfl (lv_at hl 1 rfl) ?_
              refine lv_iload_n hx hb dX8_tree_106 rfl (lv_at hl 2 rfl) ?_
              obtain ⟨r22, h23, hf⟩ := q_b1o hf
              refine q_roVi (As := [.int p1]) (rest := []) (ci := 8) ⟨hx, hb, hml, hown, hts⟩ (kX8_loose l dC dI cI cB cZ o0 a0 sn1 t0 p1 r22 h23) (cwV 1 hts gX8_tree_X8_loose rfl rfl rfl hdX8_loose ⟨Nat.le_of_ble_eq_true rfl, Nat.le_of_ble_eq_true rfl⟩) hK hP rfl rfl rfl hl.1 rfl (Nat.le_of_ble_eq_true rfl) dX8_tree_107 ⟨Nat.zero_le _, Nat.zero_le _⟩ ?_
              refine lv_i2l (v := r22.toInt64) hx hb dX8_tree_110 rfl ?_
              refine lv_goto (tgt := 116) hx hb dX8_tree_111 (by decide) ?_
              obtain ⟨ee0, ee1⟩ := q_s2 hf
              subst ee1
              exact q_wretL hx hb hr hlk hAe hK hP hD hS ee0 dX8_tree_116
          · have hf := q_t c20 hf
            refine lv_aload_n hx hb dX8_tree_91 rfl (lv_at hl 1 rfl) ?_
            refine lv_iload_n hx hb dX8_tree_92 rfl (lv_at hl 2 rfl) ?_
            obtain ⟨r24, h25, hf⟩ := q_b1o hf
            refine q_roVi (As := [.int p1]) (rest := []) (ci := 8) ⟨hx, hb, hml, hown, hts⟩ (kX8_fruit l dC dI cI cB cZ o0 a0 sn1 t0 p1 r24 h25) (cwV 1 hts gX8_tree_X8_fruit rfl rfl rfl hdX8_fruit ⟨Nat.le_of_ble_eq_true rfl, Nat.le_of_ble_eq_true rfl⟩) hK hP rfl rfl rfl hl.1 rfl (Nat.le_of_ble_eq_true rfl) dX8_tree_93 ⟨Nat.zero_le _, Nat.zero_le _⟩ ?_
            refine lv_i2l (v := r24.toInt64) hx hb dX8_tree_96 rfl ?_
            refine lv_goto (tgt := 116) hx hb dX8_tree_97 (by decide) ?_
            obtain ⟨ee0, ee1⟩ := q_s2 hf
            subst ee1
            exact q_wretL hx hb hr hlk hAe hK hP hD hS ee0 dX8_tree_116
        · have hf := q_t c19 hf
          refine lv_aload_n hx hb dX8_tree_77 rfl (lv_at hl 1 rfl) ?_
          refine lv_iload_n hx hb dX8_tree_78 rfl (lv_at hl 2 rfl) ?_
          obtain ⟨r26, h27, hf⟩ := q_b1o hf
          refine q_roVi (As := [.int p1]) (rest := []) (ci := 8) ⟨hx, hb, hml, hown, hts⟩ (kX8_placeOf l dC dI cI cB cZ o0 a0 sn1 t0 p1 r26 h27) (cwV 1 hts gX8_tree_X8_placeOf rfl rfl rfl hdX8_placeOf ⟨Nat.le_of_ble_eq_true rfl, Nat.le_of_ble_eq_true rfl⟩) hK hP rfl rfl rfl hl.1 rfl (Nat.le_of_ble_eq_true rfl) dX8_tree_79 ⟨Nat.zero_le _, Nat.zero_le _⟩ ?_
          refine lv_i2l (v := r26.toInt64) hx hb dX8_tree_82 rfl ?_
          refine lv_goto (tgt := 116) hx hb dX8_tree_83 (by decide) ?_
          obtain ⟨ee0, ee1⟩ := q_s2 hf
          subst ee1
          exact q_wretL hx hb hr hlk hAe hK hP hD hS ee0 dX8_tree_116
      have aihn10 : ∀ n10 : Nat, ∀ l3_8 : Int32, ∀ l4_9 : Int32, fX8_tree_L34 p1 sn1 n10 l3_8 l4_9 = some oz11 → ∀ (H : Heap) (locs : List Loc), va_P (dC, dI) vwCl (wcM cI cZ o0 a0 sn1 t0) H → va_D A (wcM cI cZ o0 a0 sn1 t0) → va_S A s.heap H locs → ∀ ls : Array Slot, lv_has ls 5 [(4, .int l4_9), (3, .int l3_8), (0, .ref o0), (1, .int p1), (2, .int p2)] → W p l e ({ frames := 2, cells := 0, slots := 0, locals := 48 } : Room) s m [.ref o0, .int p1, .int p2].toArray below meth c H locs 0 0 (MQ below (qlW (dC, dI) (q_ty cI cB cZ) (wcM cI cZ o0 a0 s0 t0) (wcM cI cZ o0 a0 z0 t0) sz r) [.ref o0, .int p1, .int p2].toArray s 0 0 (va_A (wcM cI cZ o0 a0 s0 t0) sz)) (F0 m 34 ls []) := by
        intro n10
        induction n10 with
        | zero =>
          intro l3_8 l4_9 hf
          exact q_no hf
        | succ n10 ihn10 =>
          intro l3_8 l4_9 hf H locs hP hD hS ls hl
          rw [fX8_tree_L34] at hf
          refine lv_iload hx hb dX8_tree_34 (lv_at hl 0 rfl) ?_
          refine lv_aload_n hx hb dX8_tree_36 rfl (lv_at hl 2 rfl) ?_
          refine va_get (D := (dC, dI)) (ci := 8) (v := .ref (a0 5)) (C := RX8) (T := TX8) (N := 27) hx hb hts nX8_tree_8 hown hK hP 0 rfl rfl 5 (by decide) (hts _ qX8_tree_4) (fun _ h9 => h9) rfl dX8_tree_37 ?_
          refine lv_iconst (v := 0) hx hb dX8_tree_40 (by decide) ?_
          obtain ⟨c12, hf⟩ := q_ck hf
          refine va_iald hx hb hK hP 4 0 rfl rfl c12 dX8_tree_41 ?_
          refine lv_icmp_ge (tgt := 73) hx hb dX8_tree_42 (by decide) (fun c13 => ?_) (fun c13 => ?_)
          · have hf := q_t c13 hf
            exact kxn10 l3_8 (q_s1 hf) _ _ hP hD hS _ (lv_sub hl [1, 2, 3, 4] rfl)
          · have hf := q_f c13 hf
            refine lv_iload_n hx hb dX8_tree_45 rfl (lv_at hl 1 rfl) ?_
            refine lv_aload_n hx hb dX8_tree_46 rfl (lv_at hl 2 rfl) ?_
            refine lv_iload hx hb dX8_tree_47 (lv_at hl 0 rfl) ?_
            refine lv_iconst (v := 0) hx hb dX8_tree_49 (by decide) ?_
            obtain ⟨r14, h15, hf⟩ := q_b1o hf
            refine q_roVi (As := [.int l4_9, .int (0 : Int32)]) (rest := [.int l3_8]) (ci := 8) ⟨hx, hb, hml, hown, hts⟩ (kX8_itsTree l dC dI cI cB cZ o0 a0 sn1 t0 l4_9 (0 : Int32) r14 h15) (cwV 2 hts gX8_tree_X8_itsTree rfl rfl rfl hdX8_itsTree ⟨Nat.le_of_ble_eq_true rfl, Nat.le_of_ble_eq_true rfl⟩) hK hP rfl rfl rfl hl.1 rfl (Nat.le_of_ble_eq_true rfl) dX8_tree_50 ⟨Nat.zero_le _, Nat.zero_le _⟩ ?_
            refine lv_iload_n hx hb dX8_tree_53 rfl (lv_at hl 3 rfl) ?_
            obtain ⟨ov16, hqj17, hf⟩ := q_b1o hf
            have kj17 : ∀ v16 : Int32, v16 = ov16 → ∀ (H : Heap) (locs : List Loc), va_P (dC, dI) vwCl (wcM cI cZ o0 a0 sn1 t0) H → va_D A (wcM cI cZ o0 a0 sn1 t0) → va_S A s.heap H locs → ∀ ls : Array Slot, lv_has ls 5 [(4, .int l4_9), (0, .ref o0), (1, .int p1), (2, .int p2)] → W p l e ({ frames := 2, cells := 0, slots := 0, locals := 48 } : Room) s m [.ref o0, .int p1, .int p2].toArray below meth c H locs 0 0 (MQ below (qlW (dC, dI) (q_ty cI cB cZ) (wcM cI cZ o0 a0 s0 t0) (wcM cI cZ o0 a0 z0 t0) sz r) [.ref o0, .int p1, .int p2].toArray s 0 0 (va_A (wcM cI cZ o0 a0 s0 t0) sz)) (F0 m 65 ls [.int v16, .int l3_8]) := by
              intro v16 ev16 H locs hP hD hS ls hl
              subst ev16
              refine lv_ior hx hb dX8_tree_65 ?_
              refine lv_istore_n (lv' := [(3, .int (l3_8 ||| v16)), (4, .int l4_9), (0, .ref o0), (1, .int p1), (2, .int p2)]) hx hb dX8_tree_66 rfl hl (by decide) rfl (fun ls hl => ?_)
              refine lv_iinc (v := l4_9 + (1 : Int32)) (lv' := [(4, .int (l4_9 + (1 : Int32))), (3, .int (l3_8 ||| v16)), (0, .ref o0), (1, .int p1), (2, .int p2)]) hx hb dX8_tree_67 hl (k := 1) rfl rfl (by decide) rfl (fun ls hl => ?_)
              refine lv_goto (tgt := 34) hx hb dX8_tree_70 (by decide) ?_
              exact ihn10 (l3_8 ||| v16) (l4_9 + (1 : Int32)) hf _ _ hP hD hS _ hl
            have hf := hqj17
            refine lv_icmp_ne (tgt := 64) hx hb dX8_tree_54 (by decide) (fun c18 => ?_) (fun c18 => ?_)
            · have hf := q_f c18 hf
              refine lv_iconst (v := 0) hx hb dX8_tree_64 (by decide) ?_
              exact kj17 (0 : Int32) (q_s1 hf) _ _ hP hD hS _ (lv_sub hl [0, 2, 3, 4] rfl)
            · have hf := q_t c18 hf
              refine lv_iconst (v := 1) hx hb dX8_tree_57 (by decide) ?_
              refine lv_iload hx hb dX8_tree_58 (lv_at hl 0 rfl) ?_
              refine lv_ishl hx hb dX8_tree_60 ?_
              refine lv_goto (tgt := 65) hx hb dX8_tree_61 (by decide) ?_
              exact kj17 ((1 : Int32) <<< (l4_9 &&& 31)) (q_s1 hf) _ _ hP hD hS _ (lv_sub hl [0, 2, 3, 4] rfl)
      exact aihn10 5000 (0 : Int32) (0 : Int32) hqn10 _ _ hP hD hS _ hl
    · have hf := q_t c7 hf
      refine lv_ldc2 (v := -9000000000000000001) hx hb hown (hts _ qX8_tree_3) dX8_tree_25 ?_
      obtain ⟨ee0, ee1⟩ := q_s2 hf
      subst ee1
      exact q_wretL hx hb hr hlk hAe hK hP hD hS ee0 dX8_tree_28
theorem hdX8_minds : yX8_minds.cls = RX8 ∧ yX8_minds.cls ≠ "java/lang/invoke/MethodHandle" ∧ yX8_minds.cls ≠ "java/lang/invoke/VarHandle" ∧ (parseMethodDescriptor yX8_minds.desc).map (fun d => d.parameters.length) = some 2 := by decide +kernel
theorem qX8_minds_1 : (Cond.fieldLink RX8 41 "DeadAskedModel" "thrown" "I") ∈ wsX8_minds := List.mem_of_getElem? (i := 1) (by decide +kernel)
theorem qX8_minds_2 : (Cond.fieldLink RX8 184 "DeadAskedModel" "isThere" "Z") ∈ wsX8_minds := List.mem_of_getElem? (i := 2) (by decide +kernel)
theorem qX8_minds_3 : (Cond.constantLong RX8 223 (-9000000000000000002)) ∈ wsX8_minds := List.mem_of_getElem? (i := 3) (by decide +kernel)
theorem qX8_minds_4 : (Cond.constantLong RX8 62 (-9000000000000000001)) ∈ wsX8_minds := List.mem_of_getElem? (i := 4) (by decide +kernel)
theorem qX8_minds_5 : (Cond.fieldLink RX8 19 "DeadAskedModel" "hill" "[I") ∈ wsX8_minds := List.mem_of_getElem? (i := 5) (by decide +kernel)
theorem nX8_minds_8 : ∀ w ∈ u_ws RX8 TX8 27, w ∈ wsX8_minds := fun _ h => (List.mem_cons_of_mem _ (List.mem_append_right _ h))
set_option maxHeartbeats 4000000 in
set_option maxRecDepth 100000 in
theorem kX8_minds (o0 : Nat) (a0 : Nat → Nat) (s0 : St) (t0 : Lt) (p1 : Int32) (p2 : Int32) (sz : Nat) (r : Int64) (z0 : St) (hf : fX8_minds s0 p1 p2 = some (r, z0)) : Met l yX8_minds wsX8_minds ({ frames := 3, cells := 0, slots := 0, locals := 72 } : Room) (pcW (dC, dI) (q_ty cI cB cZ) [.ref o0, .int p1, .int p2] (wcM cI cZ o0 a0 s0 t0) sz) (qlW (dC, dI) (q_ty cI cB cZ) (wcM cI cZ o0 a0 s0 t0) (wcM cI cZ o0 a0 z0 t0) sz r) 0 0 (va_A (wcM cI cZ o0 a0 s0 t0) sz) := by
  refine q_rwM (cc := cX8_minds) (maxL := 5) (ret := (some .long)) (by decide +kernel) rfl (Nat.le_of_ble_eq_true rfl) ?_
  intro p e s m below meth c hx hb hr hlk hml hown hts hK A H hAe hH hsz hP hD hA hS ls hl
  have hown : s.vm.findClass RX8 = some m.cls := hown
  have hl : lv_has ls 5 [(0, .ref o0), (1, .int p1), (2, .int p2)] := hl
  unfold fX8_minds at hf
  refine lv_aload_n hx hb dX8_minds_0 rfl (lv_at hl 0 rfl) ?_
  refine lv_iconst (v := 0) hx hb dX8_minds_1 (by decide) ?_
  obtain ⟨sn1, esn1, hf⟩ := q_lto hf
  refine va_put (D := (dC, dI)) (ci := 8) (v := .int (0 : Int32)) (ty := .int) (C := RX8) (T := TX8) (N := 27) hx hb hts nX8_minds_8 tyX8 tyX8_ok nmX8 hown hK hP hD hS 0 rfl rfl 0 (by decide) (hts _ qX8_minds_1) (fun _ h9 => h9) rfl (by decide +kernel) rfl rfl (Nat.le_of_ble_eq_true rfl) dX8_minds_2 (fun H locs hP hD hS => ?_)
  have hP : va_P (dC, dI) vwCl (wcM cI cZ o0 a0 sn1 t0) H := by rw [esn1]; exact hP
  have hD : va_D A (wcM cI cZ o0 a0 sn1 t0) := by rw [esn1]; exact hD
  refine lv_aload_n hx hb dX8_minds_5 rfl (lv_at hl 0 rfl) ?_
  refine va_get (D := (dC, dI)) (ci := 8) (v := .int (sn1 7 0)) (C := RX8) (T := TX8) (N := 27) hx hb hts nX8_minds_8 hown hK hP 0 rfl rfl 7 (by decide) (hts _ qX8_minds_2) (fun _ h9 => h9) rfl dX8_minds_6 ?_
  refine lv_if_ne (tgt := 16) hx hb dX8_minds_9 (by decide) (fun c2 => ?_) (fun c2 => ?_)
  · have hf := q_f c2 hf
    refine lv_iload_n hx hb dX8_minds_16 rfl (lv_at hl 1 rfl) ?_
    obtain ⟨r3, h4, hf⟩ := q_b1o hf
    refine q_roSi (As := [.int p1]) (rest := []) ⟨hx, hb, hml, hown, hts⟩ (kX8_isMatter l p1 r3 h4) (va_cwS 1 hts gX8_minds_X8_isMatter rfl rfl rfl hdX8_isMatter ⟨Nat.le_of_ble_eq_true rfl, Nat.le_of_ble_eq_true rfl⟩) rfl hl.1 rfl (Nat.le_of_ble_eq_true rfl) dX8_minds_17 ⟨Nat.zero_le _, Nat.zero_le _⟩ ?_
    refine lv_if_eq (tgt := 30) hx hb dX8_minds_20 (by decide) (fun c5 => ?_) (fun c5 => ?_)
    · have hf := q_t c5 hf
      refine lv_ldc2 (v := -9000000000000000001) hx hb hown (hts _ qX8_minds_4) dX8_minds_30 ?_
      obtain ⟨ee0, ee1⟩ := q_s2 hf
      subst ee1
      exact q_wretL hx hb hr hlk hAe hK hP hD hS ee0 dX8_minds_33
    · have hf := q_f c5 hf
      refine lv_iload_n hx hb dX8_minds_23 rfl (lv_at hl 2 rfl) ?_
      obtain ⟨r6, h7, hf⟩ := q_b1o hf
      refine q_roSi (As := [.int p2]) (rest := []) ⟨hx, hb, hml, hown, hts⟩ (kX8_areHorns l p2 r6 h7) (va_cwS 1 hts gX8_minds_X8_areHorns rfl rfl rfl hdX8_areHorns ⟨Nat.le_of_ble_eq_true rfl, Nat.le_of_ble_eq_true rfl⟩) rfl hl.1 rfl (Nat.le_of_ble_eq_true rfl) dX8_minds_24 ⟨Nat.zero_le _, Nat.zero_le _⟩ ?_
      refine lv_if_ne (tgt := 34) hx hb dX8_minds_27 (by decide) (fun c8 => ?_) (fun c8 => ?_)
      · have hf := q_f c8 hf
        refine lv_iconst (v := 0) hx hb dX8_minds_34 (by decide) ?_
        refine lv_istore_n (lv' := [(3, .int (0 : Int32)), (0, .ref o0), (1, .int p1), (2, .int p2)]) hx hb dX8_minds_35 rfl hl (by decide) rfl (fun ls hl => ?_)
        refine lv_iconst (v := 0) hx hb dX8_minds_36 (by decide) ?_
        refine lv_istore (lv' := [(4, .int (0 : Int32)), (3, .int (0 : Int32)), (0, .ref o0), (1, .int p1), (2, .int p2)]) hx hb dX8_minds_37 hl (by decide) rfl (fun ls hl => ?_)
        obtain ⟨oz12, hqn11, hf⟩ := q_b1o hf
        have kxn11 : ∀ z12 : Int32, z12 = oz12 → ∀ (H : Heap) (locs : List Loc), va_P (dC, dI) vwCl (wcM cI cZ o0 a0 sn1 t0) H → va_D A (wcM cI cZ o0 a0 sn1 t0) → va_S A s.heap H locs → ∀ ls : Array Slot, lv_has ls 5 [(3, .int z12)] → W p l e ({ frames := 3, cells := 0, slots := 0, locals := 72 } : Room) s m [.ref o0, .int p1, .int p2].toArray below meth c H locs 0 0 (MQ below (qlW (dC, dI) (q_ty cI cB cZ) (wcM cI cZ o0 a0 s0 t0) (wcM cI cZ o0 a0 z0 t0) sz r) [.ref o0, .int p1, .int p2].toArray s 0 0 (va_A (wcM cI cZ o0 a0 s0 t0) sz)) (F0 m 79 ls []) := by
          intro z12 ez12 H locs hP hD hS ls hl
          subst ez12
          refine lv_iload_n hx hb dX8_minds_79 rfl (lv_at hl 0 rfl) ?_
          refine lv_i2l (v := z12.toInt64) hx hb dX8_minds_80 rfl ?_
          obtain ⟨ee0, ee1⟩ := q_s2 hf
          subst ee1
          exact q_wretL hx hb hr hlk hAe hK hP hD hS ee0 dX8_minds_81
        have aihn11 : ∀ n11 : Nat, ∀ l3_9 : Int32, ∀ l4_10 : Int32, fX8_minds_L39 p1 p2 sn1 n11 l3_9 l4_10 = some oz12 → ∀ (H : Heap) (locs : List Loc), va_P (dC, dI) vwCl (wcM cI cZ o0 a0 sn1 t0) H → va_D A (wcM cI cZ o0 a0 sn1 t0) → va_S A s.heap H locs → ∀ ls : Array Slot, lv_has ls 5 [(4, .int l4_10), (3, .int l3_9), (0, .ref o0), (1, .int p1), (2, .int p2)] → W p l e ({ frames := 3, cells := 0, slots := 0, locals := 72 } : Room) s m [.ref o0, .int p1, .int p2].toArray below meth c H locs 0 0 (MQ below (qlW (dC, dI) (q_ty cI cB cZ) (wcM cI cZ o0 a0 s0 t0) (wcM cI cZ o0 a0 z0 t0) sz r) [.ref o0, .int p1, .int p2].toArray s 0 0 (va_A (wcM cI cZ o0 a0 s0 t0) sz)) (F0 m 39 ls []) := by
          intro n11
          induction n11 with
          | zero =>
            intro l3_9 l4_10 hf
            exact q_no hf
          | succ n11 ihn11 =>
            intro l3_9 l4_10 hf H locs hP hD hS ls hl
            rw [fX8_minds_L39] at hf
            refine lv_iload hx hb dX8_minds_39 (lv_at hl 0 rfl) ?_
            refine lv_aload_n hx hb dX8_minds_41 rfl (lv_at hl 2 rfl) ?_
            refine va_get (D := (dC, dI)) (ci := 8) (v := .ref (a0 5)) (C := RX8) (T := TX8) (N := 27) hx hb hts nX8_minds_8 hown hK hP 0 rfl rfl 5 (by decide) (hts _ qX8_minds_5) (fun _ h9 => h9) rfl dX8_minds_42 ?_
            refine lv_iconst (v := 0) hx hb dX8_minds_45 (by decide) ?_
            obtain ⟨c13, hf⟩ := q_ck hf
            refine va_iald hx hb hK hP 4 0 rfl rfl c13 dX8_minds_46 ?_
            refine lv_icmp_ge (tgt := 79) hx hb dX8_minds_47 (by decide) (fun c14 => ?_) (fun c14 => ?_)
            · have hf := q_t c14 hf
              exact kxn11 l3_9 (q_s1 hf) _ _ hP hD hS _ (lv_sub hl [1] rfl)
            · have hf := q_f c14 hf
              refine lv_iload_n hx hb dX8_minds_50 rfl (lv_at hl 1 rfl) ?_
              refine lv_aload_n hx hb dX8_minds_51 rfl (lv_at hl 2 rfl) ?_
              refine lv_iload hx hb dX8_minds_52 (lv_at hl 0 rfl) ?_
              refine lv_iload_n hx hb dX8_minds_54 rfl (lv_at hl 3 rfl) ?_
              refine lv_iload_n hx hb dX8_minds_55 rfl (lv_at hl 4 rfl) ?_
              refine lv_iconst (v := 0) hx hb dX8_minds_56 (by decide) ?_
              obtain ⟨r15, h16, hf⟩ := q_b1o hf
              refine q_roVi (As := [.int l4_10, .int p1, .int p2, .int (0 : Int32)]) (rest := [.int l3_9]) (ci := 8) ⟨hx, hb, hml, hown, hts⟩ (kX8_doesMind l dC dI cI cB cZ o0 a0 sn1 t0 l4_10 p1 p2 (0 : Int32) r15 h16) (cwV 4 hts gX8_minds_X8_doesMind rfl rfl rfl hdX8_doesMind ⟨Nat.le_of_ble_eq_true rfl, Nat.le_of_ble_eq_true rfl⟩) hK hP rfl rfl rfl hl.1 rfl (Nat.le_of_ble_eq_true rfl) dX8_minds_57 ⟨Nat.zero_le _, Nat.zero_le _⟩ ?_
              obtain ⟨ov17, hqj18, hf⟩ := q_b1o hf
              have kj18 : ∀ v17 : Int32, v17 = ov17 → ∀ (H : Heap) (locs : List Loc), va_P (dC, dI) vwCl (wcM cI cZ o0 a0 sn1 t0) H → va_D A (wcM cI cZ o0 a0 sn1 t0) → va_S A s.heap H locs → ∀ ls : Array Slot, lv_has ls 5 [(4, .int l4_10), (0, .ref o0), (1, .int p1), (2, .int p2)] → W p l e ({ frames := 3, cells := 0, slots := 0, locals := 72 } : Room) s m [.ref o0, .int p1, .int p2].toArray below meth c H locs 0 0 (MQ below (qlW (dC, dI) (q_ty cI cB cZ) (wcM cI cZ o0 a0 s0 t0) (wcM cI cZ o0 a0 z0 t0) sz r) [.ref o0, .int p1, .int p2].toArray s 0 0 (va_A (wcM cI cZ o0 a0 s0 t0) sz)) (F0 m 71 ls [.int v17, .int l3_9]) := by
                intro v17 ev17 H locs hP hD hS ls hl
                subst ev17
                refine lv_ior hx hb dX8_minds_71 ?_
                refine lv_istore_n (lv' := [(3, .int (l3_9 ||| v17)), (4, .int l4_10), (0, .ref o0), (1, .int p1), (2, .int p2)]) hx hb dX8_minds_72 rfl hl (by decide) rfl (fun ls hl => ?_)
                refine lv_iinc (v := l4_10 + (1 : Int32)) (lv' := [(4, .int (l4_10 + (1 : Int32))), (3, .int (l3_9 ||| v17)), (0, .ref o0), (1, .int p1), (2, .int p2)]) hx hb dX8_minds_73 hl (k := 1) rfl rfl (by decide) rfl (fun ls hl => ?_)
                refine lv_goto (tgt := 39) hx hb dX8_minds_76 (by decide) ?_
                exact ihn11 (l3_9 ||| v17) (l4_10 + (1 : Int32)) hf _ _ hP hD hS _ hl
              have hf := hqj18
              refine lv_if_eq (tgt := 70) hx hb dX8_minds_60 (by decide) (fun c19 => ?_) (fun c19 => ?_)
              · have hf := q_t c19 hf
                refine lv_iconst (v := 0) hx hb dX8_minds_70 (by decide) ?_
                exact kj18 (0 : Int32) (q_s1 hf) _ _ hP hD hS _ (lv_sub hl [0, 2, 3, 4] rfl)
              · have hf := q_f c19 hf
                refine lv_iconst (v := 1) hx hb dX8_minds_63 (by decide) ?_
                refine lv_iload hx hb dX8_minds_64 (lv_at hl 0 rfl) ?_
                refine lv_ishl hx hb dX8_minds_66 ?_
                refine lv_goto (tgt := 71) hx hb dX8_minds_67 (by decide) ?_
                exact kj18 ((1 : Int32) <<< (l4_10 &&& 31)) (q_s1 hf) _ _ hP hD hS _ (lv_sub hl [0, 2, 3, 4] rfl)
        exact aihn11 5000 (0 : Int32) (0 : Int32) hqn11 _ _ hP hD hS _ hl
      · have hf := q_t c8 hf
        refine lv_ldc2 (v := -9000000000000000001) hx hb hown (hts _ qX8_minds_4) dX8_minds_30 ?_
        obtain ⟨ee0, ee1⟩ := q_s2 hf
        subst ee1
        exact q_wretL hx hb hr hlk hAe hK hP hD hS ee0 dX8_minds_33
  · have hf := q_t c2 hf
    refine lv_ldc2 (v := -9000000000000000002) hx hb hown (hts _ qX8_minds_3) dX8_minds_12 ?_
    obtain ⟨ee0, ee1⟩ := q_s2 hf
    subst ee1
    exact q_wretL hx hb hr hlk hAe hK hP hD hS ee0 dX8_minds_15
theorem hdX8_times : yX8_times.cls = RX8 ∧ yX8_times.cls ≠ "java/lang/invoke/MethodHandle" ∧ yX8_times.cls ≠ "java/lang/invoke/VarHandle" ∧ (parseMethodDescriptor yX8_times.desc).map (fun d => d.parameters.length) = some 1 := by decide +kernel
theorem qX8_times_1 : (Cond.fieldLink RX8 266 "DeadAskedModel" "above" "J") ∈ wsX8_times := List.mem_of_getElem? (i := 1) (by decide +kernel)
theorem qX8_times_2 : (Cond.fieldLink RX8 269 "DeadAskedModel" "below" "J") ∈ wsX8_times := List.mem_of_getElem? (i := 2) (by decide +kernel)
theorem qX8_times_3 : (Cond.constantLong RX8 217 10) ∈ wsX8_times := List.mem_of_getElem? (i := 3) (by decide +kernel)
theorem nX8_times_8 : ∀ w ∈ u_ws RX8 TX8 27, w ∈ wsX8_times := fun _ h => (List.mem_cons_of_mem _ (List.mem_append_right _ h))
set_option maxHeartbeats 4000000 in
set_option maxRecDepth 100000 in
theorem kX8_times (o0 : Nat) (a0 : Nat → Nat) (s0 : St) (t0 : Lt) (p1 : Int32) (sz : Nat) (y0 : Lt) (hf : fX8_times t0 p1 = some y0) : Met l yX8_times wsX8_times ({ frames := 0, cells := 0, slots := 0, locals := 0 } : Room) (pcW (dC, dI) (q_ty cI cB cZ) [.ref o0, .int p1] (wcM cI cZ o0 a0 s0 t0) sz) (qvW (dC, dI) (q_ty cI cB cZ) (wcM cI cZ o0 a0 s0 t0) (wcM cI cZ o0 a0 s0 y0) sz) 0 0 (va_A (wcM cI cZ o0 a0 s0 t0) sz) := by
  refine q_rwM (cc := cX8_times) (maxL := 2) (ret := none) (by decide +kernel) rfl (Nat.le_of_ble_eq_true rfl) ?_
  intro p e s m below meth c hx hb hr hlk hml hown hts hK A H hAe hH hsz hP hD hA hS ls hl
  have hown : s.vm.findClass RX8 = some m.cls := hown
  have hl : lv_has ls 2 [(0, .ref o0), (1, .int p1)] := hl
  unfold fX8_times at hf
  refine lv_aload_n hx hb dX8_times_0 rfl (lv_at hl 0 rfl) ?_
  refine lv_dup hx hb dX8_times_1 rfl ?_
  refine va_get (D := (dC, dI)) (ci := 8) (v := .long (t0 21)) (C := RX8) (T := TX8) (N := 27) hx hb hts nX8_times_8 hown hK hP 0 rfl rfl 21 (by decide) (hts _ qX8_times_1) (fun _ h9 => h9) rfl dX8_times_2 ?_
  refine lv_iload_n hx hb dX8_times_5 rfl (lv_at hl 1 rfl) ?_
  refine lv_i2l (v := p1.toInt64) hx hb dX8_times_6 rfl ?_
  refine lv_lmul hx hb dX8_times_7 ?_
  obtain ⟨tn1, etn1, hf⟩ := q_lto hf
  refine va_put (D := (dC, dI)) (ci := 8) (v := .long ((t0 21) * p1.toInt64)) (ty := .long) (C := RX8) (T := TX8) (N := 27) hx hb hts nX8_times_8 tyX8 tyX8_ok nmX8 hown hK hP hD hS 0 rfl rfl 21 (by decide) (hts _ qX8_times_1) (fun _ h9 => h9) rfl (by decide +kernel) rfl rfl (Nat.le_of_ble_eq_true rfl) dX8_times_8 (fun H locs hP hD hS => ?_)
  have hP : va_P (dC, dI) vwCl (wcM cI cZ o0 a0 s0 tn1) H := by rw [etn1]; exact hP
  have hD : va_D A (wcM cI cZ o0 a0 s0 tn1) := by rw [etn1]; exact hD
  refine lv_aload_n hx hb dX8_times_11 rfl (lv_at hl 0 rfl) ?_
  refine lv_dup hx hb dX8_times_12 rfl ?_
  refine va_get (D := (dC, dI)) (ci := 8) (v := .long (tn1 22)) (C := RX8) (T := TX8) (N := 27) hx hb hts nX8_times_8 hown hK hP 0 rfl rfl 22 (by decide) (hts _ qX8_times_2) (fun _ h9 => h9) rfl dX8_times_13 ?_
  refine lv_ldc2 (v := 10) hx hb hown (hts _ qX8_times_3) dX8_times_16 ?_
  refine lv_lmul hx hb dX8_times_19 ?_
  obtain ⟨tn2, etn2, hf⟩ := q_lto hf
  refine va_put (D := (dC, dI)) (ci := 8) (v := .long ((tn1 22) * (10 : Int64))) (ty := .long) (C := RX8) (T := TX8) (N := 27) hx hb hts nX8_times_8 tyX8 tyX8_ok nmX8 hown hK hP hD hS 0 rfl rfl 22 (by decide) (hts _ qX8_times_2) (fun _ h9 => h9) rfl (by decide +kernel) rfl rfl (Nat.le_of_ble_eq_true rfl) dX8_times_20 (fun H locs hP hD hS => ?_)
  have hP : va_P (dC, dI) vwCl (wcM cI cZ o0 a0 s0 tn2) H := by rw [etn2]; exact hP
  have hD : va_D A (wcM cI cZ o0 a0 s0 tn2) := by rw [etn2]; exact hD
  have ee0 := q_s1 hf
  subst ee0
  exact q_wretV hx hb hr hlk hAe hK hP hD hS dX8_times_23
theorem hdX8_passes : yX8_passes.cls = RX8 ∧ yX8_passes.cls ≠ "java/lang/invoke/MethodHandle" ∧ yX8_passes.cls ≠ "java/lang/invoke/VarHandle" ∧ (parseMethodDescriptor yX8_passes.desc).map (fun d => d.parameters.length) = some 4 := by decide +kernel
theorem qX8_passes_1 : (Cond.fieldLink RX8 19 "DeadAskedModel" "hill" "[I") ∈ wsX8_passes := List.mem_of_getElem? (i := 1) (by decide +kernel)
theorem nX8_passes_8 : ∀ w ∈ u_ws RX8 TX8 27, w ∈ wsX8_passes := fun _ h => (List.mem_cons_of_mem _ (List.mem_append_right _ h))
set_option maxHeartbeats 4000000 in
set_option maxRecDepth 100000 in
theorem kX8_passes (o0 : Nat) (a0 : Nat → Nat) (s0 : St) (t0 : Lt) (p1 : Int32) (p2 : Int32) (p3 : Int32) (p4 : Int32) (sz : Nat) (y0 : Lt) (hf : fX8_passes s0 t0 p1 p2 p3 p4 = some y0) : Met l yX8_passes wsX8_passes ({ frames := 3, cells := 0, slots := 0, locals := 72 } : Room) (pcW (dC, dI) (q_ty cI cB cZ) [.ref o0, .int p1, .int p2, .int p3, .int p4] (wcM cI cZ o0 a0 s0 t0) sz) (qvW (dC, dI) (q_ty cI cB cZ) (wcM cI cZ o0 a0 s0 t0) (wcM cI cZ o0 a0 s0 y0) sz) 0 0 (va_A (wcM cI cZ o0 a0 s0 t0) sz) := by
  refine q_rwM (cc := cX8_passes) (maxL := 6) (ret := none) (by decide +kernel) rfl (Nat.le_of_ble_eq_true rfl) ?_
  intro p e s m below meth c hx hb hr hlk hml hown hts hK A H hAe hH hsz hP hD hA hS ls hl
  have hown : s.vm.findClass RX8 = some m.cls := hown
  have hl : lv_has ls 6 [(0, .ref o0), (1, .int p1), (2, .int p2), (3, .int p3), (4, .int p4)] := hl
  unfold fX8_passes at hf
  refine lv_iconst (v := 0) hx hb dX8_passes_0 (by decide) ?_
  refine lv_istore (lv' := [(5, .int (0 : Int32)), (0, .ref o0), (1, .int p1), (2, .int p2), (3, .int p3), (4, .int p4)]) hx hb dX8_passes_1 hl (by decide) rfl (fun ls hl => ?_)
  obtain ⟨oz4, hqn3, hf⟩ := q_b1o hf
  have kxn3 : ∀ z4 : Lt, z4 = oz4 → ∀ (H : Heap) (locs : List Loc), va_P (dC, dI) vwCl (wcM cI cZ o0 a0 s0 z4) H → va_D A (wcM cI cZ o0 a0 s0 z4) → va_S A s.heap H locs → ∀ ls : Array Slot, lv_has ls 6 [(0, .ref o0), (1, .int p1), (2, .int p2), (4, .int p4)] → W p l e ({ frames := 3, cells := 0, slots := 0, locals := 72 } : Room) s m [.ref o0, .int p1, .int p2, .int p3, .int p4].toArray below meth c H locs 0 0 (MQ below (qvW (dC, dI) (q_ty cI cB cZ) (wcM cI cZ o0 a0 s0 t0) (wcM cI cZ o0 a0 s0 y0) sz) [.ref o0, .int p1, .int p2, .int p3, .int p4].toArray s 0 0 (va_A (wcM cI cZ o0 a0 s0 t0) sz)) (F0 m 61 ls []) := by
    intro z4 ez4 H locs hP hD hS ls hl
    subst ez4
    refine lv_iconst (v := 0) hx hb dX8_passes_61 (by decide) ?_
    refine lv_istore (lv' := [(5, .int (0 : Int32)), (0, .ref o0), (1, .int p1), (2, .int p2), (4, .int p4)]) hx hb dX8_passes_62 hl (by decide) rfl (fun ls hl => ?_)
    obtain ⟨oz21, hqn20, hf⟩ := q_b1o hf
    have kxn20 : ∀ z21 : Lt, z21 = oz21 → ∀ (H : Heap) (locs : List Loc), va_P (dC, dI) vwCl (wcM cI cZ o0 a0 s0 z21) H → va_D A (wcM cI cZ o0 a0 s0 z21) → va_S A s.heap H locs → ∀ ls : Array Slot, lv_has ls 6 [] → W p l e ({ frames := 3, cells := 0, slots := 0, locals := 72 } : Room) s m [.ref o0, .int p1, .int p2, .int p3, .int p4].toArray below meth c H locs 0 0 (MQ below (qvW (dC, dI) (q_ty cI cB cZ) (wcM cI cZ o0 a0 s0 t0) (wcM cI cZ o0 a0 s0 y0) sz) [.ref o0, .int p1, .int p2, .int p3, .int p4].toArray s 0 0 (va_A (wcM cI cZ o0 a0 s0 t0) sz)) (F0 m 108 ls []) := by
      intro z21 ez21 H locs hP hD hS ls hl
      subst ez21
      have ee0 := q_s1 hf
      subst ee0
      exact q_wretV hx hb hr hlk hAe hK hP hD hS dX8_passes_108
    have aihn20 : ∀ n20 : Nat, ∀ l5_18 : Int32, ∀ tl19 : Lt, fX8_passes_L64 p1 p2 p4 s0 n20 l5_18 tl19 = some oz21 → ∀ (H : Heap) (locs : List Loc), va_P (dC, dI) vwCl (wcM cI cZ o0 a0 s0 tl19) H → va_D A (wcM cI cZ o0 a0 s0 tl19) → va_S A s.heap H locs → ∀ ls : Array Slot, lv_has ls 6 [(5, .int l5_18), (0, .ref o0), (1, .int p1), (2, .int p2), (4, .int p4)] → W p l e ({ frames := 3, cells := 0, slots := 0, locals := 72 } : Room) s m [.ref o0, .int p1, .int p2, .int p3, .int p4].toArray below meth c H locs 0 0 (MQ below (qvW (dC, dI) (q_ty cI cB cZ) (wcM cI cZ o0 a0 s0 t0) (wcM cI cZ o0 a0 s0 y0) sz) [.ref o0, .int p1, .int p2, .int p3, .int p4].toArray s 0 0 (va_A (wcM cI cZ o0 a0 s0 t0) sz)) (F0 m 64 ls []) := by
      intro n20
      induction n20 with
      | zero =>
        intro l5_18 tl19 hf
        exact q_no hf
      | succ n20 ihn20 =>
        intro l5_18 tl19 hf H locs hP hD hS ls hl
        rw [fX8_passes_L64] at hf
        refine lv_iload hx hb dX8_passes_64 (lv_at hl 0 rfl) ?_
        refine lv_aload_n hx hb dX8_passes_66 rfl (lv_at hl 1 rfl) ?_
        refine va_get (D := (dC, dI)) (ci := 8) (v := .ref (a0 5)) (C := RX8) (T := TX8) (N := 27) hx hb hts nX8_passes_8 hown hK hP 0 rfl rfl 5 (by decide) (hts _ qX8_passes_1) (fun _ h9 => h9) rfl dX8_passes_67 ?_
        refine lv_iconst (v := 0) hx hb dX8_passes_70 (by decide) ?_
        obtain ⟨c22, hf⟩ := q_ck hf
        refine va_iald hx hb hK hP 4 0 rfl rfl c22 dX8_passes_71 ?_
        refine lv_icmp_ge (tgt := 108) hx hb dX8_passes_72 (by decide) (fun c23 => ?_) (fun c23 => ?_)
        · have hf := q_t c23 hf
          exact kxn20 tl19 (q_s1 hf) _ _ hP hD hS _ (lv_sub hl [] rfl)
        · have hf := q_f c23 hf
          refine lv_aload_n hx hb dX8_passes_75 rfl (lv_at hl 1 rfl) ?_
          refine lv_iload hx hb dX8_passes_76 (lv_at hl 0 rfl) ?_
          refine lv_iload_n hx hb dX8_passes_78 rfl (lv_at hl 2 rfl) ?_
          refine lv_iload_n hx hb dX8_passes_79 rfl (lv_at hl 3 rfl) ?_
          refine lv_iload hx hb dX8_passes_80 (lv_at hl 4 rfl) ?_
          obtain ⟨r24, h25, hf⟩ := q_b1o hf
          refine q_roVi (As := [.int l5_18, .int p1, .int p2, .int p4]) (rest := []) (ci := 8) ⟨hx, hb, hml, hown, hts⟩ (kX8_doesMind l dC dI cI cB cZ o0 a0 s0 tl19 l5_18 p1 p2 p4 r24 h25) (cwV 4 hts gX8_passes_X8_doesMind rfl rfl rfl hdX8_doesMind ⟨Nat.le_of_ble_eq_true rfl, Nat.le_of_ble_eq_true rfl⟩) hK hP rfl rfl rfl hl.1 rfl (Nat.le_of_ble_eq_true rfl) dX8_passes_82 ⟨Nat.zero_le _, Nat.zero_le _⟩ ?_
          obtain ⟨otj26, hqj27, hf⟩ := q_b1o hf
          have kj27 : ∀ tj26 : Lt, tj26 = otj26 → ∀ (H : Heap) (locs : List Loc), va_P (dC, dI) vwCl (wcM cI cZ o0 a0 s0 tj26) H → va_D A (wcM cI cZ o0 a0 s0 tj26) → va_S A s.heap H locs → ∀ ls : Array Slot, lv_has ls 6 [(5, .int l5_18), (0, .ref o0), (1, .int p1), (2, .int p2), (4, .int p4)] → W p l e ({ frames := 3, cells := 0, slots := 0, locals := 72 } : Room) s m [.ref o0, .int p1, .int p2, .int p3, .int p4].toArray below meth c H locs 0 0 (MQ below (qvW (dC, dI) (q_ty cI cB cZ) (wcM cI cZ o0 a0 s0 t0) (wcM cI cZ o0 a0 s0 y0) sz) [.ref o0, .int p1, .int p2, .int p3, .int p4].toArray s 0 0 (va_A (wcM cI cZ o0 a0 s0 t0) sz)) (F0 m 102 ls []) := by
            intro tj26 etj26 H locs hP hD hS ls hl
            subst etj26
            refine lv_iinc (v := l5_18 + (1 : Int32)) (lv' := [(5, .int (l5_18 + (1 : Int32))), (0, .ref o0), (1, .int p1), (2, .int p2), (4, .int p4)]) hx hb dX8_passes_102 hl (k := 0) rfl rfl (by decide) rfl (fun ls hl => ?_)
            refine lv_goto (tgt := 64) hx hb dX8_passes_105 (by decide) ?_
            exact ihn20 (l5_18 + (1 : Int32)) tj26 hf _ _ hP hD hS _ hl
          have hf := hqj27
          refine lv_if_eq (tgt := 102) hx hb dX8_passes_85 (by decide) (fun c28 => ?_) (fun c28 => ?_)
          · have hf := q_t c28 hf
            exact kj27 tl19 (q_s1 hf) _ _ hP hD hS _ hl
          · have hf := q_f c28 hf
            refine lv_aload_n hx hb dX8_passes_88 rfl (lv_at hl 1 rfl) ?_
            refine lv_bipush (v := 10) hx hb dX8_passes_89 (by decide) ?_
            refine lv_aload_n hx hb dX8_passes_91 rfl (lv_at hl 1 rfl) ?_
            refine lv_iload hx hb dX8_passes_92 (lv_at hl 0 rfl) ?_
            refine lv_iconst (v := 2) hx hb dX8_passes_94 (by decide) ?_
            obtain ⟨r29, h30, hf⟩ := q_b1o hf
            refine q_roVi (As := [.int l5_18, .int (2 : Int32)]) (rest := [.int (10 : Int32), .ref o0]) (ci := 8) ⟨hx, hb, hml, hown, hts⟩ (kX8_ofGrave l dC dI cI cB cZ o0 a0 s0 tl19 l5_18 (2 : Int32) r29 h30) (cwV 2 hts gX8_passes_X8_ofGrave rfl rfl rfl hdX8_ofGrave ⟨Nat.le_of_ble_eq_true rfl, Nat.le_of_ble_eq_true rfl⟩) hK hP rfl rfl rfl hl.1 rfl (Nat.le_of_ble_eq_true rfl) dX8_passes_95 ⟨Nat.zero_le _, Nat.zero_le _⟩ ?_
            refine lv_isub hx hb dX8_passes_98 ?_
            obtain ⟨tc31, h32, hf⟩ := q_b1o hf
            refine q_rwVv (As := [.int ((10 : Int32) - r29)]) (rest := []) (ci := 8) (wr := []) (w2 := (wcM cI cZ o0 a0 s0 tc31)) ⟨hx, hb, hml, hown, hts⟩ (kX8_times l dC dI cI cB cZ o0 a0 s0 tl19 ((10 : Int32) - r29) H.size tc31 h32) (cwV 1 hts gX8_passes_X8_times rfl rfl rfl hdX8_times ⟨Nat.le_of_ble_eq_true rfl, Nat.le_of_ble_eq_true rfl⟩) hK hP hD hS hA [0, 1, 2, 3, 4, 5, 6, 7, 8, 9, 10] [] [0, 1, 2, 3, 4, 5, 6, 7, 8, 9, 10] rfl rfl (by decide) (by decide) (by decide) rfl (by decide) rfl rfl rfl hl.1 rfl (Nat.le_of_ble_eq_true rfl) dX8_passes_99 ⟨Nat.zero_le _, Nat.zero_le _⟩ (fun H locs hP hD hS => ?_)
            exact kj27 tc31 (q_s1 hf) _ _ hP hD hS _ hl
    exact aihn20 5000 (0 : Int32) z4 hqn20 _ _ hP hD hS _ hl
  have aihn3 : ∀ n3 : Nat, ∀ l5_1 : Int32, ∀ tl2 : Lt, fX8_passes_L3 p3 p4 s0 n3 l5_1 tl2 = some oz4 → ∀ (H : Heap) (locs : List Loc), va_P (dC, dI) vwCl (wcM cI cZ o0 a0 s0 tl2) H → va_D A (wcM cI cZ o0 a0 s0 tl2) → va_S A s.heap H locs → ∀ ls : Array Slot, lv_has ls 6 [(5, .int l5_1), (0, .ref o0), (1, .int p1), (2, .int p2), (3, .int p3), (4, .int p4)] → W p l e ({ frames := 3, cells := 0, slots := 0, locals := 72 } : Room) s m [.ref o0, .int p1, .int p2, .int p3, .int p4].toArray below meth c H locs 0 0 (MQ below (qvW (dC, dI) (q_ty cI cB cZ) (wcM cI cZ o0 a0 s0 t0) (wcM cI cZ o0 a0 s0 y0) sz) [.ref o0, .int p1, .int p2, .int p3, .int p4].toArray s 0 0 (va_A (wcM cI cZ o0 a0 s0 t0) sz)) (F0 m 3 ls []) := by
    intro n3
    induction n3 with
    | zero =>
      intro l5_1 tl2 hf
      exact q_no hf
    | succ n3 ihn3 =>
      intro l5_1 tl2 hf H locs hP hD hS ls hl
      rw [fX8_passes_L3] at hf
      refine lv_iload hx hb dX8_passes_3 (lv_at hl 0 rfl) ?_
      refine lv_aload_n hx hb dX8_passes_5 rfl (lv_at hl 1 rfl) ?_
      refine va_get (D := (dC, dI)) (ci := 8) (v := .ref (a0 5)) (C := RX8) (T := TX8) (N := 27) hx hb hts nX8_passes_8 hown hK hP 0 rfl rfl 5 (by decide) (hts _ qX8_passes_1) (fun _ h9 => h9) rfl dX8_passes_6 ?_
      refine lv_iconst (v := 2) hx hb dX8_passes_9 (by decide) ?_
      obtain ⟨c5, hf⟩ := q_ck hf
      refine va_iald hx hb hK hP 4 0 rfl rfl c5 dX8_passes_10 ?_
      refine lv_icmp_ge (tgt := 61) hx hb dX8_passes_11 (by decide) (fun c6 => ?_) (fun c6 => ?_)
      · have hf := q_t c6 hf
        exact kxn3 tl2 (q_s1 hf) _ _ hP hD hS _ (lv_sub hl [1, 2, 3, 5] rfl)
      · have hf := q_f c6 hf
        refine lv_aload_n hx hb dX8_passes_14 rfl (lv_at hl 1 rfl) ?_
        refine lv_iload hx hb dX8_passes_15 (lv_at hl 0 rfl) ?_
        obtain ⟨r7, h8, hf⟩ := q_b1o hf
        refine q_roVi (As := [.int l5_1]) (rest := []) (ci := 8) ⟨hx, hb, hml, hown, hts⟩ (kX8_fruit l dC dI cI cB cZ o0 a0 s0 tl2 l5_1 r7 h8) (cwV 1 hts gX8_passes_X8_fruit rfl rfl rfl hdX8_fruit ⟨Nat.le_of_ble_eq_true rfl, Nat.le_of_ble_eq_true rfl⟩) hK hP rfl rfl rfl hl.1 rfl (Nat.le_of_ble_eq_true rfl) dX8_passes_17 ⟨Nat.zero_le _, Nat.zero_le _⟩ ?_
        obtain ⟨otj9, hqj10, hf⟩ := q_b1o hf
        have kj10 : ∀ tj9 : Lt, tj9 = otj9 → ∀ (H : Heap) (locs : List Loc), va_P (dC, dI) vwCl (wcM cI cZ o0 a0 s0 tj9) H → va_D A (wcM cI cZ o0 a0 s0 tj9) → va_S A s.heap H locs → ∀ ls : Array Slot, lv_has ls 6 [(5, .int l5_1), (0, .ref o0), (1, .int p1), (2, .int p2), (3, .int p3), (4, .int p4)] → W p l e ({ frames := 3, cells := 0, slots := 0, locals := 72 } : Room) s m [.ref o0, .int p1, .int p2, .int p3, .int p4].toArray below meth c H locs 0 0 (MQ below (qvW (dC, dI) (q_ty cI cB cZ) (wcM cI cZ o0 a0 s0 t0) (wcM cI cZ o0 a0 s0 y0) sz) [.ref o0, .int p1, .int p2, .int p3, .int p4].toArray s 0 0 (va_A (wcM cI cZ o0 a0 s0 t0) sz)) (F0 m 55 ls []) := by
          intro tj9 etj9 H locs hP hD hS ls hl
          subst etj9
          refine lv_iinc (v := l5_1 + (1 : Int32)) (lv' := [(5, .int (l5_1 + (1 : Int32))), (0, .ref o0), (1, .int p1), (2, .int p2), (3, .int p3), (4, .int p4)]) hx hb dX8_passes_55 hl (k := 0) rfl rfl (by decide) rfl (fun ls hl => ?_)
          refine lv_goto (tgt := 3) hx hb dX8_passes_58 (by decide) ?_
          exact ihn3 (l5_1 + (1 : Int32)) tj9 hf _ _ hP hD hS _ hl
        have hf := hqj10
        refine lv_if_le (tgt := 55) hx hb dX8_passes_20 (by decide) (fun c11 => ?_) (fun c11 => ?_)
        · have hf := q_t c11 hf
          exact kj10 tl2 (q_s1 hf) _ _ hP hD hS _ hl
        · have hf := q_f c11 hf
          refine lv_iload hx hb dX8_passes_23 (lv_at hl 5 rfl) ?_
          refine lv_iload hx hb dX8_passes_25 (lv_at hl 0 rfl) ?_
          refine lv_ishr hx hb dX8_passes_27 ?_
          refine lv_iconst (v := 1) hx hb dX8_passes_28 (by decide) ?_
          refine lv_iand hx hb dX8_passes_29 ?_
          refine lv_if_ne (tgt := 55) hx hb dX8_passes_30 (by decide) (fun c12 => ?_) (fun c12 => ?_)
          · have hf := q_f c12 hf
            exact kj10 tl2 (q_s1 hf) _ _ hP hD hS _ hl
          · have hf := q_t c12 hf
            refine lv_aload_n hx hb dX8_passes_33 rfl (lv_at hl 1 rfl) ?_
            refine lv_bipush (v := 10) hx hb dX8_passes_34 (by decide) ?_
            refine lv_aload_n hx hb dX8_passes_36 rfl (lv_at hl 1 rfl) ?_
            refine lv_iload hx hb dX8_passes_37 (lv_at hl 0 rfl) ?_
            obtain ⟨r13, h14, hf⟩ := q_b1o hf
            refine q_roVi (As := [.int l5_1]) (rest := [.int (10 : Int32), .ref o0]) (ci := 8) ⟨hx, hb, hml, hown, hts⟩ (kX8_loose l dC dI cI cB cZ o0 a0 s0 tl2 l5_1 r13 h14) (cwV 1 hts gX8_passes_X8_loose rfl rfl rfl hdX8_loose ⟨Nat.le_of_ble_eq_true rfl, Nat.le_of_ble_eq_true rfl⟩) hK hP rfl rfl rfl hl.1 rfl (Nat.le_of_ble_eq_true rfl) dX8_passes_39 ⟨Nat.zero_le _, Nat.zero_le _⟩ ?_
            refine lv_aload_n hx hb dX8_passes_42 rfl (lv_at hl 1 rfl) ?_
            refine va_get (D := (dC, dI)) (ci := 8) (v := .ref (a0 5)) (C := RX8) (T := TX8) (N := 27) hx hb hts nX8_passes_8 hown hK hP 0 rfl rfl 5 (by decide) (hts _ qX8_passes_1) (fun _ h9 => h9) rfl dX8_passes_43 ?_
            refine lv_iconst (v := 3) hx hb dX8_passes_46 (by decide) ?_
            refine lv_iload_n hx hb dX8_passes_47 rfl (lv_at hl 4 rfl) ?_
            refine lv_iadd hx hb dX8_passes_48 ?_
            obtain ⟨c15, hf⟩ := q_ck hf
            refine va_iald hx hb hK hP 4 0 rfl rfl c15 dX8_passes_49 ?_
            refine lv_imul hx hb dX8_passes_50 ?_
            refine lv_isub hx hb dX8_passes_51 ?_
            obtain ⟨tc16, h17, hf⟩ := q_b1o hf
            refine q_rwVv (As := [.int ((10 : Int32) - (r13 * (s0 5 ((3 : Int32) + p3).toNatClampNeg)))]) (rest := []) (ci := 8) (wr := []) (w2 := (wcM cI cZ o0 a0 s0 tc16)) ⟨hx, hb, hml, hown, hts⟩ (kX8_times l dC dI cI cB cZ o0 a0 s0 tl2 ((10 : Int32) - (r13 * (s0 5 ((3 : Int32) + p3).toNatClampNeg))) H.size tc16 h17) (cwV 1 hts gX8_passes_X8_times rfl rfl rfl hdX8_times ⟨Nat.le_of_ble_eq_true rfl, Nat.le_of_ble_eq_true rfl⟩) hK hP hD hS hA [0, 1, 2, 3, 4, 5, 6, 7, 8, 9, 10] [] [0, 1, 2, 3, 4, 5, 6, 7, 8, 9, 10] rfl rfl (by decide) (by decide) (by decide) rfl (by decide) rfl rfl rfl hl.1 rfl (Nat.le_of_ble_eq_true rfl) dX8_passes_52 ⟨Nat.zero_le _, Nat.zero_le _⟩ (fun H locs hP hD hS => ?_)
            exact kj10 tc16 (q_s1 hf) _ _ hP hD hS _ hl
  exact aihn3 5000 (0 : Int32) t0 hqn3 _ _ hP hD hS _ hl
theorem hdX8_layOdds : yX8_layOdds.cls = RX8 ∧ yX8_layOdds.cls ≠ "java/lang/invoke/MethodHandle" ∧ yX8_layOdds.cls ≠ "java/lang/invoke/VarHandle" ∧ (parseMethodDescriptor yX8_layOdds.desc).map (fun d => d.parameters.length) = some 4 := by decide +kernel
theorem qX8_layOdds_1 : (Cond.fieldLink RX8 266 "DeadAskedModel" "above" "J") ∈ wsX8_layOdds := List.mem_of_getElem? (i := 1) (by decide +kernel)
theorem qX8_layOdds_2 : (Cond.fieldLink RX8 269 "DeadAskedModel" "below" "J") ∈ wsX8_layOdds := List.mem_of_getElem? (i := 2) (by decide +kernel)
theorem nX8_layOdds_8 : ∀ w ∈ u_ws RX8 TX8 27, w ∈ wsX8_layOdds := fun _ h => (List.mem_cons_of_mem _ (List.mem_append_right _ h))
set_option maxHeartbeats 4000000 in
set_option maxRecDepth 100000 in
theorem kX8_layOdds (o0 : Nat) (a0 : Nat → Nat) (s0 : St) (t0 : Lt) (p1 : Int32) (p2 : Int32) (p3 : Int32) (p4 : Int32) (sz : Nat) (y0 : Lt) (hf : fX8_layOdds s0 t0 p1 p2 p3 p4 = some y0) : Met l yX8_layOdds wsX8_layOdds ({ frames := 4, cells := 0, slots := 0, locals := 97 } : Room) (pcW (dC, dI) (q_ty cI cB cZ) [.ref o0, .int p1, .int p2, .int p3, .int p4] (wcM cI cZ o0 a0 s0 t0) sz) (qvW (dC, dI) (q_ty cI cB cZ) (wcM cI cZ o0 a0 s0 t0) (wcM cI cZ o0 a0 s0 y0) sz) 0 0 (va_A (wcM cI cZ o0 a0 s0 t0) sz) := by
  refine q_rwM (cc := cX8_layOdds) (maxL := 5) (ret := none) (by decide +kernel) rfl (Nat.le_of_ble_eq_true rfl) ?_
  intro p e s m below meth c hx hb hr hlk hml hown hts hK A H hAe hH hsz hP hD hA hS ls hl
  have hown : s.vm.findClass RX8 = some m.cls := hown
  have hl : lv_has ls 5 [(0, .ref o0), (1, .int p1), (2, .int p2), (3, .int p3), (4, .int p4)] := hl
  unfold fX8_layOdds at hf
  refine lv_aload_n hx hb dX8_layOdds_0 rfl (lv_at hl 0 rfl) ?_
  refine lv_lconst (v := 1) hx hb dX8_layOdds_1 (by decide) ?_
  obtain ⟨tn1, etn1, hf⟩ := q_lto hf
  refine va_put (D := (dC, dI)) (ci := 8) (v := .long (1 : Int64)) (ty := .long) (C := RX8) (T := TX8) (N := 27) hx hb hts nX8_layOdds_8 tyX8 tyX8_ok nmX8 hown hK hP hD hS 0 rfl rfl 21 (by decide) (hts _ qX8_layOdds_1) (fun _ h9 => h9) rfl (by decide +kernel) rfl rfl (Nat.le_of_ble_eq_true rfl) dX8_layOdds_2 (fun H locs hP hD hS => ?_)
  have hP : va_P (dC, dI) vwCl (wcM cI cZ o0 a0 s0 tn1) H := by rw [etn1]; exact hP
  have hD : va_D A (wcM cI cZ o0 a0 s0 tn1) := by rw [etn1]; exact hD
  refine lv_aload_n hx hb dX8_layOdds_5 rfl (lv_at hl 0 rfl) ?_
  refine lv_lconst (v := 1) hx hb dX8_layOdds_6 (by decide) ?_
  obtain ⟨tn2, etn2, hf⟩ := q_lto hf
  refine va_put (D := (dC, dI)) (ci := 8) (v := .long (1 : Int64)) (ty := .long) (C := RX8) (T := TX8) (N := 27) hx hb hts nX8_layOdds_8 tyX8 tyX8_ok nmX8 hown hK hP hD hS 0 rfl rfl 22 (by decide) (hts _ qX8_layOdds_2) (fun _ h9 => h9) rfl (by decide +kernel) rfl rfl (Nat.le_of_ble_eq_true rfl) dX8_layOdds_7 (fun H locs hP hD hS => ?_)
  have hP : va_P (dC, dI) vwCl (wcM cI cZ o0 a0 s0 tn2) H := by rw [etn2]; exact hP
  have hD : va_D A (wcM cI cZ o0 a0 s0 tn2) := by rw [etn2]; exact hD
  refine lv_aload_n hx hb dX8_layOdds_10 rfl (lv_at hl 0 rfl) ?_
  refine lv_iload_n hx hb dX8_layOdds_11 rfl (lv_at hl 1 rfl) ?_
  refine lv_iload_n hx hb dX8_layOdds_12 rfl (lv_at hl 2 rfl) ?_
  refine lv_iload_n hx hb dX8_layOdds_13 rfl (lv_at hl 3 rfl) ?_
  refine lv_iload hx hb dX8_layOdds_14 (lv_at hl 4 rfl) ?_
  obtain ⟨tc3, h4, hf⟩ := q_b1o hf
  refine q_rwVv (As := [.int p1, .int p2, .int p3, .int p4]) (rest := []) (ci := 8) (wr := []) (w2 := (wcM cI cZ o0 a0 s0 tc3)) ⟨hx, hb, hml, hown, hts⟩ (kX8_passes l dC dI cI cB cZ o0 a0 s0 tn2 p1 p2 p3 p4 H.size tc3 h4) (cwV 4 hts gX8_layOdds_X8_passes rfl rfl rfl hdX8_passes ⟨Nat.le_of_ble_eq_true rfl, Nat.le_of_ble_eq_true rfl⟩) hK hP hD hS hA [0, 1, 2, 3, 4, 5, 6, 7, 8, 9, 10] [] [0, 1, 2, 3, 4, 5, 6, 7, 8, 9, 10] rfl rfl (by decide) (by decide) (by decide) rfl (by decide) rfl rfl rfl hl.1 rfl (Nat.le_of_ble_eq_true rfl) dX8_layOdds_16 ⟨Nat.zero_le _, Nat.zero_le _⟩ (fun H locs hP hD hS => ?_)
  have ee0 := q_s1 hf
  subst ee0
  exact q_wretV hx hb hr hlk hAe hK hP hD hS dX8_layOdds_19
theorem hdX8_partOf : yX8_partOf.cls ≠ "java/lang/invoke/MethodHandle" ∧ yX8_partOf.cls ≠ "java/lang/invoke/VarHandle" ∧ (parseMethodDescriptor yX8_partOf.desc).map (fun d => d.parameters.length) = some 3 := by decide +kernel
set_option maxHeartbeats 4000000 in
set_option maxRecDepth 100000 in
theorem kX8_partOf (p0 : Int64) (p2 : Int64) (p4 : Int32) (r : Int64) (hf : fX8_partOf p0 p2 p4 = some r) : Met l yX8_partOf wsX8_partOf ({ frames := 0, cells := 0, slots := 0, locals := 0 } : Room) (pcS [.long p0, .long p2, .int p4]) (qlR r) 0 0 (fun _ => False) := by
  refine q_roS (cc := cX8_partOf) (maxL := 11) (ret := (some .long)) (by decide +kernel) rfl (Nat.le_of_ble_eq_true rfl) ?_
  intro p e s m below meth c hx hb hr hlk hml hown hts ls hl
  have hown : s.vm.findClass RX8 = some m.cls := hown
  have hl : lv_has ls 11 [(0, .long p0), (2, .long p2), (4, .int p4)] := hl
  unfold fX8_partOf at hf
  refine lv_lload_n hx hb dX8_partOf_0 rfl (lv_at hl 0 rfl) ?_
  refine lv_lstore (lv' := [(5, .long p0), (0, .long p0), (2, .long p2), (4, .int p4)]) hx hb dX8_partOf_1 hl (by decide) rfl (fun ls hl => ?_)
  refine lv_lload_n hx hb dX8_partOf_3 rfl (lv_at hl 2 rfl) ?_
  refine lv_lstore (lv' := [(7, .long p2), (5, .long p0), (0, .long p0), (2, .long p2), (4, .int p4)]) hx hb dX8_partOf_4 hl (by decide) rfl (fun ls hl => ?_)
  obtain ⟨oz4, hqn3, hf⟩ := q_b1o hf
  have kxn3 : ∀ z4 : Int64, z4 = oz4 → ∀ ls : Array Slot, lv_has ls 11 [(5, .long z4), (0, .long p0), (2, .long p2), (4, .int p4)] → W p l e ({ frames := 0, cells := 0, slots := 0, locals := 0 } : Room) s m [.long p0, .long p2, .int p4].toArray below meth c s.heap [] 0 0 (MQ below (qlR r) [.long p0, .long p2, .int p4].toArray s 0 0 (fun _ => False)) (F0 m 31 ls []) := by
    intro z4 ez4 ls hl
    subst ez4
    refine lv_iload hx hb dX8_partOf_31 (lv_at hl 3 rfl) ?_
    obtain ⟨ov8, hqj9, hf⟩ := q_b1o hf
    have kj9 : ∀ v8 : Int64, v8 = ov8 → ∀ ls : Array Slot, lv_has ls 11 [(5, .long z4)] → W p l e ({ frames := 0, cells := 0, slots := 0, locals := 0 } : Room) s m [.long p0, .long p2, .int p4].toArray below meth c s.heap [] 0 0 (MQ below (qlR r) [.long p0, .long p2, .int p4].toArray s 0 0 (fun _ => False)) (F0 m 41 ls [.long v8]) := by
      intro v8 ev8 ls hl
      subst ev8
      refine lv_lload hx hb dX8_partOf_41 (lv_at hl 0 rfl) ?_
      obtain ⟨c10, hf⟩ := q_ck hf
      refine lv_ldiv hx hb dX8_partOf_43 c10 ?_
      have ee0 := q_s1 hf
      exact q_retL hx hb hr hlk ee0 dX8_partOf_44
    have hf := hqj9
    refine lv_if_ne (tgt := 40) hx hb dX8_partOf_33 (by decide) (fun c11 => ?_) (fun c11 => ?_)
    · have hf := q_f c11 hf
      refine lv_lload_n hx hb dX8_partOf_40 rfl (lv_at hl 2 rfl) ?_
      exact kj9 p2 (q_s1 hf) _ (lv_sub hl [0] rfl)
    · have hf := q_t c11 hf
      refine lv_lload_n hx hb dX8_partOf_36 rfl (lv_at hl 1 rfl) ?_
      refine lv_goto (tgt := 41) hx hb dX8_partOf_37 (by decide) ?_
      exact kj9 p0 (q_s1 hf) _ (lv_sub hl [0] rfl)
  have aihn3 : ∀ n3 : Nat, ∀ l5_1 : Int64, ∀ l7_2 : Int64, fX8_partOf_L6 n3 l5_1 l7_2 = some oz4 → ∀ ls : Array Slot, lv_has ls 11 [(7, .long l7_2), (5, .long l5_1), (0, .long p0), (2, .long p2), (4, .int p4)] → W p l e ({ frames := 0, cells := 0, slots := 0, locals := 0 } : Room) s m [.long p0, .long p2, .int p4].toArray below meth c s.heap [] 0 0 (MQ below (qlR r) [.long p0, .long p2, .int p4].toArray s 0 0 (fun _ => False)) (F0 m 6 ls []) := by
    intro n3
    induction n3 with
    | zero =>
      intro l5_1 l7_2 hf
      exact q_no hf
    | succ n3 ihn3 =>
      intro l5_1 l7_2 hf ls hl
      rw [fX8_partOf_L6] at hf
      refine lv_lload hx hb dX8_partOf_6 (lv_at hl 0 rfl) ?_
      refine lv_lconst (v := 0) hx hb dX8_partOf_8 (by decide) ?_
      refine W.lcmp hx hb dX8_partOf_9 ?_
      refine lv_if_eq (tgt := 31) hx hb dX8_partOf_10 (by decide) (fun c5 => ?_) (fun c5 => ?_)
      · have hf := q_t c5 hf
        exact kxn3 l5_1 (q_s1 hf) _ (lv_sub hl [1, 2, 3, 4] rfl)
      · have hf := q_f c5 hf
        refine lv_lload hx hb dX8_partOf_13 (lv_at hl 1 rfl) ?_
        refine lv_lload hx hb dX8_partOf_15 (lv_at hl 0 rfl) ?_
        obtain ⟨c6, hf⟩ := q_ck hf
        refine lv_lrem hx hb dX8_partOf_17 c6 ?_
        obtain ⟨x7, ex7, hf⟩ := q_lto hf
        refine W.eq (g2 := F0 m 18 ls [.long x7]) (by rw [ex7]) ?_
        refine lv_lstore (lv' := [(9, .long x7), (7, .long l7_2), (5, .long l5_1), (0, .long p0), (2, .long p2), (4, .int p4)]) hx hb dX8_partOf_18 hl (by decide) rfl (fun ls hl => ?_)
        refine lv_lload hx hb dX8_partOf_20 (lv_at hl 1 rfl) ?_
        refine lv_lstore (lv' := [(5, .long l7_2), (9, .long x7), (7, .long l7_2), (0, .long p0), (2, .long p2), (4, .int p4)]) hx hb dX8_partOf_22 hl (by decide) rfl (fun ls hl => ?_)
        refine lv_lload hx hb dX8_partOf_24 (lv_at hl 1 rfl) ?_
        refine lv_lstore (lv' := [(7, .long x7), (5, .long l7_2), (9, .long x7), (0, .long p0), (2, .long p2), (4, .int p4)]) hx hb dX8_partOf_26 hl (by decide) rfl (fun ls hl => ?_)
        refine lv_goto (tgt := 6) hx hb dX8_partOf_28 (by decide) ?_
        exact ihn3 l7_2 x7 hf _ (lv_sub hl [0, 1, 3, 4, 5] rfl)
  exact aihn3 5000 p0 p2 hqn3 _ hl
theorem hdX8_odds : yX8_odds.cls = RX8 ∧ yX8_odds.cls ≠ "java/lang/invoke/MethodHandle" ∧ yX8_odds.cls ≠ "java/lang/invoke/VarHandle" ∧ (parseMethodDescriptor yX8_odds.desc).map (fun d => d.parameters.length) = some 4 := by decide +kernel
theorem qX8_odds_1 : (Cond.fieldLink RX8 41 "DeadAskedModel" "thrown" "I") ∈ wsX8_odds := List.mem_of_getElem? (i := 1) (by decide +kernel)
theorem qX8_odds_2 : (Cond.fieldLink RX8 184 "DeadAskedModel" "isThere" "Z") ∈ wsX8_odds := List.mem_of_getElem? (i := 2) (by decide +kernel)
theorem qX8_odds_3 : (Cond.constantLong RX8 223 (-9000000000000000002)) ∈ wsX8_odds := List.mem_of_getElem? (i := 3) (by decide +kernel)
theorem qX8_odds_4 : (Cond.constantLong RX8 62 (-9000000000000000001)) ∈ wsX8_odds := List.mem_of_getElem? (i := 4) (by decide +kernel)
theorem qX8_odds_5 : (Cond.fieldLink RX8 266 "DeadAskedModel" "above" "J") ∈ wsX8_odds := List.mem_of_getElem? (i := 5) (by decide +kernel)
theorem qX8_odds_6 : (Cond.fieldLink RX8 269 "DeadAskedModel" "below" "J") ∈ wsX8_odds := List.mem_of_getElem? (i := 6) (by decide +kernel)
theorem nX8_odds_8 : ∀ w ∈ u_ws RX8 TX8 27, w ∈ wsX8_odds := fun _ h => (List.mem_cons_of_mem _ (List.mem_append_right _ h))
set_option maxHeartbeats 4000000 in
set_option maxRecDepth 100000 in
theorem kX8_odds (o0 : Nat) (a0 : Nat → Nat) (s0 : St) (t0 : Lt) (p1 : Int32) (p2 : Int32) (p3 : Int32) (p4 : Int32) (sz : Nat) (r : Int64) (z0 : St) (y0 : Lt) (hf : fX8_odds s0 t0 p1 p2 p3 p4 = some (r, z0, y0)) : Met l yX8_odds wsX8_odds ({ frames := 5, cells := 0, slots := 0, locals := 121 } : Room) (pcW (dC, dI) (q_ty cI cB cZ) [.ref o0, .int p1, .int p2, .int p3, .int p4] (wcM cI cZ o0 a0 s0 t0) sz) (qlW (dC, dI) (q_ty cI cB cZ) (wcM cI cZ o0 a0 s0 t0) (wcM cI cZ o0 a0 z0 y0) sz r) 0 0 (va_A (wcM cI cZ o0 a0 s0 t0) sz) := by
  refine q_rwM (cc := cX8_odds) (maxL := 5) (ret := (some .long)) (by decide +kernel) rfl (Nat.le_of_ble_eq_true rfl) ?_
  intro p e s m below meth c hx hb hr hlk hml hown hts hK A H hAe hH hsz hP hD hA hS ls hl
  have hown : s.vm.findClass RX8 = some m.cls := hown
  have hl : lv_has ls 5 [(0, .ref o0), (1, .int p1), (2, .int p2), (3, .int p3), (4, .int p4)] := hl
  unfold fX8_odds at hf
  refine lv_aload_n hx hb dX8_odds_0 rfl (lv_at hl 0 rfl) ?_
  refine lv_iconst (v := 0) hx hb dX8_odds_1 (by decide) ?_
  obtain ⟨sn1, esn1, hf⟩ := q_lto hf
  refine va_put (D := (dC, dI)) (ci := 8) (v := .int (0 : Int32)) (ty := .int) (C := RX8) (T := TX8) (N := 27) hx hb hts nX8_odds_8 tyX8 tyX8_ok nmX8 hown hK hP hD hS 0 rfl rfl 0 (by decide) (hts _ qX8_odds_1) (fun _ h9 => h9) rfl (by decide +kernel) rfl rfl (Nat.le_of_ble_eq_true rfl) dX8_odds_2 (fun H locs hP hD hS => ?_)
  have hP : va_P (dC, dI) vwCl (wcM cI cZ o0 a0 sn1 t0) H := by rw [esn1]; exact hP
  have hD : va_D A (wcM cI cZ o0 a0 sn1 t0) := by rw [esn1]; exact hD
  refine lv_aload_n hx hb dX8_odds_5 rfl (lv_at hl 0 rfl) ?_
  refine va_get (D := (dC, dI)) (ci := 8) (v := .int (sn1 7 0)) (C := RX8) (T := TX8) (N := 27) hx hb hts nX8_odds_8 hown hK hP 0 rfl rfl 7 (by decide) (hts _ qX8_odds_2) (fun _ h9 => h9) rfl dX8_odds_6 ?_
  refine lv_if_ne (tgt := 16) hx hb dX8_odds_9 (by decide) (fun c2 => ?_) (fun c2 => ?_)
  · have hf := q_f c2 hf
    refine lv_iload_n hx hb dX8_odds_16 rfl (lv_at hl 1 rfl) ?_
    obtain ⟨r3, h4, hf⟩ := q_b1o hf
    refine q_roSi (As := [.int p1]) (rest := []) ⟨hx, hb, hml, hown, hts⟩ (kX8_isMatter l p1 r3 h4) (va_cwS 1 hts gX8_odds_X8_isMatter rfl rfl rfl hdX8_isMatter ⟨Nat.le_of_ble_eq_true rfl, Nat.le_of_ble_eq_true rfl⟩) rfl hl.1 rfl (Nat.le_of_ble_eq_true rfl) dX8_odds_17 ⟨Nat.zero_le _, Nat.zero_le _⟩ ?_
    refine lv_if_eq (tgt := 48) hx hb dX8_odds_20 (by decide) (fun c5 => ?_) (fun c5 => ?_)
    · have hf := q_t c5 hf
      refine lv_ldc2 (v := -9000000000000000001) hx hb hown (hts _ qX8_odds_4) dX8_odds_48 ?_
      obtain ⟨ee0, ee1, ee2⟩ := q_s3 hf
      subst ee1
      subst ee2
      exact q_wretL hx hb hr hlk hAe hK hP hD hS ee0 dX8_odds_51
    · have hf := q_f c5 hf
      refine lv_iload_n hx hb dX8_odds_23 rfl (lv_at hl 2 rfl) ?_
      obtain ⟨r6, h7, hf⟩ := q_b1o hf
      refine q_roSi (As := [.int p2]) (rest := []) ⟨hx, hb, hml, hown, hts⟩ (kX8_areHorns l p2 r6 h7) (va_cwS 1 hts gX8_odds_X8_areHorns rfl rfl rfl hdX8_areHorns ⟨Nat.le_of_ble_eq_true rfl, Nat.le_of_ble_eq_true rfl⟩) rfl hl.1 rfl (Nat.le_of_ble_eq_true rfl) dX8_odds_24 ⟨Nat.zero_le _, Nat.zero_le _⟩ ?_
      refine lv_if_eq (tgt := 48) hx hb dX8_odds_27 (by decide) (fun c8 => ?_) (fun c8 => ?_)
      · have hf := q_t c8 hf
        refine lv_ldc2 (v := -9000000000000000001) hx hb hown (hts _ qX8_odds_4) dX8_odds_48 ?_
        obtain ⟨ee0, ee1, ee2⟩ := q_s3 hf
        subst ee1
        subst ee2
        exact q_wretL hx hb hr hlk hAe hK hP hD hS ee0 dX8_odds_51
      · have hf := q_f c8 hf
        refine lv_iload_n hx hb dX8_odds_30 rfl (lv_at hl 3 rfl) ?_
        obtain ⟨r9, h10, hf⟩ := q_b1o hf
        refine q_roSi (As := [.int p3]) (rest := []) ⟨hx, hb, hml, hown, hts⟩ (kX8_isHour l p3 r9 h10) (va_cwS 1 hts gX8_odds_X8_isHour rfl rfl rfl hdX8_isHour ⟨Nat.le_of_ble_eq_true rfl, Nat.le_of_ble_eq_true rfl⟩) rfl hl.1 rfl (Nat.le_of_ble_eq_true rfl) dX8_odds_31 ⟨Nat.zero_le _, Nat.zero_le _⟩ ?_
        refine lv_if_eq (tgt := 48) hx hb dX8_odds_34 (by decide) (fun c11 => ?_) (fun c11 => ?_)
        · have hf := q_t c11 hf
          refine lv_ldc2 (v := -9000000000000000001) hx hb hown (hts _ qX8_odds_4) dX8_odds_48 ?_
          obtain ⟨ee0, ee1, ee2⟩ := q_s3 hf
          subst ee1
          subst ee2
          exact q_wretL hx hb hr hlk hAe hK hP hD hS ee0 dX8_odds_51
        · have hf := q_f c11 hf
          refine lv_iload hx hb dX8_odds_37 (lv_at hl 4 rfl) ?_
          refine lv_i2l (v := p4.toInt64) hx hb dX8_odds_39 rfl ?_
          refine lv_lconst (v := 0) hx hb dX8_odds_40 (by decide) ?_
          refine lv_lconst (v := 1) hx hb dX8_odds_41 (by decide) ?_
          obtain ⟨r12, h13, hf⟩ := q_b1o hf
          refine q_roSi (As := [.long p4.toInt64, .long (0 : Int64), .long (1 : Int64)]) (rest := []) ⟨hx, hb, hml, hown, hts⟩ (kX8_in l p4.toInt64 (0 : Int64) (1 : Int64) r12 h13) (va_cwS 3 hts gX8_odds_X8_in rfl rfl rfl hdX8_in ⟨Nat.le_of_ble_eq_true rfl, Nat.le_of_ble_eq_true rfl⟩) rfl hl.1 rfl (Nat.le_of_ble_eq_true rfl) dX8_odds_42 ⟨Nat.zero_le _, Nat.zero_le _⟩ ?_
          refine lv_if_ne (tgt := 52) hx hb dX8_odds_45 (by decide) (fun c14 => ?_) (fun c14 => ?_)
          · have hf := q_f c14 hf
            refine lv_aload_n hx hb dX8_odds_52 rfl (lv_at hl 0 rfl) ?_
            refine lv_iload_n hx hb dX8_odds_53 rfl (lv_at hl 1 rfl) ?_
            refine lv_iload_n hx hb dX8_odds_54 rfl (lv_at hl 2 rfl) ?_
            refine lv_iload_n hx hb dX8_odds_55 rfl (lv_at hl 3 rfl) ?_
            refine lv_iconst (v := 0) hx hb dX8_odds_56 (by decide) ?_
            obtain ⟨tc15, h16, hf⟩ := q_b1o hf
            refine q_rwVv (As := [.int p1, .int p2, .int p3, .int (0 : Int32)]) (rest := []) (ci := 8) (wr := []) (w2 := (wcM cI cZ o0 a0 sn1 tc15)) ⟨hx, hb, hml, hown, hts⟩ (kX8_layOdds l dC dI cI cB cZ o0 a0 sn1 t0 p1 p2 p3 (0 : Int32) H.size tc15 h16) (cwV 4 hts gX8_odds_X8_layOdds rfl rfl rfl hdX8_layOdds ⟨Nat.le_of_ble_eq_true rfl, Nat.le_of_ble_eq_true rfl⟩) hK hP hD hS hA [0, 1, 2, 3, 4, 5, 6, 7, 8, 9, 10] [] [0, 1, 2, 3, 4, 5, 6, 7, 8, 9, 10] rfl rfl (by decide) (by decide) (by decide) rfl (by decide) rfl rfl rfl hl.1 rfl (Nat.le_of_ble_eq_true rfl) dX8_odds_57 ⟨Nat.zero_le _, Nat.zero_le _⟩ (fun H locs hP hD hS => ?_)
            refine lv_aload_n hx hb dX8_odds_60 rfl (lv_at hl 0 rfl) ?_
            refine va_get (D := (dC, dI)) (ci := 8) (v := .long (tc15 21)) (C := RX8) (T := TX8) (N := 27) hx hb hts nX8_odds_8 hown hK hP 0 rfl rfl 21 (by decide) (hts _ qX8_odds_5) (fun _ h9 => h9) rfl dX8_odds_61 ?_
            refine lv_aload_n hx hb dX8_odds_64 rfl (lv_at hl 0 rfl) ?_
            refine va_get (D := (dC, dI)) (ci := 8) (v := .long (tc15 22)) (C := RX8) (T := TX8) (N := 27) hx hb hts nX8_odds_8 hown hK hP 0 rfl rfl 22 (by decide) (hts _ qX8_odds_6) (fun _ h9 => h9) rfl dX8_odds_65 ?_
            refine lv_iload hx hb dX8_odds_68 (lv_at hl 4 rfl) ?_
            obtain ⟨r17, h18, hf⟩ := q_b1o hf
            refine q_roSl (As := [.long (tc15 21), .long (tc15 22), .int p4]) (rest := []) ⟨hx, hb, hml, hown, hts⟩ (kX8_partOf l (tc15 21) (tc15 22) p4 r17 h18) (va_cwS 3 hts gX8_odds_X8_partOf rfl rfl rfl hdX8_partOf ⟨Nat.le_of_ble_eq_true rfl, Nat.le_of_ble_eq_true rfl⟩) rfl hl.1 rfl (Nat.le_of_ble_eq_true rfl) dX8_odds_70 ⟨Nat.zero_le _, Nat.zero_le _⟩ ?_
            obtain ⟨ee0, ee1, ee2⟩ := q_s3 hf
            subst ee1
            subst ee2
            exact q_wretL hx hb hr hlk hAe hK hP hD hS ee0 dX8_odds_73
          · have hf := q_t c14 hf
            refine lv_ldc2 (v := -9000000000000000001) hx hb hown (hts _ qX8_odds_4) dX8_odds_48 ?_
            obtain ⟨ee0, ee1, ee2⟩ := q_s3 hf
            subst ee1
            subst ee2
            exact q_wretL hx hb hr hlk hAe hK hP hD hS ee0 dX8_odds_51
  · have hf := q_t c2 hf
    refine lv_ldc2 (v := -9000000000000000002) hx hb hown (hts _ qX8_odds_3) dX8_odds_12 ?_
    obtain ⟨ee0, ee1, ee2⟩ := q_s3 hf
    subst ee1
    subst ee2
    exact q_wretL hx hb hr hlk hAe hK hP hD hS ee0 dX8_odds_15
theorem hdX8_hearers : yX8_hearers.cls = RX8 ∧ yX8_hearers.cls ≠ "java/lang/invoke/MethodHandle" ∧ yX8_hearers.cls ≠ "java/lang/invoke/VarHandle" ∧ (parseMethodDescriptor yX8_hearers.desc).map (fun d => d.parameters.length) = some 1 := by decide +kernel
theorem qX8_hearers_1 : (Cond.fieldLink RX8 19 "DeadAskedModel" "hill" "[I") ∈ wsX8_hearers := List.mem_of_getElem? (i := 1) (by decide +kernel)
theorem nX8_hearers_8 : ∀ w ∈ u_ws RX8 TX8 27, w ∈ wsX8_hearers := fun _ h => (List.mem_cons_of_mem _ (List.mem_append_right _ h))
set_option maxHeartbeats 4000000 in
set_option maxRecDepth 100000 in
theorem kX8_hearers (o0 : Nat) (a0 : Nat → Nat) (s0 : St) (t0 : Lt) (p1 : Int32) (r : Int32) (hf : fX8_hearers s0 p1 = some r) : Met l yX8_hearers wsX8_hearers ({ frames := 2, cells := 0, slots := 0, locals := 47 } : Room) (pcR (dC, dI) (q_ty cI cB cZ) [.ref o0, .int p1] (wcM cI cZ o0 a0 s0 t0)) (qiR r) 0 0 (fun _ => False) := by
  refine q_roM (cc := cX8_hearers) (maxL := 4) (ret := (some .int)) (by decide +kernel) rfl (Nat.le_of_ble_eq_true rfl) ?_
  intro p e s m below meth c hx hb hr hlk hml hown hts hK hP ls hl
  have hown : s.vm.findClass RX8 = some m.cls := hown
  have hl : lv_has ls 4 [(0, .ref o0), (1, .int p1)] := hl
  unfold fX8_hearers at hf
  refine lv_iconst (v := 0) hx hb dX8_hearers_0 (by decide) ?_
  refine lv_istore_n (lv' := [(2, .int (0 : Int32)), (0, .ref o0), (1, .int p1)]) hx hb dX8_hearers_1 rfl hl (by decide) rfl (fun ls hl => ?_)
  refine lv_iconst (v := 0) hx hb dX8_hearers_2 (by decide) ?_
  refine lv_istore_n (lv' := [(3, .int (0 : Int32)), (2, .int (0 : Int32)), (0, .ref o0), (1, .int p1)]) hx hb dX8_hearers_3 rfl hl (by decide) rfl (fun ls hl => ?_)
  obtain ⟨oz4, hqn3, hf⟩ := q_b1o hf
  have kxn3 : ∀ z4 : Int32, z4 = oz4 → ∀ ls : Array Slot, lv_has ls 4 [(2, .int z4)] → W p l e ({ frames := 2, cells := 0, slots := 0, locals := 47 } : Room) s m [.ref o0, .int p1].toArray below meth c s.heap [] 0 0 (MQ below (qiR r) [.ref o0, .int p1].toArray s 0 0 (fun _ => False)) (F0 m 38 ls []) := by
    intro z4 ez4 ls hl
    subst ez4
    refine lv_iload_n hx hb dX8_hearers_38 rfl (lv_at hl 0 rfl) ?_
    have ee0 := q_s1 hf
    exact q_retI hx hb hr hlk ee0 dX8_hearers_39
  have aihn3 : ∀ n3 : Nat, ∀ l2_1 : Int32, ∀ l3_2 : Int32, fX8_hearers_L4 p1 s0 n3 l2_1 l3_2 = some oz4 → ∀ ls : Array Slot, lv_has ls 4 [(3, .int l3_2), (2, .int l2_1), (0, .ref o0), (1, .int p1)] → W p l e ({ frames := 2, cells := 0, slots := 0, locals := 47 } : Room) s m [.ref o0, .int p1].toArray below meth c s.heap [] 0 0 (MQ below (qiR r) [.ref o0, .int p1].toArray s 0 0 (fun _ => False)) (F0 m 4 ls []) := by
    intro n3
    induction n3 with
    | zero =>
      intro l2_1 l3_2 hf
      exact q_no hf
    | succ n3 ihn3 =>
      intro l2_1 l3_2 hf ls hl
      rw [fX8_hearers_L4] at hf
      refine lv_iload_n hx hb dX8_hearers_4 rfl (lv_at hl 0 rfl) ?_
      refine lv_aload_n hx hb dX8_hearers_5 rfl (lv_at hl 2 rfl) ?_
      refine va_get (D := (dC, dI)) (ci := 8) (v := .ref (a0 5)) (C := RX8) (T := TX8) (N := 27) hx hb hts nX8_hearers_8 hown hK hP 0 rfl rfl 5 (by decide) (hts _ qX8_hearers_1) (fun _ h9 => h9) rfl dX8_hearers_6 ?_
      refine lv_iconst (v := 0) hx hb dX8_hearers_9 (by decide) ?_
      obtain ⟨c5, hf⟩ := q_ck hf
      refine va_iald hx hb hK hP 4 0 rfl rfl c5 dX8_hearers_10 ?_
      refine lv_icmp_ge (tgt := 38) hx hb dX8_hearers_11 (by decide) (fun c6 => ?_) (fun c6 => ?_)
      · have hf := q_t c6 hf
        exact kxn3 l2_1 (q_s1 hf) _ (lv_sub hl [1] rfl)
      · have hf := q_f c6 hf
        refine lv_iload_n hx hb dX8_hearers_14 rfl (lv_at hl 1 rfl) ?_
        refine lv_aload_n hx hb dX8_hearers_15 rfl (lv_at hl 2 rfl) ?_
        refine lv_iload_n hx hb dX8_hearers_16 rfl (lv_at hl 0 rfl) ?_
        obtain ⟨r7, h8, hf⟩ := q_b1o hf
        refine q_roVi (As := [.int l3_2]) (rest := [.int l2_1]) (ci := 8) ⟨hx, hb, hml, hown, hts⟩ (kX8_heard l dC dI cI cB cZ o0 a0 s0 t0 l3_2 r7 h8) (cwV 1 hts gX8_hearers_X8_heard rfl rfl rfl hdX8_heard ⟨Nat.le_of_ble_eq_true rfl, Nat.le_of_ble_eq_true rfl⟩) hK hP rfl rfl rfl hl.1 rfl (Nat.le_of_ble_eq_true rfl) dX8_hearers_17 ⟨Nat.zero_le _, Nat.zero_le _⟩ ?_
        refine lv_iload_n hx hb dX8_hearers_20 rfl (lv_at hl 3 rfl) ?_
        refine lv_iand hx hb dX8_hearers_21 ?_
        obtain ⟨ov9, hqj10, hf⟩ := q_b1o hf
        have kj10 : ∀ v9 : Int32, v9 = ov9 → ∀ ls : Array Slot, lv_has ls 4 [(3, .int l3_2), (0, .ref o0), (1, .int p1)] → W p l e ({ frames := 2, cells := 0, slots := 0, locals := 47 } : Room) s m [.ref o0, .int p1].toArray below meth c s.heap [] 0 0 (MQ below (qiR r) [.ref o0, .int p1].toArray s 0 0 (fun _ => False)) (F0 m 30 ls [.int v9, .int l2_1]) := by
          intro v9 ev9 ls hl
          subst ev9
          refine lv_iadd hx hb dX8_hearers_30 ?_
          refine lv_istore_n (lv' := [(2, .int (l2_1 + v9)), (3, .int l3_2), (0, .ref o0), (1, .int p1)]) hx hb dX8_hearers_31 rfl hl (by decide) rfl (fun ls hl => ?_)
          refine lv_iinc (v := l3_2 + (1 : Int32)) (lv' := [(3, .int (l3_2 + (1 : Int32))), (2, .int (l2_1 + v9)), (0, .ref o0), (1, .int p1)]) hx hb dX8_hearers_32 hl (k := 1) rfl rfl (by decide) rfl (fun ls hl => ?_)
          refine lv_goto (tgt := 4) hx hb dX8_hearers_35 (by decide) ?_
          exact ihn3 (l2_1 + v9) (l3_2 + (1 : Int32)) hf _ hl
        have hf := hqj10
        refine lv_if_eq (tgt := 29) hx hb dX8_hearers_22 (by decide) (fun c11 => ?_) (fun c11 => ?_)
        · have hf := q_t c11 hf
          refine lv_iconst (v := 0) hx hb dX8_hearers_29 (by decide) ?_
          exact kj10 (0 : Int32) (q_s1 hf) _ (lv_sub hl [0, 2, 3] rfl)
        · have hf := q_f c11 hf
          refine lv_iconst (v := 1) hx hb dX8_hearers_25 (by decide) ?_
          refine lv_goto (tgt := 30) hx hb dX8_hearers_26 (by decide) ?_
          exact kj10 (1 : Int32) (q_s1 hf) _ (lv_sub hl [0, 2, 3] rfl)
  exact aihn3 5000 (0 : Int32) (0 : Int32) hqn3 _ hl
theorem hdX8_how : yX8_how.cls = RX8 ∧ yX8_how.cls ≠ "java/lang/invoke/MethodHandle" ∧ yX8_how.cls ≠ "java/lang/invoke/VarHandle" ∧ (parseMethodDescriptor yX8_how.desc).map (fun d => d.parameters.length) = some 4 := by decide +kernel
theorem qX8_how_1 : (Cond.fieldLink RX8 41 "DeadAskedModel" "thrown" "I") ∈ wsX8_how := List.mem_of_getElem? (i := 1) (by decide +kernel)
theorem qX8_how_2 : (Cond.fieldLink RX8 184 "DeadAskedModel" "isThere" "Z") ∈ wsX8_how := List.mem_of_getElem? (i := 2) (by decide +kernel)
theorem qX8_how_3 : (Cond.constantLong RX8 223 (-9000000000000000002)) ∈ wsX8_how := List.mem_of_getElem? (i := 3) (by decide +kernel)
theorem qX8_how_4 : (Cond.constantLong RX8 262 5) ∈ wsX8_how := List.mem_of_getElem? (i := 4) (by decide +kernel)
theorem qX8_how_5 : (Cond.constantLong RX8 62 (-9000000000000000001)) ∈ wsX8_how := List.mem_of_getElem? (i := 5) (by decide +kernel)
theorem qX8_how_6 : (Cond.constant RX8 80 (-1000000)) ∈ wsX8_how := List.mem_of_getElem? (i := 6) (by decide +kernel)
theorem qX8_how_7 : (Cond.fieldLink RX8 266 "DeadAskedModel" "above" "J") ∈ wsX8_how := List.mem_of_getElem? (i := 7) (by decide +kernel)
theorem qX8_how_8 : (Cond.fieldLink RX8 269 "DeadAskedModel" "below" "J") ∈ wsX8_how := List.mem_of_getElem? (i := 8) (by decide +kernel)
theorem nX8_how_8 : ∀ w ∈ u_ws RX8 TX8 27, w ∈ wsX8_how := fun _ h => (List.mem_cons_of_mem _ (List.mem_append_right _ h))
set_option maxHeartbeats 4000000 in
set_option maxRecDepth 100000 in
theorem kX8_how (o0 : Nat) (a0 : Nat → Nat) (s0 : St) (t0 : Lt) (p1 : Int32) (p2 : Int32) (p3 : Int32) (p4 : Int32) (sz : Nat) (r : Int64) (z0 : St) (y0 : Lt) (hf : fX8_how s0 t0 p1 p2 p3 p4 = some (r, z0, y0)) : Met l yX8_how wsX8_how ({ frames := 5, cells := 0, slots := 0, locals := 121 } : Room) (pcW (dC, dI) (q_ty cI cB cZ) [.ref o0, .int p1, .int p2, .int p3, .int p4] (wcM cI cZ o0 a0 s0 t0) sz) (qlW (dC, dI) (q_ty cI cB cZ) (wcM cI cZ o0 a0 s0 t0) (wcM cI cZ o0 a0 z0 y0) sz r) 0 0 (va_A (wcM cI cZ o0 a0 s0 t0) sz) := by
  refine q_rwM (cc := cX8_how) (maxL := 13) (ret := (some .long)) (by decide +kernel) rfl (Nat.le_of_ble_eq_true rfl) ?_
  intro p e s m below meth c hx hb hr hlk hml hown hts hK A H hAe hH hsz hP hD hA hS ls hl
  have hown : s.vm.findClass RX8 = some m.cls := hown
  have hl : lv_has ls 13 [(0, .ref o0), (1, .int p1), (2, .int p2), (3, .int p3), (4, .int p4)] := hl
  unfold fX8_how at hf
  refine lv_aload_n hx hb dX8_how_0 rfl (lv_at hl 0 rfl) ?_
  refine lv_iconst (v := 0) hx hb dX8_how_1 (by decide) ?_
  obtain ⟨sn1, esn1, hf⟩ := q_lto hf
  refine va_put (D := (dC, dI)) (ci := 8) (v := .int (0 : Int32)) (ty := .int) (C := RX8) (T := TX8) (N := 27) hx hb hts nX8_how_8 tyX8 tyX8_ok nmX8 hown hK hP hD hS 0 rfl rfl 0 (by decide) (hts _ qX8_how_1) (fun _ h9 => h9) rfl (by decide +kernel) rfl rfl (Nat.le_of_ble_eq_true rfl) dX8_how_2 (fun H locs hP hD hS => ?_)
  have hP : va_P (dC, dI) vwCl (wcM cI cZ o0 a0 sn1 t0) H := by rw [esn1]; exact hP
  have hD : va_D A (wcM cI cZ o0 a0 sn1 t0) := by rw [esn1]; exact hD
  refine lv_aload_n hx hb dX8_how_5 rfl (lv_at hl 0 rfl) ?_
  refine va_get (D := (dC, dI)) (ci := 8) (v := .int (sn1 7 0)) (C := RX8) (T := TX8) (N := 27) hx hb hts nX8_how_8 hown hK hP 0 rfl rfl 7 (by decide) (hts _ qX8_how_2) (fun _ h9 => h9) rfl dX8_how_6 ?_
  refine lv_if_ne (tgt := 16) hx hb dX8_how_9 (by decide) (fun c2 => ?_) (fun c2 => ?_)
  · have hf := q_f c2 hf
    refine lv_iload_n hx hb dX8_how_16 rfl (lv_at hl 1 rfl) ?_
    obtain ⟨r3, h4, hf⟩ := q_b1o hf
    refine q_roSi (As := [.int p1]) (rest := []) ⟨hx, hb, hml, hown, hts⟩ (kX8_isMatter l p1 r3 h4) (va_cwS 1 hts gX8_how_X8_isMatter rfl rfl rfl hdX8_isMatter ⟨Nat.le_of_ble_eq_true rfl, Nat.le_of_ble_eq_true rfl⟩) rfl hl.1 rfl (Nat.le_of_ble_eq_true rfl) dX8_how_17 ⟨Nat.zero_le _, Nat.zero_le _⟩ ?_
    refine lv_if_eq (tgt := 56) hx hb dX8_how_20 (by decide) (fun c5 => ?_) (fun c5 => ?_)
    · have hf := q_t c5 hf
      refine lv_ldc2 (v := -9000000000000000001) hx hb hown (hts _ qX8_how_5) dX8_how_56 ?_
      obtain ⟨ee0, ee1, ee2⟩ := q_s3 hf
      subst ee1
      subst ee2
      exact q_wretL hx hb hr hlk hAe hK hP hD hS ee0 dX8_how_59
    · have hf := q_f c5 hf
      refine lv_iload_n hx hb dX8_how_23 rfl (lv_at hl 2 rfl) ?_
      refine lv_i2l (v := p2.toInt64) hx hb dX8_how_24 rfl ?_
      refine lv_lconst (v := 0) hx hb dX8_how_25 (by decide) ?_
      refine lv_ldc2 (v := 5) hx hb hown (hts _ qX8_how_4) dX8_how_26 ?_
      obtain ⟨r6, h7, hf⟩ := q_b1o hf
      refine q_roSi (As := [.long p2.toInt64, .long (0 : Int64), .long (5 : Int64)]) (rest := []) ⟨hx, hb, hml, hown, hts⟩ (kX8_in l p2.toInt64 (0 : Int64) (5 : Int64) r6 h7) (va_cwS 3 hts gX8_how_X8_in rfl rfl rfl hdX8_in ⟨Nat.le_of_ble_eq_true rfl, Nat.le_of_ble_eq_true rfl⟩) rfl hl.1 rfl (Nat.le_of_ble_eq_true rfl) dX8_how_29 ⟨Nat.zero_le _, Nat.zero_le _⟩ ?_
      refine lv_if_eq (tgt := 56) hx hb dX8_how_32 (by decide) (fun c8 => ?_) (fun c8 => ?_)
      · have hf := q_t c8 hf
        refine lv_ldc2 (v := -9000000000000000001) hx hb hown (hts _ qX8_how_5) dX8_how_56 ?_
        obtain ⟨ee0, ee1, ee2⟩ := q_s3 hf
        subst ee1
        subst ee2
        exact q_wretL hx hb hr hlk hAe hK hP hD hS ee0 dX8_how_59
      · have hf := q_f c8 hf
        refine lv_iload_n hx hb dX8_how_35 rfl (lv_at hl 3 rfl) ?_
        obtain ⟨r9, h10, hf⟩ := q_b1o hf
        refine q_roSi (As := [.int p3]) (rest := []) ⟨hx, hb, hml, hown, hts⟩ (kX8_isHour l p3 r9 h10) (va_cwS 1 hts gX8_how_X8_isHour rfl rfl rfl hdX8_isHour ⟨Nat.le_of_ble_eq_true rfl, Nat.le_of_ble_eq_true rfl⟩) rfl hl.1 rfl (Nat.le_of_ble_eq_true rfl) dX8_how_36 ⟨Nat.zero_le _, Nat.zero_le _⟩ ?_
        refine lv_if_eq (tgt := 56) hx hb dX8_how_39 (by decide) (fun c11 => ?_) (fun c11 => ?_)
        · have hf := q_t c11 hf
          refine lv_ldc2 (v := -9000000000000000001) hx hb hown (hts _ qX8_how_5) dX8_how_56 ?_
          obtain ⟨ee0, ee1, ee2⟩ := q_s3 hf
          subst ee1
          subst ee2
          exact q_wretL hx hb hr hlk hAe hK hP hD hS ee0 dX8_how_59
        · have hf := q_f c11 hf
          refine lv_iload hx hb dX8_how_42 (lv_at hl 4 rfl) ?_
          obtain ⟨r12, h13, hf⟩ := q_b1o hf
          refine q_roSi (As := [.int p4]) (rest := []) ⟨hx, hb, hml, hown, hts⟩ (kX8_isHour l p4 r12 h13) (va_cwS 1 hts gX8_how_X8_isHour rfl rfl rfl hdX8_isHour ⟨Nat.le_of_ble_eq_true rfl, Nat.le_of_ble_eq_true rfl⟩) rfl hl.1 rfl (Nat.le_of_ble_eq_true rfl) dX8_how_44 ⟨Nat.zero_le _, Nat.zero_le _⟩ ?_
          refine lv_if_eq (tgt := 56) hx hb dX8_how_47 (by decide) (fun c14 => ?_) (fun c14 => ?_)
          · have hf := q_t c14 hf
            refine lv_ldc2 (v := -9000000000000000001) hx hb hown (hts _ qX8_how_5) dX8_how_56 ?_
            obtain ⟨ee0, ee1, ee2⟩ := q_s3 hf
            subst ee1
            subst ee2
            exact q_wretL hx hb hr hlk hAe hK hP hD hS ee0 dX8_how_59
          · have hf := q_f c14 hf
            refine lv_iload_n hx hb dX8_how_50 rfl (lv_at hl 3 rfl) ?_
            refine lv_iload hx hb dX8_how_51 (lv_at hl 4 rfl) ?_
            refine lv_icmp_le (tgt := 60) hx hb dX8_how_53 (by decide) (fun c15 => ?_) (fun c15 => ?_)
            · have hf := q_t c15 hf
              refine lv_ldc (v := -1000000) hx hb hown (hts _ qX8_how_6) dX8_how_60 ?_
              refine lv_istore (lv' := [(5, .int (-1000000 : Int32)), (0, .ref o0), (1, .int p1), (2, .int p2), (3, .int p3), (4, .int p4)]) hx hb dX8_how_62 hl (by decide) rfl (fun ls hl => ?_)
              refine lv_lconst (v := 0) hx hb dX8_how_64 (by decide) ?_
              refine lv_lstore (lv' := [(6, .long (0 : Int64)), (5, .int (-1000000 : Int32)), (0, .ref o0), (1, .int p1), (2, .int p2), (3, .int p3), (4, .int p4)]) hx hb dX8_how_65 hl (by decide) rfl (fun ls hl => ?_)
              refine lv_lconst (v := 1) hx hb dX8_how_67 (by decide) ?_
              refine lv_lstore (lv' := [(8, .long (1 : Int64)), (6, .long (0 : Int64)), (5, .int (-1000000 : Int32)), (0, .ref o0), (1, .int p1), (2, .int p2), (3, .int p3), (4, .int p4)]) hx hb dX8_how_68 hl (by decide) rfl (fun ls hl => ?_)
              refine lv_iload_n hx hb dX8_how_70 rfl (lv_at hl 6 rfl) ?_
              refine lv_istore (lv' := [(10, .int p3), (8, .long (1 : Int64)), (6, .long (0 : Int64)), (5, .int (-1000000 : Int32)), (0, .ref o0), (1, .int p1), (2, .int p2), (3, .int p3), (4, .int p4)]) hx hb dX8_how_71 hl (by decide) rfl (fun ls hl => ?_)
              obtain ⟨oz22, oz23, hqn21, hf⟩ := q_b2o hf
              have kxn21 : ∀ z22 : Int32, ∀ z23 : Lt, z22 = oz22 → z23 = oz23 → ∀ (H : Heap) (locs : List Loc), va_P (dC, dI) vwCl (wcM cI cZ o0 a0 sn1 z23) H → va_D A (wcM cI cZ o0 a0 sn1 z23) → va_S A s.heap H locs → ∀ ls : Array Slot, lv_has ls 13 [(5, .int z22)] → W p l e ({ frames := 5, cells := 0, slots := 0, locals := 121 } : Room) s m [.ref o0, .int p1, .int p2, .int p3, .int p4].toArray below meth c H locs 0 0 (MQ below (qlW (dC, dI) (q_ty cI cB cZ) (wcM cI cZ o0 a0 s0 t0) (wcM cI cZ o0 a0 z0 y0) sz r) [.ref o0, .int p1, .int p2, .int p3, .int p4].toArray s 0 0 (va_A (wcM cI cZ o0 a0 s0 t0) sz)) (F0 m 206 ls []) := by
                intro z22 z23 ez22 ez23 H locs hP hD hS ls hl
                subst ez22
                subst ez23
                refine lv_iload hx hb dX8_how_206 (lv_at hl 0 rfl) ?_
                refine lv_i2l (v := z22.toInt64) hx hb dX8_how_208 rfl ?_
                obtain ⟨ee0, ee1, ee2⟩ := q_s3 hf
                subst ee1
                subst ee2
                exact q_wretL hx hb hr hlk hAe hK hP hD hS ee0 dX8_how_209
              have aihn21 : ∀ n21 : Nat, ∀ l5_16 : Int32, ∀ l6_17 : Int64, ∀ l8_18 : Int64, ∀ l10_19 : Int32, ∀ tl20 : Lt, fX8_how_L73 p1 p2 p4 sn1 n21 l5_16 l6_17 l8_18 l10_19 tl20 = some (oz22, oz23) → ∀ (H : Heap) (locs : List Loc), va_P (dC, dI) vwCl (wcM cI cZ o0 a0 sn1 tl20) H → va_D A (wcM cI cZ o0 a0 sn1 tl20) → va_S A s.heap H locs → ∀ ls : Array Slot, lv_has ls 13 [(10, .int l10_19), (8, .long l8_18), (6, .long l6_17), (5, .int l5_16), (0, .ref o0), (1, .int p1), (2, .int p2), (4, .int p4)] → W p l e ({ frames := 5, cells := 0, slots := 0, locals := 121 } : Room) s m [.ref o0, .int p1, .int p2, .int p3, .int p4].toArray below meth c H locs 0 0 (MQ below (qlW (dC, dI) (q_ty cI cB cZ) (wcM cI cZ o0 a0 s0 t0) (wcM cI cZ o0 a0 z0 y0) sz r) [.ref o0, .int p1, .int p2, .int p3, .int p4].toArray s 0 0 (va_A (wcM cI cZ o0 a0 s0 t0) sz)) (F0 m 73 ls []) := by
                intro n21
                induction n21 with
                | zero =>
                  intro l5_16 l6_17 l8_18 l10_19 tl20 hf
                  exact q_no hf
                | succ n21 ihn21 =>
                  intro l5_16 l6_17 l8_18 l10_19 tl20 hf H locs hP hD hS ls hl
                  rw [fX8_how_L73] at hf
                  refine lv_iload hx hb dX8_how_73 (lv_at hl 0 rfl) ?_
                  refine lv_iload hx hb dX8_how_75 (lv_at hl 7 rfl) ?_
                  refine lv_icmp_gt (tgt := 206) hx hb dX8_how_77 (by decide) (fun c24 => ?_) (fun c24 => ?_)
                  · have hf := q_t c24 hf
                    obtain ⟨w0, w1⟩ := q_s2 hf
                    exact kxn21 l5_16 tl20 w0 w1 _ _ hP hD hS _ (lv_sub hl [3] rfl)
                  · have hf := q_f c24 hf
                    refine lv_iconst (v := 0) hx hb dX8_how_80 (by decide) ?_
                    refine lv_istore (lv' := [(11, .int (0 : Int32)), (10, .int l10_19), (8, .long l8_18), (6, .long l6_17), (5, .int l5_16), (0, .ref o0), (1, .int p1), (2, .int p2), (4, .int p4)]) hx hb dX8_how_81 hl (by decide) rfl (fun ls hl => ?_)
                    obtain ⟨oz31, oz32, oz33, oz34, hqn30, hf⟩ := q_b4o hf
                    have kxn30 : ∀ z31 : Int32, ∀ z32 : Int64, ∀ z33 : Int64, ∀ z34 : Lt, z31 = oz31 → z32 = oz32 → z33 = oz33 → z34 = oz34 → ∀ (H : Heap) (locs : List Loc), va_P (dC, dI) vwCl (wcM cI cZ o0 a0 sn1 z34) H → va_D A (wcM cI cZ o0 a0 sn1 z34) → va_S A s.heap H locs → ∀ ls : Array Slot, lv_has ls 13 [(10, .int l10_19), (8, .long z33), (6, .long z32), (5, .int z31), (0, .ref o0), (1, .int p1), (2, .int p2), (4, .int p4)] → W p l e ({ frames := 5, cells := 0, slots := 0, locals := 121 } : Room) s m [.ref o0, .int p1, .int p2, .int p3, .int p4].toArray below meth c H locs 0 0 (MQ below (qlW (dC, dI) (q_ty cI cB cZ) (wcM cI cZ o0 a0 s0 t0) (wcM cI cZ o0 a0 z0 y0) sz r) [.ref o0, .int p1, .int p2, .int p3, .int p4].toArray s 0 0 (va_A (wcM cI cZ o0 a0 s0 t0) sz)) (F0 m 200 ls []) := by
                      intro z31 z32 z33 z34 ez31 ez32 ez33 ez34 H locs hP hD hS ls hl
                      subst ez31
                      subst ez32
                      subst ez33
                      subst ez34
                      refine lv_iinc (v := l10_19 + (1 : Int32)) (lv' := [(10, .int (l10_19 + (1 : Int32))), (8, .long z33), (6, .long z32), (5, .int z31), (0, .ref o0), (1, .int p1), (2, .int p2), (4, .int p4)]) hx hb dX8_how_200 hl (k := 0) rfl rfl (by decide) rfl (fun ls hl => ?_)
                      refine lv_goto (tgt := 73) hx hb dX8_how_203 (by decide) ?_
                      exact ihn21 z31 z32 z33 (l10_19 + (1 : Int32)) z34 hf _ _ hP hD hS _ hl
                    have aihn30 : ∀ n30 : Nat, ∀ l5_25 : Int32, ∀ l6_26 : Int64, ∀ l8_27 : Int64, ∀ l11_28 : Int32, ∀ tl29 : Lt, fX8_how_L83 p1 p2 sn1 l10_19 n30 l5_25 l6_26 l8_27 l11_28 tl29 = some (oz31, oz32, oz33, oz34) → ∀ (H : Heap) (locs : List Loc), va_P (dC, dI) vwCl (wcM cI cZ o0 a0 sn1 tl29) H → va_D A (wcM cI cZ o0 a0 sn1 tl29) → va_S A s.heap H locs → ∀ ls : Array Slot, lv_has ls 13 [(11, .int l11_28), (10, .int l10_19), (8, .long l8_27), (6, .long l6_26), (5, .int l5_25), (0, .ref o0), (1, .int p1), (2, .int p2), (4, .int p4)] → W p l e ({ frames := 5, cells := 0, slots := 0, locals := 121 } : Room) s m [.ref o0, .int p1, .int p2, .int p3, .int p4].toArray below meth c H locs 0 0 (MQ below (qlW (dC, dI) (q_ty cI cB cZ) (wcM cI cZ o0 a0 s0 t0) (wcM cI cZ o0 a0 z0 y0) sz r) [.ref o0, .int p1, .int p2, .int p3, .int p4].toArray s 0 0 (va_A (wcM cI cZ o0 a0 s0 t0) sz)) (F0 m 83 ls []) := by
                      intro n30
                      induction n30 with
                      | zero =>
                        intro l5_25 l6_26 l8_27 l11_28 tl29 hf
                        exact q_no hf
                      | succ n30 ihn30 =>
                        intro l5_25 l6_26 l8_27 l11_28 tl29 hf H locs hP hD hS ls hl
                        rw [fX8_how_L83] at hf
                        refine lv_iload hx hb dX8_how_83 (lv_at hl 0 rfl) ?_
                        refine lv_bipush (v := 16) hx hb dX8_how_85 (by decide) ?_
                        refine lv_icmp_ge (tgt := 200) hx hb dX8_how_87 (by decide) (fun c35 => ?_) (fun c35 => ?_)
                        · have hf := q_t c35 hf
                          obtain ⟨w0, w1, w2, w3⟩ := q_s4 hf
                          exact kxn30 l5_25 l6_26 l8_27 tl29 w0 w1 w2 w3 _ _ hP hD hS _ (lv_sub hl [1, 2, 3, 4, 5, 6, 7, 8] rfl)
                        · have hf := q_f c35 hf
                          refine lv_aload_n hx hb dX8_how_90 rfl (lv_at hl 5 rfl) ?_
                          refine lv_iload_n hx hb dX8_how_91 rfl (lv_at hl 6 rfl) ?_
                          refine lv_iload hx hb dX8_how_92 (lv_at hl 0 rfl) ?_
                          refine lv_iload hx hb dX8_how_94 (lv_at hl 1 rfl) ?_
                          refine lv_iconst (v := 0) hx hb dX8_how_96 (by decide) ?_
                          obtain ⟨tc36, h37, hf⟩ := q_b1o hf
                          refine q_rwVv (As := [.int p1, .int l11_28, .int l10_19, .int (0 : Int32)]) (rest := []) (ci := 8) (wr := []) (w2 := (wcM cI cZ o0 a0 sn1 tc36)) ⟨hx, hb, hml, hown, hts⟩ (kX8_layOdds l dC dI cI cB cZ o0 a0 sn1 tl29 p1 l11_28 l10_19 (0 : Int32) H.size tc36 h37) (cwV 4 hts gX8_how_X8_layOdds rfl rfl rfl hdX8_layOdds ⟨Nat.le_of_ble_eq_true rfl, Nat.le_of_ble_eq_true rfl⟩) hK hP hD hS hA [0, 1, 2, 3, 4, 5, 6, 7, 8, 9, 10] [] [0, 1, 2, 3, 4, 5, 6, 7, 8, 9, 10] rfl rfl (by decide) (by decide) (by decide) rfl (by decide) rfl rfl rfl hl.1 rfl (Nat.le_of_ble_eq_true rfl) dX8_how_97 ⟨Nat.zero_le _, Nat.zero_le _⟩ (fun H locs hP hD hS => ?_)
                          refine lv_aload_n hx hb dX8_how_100 rfl (lv_at hl 5 rfl) ?_
                          refine lv_iload hx hb dX8_how_101 (lv_at hl 0 rfl) ?_
                          obtain ⟨r38, h39, hf⟩ := q_b1o hf
                          refine q_roVi (As := [.int l11_28]) (rest := []) (ci := 8) ⟨hx, hb, hml, hown, hts⟩ (kX8_hearers l dC dI cI cB cZ o0 a0 sn1 tc36 l11_28 r38 h39) (cwV 1 hts gX8_how_X8_hearers rfl rfl rfl hdX8_hearers ⟨Nat.le_of_ble_eq_true rfl, Nat.le_of_ble_eq_true rfl⟩) hK hP rfl rfl rfl hl.1 rfl (Nat.le_of_ble_eq_true rfl) dX8_how_103 ⟨Nat.zero_le _, Nat.zero_le _⟩ ?_
                          refine lv_iload_n hx hb dX8_how_106 rfl (lv_at hl 7 rfl) ?_
                          obtain ⟨ov40, hqj41, hf⟩ := q_b1o hf
                          have kj41 : ∀ v40 : Int32, v40 = ov40 → ∀ (H : Heap) (locs : List Loc), va_P (dC, dI) vwCl (wcM cI cZ o0 a0 sn1 tc36) H → va_D A (wcM cI cZ o0 a0 sn1 tc36) → va_S A s.heap H locs → ∀ ls : Array Slot, lv_has ls 13 [(11, .int l11_28), (10, .int l10_19), (8, .long l8_27), (6, .long l6_26), (5, .int l5_25), (0, .ref o0), (1, .int p1), (2, .int p2), (4, .int p4)] → W p l e ({ frames := 5, cells := 0, slots := 0, locals := 121 } : Room) s m [.ref o0, .int p1, .int p2, .int p3, .int p4].toArray below meth c H locs 0 0 (MQ below (qlW (dC, dI) (q_ty cI cB cZ) (wcM cI cZ o0 a0 s0 t0) (wcM cI cZ o0 a0 z0 y0) sz r) [.ref o0, .int p1, .int p2, .int p3, .int p4].toArray s 0 0 (va_A (wcM cI cZ o0 a0 s0 t0) sz)) (F0 m 140 ls [.int v40]) := by
                            intro v40 ev40 H locs hP hD hS ls hl
                            subst ev40
                            refine lv_istore (lv' := [(12, .int v40), (11, .int l11_28), (10, .int l10_19), (8, .long l8_27), (6, .long l6_26), (5, .int l5_25), (0, .ref o0), (1, .int p1), (2, .int p2), (4, .int p4)]) hx hb dX8_how_140 hl (by decide) rfl (fun ls hl => ?_)
                            refine lv_iload hx hb dX8_how_142 (lv_at hl 0 rfl) ?_
                            obtain ⟨ov42, hqj43, hf⟩ := q_b1o hf
                            have kj43 : ∀ v42 : Int32, v42 = ov42 → ∀ (H : Heap) (locs : List Loc), va_P (dC, dI) vwCl (wcM cI cZ o0 a0 sn1 tc36) H → va_D A (wcM cI cZ o0 a0 sn1 tc36) → va_S A s.heap H locs → ∀ ls : Array Slot, lv_has ls 13 [(12, .int v40), (11, .int l11_28), (10, .int l10_19), (8, .long l8_27), (6, .long l6_26), (0, .ref o0), (1, .int p1), (2, .int p2), (4, .int p4)] → W p l e ({ frames := 5, cells := 0, slots := 0, locals := 121 } : Room) s m [.ref o0, .int p1, .int p2, .int p3, .int p4].toArray below meth c H locs 0 0 (MQ below (qlW (dC, dI) (q_ty cI cB cZ) (wcM cI cZ o0 a0 s0 t0) (wcM cI cZ o0 a0 z0 y0) sz r) [.ref o0, .int p1, .int p2, .int p3, .int p4].toArray s 0 0 (va_A (wcM cI cZ o0 a0 s0 t0) sz)) (F0 m 160 ls [.int v42]) := by
                              intro v42 ev42 H locs hP hD hS ls hl
                              subst ev42
                              refine lv_istore (lv' := [(5, .int v42), (12, .int v40), (11, .int l11_28), (10, .int l10_19), (8, .long l8_27), (6, .long l6_26), (0, .ref o0), (1, .int p1), (2, .int p2), (4, .int p4)]) hx hb dX8_how_160 hl (by decide) rfl (fun ls hl => ?_)
                              refine lv_iload hx hb dX8_how_162 (lv_at hl 1 rfl) ?_
                              obtain ⟨ov44, hqj45, hf⟩ := q_b1o hf
                              have kj45 : ∀ v44 : Int64, v44 = ov44 → ∀ (H : Heap) (locs : List Loc), va_P (dC, dI) vwCl (wcM cI cZ o0 a0 sn1 tc36) H → va_D A (wcM cI cZ o0 a0 sn1 tc36) → va_S A s.heap H locs → ∀ ls : Array Slot, lv_has ls 13 [(5, .int v42), (12, .int v40), (11, .int l11_28), (10, .int l10_19), (8, .long l8_27), (0, .ref o0), (1, .int p1), (2, .int p2), (4, .int p4)] → W p l e ({ frames := 5, cells := 0, slots := 0, locals := 121 } : Room) s m [.ref o0, .int p1, .int p2, .int p3, .int p4].toArray below meth c H locs 0 0 (MQ below (qlW (dC, dI) (q_ty cI cB cZ) (wcM cI cZ o0 a0 s0 t0) (wcM cI cZ o0 a0 z0 y0) sz r) [.ref o0, .int p1, .int p2, .int p3, .int p4].toArray s 0 0 (va_A (wcM cI cZ o0 a0 s0 t0) sz)) (F0 m 176 ls [.long v44]) := by
                                intro v44 ev44 H locs hP hD hS ls hl
                                subst ev44
                                refine lv_lstore (lv' := [(6, .long v44), (5, .int v42), (12, .int v40), (11, .int l11_28), (10, .int l10_19), (8, .long l8_27), (0, .ref o0), (1, .int p1), (2, .int p2), (4, .int p4)]) hx hb dX8_how_176 hl (by decide) rfl (fun ls hl => ?_)
                                refine lv_iload hx hb dX8_how_178 (lv_at hl 2 rfl) ?_
                                obtain ⟨ov46, hqj47, hf⟩ := q_b1o hf
                                have kj47 : ∀ v46 : Int64, v46 = ov46 → ∀ (H : Heap) (locs : List Loc), va_P (dC, dI) vwCl (wcM cI cZ o0 a0 sn1 tc36) H → va_D A (wcM cI cZ o0 a0 sn1 tc36) → va_S A s.heap H locs → ∀ ls : Array Slot, lv_has ls 13 [(6, .long v44), (5, .int v42), (11, .int l11_28), (10, .int l10_19), (0, .ref o0), (1, .int p1), (2, .int p2), (4, .int p4)] → W p l e ({ frames := 5, cells := 0, slots := 0, locals := 121 } : Room) s m [.ref o0, .int p1, .int p2, .int p3, .int p4].toArray below meth c H locs 0 0 (MQ below (qlW (dC, dI) (q_ty cI cB cZ) (wcM cI cZ o0 a0 s0 t0) (wcM cI cZ o0 a0 z0 y0) sz r) [.ref o0, .int p1, .int p2, .int p3, .int p4].toArray s 0 0 (va_A (wcM cI cZ o0 a0 s0 t0) sz)) (F0 m 192 ls [.long v46]) := by
                                  intro v46 ev46 H locs hP hD hS ls hl
                                  subst ev46
                                  refine lv_lstore (lv' := [(8, .long v46), (6, .long v44), (5, .int v42), (11, .int l11_28), (10, .int l10_19), (0, .ref o0), (1, .int p1), (2, .int p2), (4, .int p4)]) hx hb dX8_how_192 hl (by decide) rfl (fun ls hl => ?_)
                                  refine lv_iinc (v := l11_28 + (1 : Int32)) (lv' := [(11, .int (l11_28 + (1 : Int32))), (8, .long v46), (6, .long v44), (5, .int v42), (10, .int l10_19), (0, .ref o0), (1, .int p1), (2, .int p2), (4, .int p4)]) hx hb dX8_how_194 hl (k := 3) rfl rfl (by decide) rfl (fun ls hl => ?_)
                                  refine lv_goto (tgt := 83) hx hb dX8_how_197 (by decide) ?_
                                  exact ihn30 v42 v44 v46 (l11_28 + (1 : Int32)) tc36 hf _ _ hP hD hS _ (lv_sub hl [0, 4, 1, 2, 3, 5, 6, 7, 8] rfl)
                                have hf := hqj47
                                refine lv_if_eq (tgt := 190) hx hb dX8_how_180 (by decide) (fun c48 => ?_) (fun c48 => ?_)
                                · have hf := q_t c48 hf
                                  refine lv_lload hx hb dX8_how_190 (lv_at hl 5 rfl) ?_
                                  exact kj47 l8_27 (q_s1 hf) _ _ hP hD hS _ (lv_sub hl [0, 1, 3, 4, 6, 7, 8, 9] rfl)
                                · have hf := q_f c48 hf
                                  refine lv_aload_n hx hb dX8_how_183 rfl (lv_at hl 6 rfl) ?_
                                  refine va_get (D := (dC, dI)) (ci := 8) (v := .long (tc36 22)) (C := RX8) (T := TX8) (N := 27) hx hb hts nX8_how_8 hown hK hP 0 rfl rfl 22 (by decide) (hts _ qX8_how_8) (fun _ h9 => h9) rfl dX8_how_184 ?_
                                  refine lv_goto (tgt := 192) hx hb dX8_how_187 (by decide) ?_
                                  exact kj47 (tc36 22) (q_s1 hf) _ _ hP hD hS _ (lv_sub hl [0, 1, 3, 4, 6, 7, 8, 9] rfl)
                              have hf := hqj45
                              refine lv_if_eq (tgt := 174) hx hb dX8_how_164 (by decide) (fun c49 => ?_) (fun c49 => ?_)
                              · have hf := q_t c49 hf
                                refine lv_lload hx hb dX8_how_174 (lv_at hl 5 rfl) ?_
                                exact kj45 l6_26 (q_s1 hf) _ _ hP hD hS _ (lv_sub hl [0, 1, 2, 3, 4, 6, 7, 8, 9] rfl)
                              · have hf := q_f c49 hf
                                refine lv_aload_n hx hb dX8_how_167 rfl (lv_at hl 6 rfl) ?_
                                refine va_get (D := (dC, dI)) (ci := 8) (v := .long (tc36 21)) (C := RX8) (T := TX8) (N := 27) hx hb hts nX8_how_8 hown hK hP 0 rfl rfl 21 (by decide) (hts _ qX8_how_7) (fun _ h9 => h9) rfl dX8_how_168 ?_
                                refine lv_goto (tgt := 176) hx hb dX8_how_171 (by decide) ?_
                                exact kj45 (tc36 21) (q_s1 hf) _ _ hP hD hS _ (lv_sub hl [0, 1, 2, 3, 4, 6, 7, 8, 9] rfl)
                            have hf := hqj43
                            refine lv_if_eq (tgt := 158) hx hb dX8_how_144 (by decide) (fun c50 => ?_) (fun c50 => ?_)
                            · have hf := q_t c50 hf
                              refine lv_iload hx hb dX8_how_158 (lv_at hl 5 rfl) ?_
                              exact kj43 l5_25 (q_s1 hf) _ _ hP hD hS _ (lv_sub hl [0, 1, 2, 3, 4, 6, 7, 8, 9] rfl)
                            · have hf := q_f c50 hf
                              refine lv_bipush (v := 16) hx hb dX8_how_147 (by decide) ?_
                              refine lv_iload hx hb dX8_how_149 (lv_at hl 2 rfl) ?_
                              refine lv_imul hx hb dX8_how_151 ?_
                              refine lv_iload hx hb dX8_how_152 (lv_at hl 1 rfl) ?_
                              refine lv_iadd hx hb dX8_how_154 ?_
                              refine lv_goto (tgt := 160) hx hb dX8_how_155 (by decide) ?_
                              exact kj43 (((16 : Int32) * l10_19) + l11_28) (q_s1 hf) _ _ hP hD hS _ (lv_sub hl [0, 1, 2, 3, 4, 6, 7, 8, 9] rfl)
                          have hf := hqj41
                          refine lv_icmp_lt (tgt := 139) hx hb dX8_how_107 (by decide) (fun c51 => ?_) (fun c51 => ?_)
                          · have hf := q_t c51 hf
                            refine lv_iconst (v := 0) hx hb dX8_how_139 (by decide) ?_
                            exact kj41 (0 : Int32) (q_s1 hf) _ _ hP hD hS _ hl
                          · have hf := q_f c51 hf
                            refine lv_iload hx hb dX8_how_110 (lv_at hl 4 rfl) ?_
                            refine lv_ldc (v := -1000000) hx hb hown (hts _ qX8_how_6) dX8_how_112 ?_
                            refine lv_icmp_eq (tgt := 135) hx hb dX8_how_114 (by decide) (fun c52 => ?_) (fun c52 => ?_)
                            · have hf := q_t c52 hf
                              refine lv_iconst (v := 1) hx hb dX8_how_135 (by decide) ?_
                              refine lv_goto (tgt := 140) hx hb dX8_how_136 (by decide) ?_
                              exact kj41 (1 : Int32) (q_s1 hf) _ _ hP hD hS _ hl
                            · have hf := q_f c52 hf
                              refine lv_aload_n hx hb dX8_how_117 rfl (lv_at hl 5 rfl) ?_
                              refine va_get (D := (dC, dI)) (ci := 8) (v := .long (tc36 21)) (C := RX8) (T := TX8) (N := 27) hx hb hts nX8_how_8 hown hK hP 0 rfl rfl 21 (by decide) (hts _ qX8_how_7) (fun _ h9 => h9) rfl dX8_how_118 ?_
                              refine lv_lload hx hb dX8_how_121 (lv_at hl 2 rfl) ?_
                              refine lv_lmul hx hb dX8_how_123 ?_
                              refine lv_lload hx hb dX8_how_124 (lv_at hl 3 rfl) ?_
                              refine lv_aload_n hx hb dX8_how_126 rfl (lv_at hl 5 rfl) ?_
                              refine va_get (D := (dC, dI)) (ci := 8) (v := .long (tc36 22)) (C := RX8) (T := TX8) (N := 27) hx hb hts nX8_how_8 hown hK hP 0 rfl rfl 22 (by decide) (hts _ qX8_how_8) (fun _ h9 => h9) rfl dX8_how_127 ?_
                              refine lv_lmul hx hb dX8_how_130 ?_
                              refine W.lcmp hx hb dX8_how_131 ?_
                              refine lv_if_le (tgt := 139) hx hb dX8_how_132 (by decide) (fun c53 => ?_) (fun c53 => ?_)
                              · have hf := q_t c53 hf
                                refine lv_iconst (v := 0) hx hb dX8_how_139 (by decide) ?_
                                exact kj41 (0 : Int32) (q_s1 hf) _ _ hP hD hS _ hl
                              · have hf := q_f c53 hf
                                refine lv_iconst (v := 1) hx hb dX8_how_135 (by decide) ?_
                                refine lv_goto (tgt := 140) hx hb dX8_how_136 (by decide) ?_
                                exact kj41 (1 : Int32) (q_s1 hf) _ _ hP hD hS _ hl
                    exact aihn30 5000 l5_16 l6_17 l8_18 (0 : Int32) tl20 hqn30 _ _ hP hD hS _ hl
              exact aihn21 5000 (-1000000 : Int32) (0 : Int64) (1 : Int64) p3 t0 hqn21 _ _ hP hD hS _ (lv_sub hl [0, 1, 2, 3, 4, 5, 6, 8] rfl)
            · have hf := q_f c15 hf
              refine lv_ldc2 (v := -9000000000000000001) hx hb hown (hts _ qX8_how_5) dX8_how_56 ?_
              obtain ⟨ee0, ee1, ee2⟩ := q_s3 hf
              subst ee1
              subst ee2
              exact q_wretL hx hb hr hlk hAe hK hP hD hS ee0 dX8_how_59
  · have hf := q_t c2 hf
    refine lv_ldc2 (v := -9000000000000000002) hx hb hown (hts _ qX8_how_3) dX8_how_12 ?_
    obtain ⟨ee0, ee1, ee2⟩ := q_s3 hf
    subst ee1
    subst ee2
    exact q_wretL hx hb hr hlk hAe hK hP hD hS ee0 dX8_how_15
theorem hdX8_fell : yX8_fell.cls = RX8 ∧ yX8_fell.cls ≠ "java/lang/invoke/MethodHandle" ∧ yX8_fell.cls ≠ "java/lang/invoke/VarHandle" ∧ (parseMethodDescriptor yX8_fell.desc).map (fun d => d.parameters.length) = some 5 := by decide +kernel
theorem qX8_fell_1 : (Cond.fieldLink RX8 41 "DeadAskedModel" "thrown" "I") ∈ wsX8_fell := List.mem_of_getElem? (i := 1) (by decide +kernel)
theorem qX8_fell_2 : (Cond.fieldLink RX8 184 "DeadAskedModel" "isThere" "Z") ∈ wsX8_fell := List.mem_of_getElem? (i := 2) (by decide +kernel)
theorem qX8_fell_3 : (Cond.constantLong RX8 223 (-9000000000000000002)) ∈ wsX8_fell := List.mem_of_getElem? (i := 3) (by decide +kernel)
theorem qX8_fell_4 : (Cond.constantLong RX8 60 2) ∈ wsX8_fell := List.mem_of_getElem? (i := 4) (by decide +kernel)
theorem qX8_fell_5 : (Cond.constantLong RX8 62 (-9000000000000000001)) ∈ wsX8_fell := List.mem_of_getElem? (i := 5) (by decide +kernel)
theorem qX8_fell_6 : (Cond.fieldLink RX8 266 "DeadAskedModel" "above" "J") ∈ wsX8_fell := List.mem_of_getElem? (i := 6) (by decide +kernel)
theorem qX8_fell_7 : (Cond.fieldLink RX8 269 "DeadAskedModel" "below" "J") ∈ wsX8_fell := List.mem_of_getElem? (i := 7) (by decide +kernel)
theorem qX8_fell_8 : (Cond.fieldLink RX8 19 "DeadAskedModel" "hill" "[I") ∈ wsX8_fell := List.mem_of_getElem? (i := 8) (by decide +kernel)
theorem qX8_fell_9 : (Cond.constantLong RX8 217 10) ∈ wsX8_fell := List.mem_of_getElem? (i := 9) (by decide +kernel)
theorem nX8_fell_8 : ∀ w ∈ u_ws RX8 TX8 27, w ∈ wsX8_fell := fun _ h => (List.mem_cons_of_mem _ (List.mem_append_right _ h))
set_option maxHeartbeats 4000000 in
set_option maxRecDepth 100000 in
theorem kX8_fell (o0 : Nat) (a0 : Nat → Nat) (s0 : St) (t0 : Lt) (p1 : Int32) (p2 : Int32) (p3 : Int32) (p4 : Int32) (p5 : Int32) (sz : Nat) (r : Int64) (z0 : St) (y0 : Lt) (hf : fX8_fell s0 t0 p1 p2 p3 p4 p5 = some (r, z0, y0)) : Met l yX8_fell wsX8_fell ({ frames := 3, cells := 0, slots := 0, locals := 72 } : Room) (pcW (dC, dI) (q_ty cI cB cZ) [.ref o0, .int p1, .int p2, .int p3, .int p4, .int p5] (wcM cI cZ o0 a0 s0 t0) sz) (qlW (dC, dI) (q_ty cI cB cZ) (wcM cI cZ o0 a0 s0 t0) (wcM cI cZ o0 a0 z0 y0) sz r) 0 0 (va_A (wcM cI cZ o0 a0 s0 t0) sz) := by
  refine q_rwM (cc := cX8_fell) (maxL := 9) (ret := (some .long)) (by decide +kernel) rfl (Nat.le_of_ble_eq_true rfl) ?_
  intro p e s m below meth c hx hb hr hlk hml hown hts hK A H hAe hH hsz hP hD hA hS ls hl
  have hown : s.vm.findClass RX8 = some m.cls := hown
  have hl : lv_has ls 9 [(0, .ref o0), (1, .int p1), (2, .int p2), (3, .int p3), (4, .int p4), (5, .int p5)] := hl
  unfold fX8_fell at hf
  refine lv_aload_n hx hb dX8_fell_0 rfl (lv_at hl 0 rfl) ?_
  refine lv_iconst (v := 0) hx hb dX8_fell_1 (by decide) ?_
  obtain ⟨sn1, esn1, hf⟩ := q_lto hf
  refine va_put (D := (dC, dI)) (ci := 8) (v := .int (0 : Int32)) (ty := .int) (C := RX8) (T := TX8) (N := 27) hx hb hts nX8_fell_8 tyX8 tyX8_ok nmX8 hown hK hP hD hS 0 rfl rfl 0 (by decide) (hts _ qX8_fell_1) (fun _ h9 => h9) rfl (by decide +kernel) rfl rfl (Nat.le_of_ble_eq_true rfl) dX8_fell_2 (fun H locs hP hD hS => ?_)
  have hP : va_P (dC, dI) vwCl (wcM cI cZ o0 a0 sn1 t0) H := by rw [esn1]; exact hP
  have hD : va_D A (wcM cI cZ o0 a0 sn1 t0) := by rw [esn1]; exact hD
  refine lv_aload_n hx hb dX8_fell_5 rfl (lv_at hl 0 rfl) ?_
  refine va_get (D := (dC, dI)) (ci := 8) (v := .int (sn1 7 0)) (C := RX8) (T := TX8) (N := 27) hx hb hts nX8_fell_8 hown hK hP 0 rfl rfl 7 (by decide) (hts _ qX8_fell_2) (fun _ h9 => h9) rfl dX8_fell_6 ?_
  refine lv_if_ne (tgt := 16) hx hb dX8_fell_9 (by decide) (fun c2 => ?_) (fun c2 => ?_)
  · have hf := q_f c2 hf
    refine lv_iload_n hx hb dX8_fell_16 rfl (lv_at hl 1 rfl) ?_
    obtain ⟨r3, h4, hf⟩ := q_b1o hf
    refine q_roSi (As := [.int p1]) (rest := []) ⟨hx, hb, hml, hown, hts⟩ (kX8_isMatter l p1 r3 h4) (va_cwS 1 hts gX8_fell_X8_isMatter rfl rfl rfl hdX8_isMatter ⟨Nat.le_of_ble_eq_true rfl, Nat.le_of_ble_eq_true rfl⟩) rfl hl.1 rfl (Nat.le_of_ble_eq_true rfl) dX8_fell_17 ⟨Nat.zero_le _, Nat.zero_le _⟩ ?_
    refine lv_if_eq (tgt := 59) hx hb dX8_fell_20 (by decide) (fun c5 => ?_) (fun c5 => ?_)
    · have hf := q_t c5 hf
      refine lv_ldc2 (v := -9000000000000000001) hx hb hown (hts _ qX8_fell_5) dX8_fell_59 ?_
      obtain ⟨ee0, ee1, ee2⟩ := q_s3 hf
      subst ee1
      subst ee2
      exact q_wretL hx hb hr hlk hAe hK hP hD hS ee0 dX8_fell_62
    · have hf := q_f c5 hf
      refine lv_iload_n hx hb dX8_fell_23 rfl (lv_at hl 2 rfl) ?_
      obtain ⟨r6, h7, hf⟩ := q_b1o hf
      refine q_roSi (As := [.int p2]) (rest := []) ⟨hx, hb, hml, hown, hts⟩ (kX8_areHorns l p2 r6 h7) (va_cwS 1 hts gX8_fell_X8_areHorns rfl rfl rfl hdX8_areHorns ⟨Nat.le_of_ble_eq_true rfl, Nat.le_of_ble_eq_true rfl⟩) rfl hl.1 rfl (Nat.le_of_ble_eq_true rfl) dX8_fell_24 ⟨Nat.zero_le _, Nat.zero_le _⟩ ?_
      refine lv_if_eq (tgt := 59) hx hb dX8_fell_27 (by decide) (fun c8 => ?_) (fun c8 => ?_)
      · have hf := q_t c8 hf
        refine lv_ldc2 (v := -9000000000000000001) hx hb hown (hts _ qX8_fell_5) dX8_fell_59 ?_
        obtain ⟨ee0, ee1, ee2⟩ := q_s3 hf
        subst ee1
        subst ee2
        exact q_wretL hx hb hr hlk hAe hK hP hD hS ee0 dX8_fell_62
      · have hf := q_f c8 hf
        refine lv_iload_n hx hb dX8_fell_30 rfl (lv_at hl 3 rfl) ?_
        obtain ⟨r9, h10, hf⟩ := q_b1o hf
        refine q_roSi (As := [.int p3]) (rest := []) ⟨hx, hb, hml, hown, hts⟩ (kX8_isHour l p3 r9 h10) (va_cwS 1 hts gX8_fell_X8_isHour rfl rfl rfl hdX8_isHour ⟨Nat.le_of_ble_eq_true rfl, Nat.le_of_ble_eq_true rfl⟩) rfl hl.1 rfl (Nat.le_of_ble_eq_true rfl) dX8_fell_31 ⟨Nat.zero_le _, Nat.zero_le _⟩ ?_
        refine lv_if_eq (tgt := 59) hx hb dX8_fell_34 (by decide) (fun c11 => ?_) (fun c11 => ?_)
        · have hf := q_t c11 hf
          refine lv_ldc2 (v := -9000000000000000001) hx hb hown (hts _ qX8_fell_5) dX8_fell_59 ?_
          obtain ⟨ee0, ee1, ee2⟩ := q_s3 hf
          subst ee1
          subst ee2
          exact q_wretL hx hb hr hlk hAe hK hP hD hS ee0 dX8_fell_62
        · have hf := q_f c11 hf
          refine lv_aload_n hx hb dX8_fell_37 rfl (lv_at hl 0 rfl) ?_
          refine lv_iload hx hb dX8_fell_38 (lv_at hl 4 rfl) ?_
          obtain ⟨r12, h13, hf⟩ := q_b1o hf
          refine q_roVi (As := [.int p4]) (rest := []) (ci := 8) ⟨hx, hb, hml, hown, hts⟩ (kX8_isTree l dC dI cI cB cZ o0 a0 sn1 t0 p4 r12 h13) (cwV 1 hts gX8_fell_X8_isTree rfl rfl rfl hdX8_isTree ⟨Nat.le_of_ble_eq_true rfl, Nat.le_of_ble_eq_true rfl⟩) hK hP rfl rfl rfl hl.1 rfl (Nat.le_of_ble_eq_true rfl) dX8_fell_40 ⟨Nat.zero_le _, Nat.zero_le _⟩ ?_
          refine lv_if_eq (tgt := 59) hx hb dX8_fell_43 (by decide) (fun c14 => ?_) (fun c14 => ?_)
          · have hf := q_t c14 hf
            refine lv_ldc2 (v := -9000000000000000001) hx hb hown (hts _ qX8_fell_5) dX8_fell_59 ?_
            obtain ⟨ee0, ee1, ee2⟩ := q_s3 hf
            subst ee1
            subst ee2
            exact q_wretL hx hb hr hlk hAe hK hP hD hS ee0 dX8_fell_62
          · have hf := q_f c14 hf
            refine lv_iload hx hb dX8_fell_46 (lv_at hl 5 rfl) ?_
            refine lv_i2l (v := p5.toInt64) hx hb dX8_fell_48 rfl ?_
            refine lv_lconst (v := 0) hx hb dX8_fell_49 (by decide) ?_
            refine lv_ldc2 (v := 2) hx hb hown (hts _ qX8_fell_4) dX8_fell_50 ?_
            obtain ⟨r15, h16, hf⟩ := q_b1o hf
            refine q_roSi (As := [.long p5.toInt64, .long (0 : Int64), .long (2 : Int64)]) (rest := []) ⟨hx, hb, hml, hown, hts⟩ (kX8_in l p5.toInt64 (0 : Int64) (2 : Int64) r15 h16) (va_cwS 3 hts gX8_fell_X8_in rfl rfl rfl hdX8_in ⟨Nat.le_of_ble_eq_true rfl, Nat.le_of_ble_eq_true rfl⟩) rfl hl.1 rfl (Nat.le_of_ble_eq_true rfl) dX8_fell_53 ⟨Nat.zero_le _, Nat.zero_le _⟩ ?_
            refine lv_if_ne (tgt := 63) hx hb dX8_fell_56 (by decide) (fun c17 => ?_) (fun c17 => ?_)
            · have hf := q_f c17 hf
              refine lv_iconst (v := 0) hx hb dX8_fell_63 (by decide) ?_
              refine lv_istore (lv' := [(6, .int (0 : Int32)), (0, .ref o0), (1, .int p1), (2, .int p2), (3, .int p3), (4, .int p4), (5, .int p5)]) hx hb dX8_fell_64 hl (by decide) rfl (fun ls hl => ?_)
              refine lv_aload_n hx hb dX8_fell_66 rfl (lv_at hl 1 rfl) ?_
              refine lv_lconst (v := 1) hx hb dX8_fell_67 (by decide) ?_
              obtain ⟨tn18, etn18, hf⟩ := q_lto hf
              refine va_put (D := (dC, dI)) (ci := 8) (v := .long (1 : Int64)) (ty := .long) (C := RX8) (T := TX8) (N := 27) hx hb hts nX8_fell_8 tyX8 tyX8_ok nmX8 hown hK hP hD hS 0 rfl rfl 21 (by decide) (hts _ qX8_fell_6) (fun _ h9 => h9) rfl (by decide +kernel) rfl rfl (Nat.le_of_ble_eq_true rfl) dX8_fell_68 (fun H locs hP hD hS => ?_)
              have hP : va_P (dC, dI) vwCl (wcM cI cZ o0 a0 sn1 tn18) H := by rw [etn18]; exact hP
              have hD : va_D A (wcM cI cZ o0 a0 sn1 tn18) := by rw [etn18]; exact hD
              refine lv_aload_n hx hb dX8_fell_71 rfl (lv_at hl 1 rfl) ?_
              refine lv_lconst (v := 1) hx hb dX8_fell_72 (by decide) ?_
              obtain ⟨tn19, etn19, hf⟩ := q_lto hf
              refine va_put (D := (dC, dI)) (ci := 8) (v := .long (1 : Int64)) (ty := .long) (C := RX8) (T := TX8) (N := 27) hx hb hts nX8_fell_8 tyX8 tyX8_ok nmX8 hown hK hP hD hS 0 rfl rfl 22 (by decide) (hts _ qX8_fell_7) (fun _ h9 => h9) rfl (by decide +kernel) rfl rfl (Nat.le_of_ble_eq_true rfl) dX8_fell_73 (fun H locs hP hD hS => ?_)
              have hP : va_P (dC, dI) vwCl (wcM cI cZ o0 a0 sn1 tn19) H := by rw [etn19]; exact hP
              have hD : va_D A (wcM cI cZ o0 a0 sn1 tn19) := by rw [etn19]; exact hD
              refine lv_iconst (v := 0) hx hb dX8_fell_76 (by decide) ?_
              refine lv_istore (lv' := [(7, .int (0 : Int32)), (6, .int (0 : Int32)), (0, .ref o0), (1, .int p1), (2, .int p2), (3, .int p3), (4, .int p4), (5, .int p5)]) hx hb dX8_fell_77 hl (by decide) rfl (fun ls hl => ?_)
              obtain ⟨oz24, oz25, hqn23, hf⟩ := q_b2o hf
              have kxn23 : ∀ z24 : Int32, ∀ z25 : Lt, z24 = oz24 → z25 = oz25 → ∀ (H : Heap) (locs : List Loc), va_P (dC, dI) vwCl (wcM cI cZ o0 a0 sn1 z25) H → va_D A (wcM cI cZ o0 a0 sn1 z25) → va_S A s.heap H locs → ∀ ls : Array Slot, lv_has ls 9 [(6, .int z24), (0, .ref o0), (3, .int p3), (4, .int p4), (5, .int p5)] → W p l e ({ frames := 3, cells := 0, slots := 0, locals := 72 } : Room) s m [.ref o0, .int p1, .int p2, .int p3, .int p4, .int p5].toArray below meth c H locs 0 0 (MQ below (qlW (dC, dI) (q_ty cI cB cZ) (wcM cI cZ o0 a0 s0 t0) (wcM cI cZ o0 a0 z0 y0) sz r) [.ref o0, .int p1, .int p2, .int p3, .int p4, .int p5].toArray s 0 0 (va_A (wcM cI cZ o0 a0 s0 t0) sz)) (F0 m 157 ls []) := by
                intro z24 z25 ez24 ez25 H locs hP hD hS ls hl
                subst ez24
                subst ez25
                refine lv_iload hx hb dX8_fell_157 (lv_at hl 4 rfl) ?_
                refine lv_iconst (v := 2) hx hb dX8_fell_159 (by decide) ?_
                refine lv_icmp_ne (tgt := 167) hx hb dX8_fell_160 (by decide) (fun c46 => ?_) (fun c46 => ?_)
                · have hf := q_f c46 hf
                  refine lv_aload_n hx hb dX8_fell_167 rfl (lv_at hl 1 rfl) ?_
                  refine va_get (D := (dC, dI)) (ci := 8) (v := .long (z25 21)) (C := RX8) (T := TX8) (N := 27) hx hb hts nX8_fell_8 hown hK hP 0 rfl rfl 21 (by decide) (hts _ qX8_fell_6) (fun _ h9 => h9) rfl dX8_fell_168 ?_
                  refine lv_ldc2 (v := 10) hx hb hown (hts _ qX8_fell_9) dX8_fell_171 ?_
                  refine lv_lmul hx hb dX8_fell_174 ?_
                  obtain ⟨x47, ex47, hf⟩ := q_lto hf
                  refine W.eq (g2 := F0 m 175 ls [.long x47]) (by rw [ex47]) ?_
                  refine lv_lstore (lv' := [(7, .long x47), (6, .int z24), (0, .ref o0), (3, .int p3), (4, .int p4), (5, .int p5)]) hx hb dX8_fell_175 hl (by decide) rfl (fun ls hl => ?_)
                  refine lv_aload_n hx hb dX8_fell_177 rfl (lv_at hl 2 rfl) ?_
                  refine lv_aload_n hx hb dX8_fell_178 rfl (lv_at hl 2 rfl) ?_
                  refine lv_iload hx hb dX8_fell_179 (lv_at hl 4 rfl) ?_
                  obtain ⟨r48, h49, hf⟩ := q_b1o hf
                  refine q_roVi (As := [.int p4]) (rest := [.ref o0]) (ci := 8) ⟨hx, hb, hml, hown, hts⟩ (kX8_fruit l dC dI cI cB cZ o0 a0 sn1 z25 p4 r48 h49) (cwV 1 hts gX8_fell_X8_fruit rfl rfl rfl hdX8_fruit ⟨Nat.le_of_ble_eq_true rfl, Nat.le_of_ble_eq_true rfl⟩) hK hP rfl rfl rfl hl.1 rfl (Nat.le_of_ble_eq_true rfl) dX8_fell_181 ⟨Nat.zero_le _, Nat.zero_le _⟩ ?_
                  obtain ⟨ov50, hqj51, hf⟩ := q_b1o hf
                  have kj51 : ∀ v50 : Int32, v50 = ov50 → ∀ (H : Heap) (locs : List Loc), va_P (dC, dI) vwCl (wcM cI cZ o0 a0 sn1 z25) H → va_D A (wcM cI cZ o0 a0 sn1 z25) → va_S A s.heap H locs → ∀ ls : Array Slot, lv_has ls 9 [(7, .long x47), (0, .ref o0), (5, .int p5)] → W p l e ({ frames := 3, cells := 0, slots := 0, locals := 72 } : Room) s m [.ref o0, .int p1, .int p2, .int p3, .int p4, .int p5].toArray below meth c H locs 0 0 (MQ below (qlW (dC, dI) (q_ty cI cB cZ) (wcM cI cZ o0 a0 s0 t0) (wcM cI cZ o0 a0 z0 y0) sz r) [.ref o0, .int p1, .int p2, .int p3, .int p4, .int p5].toArray s 0 0 (va_A (wcM cI cZ o0 a0 s0 t0) sz)) (F0 m 210 ls [.int v50, .ref o0]) := by
                    intro v50 ev50 H locs hP hD hS ls hl
                    subst ev50
                    obtain ⟨tc52, h53, hf⟩ := q_b1o hf
                    refine q_rwVv (As := [.int v50]) (rest := []) (ci := 8) (wr := []) (w2 := (wcM cI cZ o0 a0 sn1 tc52)) ⟨hx, hb, hml, hown, hts⟩ (kX8_times l dC dI cI cB cZ o0 a0 sn1 z25 v50 H.size tc52 h53) (cwV 1 hts gX8_fell_X8_times rfl rfl rfl hdX8_times ⟨Nat.le_of_ble_eq_true rfl, Nat.le_of_ble_eq_true rfl⟩) hK hP hD hS hA [0, 1, 2, 3, 4, 5, 6, 7, 8, 9, 10] [] [0, 1, 2, 3, 4, 5, 6, 7, 8, 9, 10] rfl rfl (by decide) (by decide) (by decide) rfl (by decide) rfl rfl rfl hl.1 rfl (Nat.le_of_ble_eq_true rfl) dX8_fell_210 ⟨Nat.zero_le _, Nat.zero_le _⟩ (fun H locs hP hD hS => ?_)
                    refine lv_aload_n hx hb dX8_fell_213 rfl (lv_at hl 1 rfl) ?_
                    refine va_get (D := (dC, dI)) (ci := 8) (v := .long (tc52 21)) (C := RX8) (T := TX8) (N := 27) hx hb hts nX8_fell_8 hown hK hP 0 rfl rfl 21 (by decide) (hts _ qX8_fell_6) (fun _ h9 => h9) rfl dX8_fell_214 ?_
                    refine lv_aload_n hx hb dX8_fell_217 rfl (lv_at hl 1 rfl) ?_
                    refine va_get (D := (dC, dI)) (ci := 8) (v := .long (tc52 22)) (C := RX8) (T := TX8) (N := 27) hx hb hts nX8_fell_8 hown hK hP 0 rfl rfl 22 (by decide) (hts _ qX8_fell_7) (fun _ h9 => h9) rfl dX8_fell_218 ?_
                    refine W.lcmp hx hb dX8_fell_221 ?_
                    refine lv_if_ne (tgt := 231) hx hb dX8_fell_222 (by decide) (fun c54 => ?_) (fun c54 => ?_)
                    · have hf := q_f c54 hf
                      refine lv_aload_n hx hb dX8_fell_231 rfl (lv_at hl 1 rfl) ?_
                      refine va_get (D := (dC, dI)) (ci := 8) (v := .long (tc52 22)) (C := RX8) (T := TX8) (N := 27) hx hb hts nX8_fell_8 hown hK hP 0 rfl rfl 22 (by decide) (hts _ qX8_fell_7) (fun _ h9 => h9) rfl dX8_fell_232 ?_
                      refine lv_lload hx hb dX8_fell_235 (lv_at hl 0 rfl) ?_
                      refine lv_lsub hx hb dX8_fell_237 ?_
                      refine lv_aload_n hx hb dX8_fell_238 rfl (lv_at hl 1 rfl) ?_
                      refine va_get (D := (dC, dI)) (ci := 8) (v := .long (tc52 22)) (C := RX8) (T := TX8) (N := 27) hx hb hts nX8_fell_8 hown hK hP 0 rfl rfl 22 (by decide) (hts _ qX8_fell_7) (fun _ h9 => h9) rfl dX8_fell_239 ?_
                      refine lv_aload_n hx hb dX8_fell_242 rfl (lv_at hl 1 rfl) ?_
                      refine va_get (D := (dC, dI)) (ci := 8) (v := .long (tc52 21)) (C := RX8) (T := TX8) (N := 27) hx hb hts nX8_fell_8 hown hK hP 0 rfl rfl 21 (by decide) (hts _ qX8_fell_6) (fun _ h9 => h9) rfl dX8_fell_243 ?_
                      refine lv_lsub hx hb dX8_fell_246 ?_
                      refine lv_iload hx hb dX8_fell_247 (lv_at hl 2 rfl) ?_
                      obtain ⟨r55, h56, hf⟩ := q_b1o hf
                      refine q_roSl (As := [.long ((tc52 22) - x47), .long ((tc52 22) - (tc52 21)), .int p5]) (rest := []) ⟨hx, hb, hml, hown, hts⟩ (kX8_partOf l ((tc52 22) - x47) ((tc52 22) - (tc52 21)) p5 r55 h56) (va_cwS 3 hts gX8_fell_X8_partOf rfl rfl rfl hdX8_partOf ⟨Nat.le_of_ble_eq_true rfl, Nat.le_of_ble_eq_true rfl⟩) rfl hl.1 rfl (Nat.le_of_ble_eq_true rfl) dX8_fell_249 ⟨Nat.zero_le _, Nat.zero_le _⟩ ?_
                      obtain ⟨ee0, ee1, ee2⟩ := q_s3 hf
                      subst ee1
                      subst ee2
                      exact q_wretL hx hb hr hlk hAe hK hP hD hS ee0 dX8_fell_252
                    · have hf := q_t c54 hf
                      refine lv_iload hx hb dX8_fell_225 (lv_at hl 2 rfl) ?_
                      refine lv_i2l (v := p5.toInt64) hx hb dX8_fell_227 rfl ?_
                      refine lv_goto (tgt := 252) hx hb dX8_fell_228 (by decide) ?_
                      obtain ⟨ee0, ee1, ee2⟩ := q_s3 hf
                      subst ee1
                      subst ee2
                      exact q_wretL hx hb hr hlk hAe hK hP hD hS ee0 dX8_fell_252
                  have hf := hqj51
                  refine lv_if_le (tgt := 208) hx hb dX8_fell_184 (by decide) (fun c57 => ?_) (fun c57 => ?_)
                  · have hf := q_t c57 hf
                    refine lv_bipush (v := 10) hx hb dX8_fell_208 (by decide) ?_
                    exact kj51 (10 : Int32) (q_s1 hf) _ _ hP hD hS _ (lv_sub hl [0, 2, 5] rfl)
                  · have hf := q_f c57 hf
                    refine lv_bipush (v := 10) hx hb dX8_fell_187 (by decide) ?_
                    refine lv_aload_n hx hb dX8_fell_189 rfl (lv_at hl 2 rfl) ?_
                    refine lv_iload hx hb dX8_fell_190 (lv_at hl 4 rfl) ?_
                    obtain ⟨r58, h59, hf⟩ := q_b1o hf
                    refine q_roVi (As := [.int p4]) (rest := [.int (10 : Int32), .ref o0]) (ci := 8) ⟨hx, hb, hml, hown, hts⟩ (kX8_loose l dC dI cI cB cZ o0 a0 sn1 z25 p4 r58 h59) (cwV 1 hts gX8_fell_X8_loose rfl rfl rfl hdX8_loose ⟨Nat.le_of_ble_eq_true rfl, Nat.le_of_ble_eq_true rfl⟩) hK hP rfl rfl rfl hl.1 rfl (Nat.le_of_ble_eq_true rfl) dX8_fell_192 ⟨Nat.zero_le _, Nat.zero_le _⟩ ?_
                    refine lv_aload_n hx hb dX8_fell_195 rfl (lv_at hl 2 rfl) ?_
                    refine va_get (D := (dC, dI)) (ci := 8) (v := .ref (a0 5)) (C := RX8) (T := TX8) (N := 27) hx hb hts nX8_fell_8 hown hK hP 0 rfl rfl 5 (by decide) (hts _ qX8_fell_8) (fun _ h9 => h9) rfl dX8_fell_196 ?_
                    refine lv_iconst (v := 3) hx hb dX8_fell_199 (by decide) ?_
                    refine lv_iload_n hx hb dX8_fell_200 rfl (lv_at hl 3 rfl) ?_
                    refine lv_iadd hx hb dX8_fell_201 ?_
                    obtain ⟨c60, hf⟩ := q_ck hf
                    refine va_iald hx hb hK hP 4 0 rfl rfl c60 dX8_fell_202 ?_
                    refine lv_imul hx hb dX8_fell_203 ?_
                    refine lv_isub hx hb dX8_fell_204 ?_
                    refine lv_goto (tgt := 210) hx hb dX8_fell_205 (by decide) ?_
                    exact kj51 ((10 : Int32) - (r58 * (sn1 5 ((3 : Int32) + p3).toNatClampNeg))) (q_s1 hf) _ _ hP hD hS _ (lv_sub hl [0, 2, 5] rfl)
                · have hf := q_t c46 hf
                  refine lv_iload hx hb dX8_fell_163 (lv_at hl 0 rfl) ?_
                  refine lv_i2l (v := z24.toInt64) hx hb dX8_fell_165 rfl ?_
                  obtain ⟨ee0, ee1, ee2⟩ := q_s3 hf
                  subst ee1
                  subst ee2
                  exact q_wretL hx hb hr hlk hAe hK hP hD hS ee0 dX8_fell_166
              have aihn23 : ∀ n23 : Nat, ∀ l6_20 : Int32, ∀ l7_21 : Int32, ∀ tl22 : Lt, fX8_fell_L79 p1 p2 p4 sn1 n23 l6_20 l7_21 tl22 = some (oz24, oz25) → ∀ (H : Heap) (locs : List Loc), va_P (dC, dI) vwCl (wcM cI cZ o0 a0 sn1 tl22) H → va_D A (wcM cI cZ o0 a0 sn1 tl22) → va_S A s.heap H locs → ∀ ls : Array Slot, lv_has ls 9 [(7, .int l7_21), (6, .int l6_20), (0, .ref o0), (1, .int p1), (2, .int p2), (3, .int p3), (4, .int p4), (5, .int p5)] → W p l e ({ frames := 3, cells := 0, slots := 0, locals := 72 } : Room) s m [.ref o0, .int p1, .int p2, .int p3, .int p4, .int p5].toArray below meth c H locs 0 0 (MQ below (qlW (dC, dI) (q_ty cI cB cZ) (wcM cI cZ o0 a0 s0 t0) (wcM cI cZ o0 a0 z0 y0) sz r) [.ref o0, .int p1, .int p2, .int p3, .int p4, .int p5].toArray s 0 0 (va_A (wcM cI cZ o0 a0 s0 t0) sz)) (F0 m 79 ls []) := by
                intro n23
                induction n23 with
                | zero =>
                  intro l6_20 l7_21 tl22 hf
                  exact q_no hf
                | succ n23 ihn23 =>
                  intro l6_20 l7_21 tl22 hf H locs hP hD hS ls hl
                  rw [fX8_fell_L79] at hf
                  refine lv_iload hx hb dX8_fell_79 (lv_at hl 0 rfl) ?_
                  refine lv_aload_n hx hb dX8_fell_81 rfl (lv_at hl 2 rfl) ?_
                  refine va_get (D := (dC, dI)) (ci := 8) (v := .ref (a0 5)) (C := RX8) (T := TX8) (N := 27) hx hb hts nX8_fell_8 hown hK hP 0 rfl rfl 5 (by decide) (hts _ qX8_fell_8) (fun _ h9 => h9) rfl dX8_fell_82 ?_
                  refine lv_iconst (v := 0) hx hb dX8_fell_85 (by decide) ?_
                  obtain ⟨c26, hf⟩ := q_ck hf
                  refine va_iald hx hb hK hP 4 0 rfl rfl c26 dX8_fell_86 ?_
                  refine lv_icmp_ge (tgt := 157) hx hb dX8_fell_87 (by decide) (fun c27 => ?_) (fun c27 => ?_)
                  · have hf := q_t c27 hf
                    obtain ⟨w0, w1⟩ := q_s2 hf
                    exact kxn23 l6_20 tl22 w0 w1 _ _ hP hD hS _ (lv_sub hl [1, 2, 5, 6, 7] rfl)
                  · have hf := q_f c27 hf
                    refine lv_aload_n hx hb dX8_fell_90 rfl (lv_at hl 2 rfl) ?_
                    refine lv_iload hx hb dX8_fell_91 (lv_at hl 0 rfl) ?_
                    refine lv_iload_n hx hb dX8_fell_93 rfl (lv_at hl 3 rfl) ?_
                    refine lv_iload_n hx hb dX8_fell_94 rfl (lv_at hl 4 rfl) ?_
                    refine lv_iconst (v := 0) hx hb dX8_fell_95 (by decide) ?_
                    obtain ⟨r28, h29, hf⟩ := q_b1o hf
                    refine q_roVi (As := [.int l7_21, .int p1, .int p2, .int (0 : Int32)]) (rest := []) (ci := 8) ⟨hx, hb, hml, hown, hts⟩ (kX8_doesMind l dC dI cI cB cZ o0 a0 sn1 tl22 l7_21 p1 p2 (0 : Int32) r28 h29) (cwV 4 hts gX8_fell_X8_doesMind rfl rfl rfl hdX8_doesMind ⟨Nat.le_of_ble_eq_true rfl, Nat.le_of_ble_eq_true rfl⟩) hK hP rfl rfl rfl hl.1 rfl (Nat.le_of_ble_eq_true rfl) dX8_fell_96 ⟨Nat.zero_le _, Nat.zero_le _⟩ ?_
                    obtain ⟨ov30, otj31, hqj32, hf⟩ := q_b2o hf
                    have kj32 : ∀ v30 : Int32, ∀ tj31 : Lt, v30 = ov30 → tj31 = otj31 → ∀ (H : Heap) (locs : List Loc), va_P (dC, dI) vwCl (wcM cI cZ o0 a0 sn1 tj31) H → va_D A (wcM cI cZ o0 a0 sn1 tj31) → va_S A s.heap H locs → ∀ ls : Array Slot, lv_has ls 9 [(7, .int l7_21), (6, .int v30), (0, .ref o0), (1, .int p1), (2, .int p2), (3, .int p3), (4, .int p4), (5, .int p5)] → W p l e ({ frames := 3, cells := 0, slots := 0, locals := 72 } : Room) s m [.ref o0, .int p1, .int p2, .int p3, .int p4, .int p5].toArray below meth c H locs 0 0 (MQ below (qlW (dC, dI) (q_ty cI cB cZ) (wcM cI cZ o0 a0 s0 t0) (wcM cI cZ o0 a0 z0 y0) sz r) [.ref o0, .int p1, .int p2, .int p3, .int p4, .int p5].toArray s 0 0 (va_A (wcM cI cZ o0 a0 s0 t0) sz)) (F0 m 151 ls []) := by
                      intro v30 tj31 ev30 etj31 H locs hP hD hS ls hl
                      subst ev30
                      subst etj31
                      refine lv_iinc (v := l7_21 + (1 : Int32)) (lv' := [(7, .int (l7_21 + (1 : Int32))), (6, .int v30), (0, .ref o0), (1, .int p1), (2, .int p2), (3, .int p3), (4, .int p4), (5, .int p5)]) hx hb dX8_fell_151 hl (k := 0) rfl rfl (by decide) rfl (fun ls hl => ?_)
                      refine lv_goto (tgt := 79) hx hb dX8_fell_154 (by decide) ?_
                      exact ihn23 v30 (l7_21 + (1 : Int32)) tj31 hf _ _ hP hD hS _ hl
                    have hf := hqj32
                    refine lv_if_eq (tgt := 151) hx hb dX8_fell_99 (by decide) (fun c33 => ?_) (fun c33 => ?_)
                    · have hf := q_t c33 hf
                      obtain ⟨w0, w1⟩ := q_s2 hf
                      exact kj32 l6_20 tl22 w0 w1 _ _ hP hD hS _ hl
                    · have hf := q_f c33 hf
                      refine lv_aload_n hx hb dX8_fell_102 rfl (lv_at hl 2 rfl) ?_
                      refine lv_iload hx hb dX8_fell_103 (lv_at hl 0 rfl) ?_
                      refine lv_iconst (v := 0) hx hb dX8_fell_105 (by decide) ?_
                      obtain ⟨r34, h35, hf⟩ := q_b1o hf
                      refine q_roVi (As := [.int l7_21, .int (0 : Int32)]) (rest := []) (ci := 8) ⟨hx, hb, hml, hown, hts⟩ (kX8_itsTree l dC dI cI cB cZ o0 a0 sn1 tl22 l7_21 (0 : Int32) r34 h35) (cwV 2 hts gX8_fell_X8_itsTree rfl rfl rfl hdX8_itsTree ⟨Nat.le_of_ble_eq_true rfl, Nat.le_of_ble_eq_true rfl⟩) hK hP rfl rfl rfl hl.1 rfl (Nat.le_of_ble_eq_true rfl) dX8_fell_106 ⟨Nat.zero_le _, Nat.zero_le _⟩ ?_
                      refine lv_iload hx hb dX8_fell_109 (lv_at hl 6 rfl) ?_
                      refine lv_icmp_ne (tgt := 151) hx hb dX8_fell_111 (by decide) (fun c36 => ?_) (fun c36 => ?_)
                      · have hf := q_f c36 hf
                        obtain ⟨w0, w1⟩ := q_s2 hf
                        exact kj32 l6_20 tl22 w0 w1 _ _ hP hD hS _ hl
                      · have hf := q_t c36 hf
                        refine lv_aload_n hx hb dX8_fell_114 rfl (lv_at hl 2 rfl) ?_
                        refine lv_bipush (v := 10) hx hb dX8_fell_115 (by decide) ?_
                        refine lv_aload_n hx hb dX8_fell_117 rfl (lv_at hl 2 rfl) ?_
                        refine lv_iload hx hb dX8_fell_118 (lv_at hl 0 rfl) ?_
                        refine lv_iconst (v := 2) hx hb dX8_fell_120 (by decide) ?_
                        obtain ⟨r37, h38, hf⟩ := q_b1o hf
                        refine q_roVi (As := [.int l7_21, .int (2 : Int32)]) (rest := [.int (10 : Int32), .ref o0]) (ci := 8) ⟨hx, hb, hml, hown, hts⟩ (kX8_ofGrave l dC dI cI cB cZ o0 a0 sn1 tl22 l7_21 (2 : Int32) r37 h38) (cwV 2 hts gX8_fell_X8_ofGrave rfl rfl rfl hdX8_ofGrave ⟨Nat.le_of_ble_eq_true rfl, Nat.le_of_ble_eq_true rfl⟩) hK hP rfl rfl rfl hl.1 rfl (Nat.le_of_ble_eq_true rfl) dX8_fell_121 ⟨Nat.zero_le _, Nat.zero_le _⟩ ?_
                        refine lv_isub hx hb dX8_fell_124 ?_
                        obtain ⟨tc39, h40, hf⟩ := q_b1o hf
                        refine q_rwVv (As := [.int ((10 : Int32) - r37)]) (rest := []) (ci := 8) (wr := []) (w2 := (wcM cI cZ o0 a0 sn1 tc39)) ⟨hx, hb, hml, hown, hts⟩ (kX8_times l dC dI cI cB cZ o0 a0 sn1 tl22 ((10 : Int32) - r37) H.size tc39 h40) (cwV 1 hts gX8_fell_X8_times rfl rfl rfl hdX8_times ⟨Nat.le_of_ble_eq_true rfl, Nat.le_of_ble_eq_true rfl⟩) hK hP hD hS hA [0, 1, 2, 3, 4, 5, 6, 7, 8, 9, 10] [] [0, 1, 2, 3, 4, 5, 6, 7, 8, 9, 10] rfl rfl (by decide) (by decide) (by decide) rfl (by decide) rfl rfl rfl hl.1 rfl (Nat.le_of_ble_eq_true rfl) dX8_fell_125 ⟨Nat.zero_le _, Nat.zero_le _⟩ (fun H locs hP hD hS => ?_)
                        refine lv_iload hx hb dX8_fell_128 (lv_at hl 1 rfl) ?_
                        refine lv_aload_n hx hb dX8_fell_130 rfl (lv_at hl 2 rfl) ?_
                        refine lv_iload hx hb dX8_fell_131 (lv_at hl 0 rfl) ?_
                        refine lv_iconst (v := 2) hx hb dX8_fell_133 (by decide) ?_
                        obtain ⟨r41, h42, hf⟩ := q_b1o hf
                        refine q_roVi (As := [.int l7_21, .int (2 : Int32)]) (rest := [.int l6_20]) (ci := 8) ⟨hx, hb, hml, hown, hts⟩ (kX8_ofGrave l dC dI cI cB cZ o0 a0 sn1 tc39 l7_21 (2 : Int32) r41 h42) (cwV 2 hts gX8_fell_X8_ofGrave rfl rfl rfl hdX8_ofGrave ⟨Nat.le_of_ble_eq_true rfl, Nat.le_of_ble_eq_true rfl⟩) hK hP rfl rfl rfl hl.1 rfl (Nat.le_of_ble_eq_true rfl) dX8_fell_134 ⟨Nat.zero_le _, Nat.zero_le _⟩ ?_
                        obtain ⟨ov43, hqj44, hf⟩ := q_b1o hf
                        have kj44 : ∀ v43 : Int32, v43 = ov43 → ∀ (H : Heap) (locs : List Loc), va_P (dC, dI) vwCl (wcM cI cZ o0 a0 sn1 tc39) H → va_D A (wcM cI cZ o0 a0 sn1 tc39) → va_S A s.heap H locs → ∀ ls : Array Slot, lv_has ls 9 [(7, .int l7_21), (0, .ref o0), (1, .int p1), (2, .int p2), (3, .int p3), (4, .int p4), (5, .int p5)] → W p l e ({ frames := 3, cells := 0, slots := 0, locals := 72 } : Room) s m [.ref o0, .int p1, .int p2, .int p3, .int p4, .int p5].toArray below meth c H locs 0 0 (MQ below (qlW (dC, dI) (q_ty cI cB cZ) (wcM cI cZ o0 a0 s0 t0) (wcM cI cZ o0 a0 z0 y0) sz r) [.ref o0, .int p1, .int p2, .int p3, .int p4, .int p5].toArray s 0 0 (va_A (wcM cI cZ o0 a0 s0 t0) sz)) (F0 m 148 ls [.int v43, .int l6_20]) := by
                          intro v43 ev43 H locs hP hD hS ls hl
                          subst ev43
                          refine lv_ior hx hb dX8_fell_148 ?_
                          refine lv_istore (lv' := [(6, .int (l6_20 ||| v43)), (7, .int l7_21), (0, .ref o0), (1, .int p1), (2, .int p2), (3, .int p3), (4, .int p4), (5, .int p5)]) hx hb dX8_fell_149 hl (by decide) rfl (fun ls hl => ?_)
                          obtain ⟨w0, w1⟩ := q_s2 hf
                          exact kj32 (l6_20 ||| v43) tc39 w0 w1 _ _ hP hD hS _ (lv_sub hl [1, 0, 2, 3, 4, 5, 6, 7] rfl)
                        have hf := hqj44
                        refine lv_if_le (tgt := 147) hx hb dX8_fell_137 (by decide) (fun c45 => ?_) (fun c45 => ?_)
                        · have hf := q_t c45 hf
                          refine lv_iconst (v := 0) hx hb dX8_fell_147 (by decide) ?_
                          exact kj44 (0 : Int32) (q_s1 hf) _ _ hP hD hS _ (lv_sub hl [0, 2, 3, 4, 5, 6, 7] rfl)
                        · have hf := q_f c45 hf
                          refine lv_iconst (v := 1) hx hb dX8_fell_140 (by decide) ?_
                          refine lv_iload hx hb dX8_fell_141 (lv_at hl 0 rfl) ?_
                          refine lv_ishl hx hb dX8_fell_143 ?_
                          refine lv_goto (tgt := 148) hx hb dX8_fell_144 (by decide) ?_
                          exact kj44 ((1 : Int32) <<< (l7_21 &&& 31)) (q_s1 hf) _ _ hP hD hS _ (lv_sub hl [0, 2, 3, 4, 5, 6, 7] rfl)
              exact aihn23 5000 (0 : Int32) (0 : Int32) tn19 hqn23 _ _ hP hD hS _ hl
            · have hf := q_t c17 hf
              refine lv_ldc2 (v := -9000000000000000001) hx hb hown (hts _ qX8_fell_5) dX8_fell_59 ?_
              obtain ⟨ee0, ee1, ee2⟩ := q_s3 hf
              subst ee1
              subst ee2
              exact q_wretL hx hb hr hlk hAe hK hP hD hS ee0 dX8_fell_62
  · have hf := q_t c2 hf
    refine lv_ldc2 (v := -9000000000000000002) hx hb hown (hts _ qX8_fell_3) dX8_fell_12 ?_
    obtain ⟨ee0, ee1, ee2⟩ := q_s3 hf
    subst ee1
    subst ee2
    exact q_wretL hx hb hr hlk hAe hK hP hD hS ee0 dX8_fell_15
theorem hdX8_bits : yX8_bits.cls ≠ "java/lang/invoke/MethodHandle" ∧ yX8_bits.cls ≠ "java/lang/invoke/VarHandle" ∧ (parseMethodDescriptor yX8_bits.desc).map (fun d => d.parameters.length) = some 1 := by decide +kernel
set_option maxHeartbeats 4000000 in
set_option maxRecDepth 100000 in
theorem kX8_bits (p0 : Int32) (r : Int32) (hf : fX8_bits p0 = some r) : Met l yX8_bits wsX8_bits ({ frames := 0, cells := 0, slots := 0, locals := 0 } : Room) (pcS [.int p0]) (qiR r) 0 0 (fun _ => False) := by
  refine q_roS (cc := cX8_bits) (maxL := 3) (ret := (some .int)) (by decide +kernel) rfl (Nat.le_of_ble_eq_true rfl) ?_
  intro p e s m below meth c hx hb hr hlk hml hown hts ls hl
  have hown : s.vm.findClass RX8 = some m.cls := hown
  have hl : lv_has ls 3 [(0, .int p0)] := hl
  unfold fX8_bits at hf
  refine lv_iconst (v := 0) hx hb dX8_bits_0 (by decide) ?_
  refine lv_istore_n (lv' := [(1, .int (0 : Int32)), (0, .int p0)]) hx hb dX8_bits_1 rfl hl (by decide) rfl (fun ls hl => ?_)
  refine lv_iconst (v := 0) hx hb dX8_bits_2 (by decide) ?_
  refine lv_istore_n (lv' := [(2, .int (0 : Int32)), (1, .int (0 : Int32)), (0, .int p0)]) hx hb dX8_bits_3 rfl hl (by decide) rfl (fun ls hl => ?_)
  obtain ⟨oz4, hqn3, hf⟩ := q_b1o hf
  have kxn3 : ∀ z4 : Int32, z4 = oz4 → ∀ ls : Array Slot, lv_has ls 3 [(1, .int z4)] → W p l e ({ frames := 0, cells := 0, slots := 0, locals := 0 } : Room) s m [.int p0].toArray below meth c s.heap [] 0 0 (MQ below (qiR r) [.int p0].toArray s 0 0 (fun _ => False)) (F0 m 23 ls []) := by
    intro z4 ez4 ls hl
    subst ez4
    refine lv_iload_n hx hb dX8_bits_23 rfl (lv_at hl 0 rfl) ?_
    have ee0 := q_s1 hf
    exact q_retI hx hb hr hlk ee0 dX8_bits_24
  have aihn3 : ∀ n3 : Nat, ∀ l1_1 : Int32, ∀ l2_2 : Int32, fX8_bits_L4 p0 n3 l1_1 l2_2 = some oz4 → ∀ ls : Array Slot, lv_has ls 3 [(2, .int l2_2), (1, .int l1_1), (0, .int p0)] → W p l e ({ frames := 0, cells := 0, slots := 0, locals := 0 } : Room) s m [.int p0].toArray below meth c s.heap [] 0 0 (MQ below (qiR r) [.int p0].toArray s 0 0 (fun _ => False)) (F0 m 4 ls []) := by
    intro n3
    induction n3 with
    | zero =>
      intro l1_1 l2_2 hf
      exact q_no hf
    | succ n3 ihn3 =>
      intro l1_1 l2_2 hf ls hl
      rw [fX8_bits_L4] at hf
      refine lv_iload_n hx hb dX8_bits_4 rfl (lv_at hl 0 rfl) ?_
      refine lv_iconst (v := 4) hx hb dX8_bits_5 (by decide) ?_
      refine lv_icmp_ge (tgt := 23) hx hb dX8_bits_6 (by decide) (fun c5 => ?_) (fun c5 => ?_)
      · have hf := q_t c5 hf
        exact kxn3 l1_1 (q_s1 hf) _ (lv_sub hl [1] rfl)
      · have hf := q_f c5 hf
        refine lv_iload_n hx hb dX8_bits_9 rfl (lv_at hl 1 rfl) ?_
        refine lv_iload_n hx hb dX8_bits_10 rfl (lv_at hl 2 rfl) ?_
        refine lv_iload_n hx hb dX8_bits_11 rfl (lv_at hl 0 rfl) ?_
        refine lv_ishr hx hb dX8_bits_12 ?_
        refine lv_iconst (v := 1) hx hb dX8_bits_13 (by decide) ?_
        refine lv_iand hx hb dX8_bits_14 ?_
        refine lv_iadd hx hb dX8_bits_15 ?_
        obtain ⟨x6, ex6, hf⟩ := q_lto hf
        refine W.eq (g2 := F0 m 16 ls [.int x6]) (by rw [ex6]) ?_
        refine lv_istore_n (lv' := [(1, .int x6), (2, .int l2_2), (0, .int p0)]) hx hb dX8_bits_16 rfl hl (by decide) rfl (fun ls hl => ?_)
        refine lv_iinc (v := l2_2 + (1 : Int32)) (lv' := [(2, .int (l2_2 + (1 : Int32))), (1, .int x6), (0, .int p0)]) hx hb dX8_bits_17 hl (k := 1) rfl rfl (by decide) rfl (fun ls hl => ?_)
        refine lv_goto (tgt := 4) hx hb dX8_bits_20 (by decide) ?_
        exact ihn3 x6 (l2_2 + (1 : Int32)) hf _ hl
  exact aihn3 5000 (0 : Int32) (0 : Int32) hqn3 _ hl
theorem hdX8_picks : yX8_picks.cls = RX8 ∧ yX8_picks.cls ≠ "java/lang/invoke/MethodHandle" ∧ yX8_picks.cls ≠ "java/lang/invoke/VarHandle" ∧ (parseMethodDescriptor yX8_picks.desc).map (fun d => d.parameters.length) = some 4 := by decide +kernel
theorem qX8_picks_1 : (Cond.fieldLink RX8 41 "DeadAskedModel" "thrown" "I") ∈ wsX8_picks := List.mem_of_getElem? (i := 1) (by decide +kernel)
theorem qX8_picks_2 : (Cond.fieldLink RX8 184 "DeadAskedModel" "isThere" "Z") ∈ wsX8_picks := List.mem_of_getElem? (i := 2) (by decide +kernel)
theorem qX8_picks_3 : (Cond.constantLong RX8 223 (-9000000000000000002)) ∈ wsX8_picks := List.mem_of_getElem? (i := 3) (by decide +kernel)
theorem qX8_picks_4 : (Cond.constantLong RX8 289 1000) ∈ wsX8_picks := List.mem_of_getElem? (i := 4) (by decide +kernel)
theorem qX8_picks_5 : (Cond.constantLong RX8 62 (-9000000000000000001)) ∈ wsX8_picks := List.mem_of_getElem? (i := 5) (by decide +kernel)
theorem qX8_picks_6 : (Cond.constant RX8 80 (-1000000)) ∈ wsX8_picks := List.mem_of_getElem? (i := 6) (by decide +kernel)
theorem qX8_picks_7 : (Cond.fieldLink RX8 19 "DeadAskedModel" "hill" "[I") ∈ wsX8_picks := List.mem_of_getElem? (i := 7) (by decide +kernel)
theorem qX8_picks_8 : (Cond.fieldLink RX8 266 "DeadAskedModel" "above" "J") ∈ wsX8_picks := List.mem_of_getElem? (i := 8) (by decide +kernel)
theorem qX8_picks_9 : (Cond.fieldLink RX8 269 "DeadAskedModel" "below" "J") ∈ wsX8_picks := List.mem_of_getElem? (i := 9) (by decide +kernel)
theorem nX8_picks_8 : ∀ w ∈ u_ws RX8 TX8 27, w ∈ wsX8_picks := fun _ h => (List.mem_cons_of_mem _ (List.mem_append_right _ h))
set_option maxHeartbeats 4000000 in
set_option maxRecDepth 100000 in
theorem kX8_picks (o0 : Nat) (a0 : Nat → Nat) (s0 : St) (t0 : Lt) (p1 : Int32) (p2 : Int32) (p3 : Int32) (p4 : Int32) (sz : Nat) (r : Int64) (z0 : St) (y0 : Lt) (hf : fX8_picks s0 t0 p1 p2 p3 p4 = some (r, z0, y0)) : Met l yX8_picks wsX8_picks ({ frames := 5, cells := 0, slots := 0, locals := 121 } : Room) (pcW (dC, dI) (q_ty cI cB cZ) [.ref o0, .int p1, .int p2, .int p3, .int p4] (wcM cI cZ o0 a0 s0 t0) sz) (qlW (dC, dI) (q_ty cI cB cZ) (wcM cI cZ o0 a0 s0 t0) (wcM cI cZ o0 a0 z0 y0) sz r) 0 0 (va_A (wcM cI cZ o0 a0 s0 t0) sz) := by
  refine q_rwM (cc := cX8_picks) (maxL := 8) (ret := (some .long)) (by decide +kernel) rfl (Nat.le_of_ble_eq_true rfl) ?_
  intro p e s m below meth c hx hb hr hlk hml hown hts hK A H hAe hH hsz hP hD hA hS ls hl
  have hown : s.vm.findClass RX8 = some m.cls := hown
  have hl : lv_has ls 8 [(0, .ref o0), (1, .int p1), (2, .int p2), (3, .int p3), (4, .int p4)] := hl
  unfold fX8_picks at hf
  refine lv_aload_n hx hb dX8_picks_0 rfl (lv_at hl 0 rfl) ?_
  refine lv_iconst (v := 0) hx hb dX8_picks_1 (by decide) ?_
  obtain ⟨sn1, esn1, hf⟩ := q_lto hf
  refine va_put (D := (dC, dI)) (ci := 8) (v := .int (0 : Int32)) (ty := .int) (C := RX8) (T := TX8) (N := 27) hx hb hts nX8_picks_8 tyX8 tyX8_ok nmX8 hown hK hP hD hS 0 rfl rfl 0 (by decide) (hts _ qX8_picks_1) (fun _ h9 => h9) rfl (by decide +kernel) rfl rfl (Nat.le_of_ble_eq_true rfl) dX8_picks_2 (fun H locs hP hD hS => ?_)
  have hP : va_P (dC, dI) vwCl (wcM cI cZ o0 a0 sn1 t0) H := by rw [esn1]; exact hP
  have hD : va_D A (wcM cI cZ o0 a0 sn1 t0) := by rw [esn1]; exact hD
  refine lv_aload_n hx hb dX8_picks_5 rfl (lv_at hl 0 rfl) ?_
  refine va_get (D := (dC, dI)) (ci := 8) (v := .int (sn1 7 0)) (C := RX8) (T := TX8) (N := 27) hx hb hts nX8_picks_8 hown hK hP 0 rfl rfl 7 (by decide) (hts _ qX8_picks_2) (fun _ h9 => h9) rfl dX8_picks_6 ?_
  refine lv_if_ne (tgt := 16) hx hb dX8_picks_9 (by decide) (fun c2 => ?_) (fun c2 => ?_)
  · have hf := q_f c2 hf
    refine lv_iload_n hx hb dX8_picks_16 rfl (lv_at hl 1 rfl) ?_
    obtain ⟨r3, h4, hf⟩ := q_b1o hf
    refine q_roSi (As := [.int p1]) (rest := []) ⟨hx, hb, hml, hown, hts⟩ (kX8_isMatter l p1 r3 h4) (va_cwS 1 hts gX8_picks_X8_isMatter rfl rfl rfl hdX8_isMatter ⟨Nat.le_of_ble_eq_true rfl, Nat.le_of_ble_eq_true rfl⟩) rfl hl.1 rfl (Nat.le_of_ble_eq_true rfl) dX8_picks_17 ⟨Nat.zero_le _, Nat.zero_le _⟩ ?_
    refine lv_if_eq (tgt := 50) hx hb dX8_picks_20 (by decide) (fun c5 => ?_) (fun c5 => ?_)
    · have hf := q_t c5 hf
      refine lv_ldc2 (v := -9000000000000000001) hx hb hown (hts _ qX8_picks_5) dX8_picks_50 ?_
      obtain ⟨ee0, ee1, ee2⟩ := q_s3 hf
      subst ee1
      subst ee2
      exact q_wretL hx hb hr hlk hAe hK hP hD hS ee0 dX8_picks_53
    · have hf := q_f c5 hf
      refine lv_iload_n hx hb dX8_picks_23 rfl (lv_at hl 2 rfl) ?_
      obtain ⟨r6, h7, hf⟩ := q_b1o hf
      refine q_roSi (As := [.int p2]) (rest := []) ⟨hx, hb, hml, hown, hts⟩ (kX8_areHorns l p2 r6 h7) (va_cwS 1 hts gX8_picks_X8_areHorns rfl rfl rfl hdX8_areHorns ⟨Nat.le_of_ble_eq_true rfl, Nat.le_of_ble_eq_true rfl⟩) rfl hl.1 rfl (Nat.le_of_ble_eq_true rfl) dX8_picks_24 ⟨Nat.zero_le _, Nat.zero_le _⟩ ?_
      refine lv_if_eq (tgt := 50) hx hb dX8_picks_27 (by decide) (fun c8 => ?_) (fun c8 => ?_)
      · have hf := q_t c8 hf
        refine lv_ldc2 (v := -9000000000000000001) hx hb hown (hts _ qX8_picks_5) dX8_picks_50 ?_
        obtain ⟨ee0, ee1, ee2⟩ := q_s3 hf
        subst ee1
        subst ee2
        exact q_wretL hx hb hr hlk hAe hK hP hD hS ee0 dX8_picks_53
      · have hf := q_f c8 hf
        refine lv_iload_n hx hb dX8_picks_30 rfl (lv_at hl 3 rfl) ?_
        obtain ⟨r9, h10, hf⟩ := q_b1o hf
        refine q_roSi (As := [.int p3]) (rest := []) ⟨hx, hb, hml, hown, hts⟩ (kX8_isHour l p3 r9 h10) (va_cwS 1 hts gX8_picks_X8_isHour rfl rfl rfl hdX8_isHour ⟨Nat.le_of_ble_eq_true rfl, Nat.le_of_ble_eq_true rfl⟩) rfl hl.1 rfl (Nat.le_of_ble_eq_true rfl) dX8_picks_31 ⟨Nat.zero_le _, Nat.zero_le _⟩ ?_
        refine lv_if_eq (tgt := 50) hx hb dX8_picks_34 (by decide) (fun c11 => ?_) (fun c11 => ?_)
        · have hf := q_t c11 hf
          refine lv_ldc2 (v := -9000000000000000001) hx hb hown (hts _ qX8_picks_5) dX8_picks_50 ?_
          obtain ⟨ee0, ee1, ee2⟩ := q_s3 hf
          subst ee1
          subst ee2
          exact q_wretL hx hb hr hlk hAe hK hP hD hS ee0 dX8_picks_53
        · have hf := q_f c11 hf
          refine lv_iload hx hb dX8_picks_37 (lv_at hl 4 rfl) ?_
          refine lv_i2l (v := p4.toInt64) hx hb dX8_picks_39 rfl ?_
          refine lv_lconst (v := 0) hx hb dX8_picks_40 (by decide) ?_
          refine lv_ldc2 (v := 1000) hx hb hown (hts _ qX8_picks_4) dX8_picks_41 ?_
          obtain ⟨r12, h13, hf⟩ := q_b1o hf
          refine q_roSi (As := [.long p4.toInt64, .long (0 : Int64), .long (1000 : Int64)]) (rest := []) ⟨hx, hb, hml, hown, hts⟩ (kX8_in l p4.toInt64 (0 : Int64) (1000 : Int64) r12 h13) (va_cwS 3 hts gX8_picks_X8_in rfl rfl rfl hdX8_in ⟨Nat.le_of_ble_eq_true rfl, Nat.le_of_ble_eq_true rfl⟩) rfl hl.1 rfl (Nat.le_of_ble_eq_true rfl) dX8_picks_44 ⟨Nat.zero_le _, Nat.zero_le _⟩ ?_
          refine lv_if_ne (tgt := 54) hx hb dX8_picks_47 (by decide) (fun c14 => ?_) (fun c14 => ?_)
          · have hf := q_f c14 hf
            refine lv_ldc (v := -1000000) hx hb hown (hts _ qX8_picks_6) dX8_picks_54 ?_
            refine lv_istore (lv' := [(5, .int (-1000000 : Int32)), (0, .ref o0), (1, .int p1), (2, .int p2), (3, .int p3), (4, .int p4)]) hx hb dX8_picks_56 hl (by decide) rfl (fun ls hl => ?_)
            refine lv_iconst (v := 0) hx hb dX8_picks_58 (by decide) ?_
            refine lv_istore (lv' := [(6, .int (0 : Int32)), (5, .int (-1000000 : Int32)), (0, .ref o0), (1, .int p1), (2, .int p2), (3, .int p3), (4, .int p4)]) hx hb dX8_picks_59 hl (by decide) rfl (fun ls hl => ?_)
            obtain ⟨oz19, oz20, hqn18, hf⟩ := q_b2o hf
            have kxn18 : ∀ z19 : Int32, ∀ z20 : Lt, z19 = oz19 → z20 = oz20 → ∀ (H : Heap) (locs : List Loc), va_P (dC, dI) vwCl (wcM cI cZ o0 a0 sn1 z20) H → va_D A (wcM cI cZ o0 a0 sn1 z20) → va_S A s.heap H locs → ∀ ls : Array Slot, lv_has ls 8 [(5, .int z19)] → W p l e ({ frames := 5, cells := 0, slots := 0, locals := 121 } : Room) s m [.ref o0, .int p1, .int p2, .int p3, .int p4].toArray below meth c H locs 0 0 (MQ below (qlW (dC, dI) (q_ty cI cB cZ) (wcM cI cZ o0 a0 s0 t0) (wcM cI cZ o0 a0 z0 y0) sz r) [.ref o0, .int p1, .int p2, .int p3, .int p4].toArray s 0 0 (va_A (wcM cI cZ o0 a0 s0 t0) sz)) (F0 m 150 ls []) := by
              intro z19 z20 ez19 ez20 H locs hP hD hS ls hl
              subst ez19
              subst ez20
              refine lv_iload hx hb dX8_picks_150 (lv_at hl 0 rfl) ?_
              refine lv_i2l (v := z19.toInt64) hx hb dX8_picks_152 rfl ?_
              obtain ⟨ee0, ee1, ee2⟩ := q_s3 hf
              subst ee1
              subst ee2
              exact q_wretL hx hb hr hlk hAe hK hP hD hS ee0 dX8_picks_153
            have aihn18 : ∀ n18 : Nat, ∀ l5_15 : Int32, ∀ l6_16 : Int32, ∀ tl17 : Lt, fX8_picks_L61 p1 p2 p3 p4 sn1 n18 l5_15 l6_16 tl17 = some (oz19, oz20) → ∀ (H : Heap) (locs : List Loc), va_P (dC, dI) vwCl (wcM cI cZ o0 a0 sn1 tl17) H → va_D A (wcM cI cZ o0 a0 sn1 tl17) → va_S A s.heap H locs → ∀ ls : Array Slot, lv_has ls 8 [(6, .int l6_16), (5, .int l5_15), (0, .ref o0), (1, .int p1), (2, .int p2), (3, .int p3), (4, .int p4)] → W p l e ({ frames := 5, cells := 0, slots := 0, locals := 121 } : Room) s m [.ref o0, .int p1, .int p2, .int p3, .int p4].toArray below meth c H locs 0 0 (MQ below (qlW (dC, dI) (q_ty cI cB cZ) (wcM cI cZ o0 a0 s0 t0) (wcM cI cZ o0 a0 z0 y0) sz r) [.ref o0, .int p1, .int p2, .int p3, .int p4].toArray s 0 0 (va_A (wcM cI cZ o0 a0 s0 t0) sz)) (F0 m 61 ls []) := by
              intro n18
              induction n18 with
              | zero =>
                intro l5_15 l6_16 tl17 hf
                exact q_no hf
              | succ n18 ihn18 =>
                intro l5_15 l6_16 tl17 hf H locs hP hD hS ls hl
                rw [fX8_picks_L61] at hf
                refine lv_iload hx hb dX8_picks_61 (lv_at hl 0 rfl) ?_
                refine lv_iconst (v := 1) hx hb dX8_picks_63 (by decide) ?_
                refine lv_aload_n hx hb dX8_picks_64 rfl (lv_at hl 2 rfl) ?_
                refine va_get (D := (dC, dI)) (ci := 8) (v := .ref (a0 5)) (C := RX8) (T := TX8) (N := 27) hx hb hts nX8_picks_8 hown hK hP 0 rfl rfl 5 (by decide) (hts _ qX8_picks_7) (fun _ h9 => h9) rfl dX8_picks_65 ?_
                refine lv_iconst (v := 2) hx hb dX8_picks_68 (by decide) ?_
                obtain ⟨c21, hf⟩ := q_ck hf
                refine va_iald hx hb hK hP 4 0 rfl rfl c21 dX8_picks_69 ?_
                refine lv_ishl hx hb dX8_picks_70 ?_
                refine lv_icmp_ge (tgt := 150) hx hb dX8_picks_71 (by decide) (fun c22 => ?_) (fun c22 => ?_)
                · have hf := q_t c22 hf
                  obtain ⟨w0, w1⟩ := q_s2 hf
                  exact kxn18 l5_15 tl17 w0 w1 _ _ hP hD hS _ (lv_sub hl [1] rfl)
                · have hf := q_f c22 hf
                  refine lv_aload_n hx hb dX8_picks_74 rfl (lv_at hl 2 rfl) ?_
                  refine lv_iload_n hx hb dX8_picks_75 rfl (lv_at hl 3 rfl) ?_
                  refine lv_iload_n hx hb dX8_picks_76 rfl (lv_at hl 4 rfl) ?_
                  refine lv_iload_n hx hb dX8_picks_77 rfl (lv_at hl 5 rfl) ?_
                  refine lv_iload hx hb dX8_picks_78 (lv_at hl 0 rfl) ?_
                  obtain ⟨tc23, h24, hf⟩ := q_b1o hf
                  refine q_rwVv (As := [.int p1, .int p2, .int p3, .int l6_16]) (rest := []) (ci := 8) (wr := []) (w2 := (wcM cI cZ o0 a0 sn1 tc23)) ⟨hx, hb, hml, hown, hts⟩ (kX8_layOdds l dC dI cI cB cZ o0 a0 sn1 tl17 p1 p2 p3 l6_16 H.size tc23 h24) (cwV 4 hts gX8_picks_X8_layOdds rfl rfl rfl hdX8_layOdds ⟨Nat.le_of_ble_eq_true rfl, Nat.le_of_ble_eq_true rfl⟩) hK hP hD hS hA [0, 1, 2, 3, 4, 5, 6, 7, 8, 9, 10] [] [0, 1, 2, 3, 4, 5, 6, 7, 8, 9, 10] rfl rfl (by decide) (by decide) (by decide) rfl (by decide) rfl rfl rfl hl.1 rfl (Nat.le_of_ble_eq_true rfl) dX8_picks_80 ⟨Nat.zero_le _, Nat.zero_le _⟩ (fun H locs hP hD hS => ?_)
                  refine lv_aload_n hx hb dX8_picks_83 rfl (lv_at hl 2 rfl) ?_
                  refine va_get (D := (dC, dI)) (ci := 8) (v := .long (tc23 21)) (C := RX8) (T := TX8) (N := 27) hx hb hts nX8_picks_8 hown hK hP 0 rfl rfl 21 (by decide) (hts _ qX8_picks_8) (fun _ h9 => h9) rfl dX8_picks_84 ?_
                  refine lv_ldc2 (v := 1000) hx hb hown (hts _ qX8_picks_4) dX8_picks_87 ?_
                  refine lv_lmul hx hb dX8_picks_90 ?_
                  refine lv_iload hx hb dX8_picks_91 (lv_at hl 6 rfl) ?_
                  refine lv_i2l (v := p4.toInt64) hx hb dX8_picks_93 rfl ?_
                  refine lv_aload_n hx hb dX8_picks_94 rfl (lv_at hl 2 rfl) ?_
                  refine va_get (D := (dC, dI)) (ci := 8) (v := .long (tc23 22)) (C := RX8) (T := TX8) (N := 27) hx hb hts nX8_picks_8 hown hK hP 0 rfl rfl 22 (by decide) (hts _ qX8_picks_9) (fun _ h9 => h9) rfl dX8_picks_95 ?_
                  refine lv_lmul hx hb dX8_picks_98 ?_
                  refine W.lcmp hx hb dX8_picks_99 ?_
                  obtain ⟨ov25, hqj26, hf⟩ := q_b1o hf
                  have kj26 : ∀ v25 : Int32, v25 = ov25 → ∀ (H : Heap) (locs : List Loc), va_P (dC, dI) vwCl (wcM cI cZ o0 a0 sn1 tc23) H → va_D A (wcM cI cZ o0 a0 sn1 tc23) → va_S A s.heap H locs → ∀ ls : Array Slot, lv_has ls 8 [(6, .int l6_16), (5, .int l5_15), (0, .ref o0), (1, .int p1), (2, .int p2), (3, .int p3), (4, .int p4)] → W p l e ({ frames := 5, cells := 0, slots := 0, locals := 121 } : Room) s m [.ref o0, .int p1, .int p2, .int p3, .int p4].toArray below meth c H locs 0 0 (MQ below (qlW (dC, dI) (q_ty cI cB cZ) (wcM cI cZ o0 a0 s0 t0) (wcM cI cZ o0 a0 z0 y0) sz r) [.ref o0, .int p1, .int p2, .int p3, .int p4].toArray s 0 0 (va_A (wcM cI cZ o0 a0 s0 t0) sz)) (F0 m 108 ls [.int v25]) := by
                    intro v25 ev25 H locs hP hD hS ls hl
                    subst ev25
                    refine lv_istore (lv' := [(7, .int v25), (6, .int l6_16), (5, .int l5_15), (0, .ref o0), (1, .int p1), (2, .int p2), (3, .int p3), (4, .int p4)]) hx hb dX8_picks_108 hl (by decide) rfl (fun ls hl => ?_)
                    refine lv_iload hx hb dX8_picks_110 (lv_at hl 0 rfl) ?_
                    obtain ⟨ov27, hqj28, hf⟩ := q_b1o hf
                    have kj28 : ∀ v27 : Int32, v27 = ov27 → ∀ (H : Heap) (locs : List Loc), va_P (dC, dI) vwCl (wcM cI cZ o0 a0 sn1 tc23) H → va_D A (wcM cI cZ o0 a0 sn1 tc23) → va_S A s.heap H locs → ∀ ls : Array Slot, lv_has ls 8 [(6, .int l6_16), (0, .ref o0), (1, .int p1), (2, .int p2), (3, .int p3), (4, .int p4)] → W p l e ({ frames := 5, cells := 0, slots := 0, locals := 121 } : Room) s m [.ref o0, .int p1, .int p2, .int p3, .int p4].toArray below meth c H locs 0 0 (MQ below (qlW (dC, dI) (q_ty cI cB cZ) (wcM cI cZ o0 a0 s0 t0) (wcM cI cZ o0 a0 z0 y0) sz r) [.ref o0, .int p1, .int p2, .int p3, .int p4].toArray s 0 0 (va_A (wcM cI cZ o0 a0 s0 t0) sz)) (F0 m 142 ls [.int v27]) := by
                      intro v27 ev27 H locs hP hD hS ls hl
                      subst ev27
                      refine lv_istore (lv' := [(5, .int v27), (6, .int l6_16), (0, .ref o0), (1, .int p1), (2, .int p2), (3, .int p3), (4, .int p4)]) hx hb dX8_picks_142 hl (by decide) rfl (fun ls hl => ?_)
                      refine lv_iinc (v := l6_16 + (1 : Int32)) (lv' := [(6, .int (l6_16 + (1 : Int32))), (5, .int v27), (0, .ref o0), (1, .int p1), (2, .int p2), (3, .int p3), (4, .int p4)]) hx hb dX8_picks_144 hl (k := 1) rfl rfl (by decide) rfl (fun ls hl => ?_)
                      refine lv_goto (tgt := 61) hx hb dX8_picks_147 (by decide) ?_
                      exact ihn18 v27 (l6_16 + (1 : Int32)) tc23 hf _ _ hP hD hS _ hl
                    have hf := hqj28
                    refine lv_if_eq (tgt := 140) hx hb dX8_picks_112 (by decide) (fun c29 => ?_) (fun c29 => ?_)
                    · have hf := q_t c29 hf
                      refine lv_iload hx hb dX8_picks_140 (lv_at hl 2 rfl) ?_
                      exact kj28 l5_15 (q_s1 hf) _ _ hP hD hS _ (lv_sub hl [1, 3, 4, 5, 6, 7] rfl)
                    · have hf := q_f c29 hf
                      refine lv_iload hx hb dX8_picks_115 (lv_at hl 2 rfl) ?_
                      refine lv_ldc (v := -1000000) hx hb hown (hts _ qX8_picks_6) dX8_picks_117 ?_
                      refine lv_icmp_eq (tgt := 135) hx hb dX8_picks_119 (by decide) (fun c30 => ?_) (fun c30 => ?_)
                      · have hf := q_t c30 hf
                        refine lv_iload hx hb dX8_picks_135 (lv_at hl 1 rfl) ?_
                        refine lv_goto (tgt := 142) hx hb dX8_picks_137 (by decide) ?_
                        exact kj28 l6_16 (q_s1 hf) _ _ hP hD hS _ (lv_sub hl [1, 3, 4, 5, 6, 7] rfl)
                      · have hf := q_f c30 hf
                        refine lv_iload hx hb dX8_picks_122 (lv_at hl 1 rfl) ?_
                        obtain ⟨r31, h32, hf⟩ := q_b1o hf
                        refine q_roSi (As := [.int l6_16]) (rest := []) ⟨hx, hb, hml, hown, hts⟩ (kX8_bits l l6_16 r31 h32) (va_cwS 1 hts gX8_picks_X8_bits rfl rfl rfl hdX8_bits ⟨Nat.le_of_ble_eq_true rfl, Nat.le_of_ble_eq_true rfl⟩) rfl hl.1 rfl (Nat.le_of_ble_eq_true rfl) dX8_picks_124 ⟨Nat.zero_le _, Nat.zero_le _⟩ ?_
                        refine lv_iload hx hb dX8_picks_127 (lv_at hl 2 rfl) ?_
                        obtain ⟨r33, h34, hf⟩ := q_b1o hf
                        refine q_roSi (As := [.int l5_15]) (rest := [.int r31]) ⟨hx, hb, hml, hown, hts⟩ (kX8_bits l l5_15 r33 h34) (va_cwS 1 hts gX8_picks_X8_bits rfl rfl rfl hdX8_bits ⟨Nat.le_of_ble_eq_true rfl, Nat.le_of_ble_eq_true rfl⟩) rfl hl.1 rfl (Nat.le_of_ble_eq_true rfl) dX8_picks_129 ⟨Nat.zero_le _, Nat.zero_le _⟩ ?_
                        refine lv_icmp_ge (tgt := 140) hx hb dX8_picks_132 (by decide) (fun c35 => ?_) (fun c35 => ?_)
                        · have hf := q_t c35 hf
                          refine lv_iload hx hb dX8_picks_140 (lv_at hl 2 rfl) ?_
                          exact kj28 l5_15 (q_s1 hf) _ _ hP hD hS _ (lv_sub hl [1, 3, 4, 5, 6, 7] rfl)
                        · have hf := q_f c35 hf
                          refine lv_iload hx hb dX8_picks_135 (lv_at hl 1 rfl) ?_
                          refine lv_goto (tgt := 142) hx hb dX8_picks_137 (by decide) ?_
                          exact kj28 l6_16 (q_s1 hf) _ _ hP hD hS _ (lv_sub hl [1, 3, 4, 5, 6, 7] rfl)
                  have hf := hqj26
                  refine lv_if_lt (tgt := 107) hx hb dX8_picks_100 (by decide) (fun c36 => ?_) (fun c36 => ?_)
                  · have hf := q_t c36 hf
                    refine lv_iconst (v := 0) hx hb dX8_picks_107 (by decide) ?_
                    exact kj26 (0 : Int32) (q_s1 hf) _ _ hP hD hS _ hl
                  · have hf := q_f c36 hf
                    refine lv_iconst (v := 1) hx hb dX8_picks_103 (by decide) ?_
                    refine lv_goto (tgt := 108) hx hb dX8_picks_104 (by decide) ?_
                    exact kj26 (1 : Int32) (q_s1 hf) _ _ hP hD hS _ hl
            exact aihn18 5000 (-1000000 : Int32) (0 : Int32) t0 hqn18 _ _ hP hD hS _ hl
          · have hf := q_t c14 hf
            refine lv_ldc2 (v := -9000000000000000001) hx hb hown (hts _ qX8_picks_5) dX8_picks_50 ?_
            obtain ⟨ee0, ee1, ee2⟩ := q_s3 hf
            subst ee1
            subst ee2
            exact q_wretL hx hb hr hlk hAe hK hP hD hS ee0 dX8_picks_53
  · have hf := q_t c2 hf
    refine lv_ldc2 (v := -9000000000000000002) hx hb hown (hts _ qX8_picks_3) dX8_picks_12 ?_
    obtain ⟨ee0, ee1, ee2⟩ := q_s3 hf
    subst ee1
    subst ee2
    exact q_wretL hx hb hr hlk hAe hK hP hD hS ee0 dX8_picks_15
theorem hdX8_council : yX8_council.cls = RX8 ∧ yX8_council.cls ≠ "java/lang/invoke/MethodHandle" ∧ yX8_council.cls ≠ "java/lang/invoke/VarHandle" ∧ (parseMethodDescriptor yX8_council.desc).map (fun d => d.parameters.length) = some 6 := by decide +kernel
theorem qX8_council_1 : (Cond.fieldLink RX8 41 "DeadAskedModel" "thrown" "I") ∈ wsX8_council := List.mem_of_getElem? (i := 1) (by decide +kernel)
theorem qX8_council_2 : (Cond.fieldLink RX8 184 "DeadAskedModel" "isThere" "Z") ∈ wsX8_council := List.mem_of_getElem? (i := 2) (by decide +kernel)
theorem qX8_council_3 : (Cond.constantLong RX8 223 (-9000000000000000002)) ∈ wsX8_council := List.mem_of_getElem? (i := 3) (by decide +kernel)
theorem qX8_council_4 : (Cond.constantLong RX8 60 2) ∈ wsX8_council := List.mem_of_getElem? (i := 4) (by decide +kernel)
theorem qX8_council_5 : (Cond.constantLong RX8 62 (-9000000000000000001)) ∈ wsX8_council := List.mem_of_getElem? (i := 5) (by decide +kernel)
theorem qX8_council_6 : (Cond.fieldLink RX8 9 "DeadAskedModel" "lane" "[I") ∈ wsX8_council := List.mem_of_getElem? (i := 6) (by decide +kernel)
theorem qX8_council_7 : (Cond.fieldLink RX8 13 "DeadAskedModel" "many" "[I") ∈ wsX8_council := List.mem_of_getElem? (i := 7) (by decide +kernel)
theorem qX8_council_8 : (Cond.fieldLink RX8 16 "DeadAskedModel" "item" "[I") ∈ wsX8_council := List.mem_of_getElem? (i := 8) (by decide +kernel)
theorem qX8_council_9 : (Cond.fieldLink RX8 45 "DeadAskedModel" "status" "I") ∈ wsX8_council := List.mem_of_getElem? (i := 9) (by decide +kernel)
theorem qX8_council_10 : (Cond.fieldLink RX8 266 "DeadAskedModel" "above" "J") ∈ wsX8_council := List.mem_of_getElem? (i := 10) (by decide +kernel)
theorem qX8_council_11 : (Cond.fieldLink RX8 269 "DeadAskedModel" "below" "J") ∈ wsX8_council := List.mem_of_getElem? (i := 11) (by decide +kernel)
theorem nX8_council_8 : ∀ w ∈ u_ws RX8 TX8 27, w ∈ wsX8_council := fun _ h => (List.mem_cons_of_mem _ (List.mem_append_right _ h))
set_option maxHeartbeats 4000000 in
set_option maxRecDepth 100000 in
theorem kX8_council (o0 : Nat) (a0 : Nat → Nat) (s0 : St) (t0 : Lt) (p1 : Int32) (p2 : Int32) (p3 : Int32) (p4 : Int32) (p5 : Int32) (p6 : Int32) (sz : Nat) (r : Int64) (z0 : St) (y0 : Lt) (hf : fX8_council s0 t0 p1 p2 p3 p4 p5 p6 = some (r, z0, y0)) : Met l yX8_council wsX8_council ({ frames := 4, cells := 0, slots := 0, locals := 97 } : Room) (pcW (dC, dI) (q_ty cI cB cZ) [.ref o0, .int p1, .int p2, .int p3, .int p4, .int p5, .int p6] (wcM cI cZ o0 a0 s0 t0) sz) (qlW (dC, dI) (q_ty cI cB cZ) (wcM cI cZ o0 a0 s0 t0) (wcM cI cZ o0 a0 z0 y0) sz r) 0 0 (va_A (wcM cI cZ o0 a0 s0 t0) sz) := by
  refine q_rwM (cc := cX8_council) (maxL := 8) (ret := (some .long)) (by decide +kernel) rfl (Nat.le_of_ble_eq_true rfl) ?_
  intro p e s m below meth c hx hb hr hlk hml hown hts hK A H hAe hH hsz hP hD hA hS ls hl
  have hown : s.vm.findClass RX8 = some m.cls := hown
  have hl : lv_has ls 8 [(0, .ref o0), (1, .int p1), (2, .int p2), (3, .int p3), (4, .int p4), (5, .int p5), (6, .int p6)] := hl
  unfold fX8_council at hf
  refine lv_aload_n hx hb dX8_council_0 rfl (lv_at hl 0 rfl) ?_
  refine lv_iconst (v := 0) hx hb dX8_council_1 (by decide) ?_
  obtain ⟨sn1, esn1, hf⟩ := q_lto hf
  refine va_put (D := (dC, dI)) (ci := 8) (v := .int (0 : Int32)) (ty := .int) (C := RX8) (T := TX8) (N := 27) hx hb hts nX8_council_8 tyX8 tyX8_ok nmX8 hown hK hP hD hS 0 rfl rfl 0 (by decide) (hts _ qX8_council_1) (fun _ h9 => h9) rfl (by decide +kernel) rfl rfl (Nat.le_of_ble_eq_true rfl) dX8_council_2 (fun H locs hP hD hS => ?_)
  have hP : va_P (dC, dI) vwCl (wcM cI cZ o0 a0 sn1 t0) H := by rw [esn1]; exact hP
  have hD : va_D A (wcM cI cZ o0 a0 sn1 t0) := by rw [esn1]; exact hD
  refine lv_aload_n hx hb dX8_council_5 rfl (lv_at hl 0 rfl) ?_
  refine va_get (D := (dC, dI)) (ci := 8) (v := .int (sn1 7 0)) (C := RX8) (T := TX8) (N := 27) hx hb hts nX8_council_8 hown hK hP 0 rfl rfl 7 (by decide) (hts _ qX8_council_2) (fun _ h9 => h9) rfl dX8_council_6 ?_
  refine lv_if_ne (tgt := 16) hx hb dX8_council_9 (by decide) (fun c2 => ?_) (fun c2 => ?_)
  · have hf := q_f c2 hf
    refine lv_iload_n hx hb dX8_council_16 rfl (lv_at hl 1 rfl) ?_
    obtain ⟨r3, h4, hf⟩ := q_b1o hf
    refine q_roSi (As := [.int p1]) (rest := []) ⟨hx, hb, hml, hown, hts⟩ (kX8_areHorns l p1 r3 h4) (va_cwS 1 hts gX8_council_X8_areHorns rfl rfl rfl hdX8_areHorns ⟨Nat.le_of_ble_eq_true rfl, Nat.le_of_ble_eq_true rfl⟩) rfl hl.1 rfl (Nat.le_of_ble_eq_true rfl) dX8_council_17 ⟨Nat.zero_le _, Nat.zero_le _⟩ ?_
    refine lv_if_eq (tgt := 70) hx hb dX8_council_20 (by decide) (fun c5 => ?_) (fun c5 => ?_)
    · have hf := q_t c5 hf
      refine lv_ldc2 (v := -9000000000000000001) hx hb hown (hts _ qX8_council_5) dX8_council_70 ?_
      obtain ⟨ee0, ee1, ee2⟩ := q_s3 hf
      subst ee1
      subst ee2
      exact q_wretL hx hb hr hlk hAe hK hP hD hS ee0 dX8_council_73
    · have hf := q_f c5 hf
      refine lv_iload_n hx hb dX8_council_23 rfl (lv_at hl 2 rfl) ?_
      obtain ⟨r6, h7, hf⟩ := q_b1o hf
      refine q_roSi (As := [.int p2]) (rest := []) ⟨hx, hb, hml, hown, hts⟩ (kX8_isHour l p2 r6 h7) (va_cwS 1 hts gX8_council_X8_isHour rfl rfl rfl hdX8_isHour ⟨Nat.le_of_ble_eq_true rfl, Nat.le_of_ble_eq_true rfl⟩) rfl hl.1 rfl (Nat.le_of_ble_eq_true rfl) dX8_council_24 ⟨Nat.zero_le _, Nat.zero_le _⟩ ?_
      refine lv_if_eq (tgt := 70) hx hb dX8_council_27 (by decide) (fun c8 => ?_) (fun c8 => ?_)
      · have hf := q_t c8 hf
        refine lv_ldc2 (v := -9000000000000000001) hx hb hown (hts _ qX8_council_5) dX8_council_70 ?_
        obtain ⟨ee0, ee1, ee2⟩ := q_s3 hf
        subst ee1
        subst ee2
        exact q_wretL hx hb hr hlk hAe hK hP hD hS ee0 dX8_council_73
      · have hf := q_f c8 hf
        refine lv_iload_n hx hb dX8_council_30 rfl (lv_at hl 3 rfl) ?_
        obtain ⟨r9, h10, hf⟩ := q_b1o hf
        refine q_roSi (As := [.int p3]) (rest := []) ⟨hx, hb, hml, hown, hts⟩ (kX8_isRow l p3 r9 h10) (va_cwS 1 hts gX8_council_X8_isRow rfl rfl rfl hdX8_isRow ⟨Nat.le_of_ble_eq_true rfl, Nat.le_of_ble_eq_true rfl⟩) rfl hl.1 rfl (Nat.le_of_ble_eq_true rfl) dX8_council_31 ⟨Nat.zero_le _, Nat.zero_le _⟩ ?_
        refine lv_if_eq (tgt := 70) hx hb dX8_council_34 (by decide) (fun c11 => ?_) (fun c11 => ?_)
        · have hf := q_t c11 hf
          refine lv_ldc2 (v := -9000000000000000001) hx hb hown (hts _ qX8_council_5) dX8_council_70 ?_
          obtain ⟨ee0, ee1, ee2⟩ := q_s3 hf
          subst ee1
          subst ee2
          exact q_wretL hx hb hr hlk hAe hK hP hD hS ee0 dX8_council_73
        · have hf := q_f c11 hf
          refine lv_iload hx hb dX8_council_37 (lv_at hl 5 rfl) ?_
          refine lv_i2l (v := p5.toInt64) hx hb dX8_council_39 rfl ?_
          refine lv_lconst (v := 1) hx hb dX8_council_40 (by decide) ?_
          refine lv_ldc2 (v := 2) hx hb hown (hts _ qX8_council_4) dX8_council_41 ?_
          obtain ⟨r12, h13, hf⟩ := q_b1o hf
          refine q_roSi (As := [.long p5.toInt64, .long (1 : Int64), .long (2 : Int64)]) (rest := []) ⟨hx, hb, hml, hown, hts⟩ (kX8_in l p5.toInt64 (1 : Int64) (2 : Int64) r12 h13) (va_cwS 3 hts gX8_council_X8_in rfl rfl rfl hdX8_in ⟨Nat.le_of_ble_eq_true rfl, Nat.le_of_ble_eq_true rfl⟩) rfl hl.1 rfl (Nat.le_of_ble_eq_true rfl) dX8_council_44 ⟨Nat.zero_le _, Nat.zero_le _⟩ ?_
          refine lv_if_eq (tgt := 70) hx hb dX8_council_47 (by decide) (fun c14 => ?_) (fun c14 => ?_)
          · have hf := q_t c14 hf
            refine lv_ldc2 (v := -9000000000000000001) hx hb hown (hts _ qX8_council_5) dX8_council_70 ?_
            obtain ⟨ee0, ee1, ee2⟩ := q_s3 hf
            subst ee1
            subst ee2
            exact q_wretL hx hb hr hlk hAe hK hP hD hS ee0 dX8_council_73
          · have hf := q_f c14 hf
            refine lv_iload_n hx hb dX8_council_50 rfl (lv_at hl 2 rfl) ?_
            refine lv_iload hx hb dX8_council_51 (lv_at hl 5 rfl) ?_
            refine lv_iadd hx hb dX8_council_53 ?_
            refine lv_bipush (v := 12) hx hb dX8_council_54 (by decide) ?_
            refine lv_icmp_gt (tgt := 70) hx hb dX8_council_56 (by decide) (fun c15 => ?_) (fun c15 => ?_)
            · have hf := q_t c15 hf
              refine lv_ldc2 (v := -9000000000000000001) hx hb hown (hts _ qX8_council_5) dX8_council_70 ?_
              obtain ⟨ee0, ee1, ee2⟩ := q_s3 hf
              subst ee1
              subst ee2
              exact q_wretL hx hb hr hlk hAe hK hP hD hS ee0 dX8_council_73
            · have hf := q_f c15 hf
              refine lv_iload hx hb dX8_council_59 (lv_at hl 6 rfl) ?_
              refine lv_i2l (v := p6.toInt64) hx hb dX8_council_61 rfl ?_
              refine lv_lconst (v := 0) hx hb dX8_council_62 (by decide) ?_
              refine lv_lconst (v := 1) hx hb dX8_council_63 (by decide) ?_
              obtain ⟨r16, h17, hf⟩ := q_b1o hf
              refine q_roSi (As := [.long p6.toInt64, .long (0 : Int64), .long (1 : Int64)]) (rest := []) ⟨hx, hb, hml, hown, hts⟩ (kX8_in l p6.toInt64 (0 : Int64) (1 : Int64) r16 h17) (va_cwS 3 hts gX8_council_X8_in rfl rfl rfl hdX8_in ⟨Nat.le_of_ble_eq_true rfl, Nat.le_of_ble_eq_true rfl⟩) rfl hl.1 rfl (Nat.le_of_ble_eq_true rfl) dX8_council_64 ⟨Nat.zero_le _, Nat.zero_le _⟩ ?_
              refine lv_if_ne (tgt := 74) hx hb dX8_council_67 (by decide) (fun c18 => ?_) (fun c18 => ?_)
              · have hf := q_f c18 hf
                refine lv_aload_n hx hb dX8_council_74 rfl (lv_at hl 0 rfl) ?_
                refine va_get (D := (dC, dI)) (ci := 8) (v := .ref (a0 2)) (C := RX8) (T := TX8) (N := 27) hx hb hts nX8_council_8 hown hK hP 0 rfl rfl 2 (by decide) (hts _ qX8_council_6) (fun _ h9 => h9) rfl dX8_council_75 ?_
                refine lv_iload_n hx hb dX8_council_78 rfl (lv_at hl 3 rfl) ?_
                obtain ⟨c19, hf⟩ := q_ck hf
                refine va_iald hx hb hK hP 1 0 rfl rfl c19 dX8_council_79 ?_
                refine lv_if_ge (tgt := 89) hx hb dX8_council_80 (by decide) (fun c20 => ?_) (fun c20 => ?_)
                · have hf := q_t c20 hf
                  refine lv_iload hx hb dX8_council_89 (lv_at hl 4 rfl) ?_
                  refine lv_if_lt (tgt := 112) hx hb dX8_council_91 (by decide) (fun c21 => ?_) (fun c21 => ?_)
                  · have hf := q_t c21 hf
                    refine lv_aload_n hx hb dX8_council_112 rfl (lv_at hl 0 rfl) ?_
                    refine lv_iconst (v := 2) hx hb dX8_council_113 (by decide) ?_
                    obtain ⟨r22, sc23, h24, hf⟩ := q_b2o hf
                    refine q_rwVl (As := [.int (2 : Int32)]) (rest := []) (ci := 8) (wr := []) (w2 := (wcM cI cZ o0 a0 sc23 t0)) ⟨hx, hb, hml, hown, hts⟩ (kX8_finding l dC dI cI cB cZ o0 a0 sn1 t0 (2 : Int32) H.size r22 sc23 h24) (cwV 1 hts gX8_council_X8_finding rfl rfl rfl hdX8_finding ⟨Nat.le_of_ble_eq_true rfl, Nat.le_of_ble_eq_true rfl⟩) hK hP hD hS hA [0, 1, 2, 3, 4, 5, 6, 7, 8, 9, 10] [] [0, 1, 2, 3, 4, 5, 6, 7, 8, 9, 10] rfl rfl (by decide) (by decide) (by decide) rfl (by decide) rfl rfl rfl hl.1 rfl (Nat.le_of_ble_eq_true rfl) dX8_council_114 ⟨Nat.zero_le _, Nat.zero_le _⟩ (fun H locs hP hD hS => ?_)
                    obtain ⟨ee0, ee1, ee2⟩ := q_s3 hf
                    subst ee1
                    subst ee2
                    exact q_wretL hx hb hr hlk hAe hK hP hD hS ee0 dX8_council_117
                  · have hf := q_f c21 hf
                    refine lv_iload hx hb dX8_council_94 (lv_at hl 4 rfl) ?_
                    refine lv_i2l (v := p4.toInt64) hx hb dX8_council_96 rfl ?_
                    refine lv_iload hx hb dX8_council_97 (lv_at hl 5 rfl) ?_
                    refine lv_i2l (v := p5.toInt64) hx hb dX8_council_99 rfl ?_
                    refine lv_ladd hx hb dX8_council_100 ?_
                    refine lv_aload_n hx hb dX8_council_101 rfl (lv_at hl 0 rfl) ?_
                    refine va_get (D := (dC, dI)) (ci := 8) (v := .ref (a0 3)) (C := RX8) (T := TX8) (N := 27) hx hb hts nX8_council_8 hown hK hP 0 rfl rfl 3 (by decide) (hts _ qX8_council_7) (fun _ h9 => h9) rfl dX8_council_102 ?_
                    refine lv_iload_n hx hb dX8_council_105 rfl (lv_at hl 3 rfl) ?_
                    obtain ⟨c25, hf⟩ := q_ck hf
                    refine va_iald hx hb hK hP 2 0 rfl rfl c25 dX8_council_106 ?_
                    refine lv_i2l (v := (sn1 3 p3.toNatClampNeg).toInt64) hx hb dX8_council_107 rfl ?_
                    refine W.lcmp hx hb dX8_council_108 ?_
                    refine lv_if_le (tgt := 118) hx hb dX8_council_109 (by decide) (fun c26 => ?_) (fun c26 => ?_)
                    · have hf := q_t c26 hf
                      refine lv_iconst (v := 0) hx hb dX8_council_118 (by decide) ?_
                      refine lv_istore (lv' := [(7, .int (0 : Int32)), (0, .ref o0), (1, .int p1), (2, .int p2), (3, .int p3), (4, .int p4), (5, .int p5), (6, .int p6)]) hx hb dX8_council_119 hl (by decide) rfl (fun ls hl => ?_)
                      have aihn28 : ∀ n28 : Nat, ∀ l7_27 : Int32, fX8_council_L121 p1 p2 p3 p4 p5 p6 t0 sn1 n28 l7_27 = some (r, z0, y0) → ∀ (H : Heap) (locs : List Loc), va_P (dC, dI) vwCl (wcM cI cZ o0 a0 sn1 t0) H → va_D A (wcM cI cZ o0 a0 sn1 t0) → va_S A s.heap H locs → ∀ ls : Array Slot, lv_has ls 8 [(7, .int l7_27), (0, .ref o0), (1, .int p1), (2, .int p2), (3, .int p3), (4, .int p4), (5, .int p5), (6, .int p6)] → W p l e ({ frames := 4, cells := 0, slots := 0, locals := 97 } : Room) s m [.ref o0, .int p1, .int p2, .int p3, .int p4, .int p5, .int p6].toArray below meth c H locs 0 0 (MQ below (qlW (dC, dI) (q_ty cI cB cZ) (wcM cI cZ o0 a0 s0 t0) (wcM cI cZ o0 a0 z0 y0) sz r) [.ref o0, .int p1, .int p2, .int p3, .int p4, .int p5, .int p6].toArray s 0 0 (va_A (wcM cI cZ o0 a0 s0 t0) sz)) (F0 m 121 ls []) := by
                        intro n28
                        induction n28 with
                        | zero =>
                          intro l7_27 hf
                          exact q_no hf
                        | succ n28 ihn28 =>
                          intro l7_27 hf H locs hP hD hS ls hl
                          rw [fX8_council_L121] at hf
                          refine lv_iload hx hb dX8_council_121 (lv_at hl 0 rfl) ?_
                          refine lv_iload hx hb dX8_council_123 (lv_at hl 6 rfl) ?_
                          refine lv_icmp_ge (tgt := 159) hx hb dX8_council_125 (by decide) (fun c29 => ?_) (fun c29 => ?_)
                          · have hf := q_t c29 hf
                            refine lv_aload_n hx hb dX8_council_159 rfl (lv_at hl 1 rfl) ?_
                            refine lv_iconst (v := 0) hx hb dX8_council_160 (by decide) ?_
                            obtain ⟨sn30, esn30, hf⟩ := q_lto hf
                            refine va_put (D := (dC, dI)) (ci := 8) (v := .int (0 : Int32)) (ty := .int) (C := RX8) (T := TX8) (N := 27) hx hb hts nX8_council_8 tyX8 tyX8_ok nmX8 hown hK hP hD hS 0 rfl rfl 1 (by decide) (hts _ qX8_council_9) (fun _ h9 => h9) rfl (by decide +kernel) rfl rfl (Nat.le_of_ble_eq_true rfl) dX8_council_161 (fun H locs hP hD hS => ?_)
                            have hP : va_P (dC, dI) vwCl (wcM cI cZ o0 a0 sn30 t0) H := by rw [esn30]; exact hP
                            have hD : va_D A (wcM cI cZ o0 a0 sn30 t0) := by rw [esn30]; exact hD
                            refine lv_aload_n hx hb dX8_council_164 rfl (lv_at hl 1 rfl) ?_
                            refine lv_lconst (v := 1) hx hb dX8_council_165 (by decide) ?_
                            obtain ⟨tn31, etn31, hf⟩ := q_lto hf
                            refine va_put (D := (dC, dI)) (ci := 8) (v := .long (1 : Int64)) (ty := .long) (C := RX8) (T := TX8) (N := 27) hx hb hts nX8_council_8 tyX8 tyX8_ok nmX8 hown hK hP hD hS 0 rfl rfl 21 (by decide) (hts _ qX8_council_10) (fun _ h9 => h9) rfl (by decide +kernel) rfl rfl (Nat.le_of_ble_eq_true rfl) dX8_council_166 (fun H locs hP hD hS => ?_)
                            have hP : va_P (dC, dI) vwCl (wcM cI cZ o0 a0 sn30 tn31) H := by rw [etn31]; exact hP
                            have hD : va_D A (wcM cI cZ o0 a0 sn30 tn31) := by rw [etn31]; exact hD
                            refine lv_aload_n hx hb dX8_council_169 rfl (lv_at hl 1 rfl) ?_
                            refine lv_lconst (v := 1) hx hb dX8_council_170 (by decide) ?_
                            obtain ⟨tn32, etn32, hf⟩ := q_lto hf
                            refine va_put (D := (dC, dI)) (ci := 8) (v := .long (1 : Int64)) (ty := .long) (C := RX8) (T := TX8) (N := 27) hx hb hts nX8_council_8 tyX8 tyX8_ok nmX8 hown hK hP hD hS 0 rfl rfl 22 (by decide) (hts _ qX8_council_11) (fun _ h9 => h9) rfl (by decide +kernel) rfl rfl (Nat.le_of_ble_eq_true rfl) dX8_council_171 (fun H locs hP hD hS => ?_)
                            have hP : va_P (dC, dI) vwCl (wcM cI cZ o0 a0 sn30 tn32) H := by rw [etn32]; exact hP
                            have hD : va_D A (wcM cI cZ o0 a0 sn30 tn32) := by rw [etn32]; exact hD
                            refine lv_iconst (v := 0) hx hb dX8_council_174 (by decide) ?_
                            refine lv_istore (lv' := [(7, .int (0 : Int32)), (0, .ref o0), (1, .int p1), (2, .int p2), (3, .int p3), (4, .int p4), (5, .int p5), (6, .int p6)]) hx hb dX8_council_175 hl (by decide) rfl (fun ls hl => ?_)
                            obtain ⟨oz36, hqn35, hf⟩ := q_b1o hf
                            have kxn35 : ∀ z36 : Lt, z36 = oz36 → ∀ (H : Heap) (locs : List Loc), va_P (dC, dI) vwCl (wcM cI cZ o0 a0 sn30 z36) H → va_D A (wcM cI cZ o0 a0 sn30 z36) → va_S A s.heap H locs → ∀ ls : Array Slot, lv_has ls 8 [(0, .ref o0), (6, .int p6)] → W p l e ({ frames := 4, cells := 0, slots := 0, locals := 97 } : Room) s m [.ref o0, .int p1, .int p2, .int p3, .int p4, .int p5, .int p6].toArray below meth c H locs 0 0 (MQ below (qlW (dC, dI) (q_ty cI cB cZ) (wcM cI cZ o0 a0 s0 t0) (wcM cI cZ o0 a0 z0 y0) sz r) [.ref o0, .int p1, .int p2, .int p3, .int p4, .int p5, .int p6].toArray s 0 0 (va_A (wcM cI cZ o0 a0 s0 t0) sz)) (F0 m 215 ls []) := by
                              intro z36 ez36 H locs hP hD hS ls hl
                              subst ez36
                              refine lv_aload_n hx hb dX8_council_215 rfl (lv_at hl 0 rfl) ?_
                              refine va_get (D := (dC, dI)) (ci := 8) (v := .long (z36 21)) (C := RX8) (T := TX8) (N := 27) hx hb hts nX8_council_8 hown hK hP 0 rfl rfl 21 (by decide) (hts _ qX8_council_10) (fun _ h9 => h9) rfl dX8_council_216 ?_
                              refine lv_aload_n hx hb dX8_council_219 rfl (lv_at hl 0 rfl) ?_
                              refine va_get (D := (dC, dI)) (ci := 8) (v := .long (z36 22)) (C := RX8) (T := TX8) (N := 27) hx hb hts nX8_council_8 hown hK hP 0 rfl rfl 22 (by decide) (hts _ qX8_council_11) (fun _ h9 => h9) rfl dX8_council_220 ?_
                              refine lv_iload hx hb dX8_council_223 (lv_at hl 1 rfl) ?_
                              obtain ⟨r41, h42, hf⟩ := q_b1o hf
                              refine q_roSl (As := [.long (z36 21), .long (z36 22), .int p6]) (rest := []) ⟨hx, hb, hml, hown, hts⟩ (kX8_partOf l (z36 21) (z36 22) p6 r41 h42) (va_cwS 3 hts gX8_council_X8_partOf rfl rfl rfl hdX8_partOf ⟨Nat.le_of_ble_eq_true rfl, Nat.le_of_ble_eq_true rfl⟩) rfl hl.1 rfl (Nat.le_of_ble_eq_true rfl) dX8_council_225 ⟨Nat.zero_le _, Nat.zero_le _⟩ ?_
                              obtain ⟨ee0, ee1, ee2⟩ := q_s3 hf
                              subst ee1
                              subst ee2
                              exact q_wretL hx hb hr hlk hAe hK hP hD hS ee0 dX8_council_228
                            have aihn35 : ∀ n35 : Nat, ∀ l7_33 : Int32, ∀ tl34 : Lt, fX8_council_L177 p1 p2 p3 p4 p5 sn30 n35 l7_33 tl34 = some oz36 → ∀ (H : Heap) (locs : List Loc), va_P (dC, dI) vwCl (wcM cI cZ o0 a0 sn30 tl34) H → va_D A (wcM cI cZ o0 a0 sn30 tl34) → va_S A s.heap H locs → ∀ ls : Array Slot, lv_has ls 8 [(7, .int l7_33), (0, .ref o0), (1, .int p1), (2, .int p2), (3, .int p3), (4, .int p4), (5, .int p5), (6, .int p6)] → W p l e ({ frames := 4, cells := 0, slots := 0, locals := 97 } : Room) s m [.ref o0, .int p1, .int p2, .int p3, .int p4, .int p5, .int p6].toArray below meth c H locs 0 0 (MQ below (qlW (dC, dI) (q_ty cI cB cZ) (wcM cI cZ o0 a0 s0 t0) (wcM cI cZ o0 a0 z0 y0) sz r) [.ref o0, .int p1, .int p2, .int p3, .int p4, .int p5, .int p6].toArray s 0 0 (va_A (wcM cI cZ o0 a0 s0 t0) sz)) (F0 m 177 ls []) := by
                              intro n35
                              induction n35 with
                              | zero =>
                                intro l7_33 tl34 hf
                                exact q_no hf
                              | succ n35 ihn35 =>
                                intro l7_33 tl34 hf H locs hP hD hS ls hl
                                rw [fX8_council_L177] at hf
                                refine lv_iload hx hb dX8_council_177 (lv_at hl 0 rfl) ?_
                                refine lv_iload hx hb dX8_council_179 (lv_at hl 6 rfl) ?_
                                refine lv_icmp_ge (tgt := 215) hx hb dX8_council_181 (by decide) (fun c37 => ?_) (fun c37 => ?_)
                                · have hf := q_t c37 hf
                                  exact kxn35 tl34 (q_s1 hf) _ _ hP hD hS _ (lv_sub hl [1, 7] rfl)
                                · have hf := q_f c37 hf
                                  refine lv_aload_n hx hb dX8_council_184 rfl (lv_at hl 1 rfl) ?_
                                  refine lv_aload_n hx hb dX8_council_185 rfl (lv_at hl 1 rfl) ?_
                                  refine va_get (D := (dC, dI)) (ci := 8) (v := .ref (a0 4)) (C := RX8) (T := TX8) (N := 27) hx hb hts nX8_council_8 hown hK hP 0 rfl rfl 4 (by decide) (hts _ qX8_council_8) (fun _ h9 => h9) rfl dX8_council_186 ?_
                                  refine lv_bipush (v := 40) hx hb dX8_council_189 (by decide) ?_
                                  refine lv_iload_n hx hb dX8_council_191 rfl (lv_at hl 4 rfl) ?_
                                  refine lv_imul hx hb dX8_council_192 ?_
                                  refine lv_iload hx hb dX8_council_193 (lv_at hl 5 rfl) ?_
                                  refine lv_iadd hx hb dX8_council_195 ?_
                                  refine lv_iload hx hb dX8_council_196 (lv_at hl 0 rfl) ?_
                                  refine lv_iadd hx hb dX8_council_198 ?_
                                  obtain ⟨c38, hf⟩ := q_ck hf
                                  refine va_iald hx hb hK hP 3 0 rfl rfl c38 dX8_council_199 ?_
                                  refine lv_iload_n hx hb dX8_council_200 rfl (lv_at hl 2 rfl) ?_
                                  refine lv_iload_n hx hb dX8_council_201 rfl (lv_at hl 3 rfl) ?_
                                  refine lv_iload hx hb dX8_council_202 (lv_at hl 0 rfl) ?_
                                  refine lv_iadd hx hb dX8_council_204 ?_
                                  refine lv_iconst (v := 0) hx hb dX8_council_205 (by decide) ?_
                                  obtain ⟨tc39, h40, hf⟩ := q_b1o hf
                                  refine q_rwVv (As := [.int (sn30 4 ((((40 : Int32) * p3) + p4) + l7_33).toNatClampNeg), .int p1, .int (p2 + l7_33), .int (0 : Int32)]) (rest := []) (ci := 8) (wr := []) (w2 := (wcM cI cZ o0 a0 sn30 tc39)) ⟨hx, hb, hml, hown, hts⟩ (kX8_passes l dC dI cI cB cZ o0 a0 sn30 tl34 (sn30 4 ((((40 : Int32) * p3) + p4) + l7_33).toNatClampNeg) p1 (p2 + l7_33) (0 : Int32) H.size tc39 h40) (cwV 4 hts gX8_council_X8_passes rfl rfl rfl hdX8_passes ⟨Nat.le_of_ble_eq_true rfl, Nat.le_of_ble_eq_true rfl⟩) hK hP hD hS hA [0, 1, 2, 3, 4, 5, 6, 7, 8, 9, 10] [] [0, 1, 2, 3, 4, 5, 6, 7, 8, 9, 10] rfl rfl (by decide) (by decide) (by decide) rfl (by decide) rfl rfl rfl hl.1 rfl (Nat.le_of_ble_eq_true rfl) dX8_council_206 ⟨Nat.zero_le _, Nat.zero_le _⟩ (fun H locs hP hD hS => ?_)
                                  refine lv_iinc (v := l7_33 + (1 : Int32)) (lv' := [(7, .int (l7_33 + (1 : Int32))), (0, .ref o0), (1, .int p1), (2, .int p2), (3, .int p3), (4, .int p4), (5, .int p5), (6, .int p6)]) hx hb dX8_council_209 hl (k := 0) rfl rfl (by decide) rfl (fun ls hl => ?_)
                                  refine lv_goto (tgt := 177) hx hb dX8_council_212 (by decide) ?_
                                  exact ihn35 (l7_33 + (1 : Int32)) tc39 hf _ _ hP hD hS _ hl
                            exact aihn35 5000 (0 : Int32) tn32 hqn35 _ _ hP hD hS _ hl
                          · have hf := q_f c29 hf
                            refine lv_aload_n hx hb dX8_council_128 rfl (lv_at hl 1 rfl) ?_
                            refine va_get (D := (dC, dI)) (ci := 8) (v := .ref (a0 4)) (C := RX8) (T := TX8) (N := 27) hx hb hts nX8_council_8 hown hK hP 0 rfl rfl 4 (by decide) (hts _ qX8_council_8) (fun _ h9 => h9) rfl dX8_council_129 ?_
                            refine lv_bipush (v := 40) hx hb dX8_council_132 (by decide) ?_
                            refine lv_iload_n hx hb dX8_council_134 rfl (lv_at hl 4 rfl) ?_
                            refine lv_imul hx hb dX8_council_135 ?_
                            refine lv_iload hx hb dX8_council_136 (lv_at hl 5 rfl) ?_
                            refine lv_iadd hx hb dX8_council_138 ?_
                            refine lv_iload hx hb dX8_council_139 (lv_at hl 0 rfl) ?_
                            refine lv_iadd hx hb dX8_council_141 ?_
                            obtain ⟨c43, hf⟩ := q_ck hf
                            refine va_iald hx hb hK hP 3 0 rfl rfl c43 dX8_council_142 ?_
                            obtain ⟨r44, h45, hf⟩ := q_b1o hf
                            refine q_roSi (As := [.int (sn1 4 ((((40 : Int32) * p3) + p4) + l7_27).toNatClampNeg)]) (rest := []) ⟨hx, hb, hml, hown, hts⟩ (kX8_isMatter l (sn1 4 ((((40 : Int32) * p3) + p4) + l7_27).toNatClampNeg) r44 h45) (va_cwS 1 hts gX8_council_X8_isMatter rfl rfl rfl hdX8_isMatter ⟨Nat.le_of_ble_eq_true rfl, Nat.le_of_ble_eq_true rfl⟩) rfl hl.1 rfl (Nat.le_of_ble_eq_true rfl) dX8_council_143 ⟨Nat.zero_le _, Nat.zero_le _⟩ ?_
                            refine lv_if_ne (tgt := 153) hx hb dX8_council_146 (by decide) (fun c46 => ?_) (fun c46 => ?_)
                            · have hf := q_f c46 hf
                              refine lv_iinc (v := l7_27 + (1 : Int32)) (lv' := [(7, .int (l7_27 + (1 : Int32))), (0, .ref o0), (1, .int p1), (2, .int p2), (3, .int p3), (4, .int p4), (5, .int p5), (6, .int p6)]) hx hb dX8_council_153 hl (k := 0) rfl rfl (by decide) rfl (fun ls hl => ?_)
                              refine lv_goto (tgt := 121) hx hb dX8_council_156 (by decide) ?_
                              exact ihn28 (l7_27 + (1 : Int32)) hf _ _ hP hD hS _ hl
                            · have hf := q_t c46 hf
                              refine lv_ldc2 (v := -9000000000000000001) hx hb hown (hts _ qX8_council_5) dX8_council_149 ?_
                              obtain ⟨ee0, ee1, ee2⟩ := q_s3 hf
                              subst ee1
                              subst ee2
                              exact q_wretL hx hb hr hlk hAe hK hP hD hS ee0 dX8_council_152
                      exact aihn28 5000 (0 : Int32) hf _ _ hP hD hS _ hl
                    · have hf := q_f c26 hf
                      refine lv_aload_n hx hb dX8_council_112 rfl (lv_at hl 0 rfl) ?_
                      refine lv_iconst (v := 2) hx hb dX8_council_113 (by decide) ?_
                      obtain ⟨r47, sc48, h49, hf⟩ := q_b2o hf
                      refine q_rwVl (As := [.int (2 : Int32)]) (rest := []) (ci := 8) (wr := []) (w2 := (wcM cI cZ o0 a0 sc48 t0)) ⟨hx, hb, hml, hown, hts⟩ (kX8_finding l dC dI cI cB cZ o0 a0 sn1 t0 (2 : Int32) H.size r47 sc48 h49) (cwV 1 hts gX8_council_X8_finding rfl rfl rfl hdX8_finding ⟨Nat.le_of_ble_eq_true rfl, Nat.le_of_ble_eq_true rfl⟩) hK hP hD hS hA [0, 1, 2, 3, 4, 5, 6, 7, 8, 9, 10] [] [0, 1, 2, 3, 4, 5, 6, 7, 8, 9, 10] rfl rfl (by decide) (by decide) (by decide) rfl (by decide) rfl rfl rfl hl.1 rfl (Nat.le_of_ble_eq_true rfl) dX8_council_114 ⟨Nat.zero_le _, Nat.zero_le _⟩ (fun H locs hP hD hS => ?_)
                      obtain ⟨ee0, ee1, ee2⟩ := q_s3 hf
                      subst ee1
                      subst ee2
                      exact q_wretL hx hb hr hlk hAe hK hP hD hS ee0 dX8_council_117
                · have hf := q_f c20 hf
                  refine lv_aload_n hx hb dX8_council_83 rfl (lv_at hl 0 rfl) ?_
                  refine lv_iconst (v := 1) hx hb dX8_council_84 (by decide) ?_
                  obtain ⟨r50, sc51, h52, hf⟩ := q_b2o hf
                  refine q_rwVl (As := [.int (1 : Int32)]) (rest := []) (ci := 8) (wr := []) (w2 := (wcM cI cZ o0 a0 sc51 t0)) ⟨hx, hb, hml, hown, hts⟩ (kX8_finding l dC dI cI cB cZ o0 a0 sn1 t0 (1 : Int32) H.size r50 sc51 h52) (cwV 1 hts gX8_council_X8_finding rfl rfl rfl hdX8_finding ⟨Nat.le_of_ble_eq_true rfl, Nat.le_of_ble_eq_true rfl⟩) hK hP hD hS hA [0, 1, 2, 3, 4, 5, 6, 7, 8, 9, 10] [] [0, 1, 2, 3, 4, 5, 6, 7, 8, 9, 10] rfl rfl (by decide) (by decide) (by decide) rfl (by decide) rfl rfl rfl hl.1 rfl (Nat.le_of_ble_eq_true rfl) dX8_council_85 ⟨Nat.zero_le _, Nat.zero_le _⟩ (fun H locs hP hD hS => ?_)
                  obtain ⟨ee0, ee1, ee2⟩ := q_s3 hf
                  subst ee1
                  subst ee2
                  exact q_wretL hx hb hr hlk hAe hK hP hD hS ee0 dX8_council_88
              · have hf := q_t c18 hf
                refine lv_ldc2 (v := -9000000000000000001) hx hb hown (hts _ qX8_council_5) dX8_council_70 ?_
                obtain ⟨ee0, ee1, ee2⟩ := q_s3 hf
                subst ee1
                subst ee2
                exact q_wretL hx hb hr hlk hAe hK hP hD hS ee0 dX8_council_73
  · have hf := q_t c2 hf
    refine lv_ldc2 (v := -9000000000000000002) hx hb hown (hts _ qX8_council_3) dX8_council_12 ?_
    obtain ⟨ee0, ee1, ee2⟩ := q_s3 hf
    subst ee1
    subst ee2
    exact q_wretL hx hb hr hlk hAe hK hP hD hS ee0 dX8_council_15
theorem hdX8_image : yX8_image.cls = RX8 ∧ yX8_image.cls ≠ "java/lang/invoke/MethodHandle" ∧ yX8_image.cls ≠ "java/lang/invoke/VarHandle" ∧ (parseMethodDescriptor yX8_image.desc).map (fun d => d.parameters.length) = some 1 := by decide +kernel
theorem qX8_image_1 : (Cond.fieldLink RX8 41 "DeadAskedModel" "thrown" "I") ∈ wsX8_image := List.mem_of_getElem? (i := 1) (by decide +kernel)
theorem qX8_image_2 : (Cond.constantLong RX8 62 (-9000000000000000001)) ∈ wsX8_image := List.mem_of_getElem? (i := 2) (by decide +kernel)
theorem qX8_image_3 : (Cond.fieldLink RX8 184 "DeadAskedModel" "isThere" "Z") ∈ wsX8_image := List.mem_of_getElem? (i := 3) (by decide +kernel)
theorem qX8_image_4 : (Cond.constantLong RX8 223 (-9000000000000000002)) ∈ wsX8_image := List.mem_of_getElem? (i := 4) (by decide +kernel)
theorem qX8_image_5 : (Cond.fieldLink RX8 35 "DeadAskedModel" "kept" "[I") ∈ wsX8_image := List.mem_of_getElem? (i := 5) (by decide +kernel)
theorem qX8_image_6 : (Cond.fieldLink RX8 19 "DeadAskedModel" "hill" "[I") ∈ wsX8_image := List.mem_of_getElem? (i := 6) (by decide +kernel)
theorem qX8_image_7 : (Cond.fieldLink RX8 31 "DeadAskedModel" "isKept" "[Z") ∈ wsX8_image := List.mem_of_getElem? (i := 7) (by decide +kernel)
theorem nX8_image_8 : ∀ w ∈ u_ws RX8 TX8 27, w ∈ wsX8_image := fun _ h => (List.mem_cons_of_mem _ (List.mem_append_right _ h))
set_option maxHeartbeats 4000000 in
set_option maxRecDepth 100000 in
theorem kX8_image (o0 : Nat) (a0 : Nat → Nat) (s0 : St) (t0 : Lt) (p1 : Int32) (sz : Nat) (r : Int64) (z0 : St) (hf : fX8_image s0 p1 = some (r, z0)) : Met l yX8_image wsX8_image ({ frames := 1, cells := 0, slots := 0, locals := 25 } : Room) (pcW (dC, dI) (q_ty cI cB cZ) [.ref o0, .int p1] (wcM cI cZ o0 a0 s0 t0) sz) (qlW (dC, dI) (q_ty cI cB cZ) (wcM cI cZ o0 a0 s0 t0) (wcM cI cZ o0 a0 z0 t0) sz r) 0 0 (va_A (wcM cI cZ o0 a0 s0 t0) sz) := by
  refine q_rwM (cc := cX8_image) (maxL := 3) (ret := (some .long)) (by decide +kernel) rfl (Nat.le_of_ble_eq_true rfl) ?_
  intro p e s m below meth c hx hb hr hlk hml hown hts hK A H hAe hH hsz hP hD hA hS ls hl
  have hown : s.vm.findClass RX8 = some m.cls := hown
  have hl : lv_has ls 3 [(0, .ref o0), (1, .int p1)] := hl
  unfold fX8_image at hf
  refine lv_aload_n hx hb dX8_image_0 rfl (lv_at hl 0 rfl) ?_
  refine lv_iconst (v := 0) hx hb dX8_image_1 (by decide) ?_
  obtain ⟨sn1, esn1, hf⟩ := q_lto hf
  refine va_put (D := (dC, dI)) (ci := 8) (v := .int (0 : Int32)) (ty := .int) (C := RX8) (T := TX8) (N := 27) hx hb hts nX8_image_8 tyX8 tyX8_ok nmX8 hown hK hP hD hS 0 rfl rfl 0 (by decide) (hts _ qX8_image_1) (fun _ h9 => h9) rfl (by decide +kernel) rfl rfl (Nat.le_of_ble_eq_true rfl) dX8_image_2 (fun H locs hP hD hS => ?_)
  have hP : va_P (dC, dI) vwCl (wcM cI cZ o0 a0 sn1 t0) H := by rw [esn1]; exact hP
  have hD : va_D A (wcM cI cZ o0 a0 sn1 t0) := by rw [esn1]; exact hD
  refine lv_iload_n hx hb dX8_image_5 rfl (lv_at hl 1 rfl) ?_
  refine lv_i2l (v := p1.toInt64) hx hb dX8_image_6 rfl ?_
  refine lv_lconst (v := 0) hx hb dX8_image_7 (by decide) ?_
  refine lv_lconst (v := 1) hx hb dX8_image_8 (by decide) ?_
  obtain ⟨r2, h3, hf⟩ := q_b1o hf
  refine q_roSi (As := [.long p1.toInt64, .long (0 : Int64), .long (1 : Int64)]) (rest := []) ⟨hx, hb, hml, hown, hts⟩ (kX8_in l p1.toInt64 (0 : Int64) (1 : Int64) r2 h3) (va_cwS 3 hts gX8_image_X8_in rfl rfl rfl hdX8_in ⟨Nat.le_of_ble_eq_true rfl, Nat.le_of_ble_eq_true rfl⟩) rfl hl.1 rfl (Nat.le_of_ble_eq_true rfl) dX8_image_9 ⟨Nat.zero_le _, Nat.zero_le _⟩ ?_
  refine lv_if_ne (tgt := 19) hx hb dX8_image_12 (by decide) (fun c4 => ?_) (fun c4 => ?_)
  · have hf := q_f c4 hf
    refine lv_aload_n hx hb dX8_image_19 rfl (lv_at hl 0 rfl) ?_
    refine va_get (D := (dC, dI)) (ci := 8) (v := .int (sn1 7 0)) (C := RX8) (T := TX8) (N := 27) hx hb hts nX8_image_8 hown hK hP 0 rfl rfl 7 (by decide) (hts _ qX8_image_3) (fun _ h9 => h9) rfl dX8_image_20 ?_
    refine lv_if_ne (tgt := 30) hx hb dX8_image_23 (by decide) (fun c5 => ?_) (fun c5 => ?_)
    · have hf := q_f c5 hf
      refine lv_iconst (v := 0) hx hb dX8_image_30 (by decide) ?_
      refine lv_istore_n (lv' := [(2, .int (0 : Int32)), (0, .ref o0), (1, .int p1)]) hx hb dX8_image_31 rfl hl (by decide) rfl (fun ls hl => ?_)
      obtain ⟨oz9, hqn8, hf⟩ := q_b1o hf
      have kxn8 : ∀ z9 : St, z9 = oz9 → ∀ (H : Heap) (locs : List Loc), va_P (dC, dI) vwCl (wcM cI cZ o0 a0 z9 t0) H → va_D A (wcM cI cZ o0 a0 z9 t0) → va_S A s.heap H locs → ∀ ls : Array Slot, lv_has ls 3 [(0, .ref o0), (1, .int p1)] → W p l e ({ frames := 1, cells := 0, slots := 0, locals := 25 } : Room) s m [.ref o0, .int p1].toArray below meth c H locs 0 0 (MQ below (qlW (dC, dI) (q_ty cI cB cZ) (wcM cI cZ o0 a0 s0 t0) (wcM cI cZ o0 a0 z0 t0) sz r) [.ref o0, .int p1].toArray s 0 0 (va_A (wcM cI cZ o0 a0 s0 t0) sz)) (F0 m 61 ls []) := by
        intro z9 ez9 H locs hP hD hS ls hl
        subst ez9
        refine lv_aload_n hx hb dX8_image_61 rfl (lv_at hl 0 rfl) ?_
        refine va_get (D := (dC, dI)) (ci := 8) (v := .ref (a0 23)) (C := RX8) (T := TX8) (N := 27) hx hb hts nX8_image_8 hown hK hP 0 rfl rfl 23 (by decide) (hts _ qX8_image_7) (fun _ h9 => h9) rfl dX8_image_62 ?_
        refine lv_iload_n hx hb dX8_image_65 rfl (lv_at hl 1 rfl) ?_
        refine lv_iconst (v := 1) hx hb dX8_image_66 (by decide) ?_
        obtain ⟨c14, hf⟩ := q_ck hf
        obtain ⟨sn15, esn15, hf⟩ := q_lto hf
        refine va_zast hx hb hK hP hD hS 8 2 rfl rfl c14 dX8_image_67 (fun H locs hP hD hS => ?_)
        have hP : va_P (dC, dI) vwCl (wcM cI cZ o0 a0 sn15 t0) H := by rw [esn15]; exact hP
        have hD : va_D A (wcM cI cZ o0 a0 sn15 t0) := by rw [esn15]; exact hD
        refine lv_lconst (v := 1) hx hb dX8_image_68 (by decide) ?_
        obtain ⟨ee0, ee1⟩ := q_s2 hf
        subst ee1
        exact q_wretL hx hb hr hlk hAe hK hP hD hS ee0 dX8_image_69
      have aihn8 : ∀ n8 : Nat, ∀ l2_6 : Int32, ∀ sl7 : St, fX8_image_L32 p1 n8 l2_6 sl7 = some oz9 → ∀ (H : Heap) (locs : List Loc), va_P (dC, dI) vwCl (wcM cI cZ o0 a0 sl7 t0) H → va_D A (wcM cI cZ o0 a0 sl7 t0) → va_S A s.heap H locs → ∀ ls : Array Slot, lv_has ls 3 [(2, .int l2_6), (0, .ref o0), (1, .int p1)] → W p l e ({ frames := 1, cells := 0, slots := 0, locals := 25 } : Room) s m [.ref o0, .int p1].toArray below meth c H locs 0 0 (MQ below (qlW (dC, dI) (q_ty cI cB cZ) (wcM cI cZ o0 a0 s0 t0) (wcM cI cZ o0 a0 z0 t0) sz r) [.ref o0, .int p1].toArray s 0 0 (va_A (wcM cI cZ o0 a0 s0 t0) sz)) (F0 m 32 ls []) := by
        intro n8
        induction n8 with
        | zero =>
          intro l2_6 sl7 hf
          exact q_no hf
        | succ n8 ihn8 =>
          intro l2_6 sl7 hf H locs hP hD hS ls hl
          rw [fX8_image_L32] at hf
          refine lv_iload_n hx hb dX8_image_32 rfl (lv_at hl 0 rfl) ?_
          refine lv_bipush (v := 59) hx hb dX8_image_33 (by decide) ?_
          refine lv_icmp_ge (tgt := 61) hx hb dX8_image_35 (by decide) (fun c10 => ?_) (fun c10 => ?_)
          · have hf := q_t c10 hf
            exact kxn8 sl7 (q_s1 hf) _ _ hP hD hS _ (lv_sub hl [1, 2] rfl)
          · have hf := q_f c10 hf
            refine lv_aload_n hx hb dX8_image_38 rfl (lv_at hl 1 rfl) ?_
            refine va_get (D := (dC, dI)) (ci := 8) (v := .ref (a0 24)) (C := RX8) (T := TX8) (N := 27) hx hb hts nX8_image_8 hown hK hP 0 rfl rfl 24 (by decide) (hts _ qX8_image_5) (fun _ h9 => h9) rfl dX8_image_39 ?_
            refine lv_bipush (v := 59) hx hb dX8_image_42 (by decide) ?_
            refine lv_iload_n hx hb dX8_image_44 rfl (lv_at hl 2 rfl) ?_
            refine lv_imul hx hb dX8_image_45 ?_
            refine lv_iload_n hx hb dX8_image_46 rfl (lv_at hl 0 rfl) ?_
            refine lv_iadd hx hb dX8_image_47 ?_
            refine lv_aload_n hx hb dX8_image_48 rfl (lv_at hl 1 rfl) ?_
            refine va_get (D := (dC, dI)) (ci := 8) (v := .ref (a0 5)) (C := RX8) (T := TX8) (N := 27) hx hb hts nX8_image_8 hown hK hP 0 rfl rfl 5 (by decide) (hts _ qX8_image_6) (fun _ h9 => h9) rfl dX8_image_49 ?_
            refine lv_iload_n hx hb dX8_image_52 rfl (lv_at hl 0 rfl) ?_
            obtain ⟨c11, hf⟩ := q_ck hf
            refine va_iald hx hb hK hP 4 0 rfl rfl c11 dX8_image_53 ?_
            obtain ⟨c12, hf⟩ := q_ck hf
            obtain ⟨sn13, esn13, hf⟩ := q_lto hf
            refine va_iast hx hb hK hP hD hS 9 0 rfl rfl c12 dX8_image_54 (fun H locs hP hD hS => ?_)
            have hP : va_P (dC, dI) vwCl (wcM cI cZ o0 a0 sn13 t0) H := by rw [esn13]; exact hP
            have hD : va_D A (wcM cI cZ o0 a0 sn13 t0) := by rw [esn13]; exact hD
            refine lv_iinc (v := l2_6 + (1 : Int32)) (lv' := [(2, .int (l2_6 + (1 : Int32))), (0, .ref o0), (1, .int p1)]) hx hb dX8_image_55 hl (k := 0) rfl rfl (by decide) rfl (fun ls hl => ?_)
            refine lv_goto (tgt := 32) hx hb dX8_image_58 (by decide) ?_
            exact ihn8 (l2_6 + (1 : Int32)) sn13 hf _ _ hP hD hS _ hl
      exact aihn8 5000 (0 : Int32) sn1 hqn8 _ _ hP hD hS _ hl
    · have hf := q_t c5 hf
      refine lv_ldc2 (v := -9000000000000000002) hx hb hown (hts _ qX8_image_4) dX8_image_26 ?_
      obtain ⟨ee0, ee1⟩ := q_s2 hf
      subst ee1
      exact q_wretL hx hb hr hlk hAe hK hP hD hS ee0 dX8_image_29
  · have hf := q_t c4 hf
    refine lv_ldc2 (v := -9000000000000000001) hx hb hown (hts _ qX8_image_2) dX8_image_15 ?_
    obtain ⟨ee0, ee1⟩ := q_s2 hf
    subst ee1
    exact q_wretL hx hb hr hlk hAe hK hP hD hS ee0 dX8_image_18
