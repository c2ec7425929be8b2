variable (l : Launch) (dC : Nat → ClassId) (dI : Nat → Nat → Nat) (cI cB cZ : ClassId)
theorem hdX3_isGrave : yX3_isGrave.cls = RX3 ∧ yX3_isGrave.cls ≠ "java/lang/invoke/MethodHandle" ∧ yX3_isGrave.cls ≠ "java/lang/invoke/VarHandle" ∧ (parseMethodDescriptor yX3_isGrave.desc).map (fun d => d.parameters.length) = some 1 := by decide +kernel
theorem qX3_isGrave_1 : (Cond.fieldLink RX3 42 "DeadAsked$Hill" "graves" "I") ∈ wsX3_isGrave := List.mem_of_getElem? (i := 1) (by decide +kernel)
theorem nX3_isGrave_3 : ∀ w ∈ u_ws RX3 TX3 14, w ∈ wsX3_isGrave := fun _ h => (List.mem_cons_of_mem _ (List.mem_append_right _ h))
set_option maxHeartbeats 4000000 in
set_option maxRecDepth 100000 in
theorem kX3_isGrave (o0 : Nat) (a0 : Nat → Nat) (s0 : St) (p1 : Int32) (r : Int32) (hf : fX3_isGrave s0 p1 = some r) : Met l yX3_isGrave wsX3_isGrave ({ frames := 0, cells := 0, slots := 0, locals := 0 } : Room) (pcR (dC, dI) (q_ty cI cB cZ) [.ref o0, .int p1] (wcH cI o0 a0 s0)) (qiR r) 0 0 (fun _ => False) := by
  refine q_roM (cc := cX3_isGrave) (maxL := 2) (ret := (some .boolean)) (by decide +kernel) rfl (Nat.le_of_ble_eq_true rfl) ?_
  intro p e s m below meth c hx hb hr hlk hml hown hts hK hP ls hl
  have hown : s.vm.findClass RX3 = some m.cls := hown
  have hl : lv_has ls 2 [(0, .ref o0), (1, .int p1)] := hl
  unfold fX3_isGrave at hf
  refine lv_iload_n hx hb dX3_isGrave_0 rfl (lv_at hl 1 rfl) ?_
  refine lv_if_lt (tgt := 16) hx hb dX3_isGrave_1 (by decide) (fun c1 => ?_) (fun c1 => ?_)
  · have hf := q_t c1 hf
    refine lv_iconst (v := 0) hx hb dX3_isGrave_16 (by decide) ?_
    have ee0 := q_s1 hf
    exact q_retZ hx hb hr hlk rfl ee0 dX3_isGrave_17
  · have hf := q_f c1 hf
    refine lv_iload_n hx hb dX3_isGrave_4 rfl (lv_at hl 1 rfl) ?_
    refine lv_aload_n hx hb dX3_isGrave_5 rfl (lv_at hl 0 rfl) ?_
    refine va_get (D := (dC, dI)) (ci := 3) (v := .int (s0 10 0)) (C := RX3) (T := TX3) (N := 14) hx hb hts nX3_isGrave_3 hown hK hP 0 rfl rfl 10 (by decide) (hts _ qX3_isGrave_1) (fun _ h9 => h9) rfl dX3_isGrave_6 ?_
    refine lv_icmp_ge (tgt := 16) hx hb dX3_isGrave_9 (by decide) (fun c2 => ?_) (fun c2 => ?_)
    · have hf := q_t c2 hf
      refine lv_iconst (v := 0) hx hb dX3_isGrave_16 (by decide) ?_
      have ee0 := q_s1 hf
      exact q_retZ hx hb hr hlk rfl ee0 dX3_isGrave_17
    · have hf := q_f c2 hf
      refine lv_iconst (v := 1) hx hb dX3_isGrave_12 (by decide) ?_
      refine lv_goto (tgt := 17) hx hb dX3_isGrave_13 (by decide) ?_
      have ee0 := q_s1 hf
      exact q_retZ hx hb hr hlk rfl ee0 dX3_isGrave_17
theorem hdX3_has : yX3_has.cls ≠ "java/lang/invoke/MethodHandle" ∧ yX3_has.cls ≠ "java/lang/invoke/VarHandle" ∧ (parseMethodDescriptor yX3_has.desc).map (fun d => d.parameters.length) = some 2 := by decide +kernel
set_option maxHeartbeats 4000000 in
set_option maxRecDepth 100000 in
theorem kX3_has (p0 : Int32) (p1 : Int32) (r : Int32) (hf : fX3_has p0 p1 = some r) : Met l yX3_has wsX3_has ({ frames := 0, cells := 0, slots := 0, locals := 0 } : Room) (pcS [.int p0, .int p1]) (qiR r) 0 0 (fun _ => False) := by
  refine q_roS (cc := cX3_has) (maxL := 2) (ret := (some .boolean)) (by decide +kernel) rfl (Nat.le_of_ble_eq_true rfl) ?_
  intro p e s m below meth c hx hb hr hlk hml hown hts ls hl
  have hown : s.vm.findClass RX3 = some m.cls := hown
  have hl : lv_has ls 2 [(0, .int p0), (1, .int p1)] := hl
  unfold fX3_has at hf
  refine lv_iload_n hx hb dX3_has_0 rfl (lv_at hl 0 rfl) ?_
  refine lv_iload_n hx hb dX3_has_1 rfl (lv_at hl 1 rfl) ?_
  refine lv_ishr hx hb dX3_has_2 ?_
  refine lv_iconst (v := 1) hx hb dX3_has_3 (by decide) ?_
  refine lv_iand hx hb dX3_has_4 ?_
  refine lv_if_eq (tgt := 12) hx hb dX3_has_5 (by decide) (fun c1 => ?_) (fun c1 => ?_)
  · have hf := q_t c1 hf
    refine lv_iconst (v := 0) hx hb dX3_has_12 (by decide) ?_
    have ee0 := q_s1 hf
    exact q_retZ hx hb hr hlk rfl ee0 dX3_has_13
  · have hf := q_f c1 hf
    refine lv_iconst (v := 1) hx hb dX3_has_8 (by decide) ?_
    refine lv_goto (tgt := 13) hx hb dX3_has_9 (by decide) ?_
    have ee0 := q_s1 hf
    exact q_retZ hx hb hr hlk rfl ee0 dX3_has_13
theorem hdX3_addFruit : yX3_addFruit.cls = RX3 ∧ yX3_addFruit.cls ≠ "java/lang/invoke/MethodHandle" ∧ yX3_addFruit.cls ≠ "java/lang/invoke/VarHandle" ∧ (parseMethodDescriptor yX3_addFruit.desc).map (fun d => d.parameters.length) = some 2 := by decide +kernel
theorem qX3_addFruit_1 : (Cond.fieldLink RX3 49 "DeadAsked$Hill" "trees" "I") ∈ wsX3_addFruit := List.mem_of_getElem? (i := 1) (by decide +kernel)
theorem qX3_addFruit_2 : (Cond.fieldLink RX3 39 "DeadAsked$Hill" "fruit" "[I") ∈ wsX3_addFruit := List.mem_of_getElem? (i := 2) (by decide +kernel)
theorem nX3_addFruit_3 : ∀ w ∈ u_ws RX3 TX3 14, w ∈ wsX3_addFruit := fun _ h => (List.mem_cons_of_mem _ (List.mem_append_right _ h))
set_option maxHeartbeats 4000000 in
set_option maxRecDepth 100000 in
theorem kX3_addFruit (o0 : Nat) (a0 : Nat → Nat) (s0 : St) (p1 : Int32) (p2 : Int32) (sz : Nat) (z0 : St) (hf : fX3_addFruit s0 p1 p2 = some z0) : Met l yX3_addFruit wsX3_addFruit ({ frames := 1, cells := 0, slots := 0, locals := 21 } : Room) (pcW (dC, dI) (q_ty cI cB cZ) [.ref o0, .int p1, .int p2] (wcH cI o0 a0 s0) sz) (qvW (dC, dI) (q_ty cI cB cZ) (wcH cI o0 a0 s0) (wcH cI o0 a0 z0) sz) 0 0 (va_A (wcH cI o0 a0 s0) sz) := by
  refine q_rwM (cc := cX3_addFruit) (maxL := 4) (ret := none) (by decide +kernel) rfl (Nat.le_of_ble_eq_true rfl) ?_
  intro p e s m below meth c hx hb hr hlk hml hown hts hK A H hAe hH hsz hP hD hA hS ls hl
  have hown : s.vm.findClass RX3 = some m.cls := hown
  have hl : lv_has ls 4 [(0, .ref o0), (1, .int p1), (2, .int p2)] := hl
  unfold fX3_addFruit at hf
  refine lv_iconst (v := 0) hx hb dX3_addFruit_0 (by decide) ?_
  refine lv_istore_n (lv' := [(3, .int (0 : Int32)), (0, .ref o0), (1, .int p1), (2, .int p2)]) hx hb dX3_addFruit_1 rfl hl (by decide) rfl (fun ls hl => ?_)
  obtain ⟨oz4, hqn3, hf⟩ := q_b1o hf
  have kxn3 : ∀ z4 : St, z4 = oz4 → ∀ (H : Heap) (locs : List Loc), va_P (dC, dI) vwCl (wcH cI o0 a0 z4) H → va_D A (wcH cI o0 a0 z4) → va_S A s.heap H locs → ∀ ls : Array Slot, lv_has ls 4 [] → W p l e ({ frames := 1, cells := 0, slots := 0, locals := 21 } : Room) s m [.ref o0, .int p1, .int p2].toArray below meth c H locs 0 0 (MQ below (qvW (dC, dI) (q_ty cI cB cZ) (wcH cI o0 a0 s0) (wcH cI o0 a0 z0) sz) [.ref o0, .int p1, .int p2].toArray s 0 0 (va_A (wcH cI o0 a0 s0) sz)) (F0 m 34 ls []) := by
    intro z4 ez4 H locs hP hD hS ls hl
    subst ez4
    have ee0 := q_s1 hf
    subst ee0
    exact q_wretV hx hb hr hlk hAe hK hP hD hS dX3_addFruit_34
  have aihn3 : ∀ n3 : Nat, ∀ l3_1 : Int32, ∀ sl2 : St, fX3_addFruit_L2 p1 p2 n3 l3_1 sl2 = some oz4 → ∀ (H : Heap) (locs : List Loc), va_P (dC, dI) vwCl (wcH cI o0 a0 sl2) H → va_D A (wcH cI o0 a0 sl2) → va_S A s.heap H locs → ∀ ls : Array Slot, lv_has ls 4 [(3, .int l3_1), (0, .ref o0), (1, .int p1), (2, .int p2)] → W p l e ({ frames := 1, cells := 0, slots := 0, locals := 21 } : Room) s m [.ref o0, .int p1, .int p2].toArray below meth c H locs 0 0 (MQ below (qvW (dC, dI) (q_ty cI cB cZ) (wcH cI o0 a0 s0) (wcH cI o0 a0 z0) sz) [.ref o0, .int p1, .int p2].toArray s 0 0 (va_A (wcH cI o0 a0 s0) sz)) (F0 m 2 ls []) := by
    intro n3
    induction n3 with
    | zero =>
      intro l3_1 sl2 hf
      exact q_no hf
    | succ n3 ihn3 =>
      intro l3_1 sl2 hf H locs hP hD hS ls hl
      rw [fX3_addFruit_L2] at hf
      refine lv_iload_n hx hb dX3_addFruit_2 rfl (lv_at hl 0 rfl) ?_
      refine lv_aload_n hx hb dX3_addFruit_3 rfl (lv_at hl 1 rfl) ?_
      refine va_get (D := (dC, dI)) (ci := 3) (v := .int (sl2 12 0)) (C := RX3) (T := TX3) (N := 14) hx hb hts nX3_addFruit_3 hown hK hP 0 rfl rfl 12 (by decide) (hts _ qX3_addFruit_1) (fun _ h9 => h9) rfl dX3_addFruit_4 ?_
      refine lv_icmp_ge (tgt := 34) hx hb dX3_addFruit_7 (by decide) (fun c5 => ?_) (fun c5 => ?_)
      · have hf := q_t c5 hf
        exact kxn3 sl2 (q_s1 hf) _ _ hP hD hS _ (lv_sub hl [] rfl)
      · have hf := q_f c5 hf
        refine lv_iload_n hx hb dX3_addFruit_10 rfl (lv_at hl 2 rfl) ?_
        refine lv_iload_n hx hb dX3_addFruit_11 rfl (lv_at hl 0 rfl) ?_
        obtain ⟨r6, h7, hf⟩ := q_b1o hf
        refine q_roSi (As := [.int p1, .int l3_1]) (rest := []) ⟨hx, hb, hml, hown, hts⟩ (kX3_has l p1 l3_1 r6 h7) (va_cwS 2 hts gX3_addFruit_X3_has rfl rfl rfl hdX3_has ⟨Nat.le_of_ble_eq_true rfl, Nat.le_of_ble_eq_true rfl⟩) rfl hl.1 rfl (Nat.le_of_ble_eq_true rfl) dX3_addFruit_12 ⟨Nat.zero_le _, Nat.zero_le _⟩ ?_
        obtain ⟨osj8, hqj9, hf⟩ := q_b1o hf
        have kj9 : ∀ sj8 : St, sj8 = osj8 → ∀ (H : Heap) (locs : List Loc), va_P (dC, dI) vwCl (wcH cI o0 a0 sj8) H → va_D A (wcH cI o0 a0 sj8) → va_S A s.heap H locs → ∀ ls : Array Slot, lv_has ls 4 [(3, .int l3_1), (0, .ref o0), (1, .int p1), (2, .int p2)] → W p l e ({ frames := 1, cells := 0, slots := 0, locals := 21 } : Room) s m [.ref o0, .int p1, .int p2].toArray below meth c H locs 0 0 (MQ below (qvW (dC, dI) (q_ty cI cB cZ) (wcH cI o0 a0 s0) (wcH cI o0 a0 z0) sz) [.ref o0, .int p1, .int p2].toArray s 0 0 (va_A (wcH cI o0 a0 s0) sz)) (F0 m 28 ls []) := by
          intro sj8 esj8 H locs hP hD hS ls hl
          subst esj8
          refine lv_iinc (v := l3_1 + (1 : Int32)) (lv' := [(3, .int (l3_1 + (1 : Int32))), (0, .ref o0), (1, .int p1), (2, .int p2)]) hx hb dX3_addFruit_28 hl (k := 0) rfl rfl (by decide) rfl (fun ls hl => ?_)
          refine lv_goto (tgt := 2) hx hb dX3_addFruit_31 (by decide) ?_
          exact ihn3 (l3_1 + (1 : Int32)) sj8 hf _ _ hP hD hS _ hl
        have hf := hqj9
        refine lv_if_eq (tgt := 28) hx hb dX3_addFruit_15 (by decide) (fun c10 => ?_) (fun c10 => ?_)
        · have hf := q_t c10 hf
          exact kj9 sl2 (q_s1 hf) _ _ hP hD hS _ hl
        · have hf := q_f c10 hf
          refine lv_aload_n hx hb dX3_addFruit_18 rfl (lv_at hl 1 rfl) ?_
          refine va_get (D := (dC, dI)) (ci := 3) (v := .ref (a0 9)) (C := RX3) (T := TX3) (N := 14) hx hb hts nX3_addFruit_3 hown hK hP 0 rfl rfl 9 (by decide) (hts _ qX3_addFruit_2) (fun _ h9 => h9) rfl dX3_addFruit_19 ?_
          refine lv_iload_n hx hb dX3_addFruit_22 rfl (lv_at hl 0 rfl) ?_
          refine lv_dup2_11 hx hb dX3_addFruit_23 rfl rfl ?_
          obtain ⟨c11, hf⟩ := q_ck hf
          refine va_iald hx hb hK hP 10 0 rfl rfl c11 dX3_addFruit_24 ?_
          refine lv_iload_n hx hb dX3_addFruit_25 rfl (lv_at hl 3 rfl) ?_
          refine lv_iadd hx hb dX3_addFruit_26 ?_
          obtain ⟨c12, hf⟩ := q_ck hf
          obtain ⟨sn13, esn13, hf⟩ := q_lto hf
          refine va_iast hx hb hK hP hD hS 10 0 rfl rfl c12 dX3_addFruit_27 (fun H locs hP hD hS => ?_)
          have hP : va_P (dC, dI) vwCl (wcH cI o0 a0 sn13) H := by rw [esn13]; exact hP
          have hD : va_D A (wcH cI o0 a0 sn13) := by rw [esn13]; exact hD
          exact kj9 sn13 (q_s1 hf) _ _ hP hD hS _ hl
  exact aihn3 5000 (0 : Int32) s0 hqn3 _ _ hP hD hS _ hl
theorem hdX3_isTree : yX3_isTree.cls = RX3 ∧ yX3_isTree.cls ≠ "java/lang/invoke/MethodHandle" ∧ yX3_isTree.cls ≠ "java/lang/invoke/VarHandle" ∧ (parseMethodDescriptor yX3_isTree.desc).map (fun d => d.parameters.length) = some 1 := by decide +kernel
theorem qX3_isTree_1 : (Cond.fieldLink RX3 49 "DeadAsked$Hill" "trees" "I") ∈ wsX3_isTree := List.mem_of_getElem? (i := 1) (by decide +kernel)
theorem nX3_isTree_3 : ∀ w ∈ u_ws RX3 TX3 14, w ∈ wsX3_isTree := fun _ h => (List.mem_cons_of_mem _ (List.mem_append_right _ h))
set_option maxHeartbeats 4000000 in
set_option maxRecDepth 100000 in
theorem kX3_isTree (o0 : Nat) (a0 : Nat → Nat) (s0 : St) (p1 : Int32) (r : Int32) (hf : fX3_isTree s0 p1 = some r) : Met l yX3_isTree wsX3_isTree ({ frames := 0, cells := 0, slots := 0, locals := 0 } : Room) (pcR (dC, dI) (q_ty cI cB cZ) [.ref o0, .int p1] (wcH cI o0 a0 s0)) (qiR r) 0 0 (fun _ => False) := by
  refine q_roM (cc := cX3_isTree) (maxL := 2) (ret := (some .boolean)) (by decide +kernel) rfl (Nat.le_of_ble_eq_true rfl) ?_
  intro p e s m below meth c hx hb hr hlk hml hown hts hK hP ls hl
  have hown : s.vm.findClass RX3 = some m.cls := hown
  have hl : lv_has ls 2 [(0, .ref o0), (1, .int p1)] := hl
  unfold fX3_isTree at hf
  refine lv_iload_n hx hb dX3_isTree_0 rfl (lv_at hl 1 rfl) ?_
  refine lv_if_lt (tgt := 16) hx hb dX3_isTree_1 (by decide) (fun c1 => ?_) (fun c1 => ?_)
  · have hf := q_t c1 hf
    refine lv_iconst (v := 0) hx hb dX3_isTree_16 (by decide) ?_
    have ee0 := q_s1 hf
    exact q_retZ hx hb hr hlk rfl ee0 dX3_isTree_17
  · have hf := q_f c1 hf
    refine lv_iload_n hx hb dX3_isTree_4 rfl (lv_at hl 1 rfl) ?_
    refine lv_aload_n hx hb dX3_isTree_5 rfl (lv_at hl 0 rfl) ?_
    refine va_get (D := (dC, dI)) (ci := 3) (v := .int (s0 12 0)) (C := RX3) (T := TX3) (N := 14) hx hb hts nX3_isTree_3 hown hK hP 0 rfl rfl 12 (by decide) (hts _ qX3_isTree_1) (fun _ h9 => h9) rfl dX3_isTree_6 ?_
    refine lv_icmp_ge (tgt := 16) hx hb dX3_isTree_9 (by decide) (fun c2 => ?_) (fun c2 => ?_)
    · have hf := q_t c2 hf
      refine lv_iconst (v := 0) hx hb dX3_isTree_16 (by decide) ?_
      have ee0 := q_s1 hf
      exact q_retZ hx hb hr hlk rfl ee0 dX3_isTree_17
    · have hf := q_f c2 hf
      refine lv_iconst (v := 1) hx hb dX3_isTree_12 (by decide) ?_
      refine lv_goto (tgt := 17) hx hb dX3_isTree_13 (by decide) ?_
      have ee0 := q_s1 hf
      exact q_retZ hx hb hr hlk rfl ee0 dX3_isTree_17
theorem hdX3_loose : yX3_loose.cls = RX3 ∧ yX3_loose.cls ≠ "java/lang/invoke/MethodHandle" ∧ yX3_loose.cls ≠ "java/lang/invoke/VarHandle" ∧ (parseMethodDescriptor yX3_loose.desc).map (fun d => d.parameters.length) = some 1 := by decide +kernel
theorem qX3_loose_1 : (Cond.fieldLink RX3 33 "DeadAsked$Hill" "kinds" "[I") ∈ wsX3_loose := List.mem_of_getElem? (i := 1) (by decide +kernel)
theorem nX3_loose_3 : ∀ w ∈ u_ws RX3 TX3 14, w ∈ wsX3_loose := fun _ h => (List.mem_cons_of_mem _ (List.mem_append_right _ h))
set_option maxHeartbeats 4000000 in
set_option maxRecDepth 100000 in
theorem kX3_loose (o0 : Nat) (a0 : Nat → Nat) (s0 : St) (p1 : Int32) (r : Int32) (hf : fX3_loose s0 p1 = some r) : Met l yX3_loose wsX3_loose ({ frames := 1, cells := 0, slots := 0, locals := 21 } : Room) (pcR (dC, dI) (q_ty cI cB cZ) [.ref o0, .int p1] (wcH cI o0 a0 s0)) (qiR r) 0 0 (fun _ => False) := by
  refine q_roM (cc := cX3_loose) (maxL := 2) (ret := (some .int)) (by decide +kernel) rfl (Nat.le_of_ble_eq_true rfl) ?_
  intro p e s m below meth c hx hb hr hlk hml hown hts hK hP ls hl
  have hown : s.vm.findClass RX3 = some m.cls := hown
  have hl : lv_has ls 2 [(0, .ref o0), (1, .int p1)] := hl
  unfold fX3_loose at hf
  refine lv_aload_n hx hb dX3_loose_0 rfl (lv_at hl 0 rfl) ?_
  refine lv_iload_n hx hb dX3_loose_1 rfl (lv_at hl 1 rfl) ?_
  obtain ⟨r1, h2, hf⟩ := q_b1o hf
  refine q_roVi (As := [.int p1]) (rest := []) (ci := 3) ⟨hx, hb, hml, hown, hts⟩ (kX3_isTree l dC dI cI cB cZ o0 a0 s0 p1 r1 h2) (cwV 1 hts gX3_loose_X3_isTree rfl rfl rfl hdX3_isTree ⟨Nat.le_of_ble_eq_true rfl, Nat.le_of_ble_eq_true rfl⟩) hK hP rfl rfl rfl hl.1 rfl (Nat.le_of_ble_eq_true rfl) dX3_loose_2 ⟨Nat.zero_le _, Nat.zero_le _⟩ ?_
  obtain ⟨ov3, hqj4, hf⟩ := q_b1o hf
  have kj4 : ∀ v3 : Int32, v3 = ov3 → ∀ ls : Array Slot, lv_has ls 2 [] → W p l e ({ frames := 1, cells := 0, slots := 0, locals := 21 } : Room) s m [.ref o0, .int p1].toArray below meth c s.heap [] 0 0 (MQ below (qiR r) [.ref o0, .int p1].toArray s 0 0 (fun _ => False)) (F0 m 18 ls [.int v3]) := by
    intro v3 ev3 ls hl
    subst ev3
    by_cases c5 : v3 = (1 : Int32)
    · have hf := q_t c5 hf
      refine lv_tableIn (off := 30) (tgt := 48) hx hb dX3_loose_18 (by rw [c5]; decide) (by rw [c5]; decide) (by rw [c5]; decide) (by decide) ?_
      refine lv_iconst (v := 2) hx hb dX3_loose_48 (by decide) ?_
      have ee0 := q_s1 hf
      exact q_retI hx hb hr hlk ee0 dX3_loose_49
    · have hf := q_f c5 hf
      by_cases c6 : v3 = (2 : Int32)
      · have hf := q_t c6 hf
        refine lv_tableIn (off := 32) (tgt := 50) hx hb dX3_loose_18 (by rw [c6]; decide) (by rw [c6]; decide) (by rw [c6]; decide) (by decide) ?_
        refine lv_iconst (v := 1) hx hb dX3_loose_50 (by decide) ?_
        have ee0 := q_s1 hf
        exact q_retI hx hb hr hlk ee0 dX3_loose_51
      · have hf := q_f c6 hf
        by_cases c7 : v3 = (3 : Int32)
        · have hf := q_t c7 hf
          refine lv_tableIn (off := 32) (tgt := 50) hx hb dX3_loose_18 (by rw [c7]; decide) (by rw [c7]; decide) (by rw [c7]; decide) (by decide) ?_
          refine lv_iconst (v := 1) hx hb dX3_loose_50 (by decide) ?_
          have ee0 := q_s1 hf
          exact q_retI hx hb hr hlk ee0 dX3_loose_51
        · have hf := q_f c7 hf
          by_cases c8 : v3 = (4 : Int32)
          · have hf := q_t c8 hf
            refine lv_tableIn (off := 34) (tgt := 52) hx hb dX3_loose_18 (by rw [c8]; decide) (by rw [c8]; decide) (by rw [c8]; decide) (by decide) ?_
            refine lv_iconst (v := 3) hx hb dX3_loose_52 (by decide) ?_
            have ee0 := q_s1 hf
            exact q_retI hx hb hr hlk ee0 dX3_loose_53
          · have hf := q_f c8 hf
            refine lv_tableOut (tgt := 54) hx hb dX3_loose_18 (q_tso (x := v3) (lo := 1) (n := 4) (by intro k hk; match k, hk with | 0, _ => exact c5 | 1, _ => exact c6 | 2, _ => exact c7 | 3, _ => exact c8 | k + 4, hk => exact absurd hk (by omega)) (by decide)) (by decide) ?_
            refine lv_iconst (v := 0) hx hb dX3_loose_54 (by decide) ?_
            have ee0 := q_s1 hf
            exact q_retI hx hb hr hlk ee0 dX3_loose_55
  have hf := hqj4
  refine lv_if_eq (tgt := 17) hx hb dX3_loose_5 (by decide) (fun c9 => ?_) (fun c9 => ?_)
  · have hf := q_t c9 hf
    refine lv_iconst (v := 0) hx hb dX3_loose_17 (by decide) ?_
    exact kj4 (0 : Int32) (q_s1 hf) _ (lv_sub hl [] rfl)
  · have hf := q_f c9 hf
    refine lv_aload_n hx hb dX3_loose_8 rfl (lv_at hl 0 rfl) ?_
    refine va_get (D := (dC, dI)) (ci := 3) (v := .ref (a0 7)) (C := RX3) (T := TX3) (N := 14) hx hb hts nX3_loose_3 hown hK hP 0 rfl rfl 7 (by decide) (hts _ qX3_loose_1) (fun _ h9 => h9) rfl dX3_loose_9 ?_
    refine lv_iload_n hx hb dX3_loose_12 rfl (lv_at hl 1 rfl) ?_
    obtain ⟨c10, hf⟩ := q_ck hf
    refine va_iald hx hb hK hP 8 0 rfl rfl c10 dX3_loose_13 ?_
    refine lv_goto (tgt := 18) hx hb dX3_loose_14 (by decide) ?_
    exact kj4 (s0 7 p1.toNatClampNeg) (q_s1 hf) _ (lv_sub hl [] rfl)
theorem hdX3_clear : yX3_clear.cls = RX3 ∧ yX3_clear.cls ≠ "java/lang/invoke/MethodHandle" ∧ yX3_clear.cls ≠ "java/lang/invoke/VarHandle" ∧ (parseMethodDescriptor yX3_clear.desc).map (fun d => d.parameters.length) = some 0 := by decide +kernel
theorem qX3_clear_1 : (Cond.fieldLink RX3 42 "DeadAsked$Hill" "graves" "I") ∈ wsX3_clear := List.mem_of_getElem? (i := 1) (by decide +kernel)
theorem qX3_clear_2 : (Cond.fieldLink RX3 46 "DeadAsked$Hill" "horns" "I") ∈ wsX3_clear := List.mem_of_getElem? (i := 2) (by decide +kernel)
theorem qX3_clear_3 : (Cond.fieldLink RX3 49 "DeadAsked$Hill" "trees" "I") ∈ wsX3_clear := List.mem_of_getElem? (i := 3) (by decide +kernel)
theorem qX3_clear_4 : (Cond.fieldLink RX3 52 "DeadAsked$Hill" "cracked" "I") ∈ wsX3_clear := List.mem_of_getElem? (i := 4) (by decide +kernel)
theorem nX3_clear_3 : ∀ w ∈ u_ws RX3 TX3 14, w ∈ wsX3_clear := fun _ h => (List.mem_cons_of_mem _ (List.mem_append_right _ h))
set_option maxHeartbeats 4000000 in
set_option maxRecDepth 100000 in
theorem kX3_clear (o0 : Nat) (a0 : Nat → Nat) (s0 : St) (sz : Nat) (z0 : St) (hf : fX3_clear s0 = some z0) : Met l yX3_clear wsX3_clear ({ frames := 0, cells := 0, slots := 0, locals := 0 } : Room) (pcW (dC, dI) (q_ty cI cB cZ) [.ref o0] (wcH cI o0 a0 s0) sz) (qvW (dC, dI) (q_ty cI cB cZ) (wcH cI o0 a0 s0) (wcH cI o0 a0 z0) sz) 0 0 (va_A (wcH cI o0 a0 s0) sz) := by
  refine q_rwM (cc := cX3_clear) (maxL := 1) (ret := none) (by decide +kernel) rfl (Nat.le_of_ble_eq_true rfl) ?_
  intro p e s m below meth c hx hb hr hlk hml hown hts hK A H hAe hH hsz hP hD hA hS ls hl
  have hown : s.vm.findClass RX3 = some m.cls := hown
  have hl : lv_has ls 1 [(0, .ref o0)] := hl
  unfold fX3_clear at hf
  refine lv_aload_n hx hb dX3_clear_0 rfl (lv_at hl 0 rfl) ?_
  refine lv_iconst (v := 0) hx hb dX3_clear_1 (by decide) ?_
  obtain ⟨sn1, esn1, hf⟩ := q_lto hf
  refine va_put (D := (dC, dI)) (ci := 3) (v := .int (0 : Int32)) (ty := .int) (C := RX3) (T := TX3) (N := 14) hx hb hts nX3_clear_3 tyX3 tyX3_ok nmX3 hown hK hP hD hS 0 rfl rfl 10 (by decide) (hts _ qX3_clear_1) (fun _ h9 => h9) rfl (by decide +kernel) rfl rfl (Nat.le_of_ble_eq_true rfl) dX3_clear_2 (fun H locs hP hD hS => ?_)
  have hP : va_P (dC, dI) vwCl (wcH cI o0 a0 sn1) H := by rw [esn1]; exact hP
  have hD : va_D A (wcH cI o0 a0 sn1) := by rw [esn1]; exact hD
  refine lv_aload_n hx hb dX3_clear_5 rfl (lv_at hl 0 rfl) ?_
  refine lv_iconst (v := 0) hx hb dX3_clear_6 (by decide) ?_
  obtain ⟨sn2, esn2, hf⟩ := q_lto hf
  refine va_put (D := (dC, dI)) (ci := 3) (v := .int (0 : Int32)) (ty := .int) (C := RX3) (T := TX3) (N := 14) hx hb hts nX3_clear_3 tyX3 tyX3_ok nmX3 hown hK hP hD hS 0 rfl rfl 11 (by decide) (hts _ qX3_clear_2) (fun _ h9 => h9) rfl (by decide +kernel) rfl rfl (Nat.le_of_ble_eq_true rfl) dX3_clear_7 (fun H locs hP hD hS => ?_)
  have hP : va_P (dC, dI) vwCl (wcH cI o0 a0 sn2) H := by rw [esn2]; exact hP
  have hD : va_D A (wcH cI o0 a0 sn2) := by rw [esn2]; exact hD
  refine lv_aload_n hx hb dX3_clear_10 rfl (lv_at hl 0 rfl) ?_
  refine lv_iconst (v := 0) hx hb dX3_clear_11 (by decide) ?_
  obtain ⟨sn3, esn3, hf⟩ := q_lto hf
  refine va_put (D := (dC, dI)) (ci := 3) (v := .int (0 : Int32)) (ty := .int) (C := RX3) (T := TX3) (N := 14) hx hb hts nX3_clear_3 tyX3 tyX3_ok nmX3 hown hK hP hD hS 0 rfl rfl 12 (by decide) (hts _ qX3_clear_3) (fun _ h9 => h9) rfl (by decide +kernel) rfl rfl (Nat.le_of_ble_eq_true rfl) dX3_clear_12 (fun H locs hP hD hS => ?_)
  have hP : va_P (dC, dI) vwCl (wcH cI o0 a0 sn3) H := by rw [esn3]; exact hP
  have hD : va_D A (wcH cI o0 a0 sn3) := by rw [esn3]; exact hD
  refine lv_aload_n hx hb dX3_clear_15 rfl (lv_at hl 0 rfl) ?_
  refine lv_iconst (v := 0) hx hb dX3_clear_16 (by decide) ?_
  obtain ⟨sn4, esn4, hf⟩ := q_lto hf
  refine va_put (D := (dC, dI)) (ci := 3) (v := .int (0 : Int32)) (ty := .int) (C := RX3) (T := TX3) (N := 14) hx hb hts nX3_clear_3 tyX3 tyX3_ok nmX3 hown hK hP hD hS 0 rfl rfl 13 (by decide) (hts _ qX3_clear_4) (fun _ h9 => h9) rfl (by decide +kernel) rfl rfl (Nat.le_of_ble_eq_true rfl) dX3_clear_17 (fun H locs hP hD hS => ?_)
  have hP : va_P (dC, dI) vwCl (wcH cI o0 a0 sn4) H := by rw [esn4]; exact hP
  have hD : va_D A (wcH cI o0 a0 sn4) := by rw [esn4]; exact hD
  have ee0 := q_s1 hf
  subst ee0
  exact q_wretV hx hb hr hlk hAe hK hP hD hS dX3_clear_20
theorem hdX3_become : yX3_become.cls = RX3 ∧ yX3_become.cls ≠ "java/lang/invoke/MethodHandle" ∧ yX3_become.cls ≠ "java/lang/invoke/VarHandle" ∧ (parseMethodDescriptor yX3_become.desc).map (fun d => d.parameters.length) = some 1 := by decide +kernel
theorem qX3_become_1 : (Cond.fieldLink RX3 9 "DeadAsked$Hill" "winds" "[I") ∈ wsX3_become := List.mem_of_getElem? (i := 1) (by decide +kernel)
theorem qX3_become_2 : (Cond.methodLink RX3 55 arraycopyName) ∈ wsX3_become := List.mem_of_getElem? (i := 2) (by decide +kernel)
theorem qX3_become_3 : (Cond.native arraycopyName) ∈ wsX3_become := List.mem_of_getElem? (i := 3) (by decide +kernel)
theorem qX3_become_4 : (Cond.static arraycopyName) ∈ wsX3_become := List.mem_of_getElem? (i := 4) (by decide +kernel)
theorem qX3_become_5 : (Cond.initialized "java/lang/System") ∈ wsX3_become := List.mem_of_getElem? (i := 5) (by decide +kernel)
theorem qX3_become_6 : (Cond.fieldLink RX3 15 "DeadAsked$Hill" "graveX" "[I") ∈ wsX3_become := List.mem_of_getElem? (i := 6) (by decide +kernel)
theorem qX3_become_7 : (Cond.fieldLink RX3 18 "DeadAsked$Hill" "hears" "[I") ∈ wsX3_become := List.mem_of_getElem? (i := 7) (by decide +kernel)
theorem qX3_become_8 : (Cond.fieldLink RX3 21 "DeadAsked$Hill" "temper" "[I") ∈ wsX3_become := List.mem_of_getElem? (i := 8) (by decide +kernel)
theorem qX3_become_9 : (Cond.fieldLink RX3 24 "DeadAsked$Hill" "against" "[I") ∈ wsX3_become := List.mem_of_getElem? (i := 9) (by decide +kernel)
theorem qX3_become_10 : (Cond.fieldLink RX3 27 "DeadAsked$Hill" "hornX" "[I") ∈ wsX3_become := List.mem_of_getElem? (i := 10) (by decide +kernel)
theorem qX3_become_11 : (Cond.fieldLink RX3 30 "DeadAsked$Hill" "loud" "[I") ∈ wsX3_become := List.mem_of_getElem? (i := 11) (by decide +kernel)
theorem qX3_become_12 : (Cond.fieldLink RX3 33 "DeadAsked$Hill" "kinds" "[I") ∈ wsX3_become := List.mem_of_getElem? (i := 12) (by decide +kernel)
theorem qX3_become_13 : (Cond.fieldLink RX3 36 "DeadAsked$Hill" "treeX" "[I") ∈ wsX3_become := List.mem_of_getElem? (i := 13) (by decide +kernel)
theorem qX3_become_14 : (Cond.fieldLink RX3 39 "DeadAsked$Hill" "fruit" "[I") ∈ wsX3_become := List.mem_of_getElem? (i := 14) (by decide +kernel)
theorem qX3_become_15 : (Cond.fieldLink RX3 42 "DeadAsked$Hill" "graves" "I") ∈ wsX3_become := List.mem_of_getElem? (i := 15) (by decide +kernel)
theorem qX3_become_16 : (Cond.fieldLink RX3 46 "DeadAsked$Hill" "horns" "I") ∈ wsX3_become := List.mem_of_getElem? (i := 16) (by decide +kernel)
theorem qX3_become_17 : (Cond.fieldLink RX3 49 "DeadAsked$Hill" "trees" "I") ∈ wsX3_become := List.mem_of_getElem? (i := 17) (by decide +kernel)
theorem qX3_become_18 : (Cond.fieldLink RX3 52 "DeadAsked$Hill" "cracked" "I") ∈ wsX3_become := List.mem_of_getElem? (i := 18) (by decide +kernel)
theorem nX3_become_3 : ∀ w ∈ u_ws RX3 TX3 14, w ∈ wsX3_become := fun _ h => (List.mem_cons_of_mem _ (List.mem_append_right _ h))
set_option maxHeartbeats 4000000 in
set_option maxRecDepth 100000 in
theorem kX3_become (o0 : Nat) (a0 : Nat → Nat) (o1 : Nat) (a1 : Nat → Nat) (s0 : St) (s1 : St) (sz : Nat) (z0 : St) (hf : fX3_become s0 s1 = some z0) : Met l yX3_become wsX3_become ({ frames := 1, cells := 0, slots := 0, locals := 40 } : Room) (pcW (dC, dI) (q_ty cI cB cZ) [.ref o0, .ref o1] ((wcH cI o0 a0 s0) ++ (wcH cI o1 a1 s1)) sz) (qvW (dC, dI) (q_ty cI cB cZ) ((wcH cI o0 a0 s0) ++ (wcH cI o1 a1 s1)) ((wcH cI o0 a0 z0) ++ (wcH cI o1 a1 s1)) sz) 0 0 (va_A ((wcH cI o0 a0 s0) ++ (wcH cI o1 a1 s1)) sz) := by
  refine q_rwM (cc := cX3_become) (maxL := 2) (ret := none) (by decide +kernel) rfl (Nat.le_of_ble_eq_true rfl) ?_
  intro p e s m below meth c hx hb hr hlk hml hown hts hK A H hAe hH hsz hP hD hA hS ls hl
  have hown : s.vm.findClass RX3 = some m.cls := hown
  have hl : lv_has ls 2 [(0, .ref o0), (1, .ref o1)] := hl
  unfold fX3_become at hf
  refine lv_aload_n hx hb dX3_become_0 rfl (lv_at hl 1 rfl) ?_
  refine va_get (D := (dC, dI)) (ci := 3) (v := .ref (a1 0)) (C := RX3) (T := TX3) (N := 14) hx hb hts nX3_become_3 hown hK hP 11 rfl rfl 0 (by decide) (hts _ qX3_become_1) (fun _ h9 => h9) rfl dX3_become_1 ?_
  refine lv_iconst (v := 0) hx hb dX3_become_4 (by decide) ?_
  refine lv_aload_n hx hb dX3_become_5 rfl (lv_at hl 0 rfl) ?_
  refine va_get (D := (dC, dI)) (ci := 3) (v := .ref (a0 0)) (C := RX3) (T := TX3) (N := 14) hx hb hts nX3_become_3 hown hK hP 0 rfl rfl 0 (by decide) (hts _ qX3_become_1) (fun _ h9 => h9) rfl dX3_become_6 ?_
  refine lv_iconst (v := 0) hx hb dX3_become_9 (by decide) ?_
  refine lv_bipush (v := 12) hx hb dX3_become_10 (by decide) ?_
  obtain ⟨sn1, esn1, hf⟩ := q_lto hf
  refine va_copyi hx hb (hml.trans hl.1.symm) hown (hts _ qX3_become_2) (hts _ qX3_become_3) (hts _ qX3_become_4) (hts _ qX3_become_5) hK hP hD hS 12 1 0 0 rfl rfl rfl rfl rfl (by decide) (by decide) (by decide) (by decide) (by decide) (fun _ _ => rfl) (Nat.le_of_ble_eq_true rfl) (Nat.le_of_ble_eq_true rfl) dX3_become_12 (fun H locs hP hD hS => ?_)
  have hP : va_P (dC, dI) vwCl ((wcH cI o0 a0 sn1) ++ (wcH cI o1 a1 s1)) H := by rw [esn1]; exact hP
  have hD : va_D A ((wcH cI o0 a0 sn1) ++ (wcH cI o1 a1 s1)) := by rw [esn1]; exact hD
  refine lv_aload_n hx hb dX3_become_15 rfl (lv_at hl 1 rfl) ?_
  refine va_get (D := (dC, dI)) (ci := 3) (v := .ref (a1 1)) (C := RX3) (T := TX3) (N := 14) hx hb hts nX3_become_3 hown hK hP 11 rfl rfl 1 (by decide) (hts _ qX3_become_6) (fun _ h9 => h9) rfl dX3_become_16 ?_
  refine lv_iconst (v := 0) hx hb dX3_become_19 (by decide) ?_
  refine lv_aload_n hx hb dX3_become_20 rfl (lv_at hl 0 rfl) ?_
  refine va_get (D := (dC, dI)) (ci := 3) (v := .ref (a0 1)) (C := RX3) (T := TX3) (N := 14) hx hb hts nX3_become_3 hown hK hP 0 rfl rfl 1 (by decide) (hts _ qX3_become_6) (fun _ h9 => h9) rfl dX3_become_21 ?_
  refine lv_iconst (v := 0) hx hb dX3_become_24 (by decide) ?_
  refine lv_iconst (v := 5) hx hb dX3_become_25 (by decide) ?_
  obtain ⟨sn2, esn2, hf⟩ := q_lto hf
  refine va_copyi hx hb (hml.trans hl.1.symm) hown (hts _ qX3_become_2) (hts _ qX3_become_3) (hts _ qX3_become_4) (hts _ qX3_become_5) hK hP hD hS 13 2 0 0 rfl rfl rfl rfl rfl (by decide) (by decide) (by decide) (by decide) (by decide) (fun _ _ => rfl) (Nat.le_of_ble_eq_true rfl) (Nat.le_of_ble_eq_true rfl) dX3_become_26 (fun H locs hP hD hS => ?_)
  have hP : va_P (dC, dI) vwCl ((wcH cI o0 a0 sn2) ++ (wcH cI o1 a1 s1)) H := by rw [esn2]; exact hP
  have hD : va_D A ((wcH cI o0 a0 sn2) ++ (wcH cI o1 a1 s1)) := by rw [esn2]; exact hD
  refine lv_aload_n hx hb dX3_become_29 rfl (lv_at hl 1 rfl) ?_
  refine va_get (D := (dC, dI)) (ci := 3) (v := .ref (a1 2)) (C := RX3) (T := TX3) (N := 14) hx hb hts nX3_become_3 hown hK hP 11 rfl rfl 2 (by decide) (hts _ qX3_become_7) (fun _ h9 => h9) rfl dX3_become_30 ?_
  refine lv_iconst (v := 0) hx hb dX3_become_33 (by decide) ?_
  refine lv_aload_n hx hb dX3_become_34 rfl (lv_at hl 0 rfl) ?_
  refine va_get (D := (dC, dI)) (ci := 3) (v := .ref (a0 2)) (C := RX3) (T := TX3) (N := 14) hx hb hts nX3_become_3 hown hK hP 0 rfl rfl 2 (by decide) (hts _ qX3_become_7) (fun _ h9 => h9) rfl dX3_become_35 ?_
  refine lv_iconst (v := 0) hx hb dX3_become_38 (by decide) ?_
  refine lv_iconst (v := 5) hx hb dX3_become_39 (by decide) ?_
  obtain ⟨sn3, esn3, hf⟩ := q_lto hf
  refine va_copyi hx hb (hml.trans hl.1.symm) hown (hts _ qX3_become_2) (hts _ qX3_become_3) (hts _ qX3_become_4) (hts _ qX3_become_5) hK hP hD hS 14 3 0 0 rfl rfl rfl rfl rfl (by decide) (by decide) (by decide) (by decide) (by decide) (fun _ _ => rfl) (Nat.le_of_ble_eq_true rfl) (Nat.le_of_ble_eq_true rfl) dX3_become_40 (fun H locs hP hD hS => ?_)
  have hP : va_P (dC, dI) vwCl ((wcH cI o0 a0 sn3) ++ (wcH cI o1 a1 s1)) H := by rw [esn3]; exact hP
  have hD : va_D A ((wcH cI o0 a0 sn3) ++ (wcH cI o1 a1 s1)) := by rw [esn3]; exact hD
  refine lv_aload_n hx hb dX3_become_43 rfl (lv_at hl 1 rfl) ?_
  refine va_get (D := (dC, dI)) (ci := 3) (v := .ref (a1 3)) (C := RX3) (T := TX3) (N := 14) hx hb hts nX3_become_3 hown hK hP 11 rfl rfl 3 (by decide) (hts _ qX3_become_8) (fun _ h9 => h9) rfl dX3_become_44 ?_
  refine lv_iconst (v := 0) hx hb dX3_become_47 (by decide) ?_
  refine lv_aload_n hx hb dX3_become_48 rfl (lv_at hl 0 rfl) ?_
  refine va_get (D := (dC, dI)) (ci := 3) (v := .ref (a0 3)) (C := RX3) (T := TX3) (N := 14) hx hb hts nX3_become_3 hown hK hP 0 rfl rfl 3 (by decide) (hts _ qX3_become_8) (fun _ h9 => h9) rfl dX3_become_49 ?_
  refine lv_iconst (v := 0) hx hb dX3_become_52 (by decide) ?_
  refine lv_iconst (v := 5) hx hb dX3_become_53 (by decide) ?_
  obtain ⟨sn4, esn4, hf⟩ := q_lto hf
  refine va_copyi hx hb (hml.trans hl.1.symm) hown (hts _ qX3_become_2) (hts _ qX3_become_3) (hts _ qX3_become_4) (hts _ qX3_become_5) hK hP hD hS 15 4 0 0 rfl rfl rfl rfl rfl (by decide) (by decide) (by decide) (by decide) (by decide) (fun _ _ => rfl) (Nat.le_of_ble_eq_true rfl) (Nat.le_of_ble_eq_true rfl) dX3_become_54 (fun H locs hP hD hS => ?_)
  have hP : va_P (dC, dI) vwCl ((wcH cI o0 a0 sn4) ++ (wcH cI o1 a1 s1)) H := by rw [esn4]; exact hP
  have hD : va_D A ((wcH cI o0 a0 sn4) ++ (wcH cI o1 a1 s1)) := by rw [esn4]; exact hD
  refine lv_aload_n hx hb dX3_become_57 rfl (lv_at hl 1 rfl) ?_
  refine va_get (D := (dC, dI)) (ci := 3) (v := .ref (a1 4)) (C := RX3) (T := TX3) (N := 14) hx hb hts nX3_become_3 hown hK hP 11 rfl rfl 4 (by decide) (hts _ qX3_become_9) (fun _ h9 => h9) rfl dX3_become_58 ?_
  refine lv_iconst (v := 0) hx hb dX3_become_61 (by decide) ?_
  refine lv_aload_n hx hb dX3_become_62 rfl (lv_at hl 0 rfl) ?_
  refine va_get (D := (dC, dI)) (ci := 3) (v := .ref (a0 4)) (C := RX3) (T := TX3) (N := 14) hx hb hts nX3_become_3 hown hK hP 0 rfl rfl 4 (by decide) (hts _ qX3_become_9) (fun _ h9 => h9) rfl dX3_become_63 ?_
  refine lv_iconst (v := 0) hx hb dX3_become_66 (by decide) ?_
  refine lv_iconst (v := 5) hx hb dX3_become_67 (by decide) ?_
  obtain ⟨sn5, esn5, hf⟩ := q_lto hf
  refine va_copyi hx hb (hml.trans hl.1.symm) hown (hts _ qX3_become_2) (hts _ qX3_become_3) (hts _ qX3_become_4) (hts _ qX3_become_5) hK hP hD hS 16 5 0 0 rfl rfl rfl rfl rfl (by decide) (by decide) (by decide) (by decide) (by decide) (fun _ _ => rfl) (Nat.le_of_ble_eq_true rfl) (Nat.le_of_ble_eq_true rfl) dX3_become_68 (fun H locs hP hD hS => ?_)
  have hP : va_P (dC, dI) vwCl ((wcH cI o0 a0 sn5) ++ (wcH cI o1 a1 s1)) H := by rw [esn5]; exact hP
  have hD : va_D A ((wcH cI o0 a0 sn5) ++ (wcH cI o1 a1 s1)) := by rw [esn5]; exact hD
  refine lv_aload_n hx hb dX3_become_71 rfl (lv_at hl 1 rfl) ?_
  refine va_get (D := (dC, dI)) (ci := 3) (v := .ref (a1 5)) (C := RX3) (T := TX3) (N := 14) hx hb hts nX3_become_3 hown hK hP 11 rfl rfl 5 (by decide) (hts _ qX3_become_10) (fun _ h9 => h9) rfl dX3_become_72 ?_
  refine lv_iconst (v := 0) hx hb dX3_become_75 (by decide) ?_
  refine lv_aload_n hx hb dX3_become_76 rfl (lv_at hl 0 rfl) ?_
  refine va_get (D := (dC, dI)) (ci := 3) (v := .ref (a0 5)) (C := RX3) (T := TX3) (N := 14) hx hb hts nX3_become_3 hown hK hP 0 rfl rfl 5 (by decide) (hts _ qX3_become_10) (fun _ h9 => h9) rfl dX3_become_77 ?_
  refine lv_iconst (v := 0) hx hb dX3_become_80 (by decide) ?_
  refine lv_iconst (v := 4) hx hb dX3_become_81 (by decide) ?_
  obtain ⟨sn6, esn6, hf⟩ := q_lto hf
  refine va_copyi hx hb (hml.trans hl.1.symm) hown (hts _ qX3_become_2) (hts _ qX3_become_3) (hts _ qX3_become_4) (hts _ qX3_become_5) hK hP hD hS 17 6 0 0 rfl rfl rfl rfl rfl (by decide) (by decide) (by decide) (by decide) (by decide) (fun _ _ => rfl) (Nat.le_of_ble_eq_true rfl) (Nat.le_of_ble_eq_true rfl) dX3_become_82 (fun H locs hP hD hS => ?_)
  have hP : va_P (dC, dI) vwCl ((wcH cI o0 a0 sn6) ++ (wcH cI o1 a1 s1)) H := by rw [esn6]; exact hP
  have hD : va_D A ((wcH cI o0 a0 sn6) ++ (wcH cI o1 a1 s1)) := by rw [esn6]; exact hD
  refine lv_aload_n hx hb dX3_become_85 rfl (lv_at hl 1 rfl) ?_
  refine va_get (D := (dC, dI)) (ci := 3) (v := .ref (a1 6)) (C := RX3) (T := TX3) (N := 14) hx hb hts nX3_become_3 hown hK hP 11 rfl rfl 6 (by decide) (hts _ qX3_become_11) (fun _ h9 => h9) rfl dX3_become_86 ?_
  refine lv_iconst (v := 0) hx hb dX3_become_89 (by decide) ?_
  refine lv_aload_n hx hb dX3_become_90 rfl (lv_at hl 0 rfl) ?_
  refine va_get (D := (dC, dI)) (ci := 3) (v := .ref (a0 6)) (C := RX3) (T := TX3) (N := 14) hx hb hts nX3_become_3 hown hK hP 0 rfl rfl 6 (by decide) (hts _ qX3_become_11) (fun _ h9 => h9) rfl dX3_become_91 ?_
  refine lv_iconst (v := 0) hx hb dX3_become_94 (by decide) ?_
  refine lv_iconst (v := 4) hx hb dX3_become_95 (by decide) ?_
  obtain ⟨sn7, esn7, hf⟩ := q_lto hf
  refine va_copyi hx hb (hml.trans hl.1.symm) hown (hts _ qX3_become_2) (hts _ qX3_become_3) (hts _ qX3_become_4) (hts _ qX3_become_5) hK hP hD hS 18 7 0 0 rfl rfl rfl rfl rfl (by decide) (by decide) (by decide) (by decide) (by decide) (fun _ _ => rfl) (Nat.le_of_ble_eq_true rfl) (Nat.le_of_ble_eq_true rfl) dX3_become_96 (fun H locs hP hD hS => ?_)
  have hP : va_P (dC, dI) vwCl ((wcH cI o0 a0 sn7) ++ (wcH cI o1 a1 s1)) H := by rw [esn7]; exact hP
  have hD : va_D A ((wcH cI o0 a0 sn7) ++ (wcH cI o1 a1 s1)) := by rw [esn7]; exact hD
  refine lv_aload_n hx hb dX3_become_99 rfl (lv_at hl 1 rfl) ?_
  refine va_get (D := (dC, dI)) (ci := 3) (v := .ref (a1 7)) (C := RX3) (T := TX3) (N := 14) hx hb hts nX3_become_3 hown hK hP 11 rfl rfl 7 (by decide) (hts _ qX3_become_12) (fun _ h9 => h9) rfl dX3_become_100 ?_
  refine lv_iconst (v := 0) hx hb dX3_become_103 (by decide) ?_
  refine lv_aload_n hx hb dX3_become_104 rfl (lv_at hl 0 rfl) ?_
  refine va_get (D := (dC, dI)) (ci := 3) (v := .ref (a0 7)) (C := RX3) (T := TX3) (N := 14) hx hb hts nX3_become_3 hown hK hP 0 rfl rfl 7 (by decide) (hts _ qX3_become_12) (fun _ h9 => h9) rfl dX3_become_105 ?_
  refine lv_iconst (v := 0) hx hb dX3_become_108 (by decide) ?_
  refine lv_iconst (v := 4) hx hb dX3_become_109 (by decide) ?_
  obtain ⟨sn8, esn8, hf⟩ := q_lto hf
  refine va_copyi hx hb (hml.trans hl.1.symm) hown (hts _ qX3_become_2) (hts _ qX3_become_3) (hts _ qX3_become_4) (hts _ qX3_become_5) hK hP hD hS 19 8 0 0 rfl rfl rfl rfl rfl (by decide) (by decide) (by decide) (by decide) (by decide) (fun _ _ => rfl) (Nat.le_of_ble_eq_true rfl) (Nat.le_of_ble_eq_true rfl) dX3_become_110 (fun H locs hP hD hS => ?_)
  have hP : va_P (dC, dI) vwCl ((wcH cI o0 a0 sn8) ++ (wcH cI o1 a1 s1)) H := by rw [esn8]; exact hP
  have hD : va_D A ((wcH cI o0 a0 sn8) ++ (wcH cI o1 a1 s1)) := by rw [esn8]; exact hD
  refine lv_aload_n hx hb dX3_become_113 rfl (lv_at hl 1 rfl) ?_
  refine va_get (D := (dC, dI)) (ci := 3) (v := .ref (a1 8)) (C := RX3) (T := TX3) (N := 14) hx hb hts nX3_become_3 hown hK hP 11 rfl rfl 8 (by decide) (hts _ qX3_become_13) (fun _ h9 => h9) rfl dX3_become_114 ?_
  refine lv_iconst (v := 0) hx hb dX3_become_117 (by decide) ?_
  refine lv_aload_n hx hb dX3_become_118 rfl (lv_at hl 0 rfl) ?_
  refine va_get (D := (dC, dI)) (ci := 3) (v := .ref (a0 8)) (C := RX3) (T := TX3) (N := 14) hx hb hts nX3_become_3 hown hK hP 0 rfl rfl 8 (by decide) (hts _ qX3_become_13) (fun _ h9 => h9) rfl dX3_become_119 ?_
  refine lv_iconst (v := 0) hx hb dX3_become_122 (by decide) ?_
  refine lv_iconst (v := 4) hx hb dX3_become_123 (by decide) ?_
  obtain ⟨sn9, esn9, hf⟩ := q_lto hf
  refine va_copyi hx hb (hml.trans hl.1.symm) hown (hts _ qX3_become_2) (hts _ qX3_become_3) (hts _ qX3_become_4) (hts _ qX3_become_5) hK hP hD hS 20 9 0 0 rfl rfl rfl rfl rfl (by decide) (by decide) (by decide) (by decide) (by decide) (fun _ _ => rfl) (Nat.le_of_ble_eq_true rfl) (Nat.le_of_ble_eq_true rfl) dX3_become_124 (fun H locs hP hD hS => ?_)
  have hP : va_P (dC, dI) vwCl ((wcH cI o0 a0 sn9) ++ (wcH cI o1 a1 s1)) H := by rw [esn9]; exact hP
  have hD : va_D A ((wcH cI o0 a0 sn9) ++ (wcH cI o1 a1 s1)) := by rw [esn9]; exact hD
  refine lv_aload_n hx hb dX3_become_127 rfl (lv_at hl 1 rfl) ?_
  refine va_get (D := (dC, dI)) (ci := 3) (v := .ref (a1 9)) (C := RX3) (T := TX3) (N := 14) hx hb hts nX3_become_3 hown hK hP 11 rfl rfl 9 (by decide) (hts _ qX3_become_14) (fun _ h9 => h9) rfl dX3_become_128 ?_
  refine lv_iconst (v := 0) hx hb dX3_become_131 (by decide) ?_
  refine lv_aload_n hx hb dX3_become_132 rfl (lv_at hl 0 rfl) ?_
  refine va_get (D := (dC, dI)) (ci := 3) (v := .ref (a0 9)) (C := RX3) (T := TX3) (N := 14) hx hb hts nX3_become_3 hown hK hP 0 rfl rfl 9 (by decide) (hts _ qX3_become_14) (fun _ h9 => h9) rfl dX3_become_133 ?_
  refine lv_iconst (v := 0) hx hb dX3_become_136 (by decide) ?_
  refine lv_iconst (v := 4) hx hb dX3_become_137 (by decide) ?_
  obtain ⟨sn10, esn10, hf⟩ := q_lto hf
  refine va_copyi hx hb (hml.trans hl.1.symm) hown (hts _ qX3_become_2) (hts _ qX3_become_3) (hts _ qX3_become_4) (hts _ qX3_become_5) hK hP hD hS 21 10 0 0 rfl rfl rfl rfl rfl (by decide) (by decide) (by decide) (by decide) (by decide) (fun _ _ => rfl) (Nat.le_of_ble_eq_true rfl) (Nat.le_of_ble_eq_true rfl) dX3_become_138 (fun H locs hP hD hS => ?_)
  have hP : va_P (dC, dI) vwCl ((wcH cI o0 a0 sn10) ++ (wcH cI o1 a1 s1)) H := by rw [esn10]; exact hP
  have hD : va_D A ((wcH cI o0 a0 sn10) ++ (wcH cI o1 a1 s1)) := by rw [esn10]; exact hD
  refine lv_aload_n hx hb dX3_become_141 rfl (lv_at hl 0 rfl) ?_
  refine lv_aload_n hx hb dX3_become_142 rfl (lv_at hl 1 rfl) ?_
  refine va_get (D := (dC, dI)) (ci := 3) (v := .int (s1 10 0)) (C := RX3) (T := TX3) (N := 14) hx hb hts nX3_become_3 hown hK hP 11 rfl rfl 10 (by decide) (hts _ qX3_become_15) (fun _ h9 => h9) rfl dX3_become_143 ?_
  obtain ⟨sn11, esn11, hf⟩ := q_lto hf
  refine va_put (D := (dC, dI)) (ci := 3) (v := .int (s1 10 0)) (ty := .int) (C := RX3) (T := TX3) (N := 14) hx hb hts nX3_become_3 tyX3 tyX3_ok nmX3 hown hK hP hD hS 0 rfl rfl 10 (by decide) (hts _ qX3_become_15) (fun _ h9 => h9) rfl (by decide +kernel) rfl rfl (Nat.le_of_ble_eq_true rfl) dX3_become_146 (fun H locs hP hD hS => ?_)
  have hP : va_P (dC, dI) vwCl ((wcH cI o0 a0 sn11) ++ (wcH cI o1 a1 s1)) H := by rw [esn11]; exact hP
  have hD : va_D A ((wcH cI o0 a0 sn11) ++ (wcH cI o1 a1 s1)) := by rw [esn11]; exact hD
  refine lv_aload_n hx hb dX3_become_149 rfl (lv_at hl 0 rfl) ?_
  refine lv_aload_n hx hb dX3_become_150 rfl (lv_at hl 1 rfl) ?_
  refine va_get (D := (dC, dI)) (ci := 3) (v := .int (s1 11 0)) (C := RX3) (T := TX3) (N := 14) hx hb hts nX3_become_3 hown hK hP 11 rfl rfl 11 (by decide) (hts _ qX3_become_16) (fun _ h9 => h9) rfl dX3_become_151 ?_
  obtain ⟨sn12, esn12, hf⟩ := q_lto hf
  refine va_put (D := (dC, dI)) (ci := 3) (v := .int (s1 11 0)) (ty := .int) (C := RX3) (T := TX3) (N := 14) hx hb hts nX3_become_3 tyX3 tyX3_ok nmX3 hown hK hP hD hS 0 rfl rfl 11 (by decide) (hts _ qX3_become_16) (fun _ h9 => h9) rfl (by decide +kernel) rfl rfl (Nat.le_of_ble_eq_true rfl) dX3_become_154 (fun H locs hP hD hS => ?_)
  have hP : va_P (dC, dI) vwCl ((wcH cI o0 a0 sn12) ++ (wcH cI o1 a1 s1)) H := by rw [esn12]; exact hP
  have hD : va_D A ((wcH cI o0 a0 sn12) ++ (wcH cI o1 a1 s1)) := by rw [esn12]; exact hD
  refine lv_aload_n hx hb dX3_become_157 rfl (lv_at hl 0 rfl) ?_
  refine lv_aload_n hx hb dX3_become_158 rfl (lv_at hl 1 rfl) ?_
  refine va_get (D := (dC, dI)) (ci := 3) (v := .int (s1 12 0)) (C := RX3) (T := TX3) (N := 14) hx hb hts nX3_become_3 hown hK hP 11 rfl rfl 12 (by decide) (hts _ qX3_become_17) (fun _ h9 => h9) rfl dX3_become_159 ?_
  obtain ⟨sn13, esn13, hf⟩ := q_lto hf
  refine va_put (D := (dC, dI)) (ci := 3) (v := .int (s1 12 0)) (ty := .int) (C := RX3) (T := TX3) (N := 14) hx hb hts nX3_become_3 tyX3 tyX3_ok nmX3 hown hK hP hD hS 0 rfl rfl 12 (by decide) (hts _ qX3_become_17) (fun _ h9 => h9) rfl (by decide +kernel) rfl rfl (Nat.le_of_ble_eq_true rfl) dX3_become_162 (fun H locs hP hD hS => ?_)
  have hP : va_P (dC, dI) vwCl ((wcH cI o0 a0 sn13) ++ (wcH cI o1 a1 s1)) H := by rw [esn13]; exact hP
  have hD : va_D A ((wcH cI o0 a0 sn13) ++ (wcH cI o1 a1 s1)) := by rw [esn13]; exact hD
  refine lv_aload_n hx hb dX3_become_165 rfl (lv_at hl 0 rfl) ?_
  refine lv_aload_n hx hb dX3_become_166 rfl (lv_at hl 1 rfl) ?_
  refine va_get (D := (dC, dI)) (ci := 3) (v := .int (s1 13 0)) (C := RX3) (T := TX3) (N := 14) hx hb hts nX3_become_3 hown hK hP 11 rfl rfl 13 (by decide) (hts _ qX3_become_18) (fun _ h9 => h9) rfl dX3_become_167 ?_
  obtain ⟨sn14, esn14, hf⟩ := q_lto hf
  refine va_put (D := (dC, dI)) (ci := 3) (v := .int (s1 13 0)) (ty := .int) (C := RX3) (T := TX3) (N := 14) hx hb hts nX3_become_3 tyX3 tyX3_ok nmX3 hown hK hP hD hS 0 rfl rfl 13 (by decide) (hts _ qX3_become_18) (fun _ h9 => h9) rfl (by decide +kernel) rfl rfl (Nat.le_of_ble_eq_true rfl) dX3_become_170 (fun H locs hP hD hS => ?_)
  have hP : va_P (dC, dI) vwCl ((wcH cI o0 a0 sn14) ++ (wcH cI o1 a1 s1)) H := by rw [esn14]; exact hP
  have hD : va_D A ((wcH cI o0 a0 sn14) ++ (wcH cI o1 a1 s1)) := by rw [esn14]; exact hD
  have ee0 := q_s1 hf
  subst ee0
  exact q_wretV hx hb hr hlk hAe hK hP hD hS dX3_become_173
theorem hdX3_isHorn : yX3_isHorn.cls = RX3 ∧ yX3_isHorn.cls ≠ "java/lang/invoke/MethodHandle" ∧ yX3_isHorn.cls ≠ "java/lang/invoke/VarHandle" ∧ (parseMethodDescriptor yX3_isHorn.desc).map (fun d => d.parameters.length) = some 1 := by decide +kernel
theorem qX3_isHorn_1 : (Cond.fieldLink RX3 46 "DeadAsked$Hill" "horns" "I") ∈ wsX3_isHorn := List.mem_of_getElem? (i := 1) (by decide +kernel)
theorem nX3_isHorn_3 : ∀ w ∈ u_ws RX3 TX3 14, w ∈ wsX3_isHorn := fun _ h => (List.mem_cons_of_mem _ (List.mem_append_right _ h))
set_option maxHeartbeats 4000000 in
set_option maxRecDepth 100000 in
theorem kX3_isHorn (o0 : Nat) (a0 : Nat → Nat) (s0 : St) (p1 : Int32) (r : Int32) (hf : fX3_isHorn s0 p1 = some r) : Met l yX3_isHorn wsX3_isHorn ({ frames := 0, cells := 0, slots := 0, locals := 0 } : Room) (pcR (dC, dI) (q_ty cI cB cZ) [.ref o0, .int p1] (wcH cI o0 a0 s0)) (qiR r) 0 0 (fun _ => False) := by
  refine q_roM (cc := cX3_isHorn) (maxL := 2) (ret := (some .boolean)) (by decide +kernel) rfl (Nat.le_of_ble_eq_true rfl) ?_
  intro p e s m below meth c hx hb hr hlk hml hown hts hK hP ls hl
  have hown : s.vm.findClass RX3 = some m.cls := hown
  have hl : lv_has ls 2 [(0, .ref o0), (1, .int p1)] := hl
  unfold fX3_isHorn at hf
  refine lv_iload_n hx hb dX3_isHorn_0 rfl (lv_at hl 1 rfl) ?_
  refine lv_if_lt (tgt := 16) hx hb dX3_isHorn_1 (by decide) (fun c1 => ?_) (fun c1 => ?_)
  · have hf := q_t c1 hf
    refine lv_iconst (v := 0) hx hb dX3_isHorn_16 (by decide) ?_
    have ee0 := q_s1 hf
    exact q_retZ hx hb hr hlk rfl ee0 dX3_isHorn_17
  · have hf := q_f c1 hf
    refine lv_iload_n hx hb dX3_isHorn_4 rfl (lv_at hl 1 rfl) ?_
    refine lv_aload_n hx hb dX3_isHorn_5 rfl (lv_at hl 0 rfl) ?_
    refine va_get (D := (dC, dI)) (ci := 3) (v := .int (s0 11 0)) (C := RX3) (T := TX3) (N := 14) hx hb hts nX3_isHorn_3 hown hK hP 0 rfl rfl 11 (by decide) (hts _ qX3_isHorn_1) (fun _ h9 => h9) rfl dX3_isHorn_6 ?_
    refine lv_icmp_ge (tgt := 16) hx hb dX3_isHorn_9 (by decide) (fun c2 => ?_) (fun c2 => ?_)
    · have hf := q_t c2 hf
      refine lv_iconst (v := 0) hx hb dX3_isHorn_16 (by decide) ?_
      have ee0 := q_s1 hf
      exact q_retZ hx hb hr hlk rfl ee0 dX3_isHorn_17
    · have hf := q_f c2 hf
      refine lv_iconst (v := 1) hx hb dX3_isHorn_12 (by decide) ?_
      refine lv_goto (tgt := 17) hx hb dX3_isHorn_13 (by decide) ?_
      have ee0 := q_s1 hf
      exact q_retZ hx hb hr hlk rfl ee0 dX3_isHorn_17
theorem hdX3_isCracked : yX3_isCracked.cls = RX3 ∧ yX3_isCracked.cls ≠ "java/lang/invoke/MethodHandle" ∧ yX3_isCracked.cls ≠ "java/lang/invoke/VarHandle" ∧ (parseMethodDescriptor yX3_isCracked.desc).map (fun d => d.parameters.length) = some 1 := by decide +kernel
theorem qX3_isCracked_1 : (Cond.fieldLink RX3 52 "DeadAsked$Hill" "cracked" "I") ∈ wsX3_isCracked := List.mem_of_getElem? (i := 1) (by decide +kernel)
theorem nX3_isCracked_3 : ∀ w ∈ u_ws RX3 TX3 14, w ∈ wsX3_isCracked := fun _ h => (List.mem_cons_of_mem _ (List.mem_append_right _ h))
set_option maxHeartbeats 4000000 in
set_option maxRecDepth 100000 in
theorem kX3_isCracked (o0 : Nat) (a0 : Nat → Nat) (s0 : St) (p1 : Int32) (r : Int32) (hf : fX3_isCracked s0 p1 = some r) : Met l yX3_isCracked wsX3_isCracked ({ frames := 1, cells := 0, slots := 0, locals := 21 } : Room) (pcR (dC, dI) (q_ty cI cB cZ) [.ref o0, .int p1] (wcH cI o0 a0 s0)) (qiR r) 0 0 (fun _ => False) := by
  refine q_roM (cc := cX3_isCracked) (maxL := 2) (ret := (some .boolean)) (by decide +kernel) rfl (Nat.le_of_ble_eq_true rfl) ?_
  intro p e s m below meth c hx hb hr hlk hml hown hts hK hP ls hl
  have hown : s.vm.findClass RX3 = some m.cls := hown
  have hl : lv_has ls 2 [(0, .ref o0), (1, .int p1)] := hl
  unfold fX3_isCracked at hf
  refine lv_aload_n hx hb dX3_isCracked_0 rfl (lv_at hl 0 rfl) ?_
  refine va_get (D := (dC, dI)) (ci := 3) (v := .int (s0 13 0)) (C := RX3) (T := TX3) (N := 14) hx hb hts nX3_isCracked_3 hown hK hP 0 rfl rfl 13 (by decide) (hts _ qX3_isCracked_1) (fun _ h9 => h9) rfl dX3_isCracked_1 ?_
  refine lv_iload_n hx hb dX3_isCracked_4 rfl (lv_at hl 1 rfl) ?_
  obtain ⟨r1, h2, hf⟩ := q_b1o hf
  refine q_roSi (As := [.int (s0 13 0), .int p1]) (rest := []) ⟨hx, hb, hml, hown, hts⟩ (kX3_has l (s0 13 0) p1 r1 h2) (va_cwS 2 hts gX3_isCracked_X3_has rfl rfl rfl hdX3_has ⟨Nat.le_of_ble_eq_true rfl, Nat.le_of_ble_eq_true rfl⟩) rfl hl.1 rfl (Nat.le_of_ble_eq_true rfl) dX3_isCracked_5 ⟨Nat.zero_le _, Nat.zero_le _⟩ ?_
  obtain ⟨c3, hf⟩ := q_ck hf
  have ee0 := q_s1 hf
  exact q_retZ hx hb hr hlk (q_nb c3) ee0 dX3_isCracked_8
theorem hdX3_hasTreeAt : yX3_hasTreeAt.cls = RX3 ∧ yX3_hasTreeAt.cls ≠ "java/lang/invoke/MethodHandle" ∧ yX3_hasTreeAt.cls ≠ "java/lang/invoke/VarHandle" ∧ (parseMethodDescriptor yX3_hasTreeAt.desc).map (fun d => d.parameters.length) = some 1 := by decide +kernel
theorem qX3_hasTreeAt_1 : (Cond.fieldLink RX3 49 "DeadAsked$Hill" "trees" "I") ∈ wsX3_hasTreeAt := List.mem_of_getElem? (i := 1) (by decide +kernel)
theorem qX3_hasTreeAt_2 : (Cond.fieldLink RX3 36 "DeadAsked$Hill" "treeX" "[I") ∈ wsX3_hasTreeAt := List.mem_of_getElem? (i := 2) (by decide +kernel)
theorem nX3_hasTreeAt_3 : ∀ w ∈ u_ws RX3 TX3 14, w ∈ wsX3_hasTreeAt := fun _ h => (List.mem_cons_of_mem _ (List.mem_append_right _ h))
set_option maxHeartbeats 4000000 in
set_option maxRecDepth 100000 in
theorem kX3_hasTreeAt (o0 : Nat) (a0 : Nat → Nat) (s0 : St) (p1 : Int32) (r : Int32) (hf : fX3_hasTreeAt s0 p1 = some r) : Met l yX3_hasTreeAt wsX3_hasTreeAt ({ frames := 0, cells := 0, slots := 0, locals := 0 } : Room) (pcR (dC, dI) (q_ty cI cB cZ) [.ref o0, .int p1] (wcH cI o0 a0 s0)) (qiR r) 0 0 (fun _ => False) := by
  refine q_roM (cc := cX3_hasTreeAt) (maxL := 3) (ret := (some .boolean)) (by decide +kernel) rfl (Nat.le_of_ble_eq_true rfl) ?_
  intro p e s m below meth c hx hb hr hlk hml hown hts hK hP ls hl
  have hown : s.vm.findClass RX3 = some m.cls := hown
  have hl : lv_has ls 3 [(0, .ref o0), (1, .int p1)] := hl
  unfold fX3_hasTreeAt at hf
  refine lv_iconst (v := 0) hx hb dX3_hasTreeAt_0 (by decide) ?_
  refine lv_istore_n (lv' := [(2, .int (0 : Int32)), (0, .ref o0), (1, .int p1)]) hx hb dX3_hasTreeAt_1 rfl hl (by decide) rfl (fun ls hl => ?_)
  have aihn2 : ∀ n2 : Nat, ∀ l2_1 : Int32, fX3_hasTreeAt_L2 p1 s0 n2 l2_1 = some r → ∀ ls : Array Slot, lv_has ls 3 [(2, .int l2_1), (0, .ref o0), (1, .int p1)] → W p l e ({ frames := 0, cells := 0, slots := 0, locals := 0 } : Room) s m [.ref o0, .int p1].toArray below meth c s.heap [] 0 0 (MQ below (qiR r) [.ref o0, .int p1].toArray s 0 0 (fun _ => False)) (F0 m 2 ls []) := by
    intro n2
    induction n2 with
    | zero =>
      intro l2_1 hf
      exact q_no hf
    | succ n2 ihn2 =>
      intro l2_1 hf ls hl
      rw [fX3_hasTreeAt_L2] at hf
      refine lv_iload_n hx hb dX3_hasTreeAt_2 rfl (lv_at hl 0 rfl) ?_
      refine lv_aload_n hx hb dX3_hasTreeAt_3 rfl (lv_at hl 1 rfl) ?_
      refine va_get (D := (dC, dI)) (ci := 3) (v := .int (s0 12 0)) (C := RX3) (T := TX3) (N := 14) hx hb hts nX3_hasTreeAt_3 hown hK hP 0 rfl rfl 12 (by decide) (hts _ qX3_hasTreeAt_1) (fun _ h9 => h9) rfl dX3_hasTreeAt_4 ?_
      refine lv_icmp_ge (tgt := 28) hx hb dX3_hasTreeAt_7 (by decide) (fun c3 => ?_) (fun c3 => ?_)
      · have hf := q_t c3 hf
        refine lv_iconst (v := 0) hx hb dX3_hasTreeAt_28 (by decide) ?_
        have ee0 := q_s1 hf
        exact q_retZ hx hb hr hlk rfl ee0 dX3_hasTreeAt_29
      · have hf := q_f c3 hf
        refine lv_aload_n hx hb dX3_hasTreeAt_10 rfl (lv_at hl 1 rfl) ?_
        refine va_get (D := (dC, dI)) (ci := 3) (v := .ref (a0 8)) (C := RX3) (T := TX3) (N := 14) hx hb hts nX3_hasTreeAt_3 hown hK hP 0 rfl rfl 8 (by decide) (hts _ qX3_hasTreeAt_2) (fun _ h9 => h9) rfl dX3_hasTreeAt_11 ?_
        refine lv_iload_n hx hb dX3_hasTreeAt_14 rfl (lv_at hl 0 rfl) ?_
        obtain ⟨c4, hf⟩ := q_ck hf
        refine va_iald hx hb hK hP 9 0 rfl rfl c4 dX3_hasTreeAt_15 ?_
        refine lv_iload_n hx hb dX3_hasTreeAt_16 rfl (lv_at hl 2 rfl) ?_
        refine lv_icmp_ne (tgt := 22) hx hb dX3_hasTreeAt_17 (by decide) (fun c5 => ?_) (fun c5 => ?_)
        · have hf := q_f c5 hf
          refine lv_iinc (v := l2_1 + (1 : Int32)) (lv' := [(2, .int (l2_1 + (1 : Int32))), (0, .ref o0), (1, .int p1)]) hx hb dX3_hasTreeAt_22 hl (k := 0) rfl rfl (by decide) rfl (fun ls hl => ?_)
          refine lv_goto (tgt := 2) hx hb dX3_hasTreeAt_25 (by decide) ?_
          exact ihn2 (l2_1 + (1 : Int32)) hf _ hl
        · have hf := q_t c5 hf
          refine lv_iconst (v := 1) hx hb dX3_hasTreeAt_20 (by decide) ?_
          have ee0 := q_s1 hf
          exact q_retZ hx hb hr hlk rfl ee0 dX3_hasTreeAt_21
  exact aihn2 5000 (0 : Int32) hf _ hl
theorem hdX3_fruitInAll : yX3_fruitInAll.cls = RX3 ∧ yX3_fruitInAll.cls ≠ "java/lang/invoke/MethodHandle" ∧ yX3_fruitInAll.cls ≠ "java/lang/invoke/VarHandle" ∧ (parseMethodDescriptor yX3_fruitInAll.desc).map (fun d => d.parameters.length) = some 0 := by decide +kernel
theorem qX3_fruitInAll_1 : (Cond.fieldLink RX3 49 "DeadAsked$Hill" "trees" "I") ∈ wsX3_fruitInAll := List.mem_of_getElem? (i := 1) (by decide +kernel)
theorem qX3_fruitInAll_2 : (Cond.fieldLink RX3 39 "DeadAsked$Hill" "fruit" "[I") ∈ wsX3_fruitInAll := List.mem_of_getElem? (i := 2) (by decide +kernel)
theorem nX3_fruitInAll_3 : ∀ w ∈ u_ws RX3 TX3 14, w ∈ wsX3_fruitInAll := fun _ h => (List.mem_cons_of_mem _ (List.mem_append_right _ h))
set_option maxHeartbeats 4000000 in
set_option maxRecDepth 100000 in
theorem kX3_fruitInAll (o0 : Nat) (a0 : Nat → Nat) (s0 : St) (r : Int32) (hf : fX3_fruitInAll s0 = some r) : Met l yX3_fruitInAll wsX3_fruitInAll ({ frames := 0, cells := 0, slots := 0, locals := 0 } : Room) (pcR (dC, dI) (q_ty cI cB cZ) [.ref o0] (wcH cI o0 a0 s0)) (qiR r) 0 0 (fun _ => False) := by
  refine q_roM (cc := cX3_fruitInAll) (maxL := 3) (ret := (some .int)) (by decide +kernel) rfl (Nat.le_of_ble_eq_true rfl) ?_
  intro p e s m below meth c hx hb hr hlk hml hown hts hK hP ls hl
  have hown : s.vm.findClass RX3 = some m.cls := hown
  have hl : lv_has ls 3 [(0, .ref o0)] := hl
  unfold fX3_fruitInAll at hf
  refine lv_iconst (v := 0) hx hb dX3_fruitInAll_0 (by decide) ?_
  refine lv_istore_n (lv' := [(1, .int (0 : Int32)), (0, .ref o0)]) hx hb dX3_fruitInAll_1 rfl hl (by decide) rfl (fun ls hl => ?_)
  refine lv_iconst (v := 0) hx hb dX3_fruitInAll_2 (by decide) ?_
  refine lv_istore_n (lv' := [(2, .int (0 : Int32)), (1, .int (0 : Int32)), (0, .ref o0)]) hx hb dX3_fruitInAll_3 rfl hl (by decide) rfl (fun ls hl => ?_)
  obtain ⟨oz4, hqn3, hf⟩ := q_b1o hf
  have kxn3 : ∀ z4 : Int32, z4 = oz4 → ∀ ls : Array Slot, lv_has ls 3 [(1, .int z4)] → W p l e ({ frames := 0, cells := 0, slots := 0, locals := 0 } : Room) s m [.ref o0].toArray below meth c s.heap [] 0 0 (MQ below (qiR r) [.ref o0].toArray s 0 0 (fun _ => False)) (F0 m 27 ls []) := by
    intro z4 ez4 ls hl
    subst ez4
    refine lv_iload_n hx hb dX3_fruitInAll_27 rfl (lv_at hl 0 rfl) ?_
    have ee0 := q_s1 hf
    exact q_retI hx hb hr hlk ee0 dX3_fruitInAll_28
  have aihn3 : ∀ n3 : Nat, ∀ l1_1 : Int32, ∀ l2_2 : Int32, fX3_fruitInAll_L4 s0 n3 l1_1 l2_2 = some oz4 → ∀ ls : Array Slot, lv_has ls 3 [(2, .int l2_2), (1, .int l1_1), (0, .ref o0)] → W p l e ({ frames := 0, cells := 0, slots := 0, locals := 0 } : Room) s m [.ref o0].toArray below meth c s.heap [] 0 0 (MQ below (qiR r) [.ref o0].toArray s 0 0 (fun _ => False)) (F0 m 4 ls []) := by
    intro n3
    induction n3 with
    | zero =>
      intro l1_1 l2_2 hf
      exact q_no hf
    | succ n3 ihn3 =>
      intro l1_1 l2_2 hf ls hl
      rw [fX3_fruitInAll_L4] at hf
      refine lv_iload_n hx hb dX3_fruitInAll_4 rfl (lv_at hl 0 rfl) ?_
      refine lv_aload_n hx hb dX3_fruitInAll_5 rfl (lv_at hl 2 rfl) ?_
      refine va_get (D := (dC, dI)) (ci := 3) (v := .int (s0 12 0)) (C := RX3) (T := TX3) (N := 14) hx hb hts nX3_fruitInAll_3 hown hK hP 0 rfl rfl 12 (by decide) (hts _ qX3_fruitInAll_1) (fun _ h9 => h9) rfl dX3_fruitInAll_6 ?_
      refine lv_icmp_ge (tgt := 27) hx hb dX3_fruitInAll_9 (by decide) (fun c5 => ?_) (fun c5 => ?_)
      · have hf := q_t c5 hf
        exact kxn3 l1_1 (q_s1 hf) _ (lv_sub hl [1] rfl)
      · have hf := q_f c5 hf
        refine lv_iload_n hx hb dX3_fruitInAll_12 rfl (lv_at hl 1 rfl) ?_
        refine lv_aload_n hx hb dX3_fruitInAll_13 rfl (lv_at hl 2 rfl) ?_
        refine va_get (D := (dC, dI)) (ci := 3) (v := .ref (a0 9)) (C := RX3) (T := TX3) (N := 14) hx hb hts nX3_fruitInAll_3 hown hK hP 0 rfl rfl 9 (by decide) (hts _ qX3_fruitInAll_2) (fun _ h9 => h9) rfl dX3_fruitInAll_14 ?_
        refine lv_iload_n hx hb dX3_fruitInAll_17 rfl (lv_at hl 0 rfl) ?_
        obtain ⟨c6, hf⟩ := q_ck hf
        refine va_iald hx hb hK hP 10 0 rfl rfl c6 dX3_fruitInAll_18 ?_
        refine lv_iadd hx hb dX3_fruitInAll_19 ?_
        obtain ⟨x7, ex7, hf⟩ := q_lto hf
        refine W.eq (g2 := F0 m 20 ls [.int x7]) (by rw [ex7]) ?_
        refine lv_istore_n (lv' := [(1, .int x7), (2, .int l2_2), (0, .ref o0)]) hx hb dX3_fruitInAll_20 rfl hl (by decide) rfl (fun ls hl => ?_)
        refine lv_iinc (v := l2_2 + (1 : Int32)) (lv' := [(2, .int (l2_2 + (1 : Int32))), (1, .int x7), (0, .ref o0)]) hx hb dX3_fruitInAll_21 hl (k := 1) rfl rfl (by decide) rfl (fun ls hl => ?_)
        refine lv_goto (tgt := 4) hx hb dX3_fruitInAll_24 (by decide) ?_
        exact ihn3 x7 (l2_2 + (1 : Int32)) hf _ hl
  exact aihn3 5000 (0 : Int32) (0 : Int32) hqn3 _ hl
theorem hdX3_bears : yX3_bears.cls = RX3 ∧ yX3_bears.cls ≠ "java/lang/invoke/MethodHandle" ∧ yX3_bears.cls ≠ "java/lang/invoke/VarHandle" ∧ (parseMethodDescriptor yX3_bears.desc).map (fun d => d.parameters.length) = some 2 := by decide +kernel
theorem qX3_bears_1 : (Cond.fieldLink RX3 39 "DeadAsked$Hill" "fruit" "[I") ∈ wsX3_bears := List.mem_of_getElem? (i := 1) (by decide +kernel)
theorem nX3_bears_3 : ∀ w ∈ u_ws RX3 TX3 14, w ∈ wsX3_bears := fun _ h => (List.mem_cons_of_mem _ (List.mem_append_right _ h))
set_option maxHeartbeats 4000000 in
set_option maxRecDepth 100000 in
theorem kX3_bears (o0 : Nat) (a0 : Nat → Nat) (s0 : St) (p1 : Int32) (p2 : Int32) (r : Int32) (hf : fX3_bears s0 p1 p2 = some r) : Met l yX3_bears wsX3_bears ({ frames := 1, cells := 0, slots := 0, locals := 21 } : Room) (pcR (dC, dI) (q_ty cI cB cZ) [.ref o0, .int p1, .int p2] (wcH cI o0 a0 s0)) (qiR r) 0 0 (fun _ => False) := by
  refine q_roM (cc := cX3_bears) (maxL := 3) (ret := (some .boolean)) (by decide +kernel) rfl (Nat.le_of_ble_eq_true rfl) ?_
  intro p e s m below meth c hx hb hr hlk hml hown hts hK hP ls hl
  have hown : s.vm.findClass RX3 = some m.cls := hown
  have hl : lv_has ls 3 [(0, .ref o0), (1, .int p1), (2, .int p2)] := hl
  unfold fX3_bears at hf
  refine lv_aload_n hx hb dX3_bears_0 rfl (lv_at hl 0 rfl) ?_
  refine lv_iload_n hx hb dX3_bears_1 rfl (lv_at hl 1 rfl) ?_
  obtain ⟨r1, h2, hf⟩ := q_b1o hf
  refine q_roVi (As := [.int p1]) (rest := []) (ci := 3) ⟨hx, hb, hml, hown, hts⟩ (kX3_isTree l dC dI cI cB cZ o0 a0 s0 p1 r1 h2) (cwV 1 hts gX3_bears_X3_isTree rfl rfl rfl hdX3_isTree ⟨Nat.le_of_ble_eq_true rfl, Nat.le_of_ble_eq_true rfl⟩) hK hP rfl rfl rfl hl.1 rfl (Nat.le_of_ble_eq_true rfl) dX3_bears_2 ⟨Nat.zero_le _, Nat.zero_le _⟩ ?_
  refine lv_if_eq (tgt := 29) hx hb dX3_bears_5 (by decide) (fun c3 => ?_) (fun c3 => ?_)
  · have hf := q_t c3 hf
    refine lv_iconst (v := 0) hx hb dX3_bears_29 (by decide) ?_
    have ee0 := q_s1 hf
    exact q_retZ hx hb hr hlk rfl ee0 dX3_bears_30
  · have hf := q_f c3 hf
    refine lv_aload_n hx hb dX3_bears_8 rfl (lv_at hl 0 rfl) ?_
    refine va_get (D := (dC, dI)) (ci := 3) (v := .ref (a0 9)) (C := RX3) (T := TX3) (N := 14) hx hb hts nX3_bears_3 hown hK hP 0 rfl rfl 9 (by decide) (hts _ qX3_bears_1) (fun _ h9 => h9) rfl dX3_bears_9 ?_
    refine lv_iload_n hx hb dX3_bears_12 rfl (lv_at hl 1 rfl) ?_
    obtain ⟨c4, hf⟩ := q_ck hf
    refine va_iald hx hb hK hP 10 0 rfl rfl c4 dX3_bears_13 ?_
    refine lv_if_le (tgt := 29) hx hb dX3_bears_14 (by decide) (fun c5 => ?_) (fun c5 => ?_)
    · have hf := q_t c5 hf
      refine lv_iconst (v := 0) hx hb dX3_bears_29 (by decide) ?_
      have ee0 := q_s1 hf
      exact q_retZ hx hb hr hlk rfl ee0 dX3_bears_30
    · have hf := q_f c5 hf
      refine lv_iload_n hx hb dX3_bears_17 rfl (lv_at hl 2 rfl) ?_
      refine lv_iload_n hx hb dX3_bears_18 rfl (lv_at hl 1 rfl) ?_
      obtain ⟨r6, h7, hf⟩ := q_b1o hf
      refine q_roSi (As := [.int p2, .int p1]) (rest := []) ⟨hx, hb, hml, hown, hts⟩ (kX3_has l p2 p1 r6 h7) (va_cwS 2 hts gX3_bears_X3_has rfl rfl rfl hdX3_has ⟨Nat.le_of_ble_eq_true rfl, Nat.le_of_ble_eq_true rfl⟩) rfl hl.1 rfl (Nat.le_of_ble_eq_true rfl) dX3_bears_19 ⟨Nat.zero_le _, Nat.zero_le _⟩ ?_
      refine lv_if_ne (tgt := 29) hx hb dX3_bears_22 (by decide) (fun c8 => ?_) (fun c8 => ?_)
      · have hf := q_f c8 hf
        refine lv_iconst (v := 0) hx hb dX3_bears_29 (by decide) ?_
        have ee0 := q_s1 hf
        exact q_retZ hx hb hr hlk rfl ee0 dX3_bears_30
      · have hf := q_t c8 hf
        refine lv_iconst (v := 1) hx hb dX3_bears_25 (by decide) ?_
        refine lv_goto (tgt := 30) hx hb dX3_bears_26 (by decide) ?_
        have ee0 := q_s1 hf
        exact q_retZ hx hb hr hlk rfl ee0 dX3_bears_30
theorem hdX3_blown : yX3_blown.cls = RX3 ∧ yX3_blown.cls ≠ "java/lang/invoke/MethodHandle" ∧ yX3_blown.cls ≠ "java/lang/invoke/VarHandle" ∧ (parseMethodDescriptor yX3_blown.desc).map (fun d => d.parameters.length) = some 2 := by decide +kernel
theorem qX3_blown_1 : (Cond.fieldLink RX3 9 "DeadAsked$Hill" "winds" "[I") ∈ wsX3_blown := List.mem_of_getElem? (i := 1) (by decide +kernel)
theorem nX3_blown_3 : ∀ w ∈ u_ws RX3 TX3 14, w ∈ wsX3_blown := fun _ h => (List.mem_cons_of_mem _ (List.mem_append_right _ h))
set_option maxHeartbeats 4000000 in
set_option maxRecDepth 100000 in
theorem kX3_blown (o0 : Nat) (a0 : Nat → Nat) (s0 : St) (p1 : Int32) (p2 : Int32) (r : Int32) (hf : fX3_blown s0 p1 p2 = some r) : Met l yX3_blown wsX3_blown ({ frames := 2, cells := 0, slots := 0, locals := 43 } : Room) (pcR (dC, dI) (q_ty cI cB cZ) [.ref o0, .int p1, .int p2] (wcH cI o0 a0 s0)) (qiR r) 0 0 (fun _ => False) := by
  refine q_roM (cc := cX3_blown) (maxL := 3) (ret := (some .int)) (by decide +kernel) rfl (Nat.le_of_ble_eq_true rfl) ?_
  intro p e s m below meth c hx hb hr hlk hml hown hts hK hP ls hl
  have hown : s.vm.findClass RX3 = some m.cls := hown
  have hl : lv_has ls 3 [(0, .ref o0), (1, .int p1), (2, .int p2)] := hl
  unfold fX3_blown at hf
  refine lv_aload_n hx hb dX3_blown_0 rfl (lv_at hl 0 rfl) ?_
  refine lv_iload_n hx hb dX3_blown_1 rfl (lv_at hl 1 rfl) ?_
  refine lv_iconst (v := 0) hx hb dX3_blown_2 (by decide) ?_
  obtain ⟨r1, h2, hf⟩ := q_b1o hf
  refine q_roVi (As := [.int p1, .int (0 : Int32)]) (rest := []) (ci := 3) ⟨hx, hb, hml, hown, hts⟩ (kX3_bears l dC dI cI cB cZ o0 a0 s0 p1 (0 : Int32) r1 h2) (cwV 2 hts gX3_blown_X3_bears rfl rfl rfl hdX3_bears ⟨Nat.le_of_ble_eq_true rfl, Nat.le_of_ble_eq_true rfl⟩) hK hP rfl rfl rfl hl.1 rfl (Nat.le_of_ble_eq_true rfl) dX3_blown_3 ⟨Nat.zero_le _, Nat.zero_le _⟩ ?_
  refine lv_if_eq (tgt := 19) hx hb dX3_blown_6 (by decide) (fun c3 => ?_) (fun c3 => ?_)
  · have hf := q_t c3 hf
    refine lv_iconst (v := 0) hx hb dX3_blown_19 (by decide) ?_
    have ee0 := q_s1 hf
    exact q_retI hx hb hr hlk ee0 dX3_blown_20
  · have hf := q_f c3 hf
    refine lv_iload_n hx hb dX3_blown_9 rfl (lv_at hl 2 rfl) ?_
    refine lv_if_lt (tgt := 19) hx hb dX3_blown_10 (by decide) (fun c4 => ?_) (fun c4 => ?_)
    · have hf := q_t c4 hf
      refine lv_iconst (v := 0) hx hb dX3_blown_19 (by decide) ?_
      have ee0 := q_s1 hf
      exact q_retI hx hb hr hlk ee0 dX3_blown_20
    · have hf := q_f c4 hf
      refine lv_iload_n hx hb dX3_blown_13 rfl (lv_at hl 2 rfl) ?_
      refine lv_bipush (v := 12) hx hb dX3_blown_14 (by decide) ?_
      refine lv_icmp_lt (tgt := 21) hx hb dX3_blown_16 (by decide) (fun c5 => ?_) (fun c5 => ?_)
      · have hf := q_t c5 hf
        refine lv_aload_n hx hb dX3_blown_21 rfl (lv_at hl 0 rfl) ?_
        refine lv_iload_n hx hb dX3_blown_22 rfl (lv_at hl 1 rfl) ?_
        obtain ⟨r6, h7, hf⟩ := q_b1o hf
        refine q_roVi (As := [.int p1]) (rest := []) (ci := 3) ⟨hx, hb, hml, hown, hts⟩ (kX3_loose l dC dI cI cB cZ o0 a0 s0 p1 r6 h7) (cwV 1 hts gX3_blown_X3_loose rfl rfl rfl hdX3_loose ⟨Nat.le_of_ble_eq_true rfl, Nat.le_of_ble_eq_true rfl⟩) hK hP rfl rfl rfl hl.1 rfl (Nat.le_of_ble_eq_true rfl) dX3_blown_23 ⟨Nat.zero_le _, Nat.zero_le _⟩ ?_
        refine lv_aload_n hx hb dX3_blown_26 rfl (lv_at hl 0 rfl) ?_
        refine va_get (D := (dC, dI)) (ci := 3) (v := .ref (a0 0)) (C := RX3) (T := TX3) (N := 14) hx hb hts nX3_blown_3 hown hK hP 0 rfl rfl 0 (by decide) (hts _ qX3_blown_1) (fun _ h9 => h9) rfl dX3_blown_27 ?_
        refine lv_iload_n hx hb dX3_blown_30 rfl (lv_at hl 2 rfl) ?_
        obtain ⟨c8, hf⟩ := q_ck hf
        refine va_iald hx hb hK hP 1 0 rfl rfl c8 dX3_blown_31 ?_
        refine lv_imul hx hb dX3_blown_32 ?_
        have ee0 := q_s1 hf
        exact q_retI hx hb hr hlk ee0 dX3_blown_33
      · have hf := q_f c5 hf
        refine lv_iconst (v := 0) hx hb dX3_blown_19 (by decide) ?_
        have ee0 := q_s1 hf
        exact q_retI hx hb hr hlk ee0 dX3_blown_20
theorem hdX3_arrives : yX3_arrives.cls = RX3 ∧ yX3_arrives.cls ≠ "java/lang/invoke/MethodHandle" ∧ yX3_arrives.cls ≠ "java/lang/invoke/VarHandle" ∧ (parseMethodDescriptor yX3_arrives.desc).map (fun d => d.parameters.length) = some 2 := by decide +kernel
theorem qX3_arrives_1 : (Cond.fieldLink RX3 30 "DeadAsked$Hill" "loud" "[I") ∈ wsX3_arrives := List.mem_of_getElem? (i := 1) (by decide +kernel)
theorem qX3_arrives_2 : (Cond.fieldLink RX3 27 "DeadAsked$Hill" "hornX" "[I") ∈ wsX3_arrives := List.mem_of_getElem? (i := 2) (by decide +kernel)
theorem qX3_arrives_3 : (Cond.fieldLink RX3 15 "DeadAsked$Hill" "graveX" "[I") ∈ wsX3_arrives := List.mem_of_getElem? (i := 3) (by decide +kernel)
theorem qX3_arrives_4 : (Cond.methodLink RX3 87 yJ9_abs_0f7a4) ∈ wsX3_arrives := List.mem_of_getElem? (i := 4) (by decide +kernel)
theorem qX3_arrives_5 : (Cond.static yJ9_abs_0f7a4) ∈ wsX3_arrives := List.mem_of_getElem? (i := 5) (by decide +kernel)
theorem qX3_arrives_6 : (Cond.initialized "java/lang/Math") ∈ wsX3_arrives := List.mem_of_getElem? (i := 6) (by decide +kernel)
theorem qX3_arrives_7 : (Cond.code yJ9_abs_0f7a4 Lib.Math.abs.code 1 (some .int)) ∈ wsX3_arrives := List.mem_of_getElem? (i := 7) (by decide +kernel)
theorem qX3_arrives_8 : (Cond.fieldLink RX3 18 "DeadAsked$Hill" "hears" "[I") ∈ wsX3_arrives := List.mem_of_getElem? (i := 8) (by decide +kernel)
theorem nX3_arrives_3 : ∀ w ∈ u_ws RX3 TX3 14, w ∈ wsX3_arrives := fun _ h => (List.mem_cons_of_mem _ (List.mem_append_right _ h))
set_option maxHeartbeats 4000000 in
set_option maxRecDepth 100000 in
theorem kX3_arrives (o0 : Nat) (a0 : Nat → Nat) (s0 : St) (p1 : Int32) (p2 : Int32) (r : Int32) (hf : fX3_arrives s0 p1 p2 = some r) : Met l yX3_arrives wsX3_arrives ({ frames := 1, cells := 0, slots := 0, locals := 21 } : Room) (pcR (dC, dI) (q_ty cI cB cZ) [.ref o0, .int p1, .int p2] (wcH cI o0 a0 s0)) (qiR r) 0 0 (fun _ => False) := by
  refine q_roM (cc := cX3_arrives) (maxL := 3) (ret := (some .int)) (by decide +kernel) rfl (Nat.le_of_ble_eq_true rfl) ?_
  intro p e s m below meth c hx hb hr hlk hml hown hts hK hP ls hl
  have hown : s.vm.findClass RX3 = some m.cls := hown
  have hl : lv_has ls 3 [(0, .ref o0), (1, .int p1), (2, .int p2)] := hl
  unfold fX3_arrives at hf
  refine lv_aload_n hx hb dX3_arrives_0 rfl (lv_at hl 0 rfl) ?_
  refine va_get (D := (dC, dI)) (ci := 3) (v := .ref (a0 6)) (C := RX3) (T := TX3) (N := 14) hx hb hts nX3_arrives_3 hown hK hP 0 rfl rfl 6 (by decide) (hts _ qX3_arrives_1) (fun _ h9 => h9) rfl dX3_arrives_1 ?_
  refine lv_iload_n hx hb dX3_arrives_4 rfl (lv_at hl 1 rfl) ?_
  obtain ⟨c1, hf⟩ := q_ck hf
  refine va_iald hx hb hK hP 7 0 rfl rfl c1 dX3_arrives_5 ?_
  refine lv_aload_n hx hb dX3_arrives_6 rfl (lv_at hl 0 rfl) ?_
  refine va_get (D := (dC, dI)) (ci := 3) (v := .ref (a0 5)) (C := RX3) (T := TX3) (N := 14) hx hb hts nX3_arrives_3 hown hK hP 0 rfl rfl 5 (by decide) (hts _ qX3_arrives_2) (fun _ h9 => h9) rfl dX3_arrives_7 ?_
  refine lv_iload_n hx hb dX3_arrives_10 rfl (lv_at hl 1 rfl) ?_
  obtain ⟨c2, hf⟩ := q_ck hf
  refine va_iald hx hb hK hP 6 0 rfl rfl c2 dX3_arrives_11 ?_
  refine lv_aload_n hx hb dX3_arrives_12 rfl (lv_at hl 0 rfl) ?_
  refine va_get (D := (dC, dI)) (ci := 3) (v := .ref (a0 1)) (C := RX3) (T := TX3) (N := 14) hx hb hts nX3_arrives_3 hown hK hP 0 rfl rfl 1 (by decide) (hts _ qX3_arrives_3) (fun _ h9 => h9) rfl dX3_arrives_13 ?_
  refine lv_iload_n hx hb dX3_arrives_16 rfl (lv_at hl 2 rfl) ?_
  obtain ⟨c3, hf⟩ := q_ck hf
  refine va_iald hx hb hK hP 2 0 rfl rfl c3 dX3_arrives_17 ?_
  refine lv_isub hx hb dX3_arrives_18 ?_
  refine va_mabs hx hb (hml.trans hl.1.symm) hown (hts _ qX3_arrives_4) (hts _ qX3_arrives_5) (hts _ qX3_arrives_6) (hts _ qX3_arrives_7) (Nat.le_of_ble_eq_true rfl) (Nat.le_of_ble_eq_true rfl) (Nat.zero_le _) (Nat.zero_le _) dX3_arrives_19 ?_
  refine lv_isub hx hb dX3_arrives_22 ?_
  refine lv_aload_n hx hb dX3_arrives_23 rfl (lv_at hl 0 rfl) ?_
  refine va_get (D := (dC, dI)) (ci := 3) (v := .ref (a0 2)) (C := RX3) (T := TX3) (N := 14) hx hb hts nX3_arrives_3 hown hK hP 0 rfl rfl 2 (by decide) (hts _ qX3_arrives_8) (fun _ h9 => h9) rfl dX3_arrives_24 ?_
  refine lv_iload_n hx hb dX3_arrives_27 rfl (lv_at hl 2 rfl) ?_
  obtain ⟨c4, hf⟩ := q_ck hf
  refine va_iald hx hb hK hP 3 0 rfl rfl c4 dX3_arrives_28 ?_
  refine lv_iadd hx hb dX3_arrives_29 ?_
  have ee0 := q_s1 hf
  exact q_retI hx hb hr hlk ee0 dX3_arrives_30
theorem hdX3_hornsHeardBy : yX3_hornsHeardBy.cls = RX3 ∧ yX3_hornsHeardBy.cls ≠ "java/lang/invoke/MethodHandle" ∧ yX3_hornsHeardBy.cls ≠ "java/lang/invoke/VarHandle" ∧ (parseMethodDescriptor yX3_hornsHeardBy.desc).map (fun d => d.parameters.length) = some 1 := by decide +kernel
theorem qX3_hornsHeardBy_1 : (Cond.fieldLink RX3 46 "DeadAsked$Hill" "horns" "I") ∈ wsX3_hornsHeardBy := List.mem_of_getElem? (i := 1) (by decide +kernel)
theorem nX3_hornsHeardBy_3 : ∀ w ∈ u_ws RX3 TX3 14, w ∈ wsX3_hornsHeardBy := fun _ h => (List.mem_cons_of_mem _ (List.mem_append_right _ h))
set_option maxHeartbeats 4000000 in
set_option maxRecDepth 100000 in
theorem kX3_hornsHeardBy (o0 : Nat) (a0 : Nat → Nat) (s0 : St) (p1 : Int32) (r : Int32) (hf : fX3_hornsHeardBy s0 p1 = some r) : Met l yX3_hornsHeardBy wsX3_hornsHeardBy ({ frames := 2, cells := 0, slots := 0, locals := 43 } : Room) (pcR (dC, dI) (q_ty cI cB cZ) [.ref o0, .int p1] (wcH cI o0 a0 s0)) (qiR r) 0 0 (fun _ => False) := by
  refine q_roM (cc := cX3_hornsHeardBy) (maxL := 4) (ret := (some .int)) (by decide +kernel) rfl (Nat.le_of_ble_eq_true rfl) ?_
  intro p e s m below meth c hx hb hr hlk hml hown hts hK hP ls hl
  have hown : s.vm.findClass RX3 = some m.cls := hown
  have hl : lv_has ls 4 [(0, .ref o0), (1, .int p1)] := hl
  unfold fX3_hornsHeardBy at hf
  refine lv_iconst (v := 0) hx hb dX3_hornsHeardBy_0 (by decide) ?_
  refine lv_istore_n (lv' := [(2, .int (0 : Int32)), (0, .ref o0), (1, .int p1)]) hx hb dX3_hornsHeardBy_1 rfl hl (by decide) rfl (fun ls hl => ?_)
  refine lv_iconst (v := 0) hx hb dX3_hornsHeardBy_2 (by decide) ?_
  refine lv_istore_n (lv' := [(3, .int (0 : Int32)), (2, .int (0 : Int32)), (0, .ref o0), (1, .int p1)]) hx hb dX3_hornsHeardBy_3 rfl hl (by decide) rfl (fun ls hl => ?_)
  obtain ⟨oz4, hqn3, hf⟩ := q_b1o hf
  have kxn3 : ∀ z4 : Int32, z4 = oz4 → ∀ ls : Array Slot, lv_has ls 4 [(2, .int z4)] → W p l e ({ frames := 2, cells := 0, slots := 0, locals := 43 } : Room) s m [.ref o0, .int p1].toArray below meth c s.heap [] 0 0 (MQ below (qiR r) [.ref o0, .int p1].toArray s 0 0 (fun _ => False)) (F0 m 51 ls []) := by
    intro z4 ez4 ls hl
    subst ez4
    refine lv_iload_n hx hb dX3_hornsHeardBy_51 rfl (lv_at hl 0 rfl) ?_
    have ee0 := q_s1 hf
    exact q_retI hx hb hr hlk ee0 dX3_hornsHeardBy_52
  have aihn3 : ∀ n3 : Nat, ∀ l2_1 : Int32, ∀ l3_2 : Int32, fX3_hornsHeardBy_L4 p1 s0 n3 l2_1 l3_2 = some oz4 → ∀ ls : Array Slot, lv_has ls 4 [(3, .int l3_2), (2, .int l2_1), (0, .ref o0), (1, .int p1)] → W p l e ({ frames := 2, cells := 0, slots := 0, locals := 43 } : Room) s m [.ref o0, .int p1].toArray below meth c s.heap [] 0 0 (MQ below (qiR r) [.ref o0, .int p1].toArray s 0 0 (fun _ => False)) (F0 m 4 ls []) := by
    intro n3
    induction n3 with
    | zero =>
      intro l2_1 l3_2 hf
      exact q_no hf
    | succ n3 ihn3 =>
      intro l2_1 l3_2 hf ls hl
      rw [fX3_hornsHeardBy_L4] at hf
      refine lv_iload_n hx hb dX3_hornsHeardBy_4 rfl (lv_at hl 0 rfl) ?_
      refine lv_aload_n hx hb dX3_hornsHeardBy_5 rfl (lv_at hl 2 rfl) ?_
      refine va_get (D := (dC, dI)) (ci := 3) (v := .int (s0 11 0)) (C := RX3) (T := TX3) (N := 14) hx hb hts nX3_hornsHeardBy_3 hown hK hP 0 rfl rfl 11 (by decide) (hts _ qX3_hornsHeardBy_1) (fun _ h9 => h9) rfl dX3_hornsHeardBy_6 ?_
      refine lv_icmp_ge (tgt := 51) hx hb dX3_hornsHeardBy_9 (by decide) (fun c5 => ?_) (fun c5 => ?_)
      · have hf := q_t c5 hf
        exact kxn3 l2_1 (q_s1 hf) _ (lv_sub hl [1] rfl)
      · have hf := q_f c5 hf
        refine lv_aload_n hx hb dX3_hornsHeardBy_12 rfl (lv_at hl 2 rfl) ?_
        refine lv_iload_n hx hb dX3_hornsHeardBy_13 rfl (lv_at hl 3 rfl) ?_
        obtain ⟨r6, h7, hf⟩ := q_b1o hf
        refine q_roVi (As := [.int p1]) (rest := []) (ci := 3) ⟨hx, hb, hml, hown, hts⟩ (kX3_isGrave l dC dI cI cB cZ o0 a0 s0 p1 r6 h7) (cwV 1 hts gX3_hornsHeardBy_X3_isGrave rfl rfl rfl hdX3_isGrave ⟨Nat.le_of_ble_eq_true rfl, Nat.le_of_ble_eq_true rfl⟩) hK hP rfl rfl rfl hl.1 rfl (Nat.le_of_ble_eq_true rfl) dX3_hornsHeardBy_14 ⟨Nat.zero_le _, Nat.zero_le _⟩ ?_
        obtain ⟨ov8, hqj9, hf⟩ := q_b1o hf
        have kj9 : ∀ v8 : Int32, v8 = ov8 → ∀ ls : Array Slot, lv_has ls 4 [(3, .int l3_2), (2, .int v8), (0, .ref o0), (1, .int p1)] → W p l e ({ frames := 2, cells := 0, slots := 0, locals := 43 } : Room) s m [.ref o0, .int p1].toArray below meth c s.heap [] 0 0 (MQ below (qiR r) [.ref o0, .int p1].toArray s 0 0 (fun _ => False)) (F0 m 45 ls []) := by
          intro v8 ev8 ls hl
          subst ev8
          refine lv_iinc (v := l3_2 + (1 : Int32)) (lv' := [(3, .int (l3_2 + (1 : Int32))), (2, .int v8), (0, .ref o0), (1, .int p1)]) hx hb dX3_hornsHeardBy_45 hl (k := 0) rfl rfl (by decide) rfl (fun ls hl => ?_)
          refine lv_goto (tgt := 4) hx hb dX3_hornsHeardBy_48 (by decide) ?_
          exact ihn3 v8 (l3_2 + (1 : Int32)) hf _ hl
        have hf := hqj9
        refine lv_if_eq (tgt := 45) hx hb dX3_hornsHeardBy_17 (by decide) (fun c10 => ?_) (fun c10 => ?_)
        · have hf := q_t c10 hf
          exact kj9 l2_1 (q_s1 hf) _ hl
        · have hf := q_f c10 hf
          refine lv_aload_n hx hb dX3_hornsHeardBy_20 rfl (lv_at hl 2 rfl) ?_
          refine lv_iload_n hx hb dX3_hornsHeardBy_21 rfl (lv_at hl 0 rfl) ?_
          obtain ⟨r11, h12, hf⟩ := q_b1o hf
          refine q_roVi (As := [.int l3_2]) (rest := []) (ci := 3) ⟨hx, hb, hml, hown, hts⟩ (kX3_isCracked l dC dI cI cB cZ o0 a0 s0 l3_2 r11 h12) (cwV 1 hts gX3_hornsHeardBy_X3_isCracked rfl rfl rfl hdX3_isCracked ⟨Nat.le_of_ble_eq_true rfl, Nat.le_of_ble_eq_true rfl⟩) hK hP rfl rfl rfl hl.1 rfl (Nat.le_of_ble_eq_true rfl) dX3_hornsHeardBy_22 ⟨Nat.zero_le _, Nat.zero_le _⟩ ?_
          refine lv_if_ne (tgt := 45) hx hb dX3_hornsHeardBy_25 (by decide) (fun c13 => ?_) (fun c13 => ?_)
          · have hf := q_f c13 hf
            exact kj9 l2_1 (q_s1 hf) _ hl
          · have hf := q_t c13 hf
            refine lv_aload_n hx hb dX3_hornsHeardBy_28 rfl (lv_at hl 2 rfl) ?_
            refine lv_iload_n hx hb dX3_hornsHeardBy_29 rfl (lv_at hl 0 rfl) ?_
            refine lv_iload_n hx hb dX3_hornsHeardBy_30 rfl (lv_at hl 3 rfl) ?_
            obtain ⟨r14, h15, hf⟩ := q_b1o hf
            refine q_roVi (As := [.int l3_2, .int p1]) (rest := []) (ci := 3) ⟨hx, hb, hml, hown, hts⟩ (kX3_arrives l dC dI cI cB cZ o0 a0 s0 l3_2 p1 r14 h15) (cwV 2 hts gX3_hornsHeardBy_X3_arrives rfl rfl rfl hdX3_arrives ⟨Nat.le_of_ble_eq_true rfl, Nat.le_of_ble_eq_true rfl⟩) hK hP rfl rfl rfl hl.1 rfl (Nat.le_of_ble_eq_true rfl) dX3_hornsHeardBy_31 ⟨Nat.zero_le _, Nat.zero_le _⟩ ?_
            refine lv_bipush (v := 10) hx hb dX3_hornsHeardBy_34 (by decide) ?_
            refine lv_icmp_lt (tgt := 45) hx hb dX3_hornsHeardBy_36 (by decide) (fun c16 => ?_) (fun c16 => ?_)
            · have hf := q_t c16 hf
              exact kj9 l2_1 (q_s1 hf) _ hl
            · have hf := q_f c16 hf
              refine lv_iload_n hx hb dX3_hornsHeardBy_39 rfl (lv_at hl 1 rfl) ?_
              refine lv_iconst (v := 1) hx hb dX3_hornsHeardBy_40 (by decide) ?_
              refine lv_iload_n hx hb dX3_hornsHeardBy_41 rfl (lv_at hl 0 rfl) ?_
              refine lv_ishl hx hb dX3_hornsHeardBy_42 ?_
              refine lv_ior hx hb dX3_hornsHeardBy_43 ?_
              obtain ⟨x17, ex17, hf⟩ := q_lto hf
              refine W.eq (g2 := F0 m 44 ls [.int x17]) (by rw [ex17]) ?_
              refine lv_istore_n (lv' := [(2, .int x17), (3, .int l3_2), (0, .ref o0), (1, .int p1)]) hx hb dX3_hornsHeardBy_44 rfl hl (by decide) rfl (fun ls hl => ?_)
              exact kj9 x17 (q_s1 hf) _ (lv_sub hl [1, 0, 2, 3] rfl)
  exact aihn3 5000 (0 : Int32) (0 : Int32) hqn3 _ hl
theorem hdX3_treeOf : yX3_treeOf.cls = RX3 ∧ yX3_treeOf.cls ≠ "java/lang/invoke/MethodHandle" ∧ yX3_treeOf.cls ≠ "java/lang/invoke/VarHandle" ∧ (parseMethodDescriptor yX3_treeOf.desc).map (fun d => d.parameters.length) = some 2 := by decide +kernel
theorem qX3_treeOf_1 : (Cond.constant RX3 86 (-1000000)) ∈ wsX3_treeOf := List.mem_of_getElem? (i := 1) (by decide +kernel)
theorem qX3_treeOf_2 : (Cond.fieldLink RX3 49 "DeadAsked$Hill" "trees" "I") ∈ wsX3_treeOf := List.mem_of_getElem? (i := 2) (by decide +kernel)
theorem qX3_treeOf_3 : (Cond.fieldLink RX3 36 "DeadAsked$Hill" "treeX" "[I") ∈ wsX3_treeOf := List.mem_of_getElem? (i := 3) (by decide +kernel)
theorem qX3_treeOf_4 : (Cond.fieldLink RX3 15 "DeadAsked$Hill" "graveX" "[I") ∈ wsX3_treeOf := List.mem_of_getElem? (i := 4) (by decide +kernel)
theorem qX3_treeOf_5 : (Cond.methodLink RX3 87 yJ9_abs_0f7a4) ∈ wsX3_treeOf := List.mem_of_getElem? (i := 5) (by decide +kernel)
theorem qX3_treeOf_6 : (Cond.static yJ9_abs_0f7a4) ∈ wsX3_treeOf := List.mem_of_getElem? (i := 6) (by decide +kernel)
theorem qX3_treeOf_7 : (Cond.initialized "java/lang/Math") ∈ wsX3_treeOf := List.mem_of_getElem? (i := 7) (by decide +kernel)
theorem qX3_treeOf_8 : (Cond.code yJ9_abs_0f7a4 Lib.Math.abs.code 1 (some .int)) ∈ wsX3_treeOf := List.mem_of_getElem? (i := 8) (by decide +kernel)
theorem nX3_treeOf_3 : ∀ w ∈ u_ws RX3 TX3 14, w ∈ wsX3_treeOf := fun _ h => (List.mem_cons_of_mem _ (List.mem_append_right _ h))
set_option maxHeartbeats 4000000 in
set_option maxRecDepth 100000 in
theorem kX3_treeOf (o0 : Nat) (a0 : Nat → Nat) (s0 : St) (p1 : Int32) (p2 : Int32) (r : Int32) (hf : fX3_treeOf s0 p1 p2 = some r) : Met l yX3_treeOf wsX3_treeOf ({ frames := 2, cells := 0, slots := 0, locals := 43 } : Room) (pcR (dC, dI) (q_ty cI cB cZ) [.ref o0, .int p1, .int p2] (wcH cI o0 a0 s0)) (qiR r) 0 0 (fun _ => False) := by
  refine q_roM (cc := cX3_treeOf) (maxL := 6) (ret := (some .int)) (by decide +kernel) rfl (Nat.le_of_ble_eq_true rfl) ?_
  intro p e s m below meth c hx hb hr hlk hml hown hts hK hP ls hl
  have hown : s.vm.findClass RX3 = some m.cls := hown
  have hl : lv_has ls 6 [(0, .ref o0), (1, .int p1), (2, .int p2)] := hl
  unfold fX3_treeOf at hf
  refine lv_ldc (v := -1000000) hx hb hown (hts _ qX3_treeOf_1) dX3_treeOf_0 ?_
  refine lv_istore_n (lv' := [(3, .int (-1000000 : Int32)), (0, .ref o0), (1, .int p1), (2, .int p2)]) hx hb dX3_treeOf_2 rfl hl (by decide) rfl (fun ls hl => ?_)
  refine lv_iconst (v := 4) hx hb dX3_treeOf_3 (by decide) ?_
  refine lv_istore (lv' := [(4, .int (4 : Int32)), (3, .int (-1000000 : Int32)), (0, .ref o0), (1, .int p1), (2, .int p2)]) hx hb dX3_treeOf_4 hl (by decide) rfl (fun ls hl => ?_)
  refine lv_iconst (v := 0) hx hb dX3_treeOf_6 (by decide) ?_
  refine lv_istore (lv' := [(5, .int (0 : Int32)), (4, .int (4 : Int32)), (3, .int (-1000000 : Int32)), (0, .ref o0), (1, .int p1), (2, .int p2)]) hx hb dX3_treeOf_7 hl (by decide) rfl (fun ls hl => ?_)
  obtain ⟨oz5, hqn4, hf⟩ := q_b1o hf
  have kxn4 : ∀ z5 : Int32, z5 = oz5 → ∀ ls : Array Slot, lv_has ls 6 [(3, .int z5)] → W p l e ({ frames := 2, cells := 0, slots := 0, locals := 43 } : Room) s m [.ref o0, .int p1, .int p2].toArray below meth c s.heap [] 0 0 (MQ below (qiR r) [.ref o0, .int p1, .int p2].toArray s 0 0 (fun _ => False)) (F0 m 86 ls []) := by
    intro z5 ez5 ls hl
    subst ez5
    refine lv_iload_n hx hb dX3_treeOf_86 rfl (lv_at hl 0 rfl) ?_
    have ee0 := q_s1 hf
    exact q_retI hx hb hr hlk ee0 dX3_treeOf_87
  have aihn4 : ∀ n4 : Nat, ∀ l3_1 : Int32, ∀ l4_2 : Int32, ∀ l5_3 : Int32, fX3_treeOf_L9 p1 p2 s0 n4 l3_1 l4_2 l5_3 = some oz5 → ∀ ls : Array Slot, lv_has ls 6 [(5, .int l5_3), (4, .int l4_2), (3, .int l3_1), (0, .ref o0), (1, .int p1), (2, .int p2)] → W p l e ({ frames := 2, cells := 0, slots := 0, locals := 43 } : Room) s m [.ref o0, .int p1, .int p2].toArray below meth c s.heap [] 0 0 (MQ below (qiR r) [.ref o0, .int p1, .int p2].toArray s 0 0 (fun _ => False)) (F0 m 9 ls []) := by
    intro n4
    induction n4 with
    | zero =>
      intro l3_1 l4_2 l5_3 hf
      exact q_no hf
    | succ n4 ihn4 =>
      intro l3_1 l4_2 l5_3 hf ls hl
      rw [fX3_treeOf_L9] at hf
      refine lv_iload hx hb dX3_treeOf_9 (lv_at hl 0 rfl) ?_
      refine lv_aload_n hx hb dX3_treeOf_11 rfl (lv_at hl 3 rfl) ?_
      refine va_get (D := (dC, dI)) (ci := 3) (v := .int (s0 12 0)) (C := RX3) (T := TX3) (N := 14) hx hb hts nX3_treeOf_3 hown hK hP 0 rfl rfl 12 (by decide) (hts _ qX3_treeOf_2) (fun _ h9 => h9) rfl dX3_treeOf_12 ?_
      refine lv_icmp_ge (tgt := 86) hx hb dX3_treeOf_15 (by decide) (fun c6 => ?_) (fun c6 => ?_)
      · have hf := q_t c6 hf
        exact kxn4 l3_1 (q_s1 hf) _ (lv_sub hl [2] rfl)
      · have hf := q_f c6 hf
        refine lv_aload_n hx hb dX3_treeOf_18 rfl (lv_at hl 3 rfl) ?_
        refine lv_iload_n hx hb dX3_treeOf_19 rfl (lv_at hl 4 rfl) ?_
        obtain ⟨r7, h8, hf⟩ := q_b1o hf
        refine q_roVi (As := [.int p1]) (rest := []) (ci := 3) ⟨hx, hb, hml, hown, hts⟩ (kX3_isGrave l dC dI cI cB cZ o0 a0 s0 p1 r7 h8) (cwV 1 hts gX3_treeOf_X3_isGrave rfl rfl rfl hdX3_isGrave ⟨Nat.le_of_ble_eq_true rfl, Nat.le_of_ble_eq_true rfl⟩) hK hP rfl rfl rfl hl.1 rfl (Nat.le_of_ble_eq_true rfl) dX3_treeOf_20 ⟨Nat.zero_le _, Nat.zero_le _⟩ ?_
        obtain ⟨ov9, ov10, hqj11, hf⟩ := q_b2o hf
        have kj11 : ∀ v9 : Int32, ∀ v10 : Int32, v9 = ov9 → v10 = ov10 → ∀ ls : Array Slot, lv_has ls 6 [(5, .int l5_3), (4, .int v10), (3, .int v9), (0, .ref o0), (1, .int p1), (2, .int p2)] → W p l e ({ frames := 2, cells := 0, slots := 0, locals := 43 } : Room) s m [.ref o0, .int p1, .int p2].toArray below meth c s.heap [] 0 0 (MQ below (qiR r) [.ref o0, .int p1, .int p2].toArray s 0 0 (fun _ => False)) (F0 m 80 ls []) := by
          intro v9 v10 ev9 ev10 ls hl
          subst ev9
          subst ev10
          refine lv_iinc (v := l5_3 + (1 : Int32)) (lv' := [(5, .int (l5_3 + (1 : Int32))), (4, .int v10), (3, .int v9), (0, .ref o0), (1, .int p1), (2, .int p2)]) hx hb dX3_treeOf_80 hl (k := 0) rfl rfl (by decide) rfl (fun ls hl => ?_)
          refine lv_goto (tgt := 9) hx hb dX3_treeOf_83 (by decide) ?_
          exact ihn4 v9 v10 (l5_3 + (1 : Int32)) hf _ hl
        have hf := hqj11
        refine lv_if_eq (tgt := 80) hx hb dX3_treeOf_23 (by decide) (fun c12 => ?_) (fun c12 => ?_)
        · have hf := q_t c12 hf
          obtain ⟨w0, w1⟩ := q_s2 hf
          exact kj11 l3_1 l4_2 w0 w1 _ hl
        · have hf := q_f c12 hf
          refine lv_aload_n hx hb dX3_treeOf_26 rfl (lv_at hl 3 rfl) ?_
          refine lv_iload hx hb dX3_treeOf_27 (lv_at hl 0 rfl) ?_
          refine lv_iload_n hx hb dX3_treeOf_29 rfl (lv_at hl 5 rfl) ?_
          obtain ⟨r13, h14, hf⟩ := q_b1o hf
          refine q_roVi (As := [.int l5_3, .int p2]) (rest := []) (ci := 3) ⟨hx, hb, hml, hown, hts⟩ (kX3_bears l dC dI cI cB cZ o0 a0 s0 l5_3 p2 r13 h14) (cwV 2 hts gX3_treeOf_X3_bears rfl rfl rfl hdX3_bears ⟨Nat.le_of_ble_eq_true rfl, Nat.le_of_ble_eq_true rfl⟩) hK hP rfl rfl rfl hl.1 rfl (Nat.le_of_ble_eq_true rfl) dX3_treeOf_30 ⟨Nat.zero_le _, Nat.zero_le _⟩ ?_
          refine lv_if_eq (tgt := 80) hx hb dX3_treeOf_33 (by decide) (fun c15 => ?_) (fun c15 => ?_)
          · have hf := q_t c15 hf
            obtain ⟨w0, w1⟩ := q_s2 hf
            exact kj11 l3_1 l4_2 w0 w1 _ hl
          · have hf := q_f c15 hf
            refine lv_aload_n hx hb dX3_treeOf_36 rfl (lv_at hl 3 rfl) ?_
            refine va_get (D := (dC, dI)) (ci := 3) (v := .ref (a0 8)) (C := RX3) (T := TX3) (N := 14) hx hb hts nX3_treeOf_3 hown hK hP 0 rfl rfl 8 (by decide) (hts _ qX3_treeOf_3) (fun _ h9 => h9) rfl dX3_treeOf_37 ?_
            refine lv_iload hx hb dX3_treeOf_40 (lv_at hl 0 rfl) ?_
            obtain ⟨c16, hf⟩ := q_ck hf
            refine va_iald hx hb hK hP 9 0 rfl rfl c16 dX3_treeOf_42 ?_
            refine lv_aload_n hx hb dX3_treeOf_43 rfl (lv_at hl 3 rfl) ?_
            refine va_get (D := (dC, dI)) (ci := 3) (v := .ref (a0 1)) (C := RX3) (T := TX3) (N := 14) hx hb hts nX3_treeOf_3 hown hK hP 0 rfl rfl 1 (by decide) (hts _ qX3_treeOf_4) (fun _ h9 => h9) rfl dX3_treeOf_44 ?_
            refine lv_iload_n hx hb dX3_treeOf_47 rfl (lv_at hl 4 rfl) ?_
            obtain ⟨c17, hf⟩ := q_ck hf
            refine va_iald hx hb hK hP 2 0 rfl rfl c17 dX3_treeOf_48 ?_
            refine lv_isub hx hb dX3_treeOf_49 ?_
            refine va_mabs hx hb (hml.trans hl.1.symm) hown (hts _ qX3_treeOf_5) (hts _ qX3_treeOf_6) (hts _ qX3_treeOf_7) (hts _ qX3_treeOf_8) (Nat.le_of_ble_eq_true rfl) (Nat.le_of_ble_eq_true rfl) (Nat.zero_le _) (Nat.zero_le _) dX3_treeOf_50 ?_
            refine lv_iload hx hb dX3_treeOf_53 (lv_at hl 1 rfl) ?_
            refine lv_icmp_ge (tgt := 80) hx hb dX3_treeOf_55 (by decide) (fun c18 => ?_) (fun c18 => ?_)
            · have hf := q_t c18 hf
              obtain ⟨w0, w1⟩ := q_s2 hf
              exact kj11 l3_1 l4_2 w0 w1 _ hl
            · have hf := q_f c18 hf
              refine lv_iload hx hb dX3_treeOf_58 (lv_at hl 0 rfl) ?_
              refine lv_istore_n (lv' := [(3, .int l5_3), (5, .int l5_3), (4, .int l4_2), (0, .ref o0), (1, .int p1), (2, .int p2)]) hx hb dX3_treeOf_60 rfl hl (by decide) rfl (fun ls hl => ?_)
              refine lv_aload_n hx hb dX3_treeOf_61 rfl (lv_at hl 3 rfl) ?_
              refine va_get (D := (dC, dI)) (ci := 3) (v := .ref (a0 8)) (C := RX3) (T := TX3) (N := 14) hx hb hts nX3_treeOf_3 hown hK hP 0 rfl rfl 8 (by decide) (hts _ qX3_treeOf_3) (fun _ h9 => h9) rfl dX3_treeOf_62 ?_
              refine lv_iload hx hb dX3_treeOf_65 (lv_at hl 1 rfl) ?_
              obtain ⟨c19, hf⟩ := q_ck hf
              refine va_iald hx hb hK hP 9 0 rfl rfl c19 dX3_treeOf_67 ?_
              refine lv_aload_n hx hb dX3_treeOf_68 rfl (lv_at hl 3 rfl) ?_
              refine va_get (D := (dC, dI)) (ci := 3) (v := .ref (a0 1)) (C := RX3) (T := TX3) (N := 14) hx hb hts nX3_treeOf_3 hown hK hP 0 rfl rfl 1 (by decide) (hts _ qX3_treeOf_4) (fun _ h9 => h9) rfl dX3_treeOf_69 ?_
              refine lv_iload_n hx hb dX3_treeOf_72 rfl (lv_at hl 4 rfl) ?_
              obtain ⟨c20, hf⟩ := q_ck hf
              refine va_iald hx hb hK hP 2 0 rfl rfl c20 dX3_treeOf_73 ?_
              refine lv_isub hx hb dX3_treeOf_74 ?_
              refine va_mabs hx hb (hml.trans hl.1.symm) hown (hts _ qX3_treeOf_5) (hts _ qX3_treeOf_6) (hts _ qX3_treeOf_7) (hts _ qX3_treeOf_8) (Nat.le_of_ble_eq_true rfl) (Nat.le_of_ble_eq_true rfl) (Nat.zero_le _) (Nat.zero_le _) dX3_treeOf_75 ?_
              obtain ⟨x21, ex21, hf⟩ := q_lto hf
              refine W.eq (g2 := F0 m 78 ls [.int x21]) (by rw [ex21]) ?_
              refine lv_istore (lv' := [(4, .int x21), (3, .int l5_3), (5, .int l5_3), (0, .ref o0), (1, .int p1), (2, .int p2)]) hx hb dX3_treeOf_78 hl (by decide) rfl (fun ls hl => ?_)
              obtain ⟨w0, w1⟩ := q_s2 hf
              exact kj11 l5_3 x21 w0 w1 _ (lv_sub hl [2, 0, 1, 3, 4, 5] rfl)
  exact aihn4 5000 (-1000000 : Int32) (4 : Int32) (0 : Int32) hqn4 _ hl
theorem hdX3_gravesOf : yX3_gravesOf.cls = RX3 ∧ yX3_gravesOf.cls ≠ "java/lang/invoke/MethodHandle" ∧ yX3_gravesOf.cls ≠ "java/lang/invoke/VarHandle" ∧ (parseMethodDescriptor yX3_gravesOf.desc).map (fun d => d.parameters.length) = some 1 := by decide +kernel
theorem qX3_gravesOf_1 : (Cond.fieldLink RX3 42 "DeadAsked$Hill" "graves" "I") ∈ wsX3_gravesOf := List.mem_of_getElem? (i := 1) (by decide +kernel)
theorem nX3_gravesOf_3 : ∀ w ∈ u_ws RX3 TX3 14, w ∈ wsX3_gravesOf := fun _ h => (List.mem_cons_of_mem _ (List.mem_append_right _ h))
set_option maxHeartbeats 4000000 in
set_option maxRecDepth 100000 in
theorem kX3_gravesOf (o0 : Nat) (a0 : Nat → Nat) (s0 : St) (p1 : Int32) (r : Int32) (hf : fX3_gravesOf s0 p1 = some r) : Met l yX3_gravesOf wsX3_gravesOf ({ frames := 3, cells := 0, slots := 0, locals := 68 } : Room) (pcR (dC, dI) (q_ty cI cB cZ) [.ref o0, .int p1] (wcH cI o0 a0 s0)) (qiR r) 0 0 (fun _ => False) := by
  refine q_roM (cc := cX3_gravesOf) (maxL := 4) (ret := (some .int)) (by decide +kernel) rfl (Nat.le_of_ble_eq_true rfl) ?_
  intro p e s m below meth c hx hb hr hlk hml hown hts hK hP ls hl
  have hown : s.vm.findClass RX3 = some m.cls := hown
  have hl : lv_has ls 4 [(0, .ref o0), (1, .int p1)] := hl
  unfold fX3_gravesOf at hf
  refine lv_iconst (v := 0) hx hb dX3_gravesOf_0 (by decide) ?_
  refine lv_istore_n (lv' := [(2, .int (0 : Int32)), (0, .ref o0), (1, .int p1)]) hx hb dX3_gravesOf_1 rfl hl (by decide) rfl (fun ls hl => ?_)
  refine lv_iconst (v := 0) hx hb dX3_gravesOf_2 (by decide) ?_
  refine lv_istore_n (lv' := [(3, .int (0 : Int32)), (2, .int (0 : Int32)), (0, .ref o0), (1, .int p1)]) hx hb dX3_gravesOf_3 rfl hl (by decide) rfl (fun ls hl => ?_)
  obtain ⟨oz4, hqn3, hf⟩ := q_b1o hf
  have kxn3 : ∀ z4 : Int32, z4 = oz4 → ∀ ls : Array Slot, lv_has ls 4 [(2, .int z4)] → W p l e ({ frames := 3, cells := 0, slots := 0, locals := 68 } : Room) s m [.ref o0, .int p1].toArray below meth c s.heap [] 0 0 (MQ below (qiR r) [.ref o0, .int p1].toArray s 0 0 (fun _ => False)) (F0 m 34 ls []) := by
    intro z4 ez4 ls hl
    subst ez4
    refine lv_iload_n hx hb dX3_gravesOf_34 rfl (lv_at hl 0 rfl) ?_
    have ee0 := q_s1 hf
    exact q_retI hx hb hr hlk ee0 dX3_gravesOf_35
  have aihn3 : ∀ n3 : Nat, ∀ l2_1 : Int32, ∀ l3_2 : Int32, fX3_gravesOf_L4 p1 s0 n3 l2_1 l3_2 = some oz4 → ∀ ls : Array Slot, lv_has ls 4 [(3, .int l3_2), (2, .int l2_1), (0, .ref o0), (1, .int p1)] → W p l e ({ frames := 3, cells := 0, slots := 0, locals := 68 } : Room) s m [.ref o0, .int p1].toArray below meth c s.heap [] 0 0 (MQ below (qiR r) [.ref o0, .int p1].toArray s 0 0 (fun _ => False)) (F0 m 4 ls []) := by
    intro n3
    induction n3 with
    | zero =>
      intro l2_1 l3_2 hf
      exact q_no hf
    | succ n3 ihn3 =>
      intro l2_1 l3_2 hf ls hl
      rw [fX3_gravesOf_L4] at hf
      refine lv_iload_n hx hb dX3_gravesOf_4 rfl (lv_at hl 0 rfl) ?_
      refine lv_aload_n hx hb dX3_gravesOf_5 rfl (lv_at hl 2 rfl) ?_
      refine va_get (D := (dC, dI)) (ci := 3) (v := .int (s0 10 0)) (C := RX3) (T := TX3) (N := 14) hx hb hts nX3_gravesOf_3 hown hK hP 0 rfl rfl 10 (by decide) (hts _ qX3_gravesOf_1) (fun _ h9 => h9) rfl dX3_gravesOf_6 ?_
      refine lv_icmp_ge (tgt := 34) hx hb dX3_gravesOf_9 (by decide) (fun c5 => ?_) (fun c5 => ?_)
      · have hf := q_t c5 hf
        exact kxn3 l2_1 (q_s1 hf) _ (lv_sub hl [1] rfl)
      · have hf := q_f c5 hf
        refine lv_aload_n hx hb dX3_gravesOf_12 rfl (lv_at hl 2 rfl) ?_
        refine lv_iload_n hx hb dX3_gravesOf_13 rfl (lv_at hl 0 rfl) ?_
        refine lv_iconst (v := 0) hx hb dX3_gravesOf_14 (by decide) ?_
        obtain ⟨r6, h7, hf⟩ := q_b1o hf
        refine q_roVi (As := [.int l3_2, .int (0 : Int32)]) (rest := []) (ci := 3) ⟨hx, hb, hml, hown, hts⟩ (kX3_treeOf l dC dI cI cB cZ o0 a0 s0 l3_2 (0 : Int32) r6 h7) (cwV 2 hts gX3_gravesOf_X3_treeOf rfl rfl rfl hdX3_treeOf ⟨Nat.le_of_ble_eq_true rfl, Nat.le_of_ble_eq_true rfl⟩) hK hP rfl rfl rfl hl.1 rfl (Nat.le_of_ble_eq_true rfl) dX3_gravesOf_15 ⟨Nat.zero_le _, Nat.zero_le _⟩ ?_
        refine lv_iload_n hx hb dX3_gravesOf_18 rfl (lv_at hl 3 rfl) ?_
        obtain ⟨ov8, hqj9, hf⟩ := q_b1o hf
        have kj9 : ∀ v8 : Int32, v8 = ov8 → ∀ ls : Array Slot, lv_has ls 4 [(3, .int l3_2), (2, .int v8), (0, .ref o0), (1, .int p1)] → W p l e ({ frames := 3, cells := 0, slots := 0, locals := 68 } : Room) s m [.ref o0, .int p1].toArray below meth c s.heap [] 0 0 (MQ below (qiR r) [.ref o0, .int p1].toArray s 0 0 (fun _ => False)) (F0 m 28 ls []) := by
          intro v8 ev8 ls hl
          subst ev8
          refine lv_iinc (v := l3_2 + (1 : Int32)) (lv' := [(3, .int (l3_2 + (1 : Int32))), (2, .int v8), (0, .ref o0), (1, .int p1)]) hx hb dX3_gravesOf_28 hl (k := 0) rfl rfl (by decide) rfl (fun ls hl => ?_)
          refine lv_goto (tgt := 4) hx hb dX3_gravesOf_31 (by decide) ?_
          exact ihn3 v8 (l3_2 + (1 : Int32)) hf _ hl
        have hf := hqj9
        refine lv_icmp_ne (tgt := 28) hx hb dX3_gravesOf_19 (by decide) (fun c10 => ?_) (fun c10 => ?_)
        · have hf := q_f c10 hf
          exact kj9 l2_1 (q_s1 hf) _ hl
        · have hf := q_t c10 hf
          refine lv_iload_n hx hb dX3_gravesOf_22 rfl (lv_at hl 1 rfl) ?_
          refine lv_iconst (v := 1) hx hb dX3_gravesOf_23 (by decide) ?_
          refine lv_iload_n hx hb dX3_gravesOf_24 rfl (lv_at hl 0 rfl) ?_
          refine lv_ishl hx hb dX3_gravesOf_25 ?_
          refine lv_ior hx hb dX3_gravesOf_26 ?_
          obtain ⟨x11, ex11, hf⟩ := q_lto hf
          refine W.eq (g2 := F0 m 27 ls [.int x11]) (by rw [ex11]) ?_
          refine lv_istore_n (lv' := [(2, .int x11), (3, .int l3_2), (0, .ref o0), (1, .int p1)]) hx hb dX3_gravesOf_27 rfl hl (by decide) rfl (fun ls hl => ?_)
          exact kj9 x11 (q_s1 hf) _ (lv_sub hl [1, 0, 2, 3] rfl)
  exact aihn3 5000 (0 : Int32) (0 : Int32) hqn3 _ hl
theorem hdX3_minding : yX3_minding.cls = RX3 ∧ yX3_minding.cls ≠ "java/lang/invoke/MethodHandle" ∧ yX3_minding.cls ≠ "java/lang/invoke/VarHandle" ∧ (parseMethodDescriptor yX3_minding.desc).map (fun d => d.parameters.length) = some 3 := by decide +kernel
theorem qX3_minding_1 : (Cond.fieldLink RX3 42 "DeadAsked$Hill" "graves" "I") ∈ wsX3_minding := List.mem_of_getElem? (i := 1) (by decide +kernel)
theorem qX3_minding_2 : (Cond.fieldLink RX3 24 "DeadAsked$Hill" "against" "[I") ∈ wsX3_minding := List.mem_of_getElem? (i := 2) (by decide +kernel)
theorem qX3_minding_3 : (Cond.constant RX3 86 (-1000000)) ∈ wsX3_minding := List.mem_of_getElem? (i := 3) (by decide +kernel)
theorem nX3_minding_3 : ∀ w ∈ u_ws RX3 TX3 14, w ∈ wsX3_minding := fun _ h => (List.mem_cons_of_mem _ (List.mem_append_right _ h))
set_option maxHeartbeats 4000000 in
set_option maxRecDepth 100000 in
theorem kX3_minding (o0 : Nat) (a0 : Nat → Nat) (s0 : St) (p1 : Int32) (p2 : Int32) (p3 : Int32) (r : Int32) (hf : fX3_minding s0 p1 p2 p3 = some r) : Met l yX3_minding wsX3_minding ({ frames := 3, cells := 0, slots := 0, locals := 68 } : Room) (pcR (dC, dI) (q_ty cI cB cZ) [.ref o0, .int p1, .int p2, .int p3] (wcH cI o0 a0 s0)) (qiR r) 0 0 (fun _ => False) := by
  refine q_roM (cc := cX3_minding) (maxL := 6) (ret := (some .int)) (by decide +kernel) rfl (Nat.le_of_ble_eq_true rfl) ?_
  intro p e s m below meth c hx hb hr hlk hml hown hts hK hP ls hl
  have hown : s.vm.findClass RX3 = some m.cls := hown
  have hl : lv_has ls 6 [(0, .ref o0), (1, .int p1), (2, .int p2), (3, .int p3)] := hl
  unfold fX3_minding at hf
  refine lv_iconst (v := 0) hx hb dX3_minding_0 (by decide) ?_
  refine lv_istore (lv' := [(4, .int (0 : Int32)), (0, .ref o0), (1, .int p1), (2, .int p2), (3, .int p3)]) hx hb dX3_minding_1 hl (by decide) rfl (fun ls hl => ?_)
  refine lv_iconst (v := 0) hx hb dX3_minding_3 (by decide) ?_
  refine lv_istore (lv' := [(5, .int (0 : Int32)), (4, .int (0 : Int32)), (0, .ref o0), (1, .int p1), (2, .int p2), (3, .int p3)]) hx hb dX3_minding_4 hl (by decide) rfl (fun ls hl => ?_)
  obtain ⟨oz4, hqn3, hf⟩ := q_b1o hf
  have kxn3 : ∀ z4 : Int32, z4 = oz4 → ∀ ls : Array Slot, lv_has ls 6 [(4, .int z4)] → W p l e ({ frames := 3, cells := 0, slots := 0, locals := 68 } : Room) s m [.ref o0, .int p1, .int p2, .int p3].toArray below meth c s.heap [] 0 0 (MQ below (qiR r) [.ref o0, .int p1, .int p2, .int p3].toArray s 0 0 (fun _ => False)) (F0 m 65 ls []) := by
    intro z4 ez4 ls hl
    subst ez4
    refine lv_iload hx hb dX3_minding_65 (lv_at hl 0 rfl) ?_
    have ee0 := q_s1 hf
    exact q_retI hx hb hr hlk ee0 dX3_minding_67
  have aihn3 : ∀ n3 : Nat, ∀ l4_1 : Int32, ∀ l5_2 : Int32, fX3_minding_L6 p1 p2 p3 s0 n3 l4_1 l5_2 = some oz4 → ∀ ls : Array Slot, lv_has ls 6 [(5, .int l5_2), (4, .int l4_1), (0, .ref o0), (1, .int p1), (2, .int p2), (3, .int p3)] → W p l e ({ frames := 3, cells := 0, slots := 0, locals := 68 } : Room) s m [.ref o0, .int p1, .int p2, .int p3].toArray below meth c s.heap [] 0 0 (MQ below (qiR r) [.ref o0, .int p1, .int p2, .int p3].toArray s 0 0 (fun _ => False)) (F0 m 6 ls []) := by
    intro n3
    induction n3 with
    | zero =>
      intro l4_1 l5_2 hf
      exact q_no hf
    | succ n3 ihn3 =>
      intro l4_1 l5_2 hf ls hl
      rw [fX3_minding_L6] at hf
      refine lv_iload hx hb dX3_minding_6 (lv_at hl 0 rfl) ?_
      refine lv_aload_n hx hb dX3_minding_8 rfl (lv_at hl 2 rfl) ?_
      refine va_get (D := (dC, dI)) (ci := 3) (v := .int (s0 10 0)) (C := RX3) (T := TX3) (N := 14) hx hb hts nX3_minding_3 hown hK hP 0 rfl rfl 10 (by decide) (hts _ qX3_minding_1) (fun _ h9 => h9) rfl dX3_minding_9 ?_
      refine lv_icmp_ge (tgt := 65) hx hb dX3_minding_12 (by decide) (fun c5 => ?_) (fun c5 => ?_)
      · have hf := q_t c5 hf
        exact kxn3 l4_1 (q_s1 hf) _ (lv_sub hl [1] rfl)
      · have hf := q_f c5 hf
        refine lv_aload_n hx hb dX3_minding_15 rfl (lv_at hl 2 rfl) ?_
        refine va_get (D := (dC, dI)) (ci := 3) (v := .ref (a0 4)) (C := RX3) (T := TX3) (N := 14) hx hb hts nX3_minding_3 hown hK hP 0 rfl rfl 4 (by decide) (hts _ qX3_minding_2) (fun _ h9 => h9) rfl dX3_minding_16 ?_
        refine lv_iload hx hb dX3_minding_19 (lv_at hl 0 rfl) ?_
        obtain ⟨c6, hf⟩ := q_ck hf
        refine va_iald hx hb hK hP 5 0 rfl rfl c6 dX3_minding_21 ?_
        refine lv_iload_n hx hb dX3_minding_22 rfl (lv_at hl 3 rfl) ?_
        refine lv_iand hx hb dX3_minding_23 ?_
        obtain ⟨ov7, hqj8, hf⟩ := q_b1o hf
        have kj8 : ∀ v7 : Int32, v7 = ov7 → ∀ ls : Array Slot, lv_has ls 6 [(5, .int l5_2), (4, .int v7), (0, .ref o0), (1, .int p1), (2, .int p2), (3, .int p3)] → W p l e ({ frames := 3, cells := 0, slots := 0, locals := 68 } : Room) s m [.ref o0, .int p1, .int p2, .int p3].toArray below meth c s.heap [] 0 0 (MQ below (qiR r) [.ref o0, .int p1, .int p2, .int p3].toArray s 0 0 (fun _ => False)) (F0 m 59 ls []) := by
          intro v7 ev7 ls hl
          subst ev7
          refine lv_iinc (v := l5_2 + (1 : Int32)) (lv' := [(5, .int (l5_2 + (1 : Int32))), (4, .int v7), (0, .ref o0), (1, .int p1), (2, .int p2), (3, .int p3)]) hx hb dX3_minding_59 hl (k := 0) rfl rfl (by decide) rfl (fun ls hl => ?_)
          refine lv_goto (tgt := 6) hx hb dX3_minding_62 (by decide) ?_
          exact ihn3 v7 (l5_2 + (1 : Int32)) hf _ hl
        have hf := hqj8
        refine lv_if_eq (tgt := 59) hx hb dX3_minding_24 (by decide) (fun c9 => ?_) (fun c9 => ?_)
        · have hf := q_t c9 hf
          exact kj8 l4_1 (q_s1 hf) _ hl
        · have hf := q_f c9 hf
          refine lv_aload_n hx hb dX3_minding_27 rfl (lv_at hl 2 rfl) ?_
          refine lv_iload hx hb dX3_minding_28 (lv_at hl 0 rfl) ?_
          obtain ⟨r10, h11, hf⟩ := q_b1o hf
          refine q_roVi (As := [.int l5_2]) (rest := []) (ci := 3) ⟨hx, hb, hml, hown, hts⟩ (kX3_hornsHeardBy l dC dI cI cB cZ o0 a0 s0 l5_2 r10 h11) (cwV 1 hts gX3_minding_X3_hornsHeardBy rfl rfl rfl hdX3_hornsHeardBy ⟨Nat.le_of_ble_eq_true rfl, Nat.le_of_ble_eq_true rfl⟩) hK hP rfl rfl rfl hl.1 rfl (Nat.le_of_ble_eq_true rfl) dX3_minding_30 ⟨Nat.zero_le _, Nat.zero_le _⟩ ?_
          refine lv_iload_n hx hb dX3_minding_33 rfl (lv_at hl 4 rfl) ?_
          refine lv_iand hx hb dX3_minding_34 ?_
          refine lv_if_eq (tgt := 59) hx hb dX3_minding_35 (by decide) (fun c12 => ?_) (fun c12 => ?_)
          · have hf := q_t c12 hf
            exact kj8 l4_1 (q_s1 hf) _ hl
          · have hf := q_f c12 hf
            refine lv_aload_n hx hb dX3_minding_38 rfl (lv_at hl 2 rfl) ?_
            refine lv_iload hx hb dX3_minding_39 (lv_at hl 0 rfl) ?_
            refine lv_iload_n hx hb dX3_minding_41 rfl (lv_at hl 5 rfl) ?_
            obtain ⟨r13, h14, hf⟩ := q_b1o hf
            refine q_roVi (As := [.int l5_2, .int p3]) (rest := []) (ci := 3) ⟨hx, hb, hml, hown, hts⟩ (kX3_treeOf l dC dI cI cB cZ o0 a0 s0 l5_2 p3 r13 h14) (cwV 2 hts gX3_minding_X3_treeOf rfl rfl rfl hdX3_treeOf ⟨Nat.le_of_ble_eq_true rfl, Nat.le_of_ble_eq_true rfl⟩) hK hP rfl rfl rfl hl.1 rfl (Nat.le_of_ble_eq_true rfl) dX3_minding_42 ⟨Nat.zero_le _, Nat.zero_le _⟩ ?_
            refine lv_ldc (v := -1000000) hx hb hown (hts _ qX3_minding_3) dX3_minding_45 ?_
            refine lv_icmp_eq (tgt := 59) hx hb dX3_minding_47 (by decide) (fun c15 => ?_) (fun c15 => ?_)
            · have hf := q_t c15 hf
              exact kj8 l4_1 (q_s1 hf) _ hl
            · have hf := q_f c15 hf
              refine lv_iload hx hb dX3_minding_50 (lv_at hl 1 rfl) ?_
              refine lv_iconst (v := 1) hx hb dX3_minding_52 (by decide) ?_
              refine lv_iload hx hb dX3_minding_53 (lv_at hl 0 rfl) ?_
              refine lv_ishl hx hb dX3_minding_55 ?_
              refine lv_ior hx hb dX3_minding_56 ?_
              obtain ⟨x16, ex16, hf⟩ := q_lto hf
              refine W.eq (g2 := F0 m 57 ls [.int x16]) (by rw [ex16]) ?_
              refine lv_istore (lv' := [(4, .int x16), (5, .int l5_2), (0, .ref o0), (1, .int p1), (2, .int p2), (3, .int p3)]) hx hb dX3_minding_57 hl (by decide) rfl (fun ls hl => ?_)
              exact kj8 x16 (q_s1 hf) _ (lv_sub hl [1, 0, 2, 3, 4, 5] rfl)
  exact aihn3 5000 (0 : Int32) (0 : Int32) hqn3 _ hl
theorem hdX3_withTemper : yX3_withTemper.cls = RX3 ∧ yX3_withTemper.cls ≠ "java/lang/invoke/MethodHandle" ∧ yX3_withTemper.cls ≠ "java/lang/invoke/VarHandle" ∧ (parseMethodDescriptor yX3_withTemper.desc).map (fun d => d.parameters.length) = some 1 := by decide +kernel
theorem qX3_withTemper_1 : (Cond.fieldLink RX3 42 "DeadAsked$Hill" "graves" "I") ∈ wsX3_withTemper := List.mem_of_getElem? (i := 1) (by decide +kernel)
theorem qX3_withTemper_2 : (Cond.fieldLink RX3 21 "DeadAsked$Hill" "temper" "[I") ∈ wsX3_withTemper := List.mem_of_getElem? (i := 2) (by decide +kernel)
theorem nX3_withTemper_3 : ∀ w ∈ u_ws RX3 TX3 14, w ∈ wsX3_withTemper := fun _ h => (List.mem_cons_of_mem _ (List.mem_append_right _ h))
set_option maxHeartbeats 4000000 in
set_option maxRecDepth 100000 in
theorem kX3_withTemper (o0 : Nat) (a0 : Nat → Nat) (s0 : St) (p1 : Int32) (r : Int32) (hf : fX3_withTemper s0 p1 = some r) : Met l yX3_withTemper wsX3_withTemper ({ frames := 1, cells := 0, slots := 0, locals := 21 } : Room) (pcR (dC, dI) (q_ty cI cB cZ) [.ref o0, .int p1] (wcH cI o0 a0 s0)) (qiR r) 0 0 (fun _ => False) := by
  refine q_roM (cc := cX3_withTemper) (maxL := 4) (ret := (some .int)) (by decide +kernel) rfl (Nat.le_of_ble_eq_true rfl) ?_
  intro p e s m below meth c hx hb hr hlk hml hown hts hK hP ls hl
  have hown : s.vm.findClass RX3 = some m.cls := hown
  have hl : lv_has ls 4 [(0, .ref o0), (1, .int p1)] := hl
  unfold fX3_withTemper at hf
  refine lv_iconst (v := 0) hx hb dX3_withTemper_0 (by decide) ?_
  refine lv_istore_n (lv' := [(2, .int (0 : Int32)), (0, .ref o0), (1, .int p1)]) hx hb dX3_withTemper_1 rfl hl (by decide) rfl (fun ls hl => ?_)
  refine lv_iconst (v := 0) hx hb dX3_withTemper_2 (by decide) ?_
  refine lv_istore_n (lv' := [(3, .int (0 : Int32)), (2, .int (0 : Int32)), (0, .ref o0), (1, .int p1)]) hx hb dX3_withTemper_3 rfl hl (by decide) rfl (fun ls hl => ?_)
  obtain ⟨oz4, hqn3, hf⟩ := q_b1o hf
  have kxn3 : ∀ z4 : Int32, z4 = oz4 → ∀ ls : Array Slot, lv_has ls 4 [(2, .int z4)] → W p l e ({ frames := 1, cells := 0, slots := 0, locals := 21 } : Room) s m [.ref o0, .int p1].toArray below meth c s.heap [] 0 0 (MQ below (qiR r) [.ref o0, .int p1].toArray s 0 0 (fun _ => False)) (F0 m 41 ls []) := by
    intro z4 ez4 ls hl
    subst ez4
    refine lv_iload_n hx hb dX3_withTemper_41 rfl (lv_at hl 0 rfl) ?_
    have ee0 := q_s1 hf
    exact q_retI hx hb hr hlk ee0 dX3_withTemper_42
  have aihn3 : ∀ n3 : Nat, ∀ l2_1 : Int32, ∀ l3_2 : Int32, fX3_withTemper_L4 p1 s0 n3 l2_1 l3_2 = some oz4 → ∀ ls : Array Slot, lv_has ls 4 [(3, .int l3_2), (2, .int l2_1), (0, .ref o0), (1, .int p1)] → W p l e ({ frames := 1, cells := 0, slots := 0, locals := 21 } : Room) s m [.ref o0, .int p1].toArray below meth c s.heap [] 0 0 (MQ below (qiR r) [.ref o0, .int p1].toArray s 0 0 (fun _ => False)) (F0 m 4 ls []) := by
    intro n3
    induction n3 with
    | zero =>
      intro l2_1 l3_2 hf
      exact q_no hf
    | succ n3 ihn3 =>
      intro l2_1 l3_2 hf ls hl
      rw [fX3_withTemper_L4] at hf
      refine lv_iload_n hx hb dX3_withTemper_4 rfl (lv_at hl 0 rfl) ?_
      refine lv_aload_n hx hb dX3_withTemper_5 rfl (lv_at hl 2 rfl) ?_
      refine va_get (D := (dC, dI)) (ci := 3) (v := .int (s0 10 0)) (C := RX3) (T := TX3) (N := 14) hx hb hts nX3_withTemper_3 hown hK hP 0 rfl rfl 10 (by decide) (hts _ qX3_withTemper_1) (fun _ h9 => h9) rfl dX3_withTemper_6 ?_
      refine lv_icmp_ge (tgt := 41) hx hb dX3_withTemper_9 (by decide) (fun c5 => ?_) (fun c5 => ?_)
      · have hf := q_t c5 hf
        exact kxn3 l2_1 (q_s1 hf) _ (lv_sub hl [1] rfl)
      · have hf := q_f c5 hf
        refine lv_iload_n hx hb dX3_withTemper_12 rfl (lv_at hl 3 rfl) ?_
        refine lv_iload_n hx hb dX3_withTemper_13 rfl (lv_at hl 0 rfl) ?_
        obtain ⟨r6, h7, hf⟩ := q_b1o hf
        refine q_roSi (As := [.int p1, .int l3_2]) (rest := []) ⟨hx, hb, hml, hown, hts⟩ (kX3_has l p1 l3_2 r6 h7) (va_cwS 2 hts gX3_withTemper_X3_has rfl rfl rfl hdX3_has ⟨Nat.le_of_ble_eq_true rfl, Nat.le_of_ble_eq_true rfl⟩) rfl hl.1 rfl (Nat.le_of_ble_eq_true rfl) dX3_withTemper_14 ⟨Nat.zero_le _, Nat.zero_le _⟩ ?_
        obtain ⟨ov8, hqj9, hf⟩ := q_b1o hf
        have kj9 : ∀ v8 : Int32, v8 = ov8 → ∀ ls : Array Slot, lv_has ls 4 [(3, .int l3_2), (2, .int v8), (0, .ref o0), (1, .int p1)] → W p l e ({ frames := 1, cells := 0, slots := 0, locals := 21 } : Room) s m [.ref o0, .int p1].toArray below meth c s.heap [] 0 0 (MQ below (qiR r) [.ref o0, .int p1].toArray s 0 0 (fun _ => False)) (F0 m 35 ls []) := by
          intro v8 ev8 ls hl
          subst ev8
          refine lv_iinc (v := l3_2 + (1 : Int32)) (lv' := [(3, .int (l3_2 + (1 : Int32))), (2, .int v8), (0, .ref o0), (1, .int p1)]) hx hb dX3_withTemper_35 hl (k := 0) rfl rfl (by decide) rfl (fun ls hl => ?_)
          refine lv_goto (tgt := 4) hx hb dX3_withTemper_38 (by decide) ?_
          exact ihn3 v8 (l3_2 + (1 : Int32)) hf _ hl
        have hf := hqj9
        refine lv_if_eq (tgt := 35) hx hb dX3_withTemper_17 (by decide) (fun c10 => ?_) (fun c10 => ?_)
        · have hf := q_t c10 hf
          exact kj9 l2_1 (q_s1 hf) _ hl
        · have hf := q_f c10 hf
          refine lv_aload_n hx hb dX3_withTemper_20 rfl (lv_at hl 2 rfl) ?_
          refine va_get (D := (dC, dI)) (ci := 3) (v := .ref (a0 3)) (C := RX3) (T := TX3) (N := 14) hx hb hts nX3_withTemper_3 hown hK hP 0 rfl rfl 3 (by decide) (hts _ qX3_withTemper_2) (fun _ h9 => h9) rfl dX3_withTemper_21 ?_
          refine lv_iload_n hx hb dX3_withTemper_24 rfl (lv_at hl 0 rfl) ?_
          obtain ⟨c11, hf⟩ := q_ck hf
          refine va_iald hx hb hK hP 4 0 rfl rfl c11 dX3_withTemper_25 ?_
          refine lv_if_le (tgt := 35) hx hb dX3_withTemper_26 (by decide) (fun c12 => ?_) (fun c12 => ?_)
          · have hf := q_t c12 hf
            exact kj9 l2_1 (q_s1 hf) _ hl
          · have hf := q_f c12 hf
            refine lv_iload_n hx hb dX3_withTemper_29 rfl (lv_at hl 1 rfl) ?_
            refine lv_iconst (v := 1) hx hb dX3_withTemper_30 (by decide) ?_
            refine lv_iload_n hx hb dX3_withTemper_31 rfl (lv_at hl 0 rfl) ?_
            refine lv_ishl hx hb dX3_withTemper_32 ?_
            refine lv_ior hx hb dX3_withTemper_33 ?_
            obtain ⟨x13, ex13, hf⟩ := q_lto hf
            refine W.eq (g2 := F0 m 34 ls [.int x13]) (by rw [ex13]) ?_
            refine lv_istore_n (lv' := [(2, .int x13), (3, .int l3_2), (0, .ref o0), (1, .int p1)]) hx hb dX3_withTemper_34 rfl hl (by decide) rfl (fun ls hl => ?_)
            exact kj9 x13 (q_s1 hf) _ (lv_sub hl [1, 0, 2, 3] rfl)
  exact aihn3 5000 (0 : Int32) (0 : Int32) hqn3 _ hl
theorem hdX3_kept : yX3_kept.cls ≠ "java/lang/invoke/MethodHandle" ∧ yX3_kept.cls ≠ "java/lang/invoke/VarHandle" ∧ (parseMethodDescriptor yX3_kept.desc).map (fun d => d.parameters.length) = some 2 := by decide +kernel
theorem qX3_kept_1 : (Cond.constantLong RX3 111 10) ∈ wsX3_kept := List.mem_of_getElem? (i := 1) (by decide +kernel)
set_option maxHeartbeats 4000000 in
set_option maxRecDepth 100000 in
theorem kX3_kept (p0 : Int64) (p2 : Int32) (r : Int64) (hf : fX3_kept p0 p2 = some r) : Met l yX3_kept wsX3_kept ({ frames := 0, cells := 0, slots := 0, locals := 0 } : Room) (pcS [.long p0, .int p2]) (qlR r) 0 0 (fun _ => False) := by
  refine q_roS (cc := cX3_kept) (maxL := 3) (ret := (some .long)) (by decide +kernel) rfl (Nat.le_of_ble_eq_true rfl) ?_
  intro p e s m below meth c hx hb hr hlk hml hown hts ls hl
  have hown : s.vm.findClass RX3 = some m.cls := hown
  have hl : lv_has ls 3 [(0, .long p0), (2, .int p2)] := hl
  unfold fX3_kept at hf
  refine lv_lload_n hx hb dX3_kept_0 rfl (lv_at hl 0 rfl) ?_
  refine lv_ldc2 (v := 10) hx hb hown (hts _ qX3_kept_1) dX3_kept_1 ?_
  refine lv_ldiv hx hb dX3_kept_4 (by decide) ?_
  refine lv_bipush (v := 10) hx hb dX3_kept_5 (by decide) ?_
  refine lv_iload_n hx hb dX3_kept_7 rfl (lv_at hl 1 rfl) ?_
  refine lv_isub hx hb dX3_kept_8 ?_
  refine lv_i2l (v := ((10 : Int32) - p2).toInt64) hx hb dX3_kept_9 rfl ?_
  refine lv_lmul hx hb dX3_kept_10 ?_
  have ee0 := q_s1 hf
  exact q_retL hx hb hr hlk ee0 dX3_kept_11
theorem hdX3_keptBy : yX3_keptBy.cls = RX3 ∧ yX3_keptBy.cls ≠ "java/lang/invoke/MethodHandle" ∧ yX3_keptBy.cls ≠ "java/lang/invoke/VarHandle" ∧ (parseMethodDescriptor yX3_keptBy.desc).map (fun d => d.parameters.length) = some 2 := by decide +kernel
theorem qX3_keptBy_1 : (Cond.fieldLink RX3 42 "DeadAsked$Hill" "graves" "I") ∈ wsX3_keptBy := List.mem_of_getElem? (i := 1) (by decide +kernel)
theorem qX3_keptBy_2 : (Cond.fieldLink RX3 21 "DeadAsked$Hill" "temper" "[I") ∈ wsX3_keptBy := List.mem_of_getElem? (i := 2) (by decide +kernel)
theorem nX3_keptBy_3 : ∀ w ∈ u_ws RX3 TX3 14, w ∈ wsX3_keptBy := fun _ h => (List.mem_cons_of_mem _ (List.mem_append_right _ h))
set_option maxHeartbeats 4000000 in
set_option maxRecDepth 100000 in
theorem kX3_keptBy (o0 : Nat) (a0 : Nat → Nat) (s0 : St) (p1 : Int32) (p2 : Int64) (r : Int64) (hf : fX3_keptBy s0 p1 p2 = some r) : Met l yX3_keptBy wsX3_keptBy ({ frames := 1, cells := 0, slots := 0, locals := 22 } : Room) (pcR (dC, dI) (q_ty cI cB cZ) [.ref o0, .int p1, .long p2] (wcH cI o0 a0 s0)) (qlR r) 0 0 (fun _ => False) := by
  refine q_roM (cc := cX3_keptBy) (maxL := 7) (ret := (some .long)) (by decide +kernel) rfl (Nat.le_of_ble_eq_true rfl) ?_
  intro p e s m below meth c hx hb hr hlk hml hown hts hK hP ls hl
  have hown : s.vm.findClass RX3 = some m.cls := hown
  have hl : lv_has ls 7 [(0, .ref o0), (1, .int p1), (2, .long p2)] := hl
  unfold fX3_keptBy at hf
  refine lv_lload_n hx hb dX3_keptBy_0 rfl (lv_at hl 2 rfl) ?_
  refine lv_lstore (lv' := [(4, .long p2), (0, .ref o0), (1, .int p1), (2, .long p2)]) hx hb dX3_keptBy_1 hl (by decide) rfl (fun ls hl => ?_)
  refine lv_iconst (v := 0) hx hb dX3_keptBy_3 (by decide) ?_
  refine lv_istore (lv' := [(6, .int (0 : Int32)), (4, .long p2), (0, .ref o0), (1, .int p1), (2, .long p2)]) hx hb dX3_keptBy_4 hl (by decide) rfl (fun ls hl => ?_)
  obtain ⟨oz4, hqn3, hf⟩ := q_b1o hf
  have kxn3 : ∀ z4 : Int64, z4 = oz4 → ∀ ls : Array Slot, lv_has ls 7 [(4, .long z4)] → W p l e ({ frames := 1, cells := 0, slots := 0, locals := 22 } : Room) s m [.ref o0, .int p1, .long p2].toArray below meth c s.heap [] 0 0 (MQ below (qlR r) [.ref o0, .int p1, .long p2].toArray s 0 0 (fun _ => False)) (F0 m 44 ls []) := by
    intro z4 ez4 ls hl
    subst ez4
    refine lv_lload hx hb dX3_keptBy_44 (lv_at hl 0 rfl) ?_
    have ee0 := q_s1 hf
    exact q_retL hx hb hr hlk ee0 dX3_keptBy_46
  have aihn3 : ∀ n3 : Nat, ∀ l4_1 : Int64, ∀ l6_2 : Int32, fX3_keptBy_L6 p1 s0 n3 l4_1 l6_2 = some oz4 → ∀ ls : Array Slot, lv_has ls 7 [(6, .int l6_2), (4, .long l4_1), (0, .ref o0), (1, .int p1)] → W p l e ({ frames := 1, cells := 0, slots := 0, locals := 22 } : Room) s m [.ref o0, .int p1, .long p2].toArray below meth c s.heap [] 0 0 (MQ below (qlR r) [.ref o0, .int p1, .long p2].toArray s 0 0 (fun _ => False)) (F0 m 6 ls []) := by
    intro n3
    induction n3 with
    | zero =>
      intro l4_1 l6_2 hf
      exact q_no hf
    | succ n3 ihn3 =>
      intro l4_1 l6_2 hf ls hl
      rw [fX3_keptBy_L6] at hf
      refine lv_iload hx hb dX3_keptBy_6 (lv_at hl 0 rfl) ?_
      refine lv_aload_n hx hb dX3_keptBy_8 rfl (lv_at hl 2 rfl) ?_
      refine va_get (D := (dC, dI)) (ci := 3) (v := .int (s0 10 0)) (C := RX3) (T := TX3) (N := 14) hx hb hts nX3_keptBy_3 hown hK hP 0 rfl rfl 10 (by decide) (hts _ qX3_keptBy_1) (fun _ h9 => h9) rfl dX3_keptBy_9 ?_
      refine lv_icmp_ge (tgt := 44) hx hb dX3_keptBy_12 (by decide) (fun c5 => ?_) (fun c5 => ?_)
      · have hf := q_t c5 hf
        exact kxn3 l4_1 (q_s1 hf) _ (lv_sub hl [1] rfl)
      · have hf := q_f c5 hf
        refine lv_iload_n hx hb dX3_keptBy_15 rfl (lv_at hl 3 rfl) ?_
        refine lv_iload hx hb dX3_keptBy_16 (lv_at hl 0 rfl) ?_
        obtain ⟨r6, h7, hf⟩ := q_b1o hf
        refine q_roSi (As := [.int p1, .int l6_2]) (rest := []) ⟨hx, hb, hml, hown, hts⟩ (kX3_has l p1 l6_2 r6 h7) (va_cwS 2 hts gX3_keptBy_X3_has rfl rfl rfl hdX3_has ⟨Nat.le_of_ble_eq_true rfl, Nat.le_of_ble_eq_true rfl⟩) rfl hl.1 rfl (Nat.le_of_ble_eq_true rfl) dX3_keptBy_18 ⟨Nat.zero_le _, Nat.zero_le _⟩ ?_
        obtain ⟨ov8, hqj9, hf⟩ := q_b1o hf
        have kj9 : ∀ v8 : Int64, v8 = ov8 → ∀ ls : Array Slot, lv_has ls 7 [(6, .int l6_2), (4, .long v8), (0, .ref o0), (1, .int p1)] → W p l e ({ frames := 1, cells := 0, slots := 0, locals := 22 } : Room) s m [.ref o0, .int p1, .long p2].toArray below meth c s.heap [] 0 0 (MQ below (qlR r) [.ref o0, .int p1, .long p2].toArray s 0 0 (fun _ => False)) (F0 m 38 ls []) := by
          intro v8 ev8 ls hl
          subst ev8
          refine lv_iinc (v := l6_2 + (1 : Int32)) (lv' := [(6, .int (l6_2 + (1 : Int32))), (4, .long v8), (0, .ref o0), (1, .int p1)]) hx hb dX3_keptBy_38 hl (k := 0) rfl rfl (by decide) rfl (fun ls hl => ?_)
          refine lv_goto (tgt := 6) hx hb dX3_keptBy_41 (by decide) ?_
          exact ihn3 v8 (l6_2 + (1 : Int32)) hf _ hl
        have hf := hqj9
        refine lv_if_eq (tgt := 38) hx hb dX3_keptBy_21 (by decide) (fun c10 => ?_) (fun c10 => ?_)
        · have hf := q_t c10 hf
          exact kj9 l4_1 (q_s1 hf) _ hl
        · have hf := q_f c10 hf
          refine lv_lload hx hb dX3_keptBy_24 (lv_at hl 1 rfl) ?_
          refine lv_aload_n hx hb dX3_keptBy_26 rfl (lv_at hl 2 rfl) ?_
          refine va_get (D := (dC, dI)) (ci := 3) (v := .ref (a0 3)) (C := RX3) (T := TX3) (N := 14) hx hb hts nX3_keptBy_3 hown hK hP 0 rfl rfl 3 (by decide) (hts _ qX3_keptBy_2) (fun _ h9 => h9) rfl dX3_keptBy_27 ?_
          refine lv_iload hx hb dX3_keptBy_30 (lv_at hl 0 rfl) ?_
          obtain ⟨c11, hf⟩ := q_ck hf
          refine va_iald hx hb hK hP 4 0 rfl rfl c11 dX3_keptBy_32 ?_
          obtain ⟨r12, h13, hf⟩ := q_b1o hf
          refine q_roSl (As := [.long l4_1, .int (s0 3 l6_2.toNatClampNeg)]) (rest := []) ⟨hx, hb, hml, hown, hts⟩ (kX3_kept l l4_1 (s0 3 l6_2.toNatClampNeg) r12 h13) (va_cwS 2 hts gX3_keptBy_X3_kept rfl rfl rfl hdX3_kept ⟨Nat.le_of_ble_eq_true rfl, Nat.le_of_ble_eq_true rfl⟩) rfl hl.1 rfl (Nat.le_of_ble_eq_true rfl) dX3_keptBy_33 ⟨Nat.zero_le _, Nat.zero_le _⟩ ?_
          refine lv_lstore (lv' := [(4, .long r12), (6, .int l6_2), (0, .ref o0), (1, .int p1)]) hx hb dX3_keptBy_36 hl (by decide) rfl (fun ls hl => ?_)
          exact kj9 r12 (q_s1 hf) _ (lv_sub hl [1, 0, 2, 3] rfl)
  exact aihn3 5000 p2 (0 : Int32) hqn3 _ (lv_sub hl [0, 1, 2, 3] rfl)
theorem hdX3_passing : yX3_passing.cls = RX3 ∧ yX3_passing.cls ≠ "java/lang/invoke/MethodHandle" ∧ yX3_passing.cls ≠ "java/lang/invoke/VarHandle" ∧ (parseMethodDescriptor yX3_passing.desc).map (fun d => d.parameters.length) = some 3 := by decide +kernel
theorem qX3_passing_1 : (Cond.constantLong RX3 98 1000000000) ∈ wsX3_passing := List.mem_of_getElem? (i := 1) (by decide +kernel)
theorem qX3_passing_2 : (Cond.fieldLink RX3 49 "DeadAsked$Hill" "trees" "I") ∈ wsX3_passing := List.mem_of_getElem? (i := 2) (by decide +kernel)
theorem nX3_passing_3 : ∀ w ∈ u_ws RX3 TX3 14, w ∈ wsX3_passing := fun _ h => (List.mem_cons_of_mem _ (List.mem_append_right _ h))
set_option maxHeartbeats 4000000 in
set_option maxRecDepth 100000 in
theorem kX3_passing (o0 : Nat) (a0 : Nat → Nat) (s0 : St) (p1 : Int32) (p2 : Int32) (p3 : Int32) (r : Int64) (hf : fX3_passing s0 p1 p2 p3 = some r) : Met l yX3_passing wsX3_passing ({ frames := 3, cells := 0, slots := 0, locals := 65 } : Room) (pcR (dC, dI) (q_ty cI cB cZ) [.ref o0, .int p1, .int p2, .int p3] (wcH cI o0 a0 s0)) (qlR r) 0 0 (fun _ => False) := by
  refine q_roM (cc := cX3_passing) (maxL := 7) (ret := (some .long)) (by decide +kernel) rfl (Nat.le_of_ble_eq_true rfl) ?_
  intro p e s m below meth c hx hb hr hlk hml hown hts hK hP ls hl
  have hown : s.vm.findClass RX3 = some m.cls := hown
  have hl : lv_has ls 7 [(0, .ref o0), (1, .int p1), (2, .int p2), (3, .int p3)] := hl
  unfold fX3_passing at hf
  refine lv_aload_n hx hb dX3_passing_0 rfl (lv_at hl 0 rfl) ?_
  refine lv_iload_n hx hb dX3_passing_1 rfl (lv_at hl 1 rfl) ?_
  refine lv_ldc2 (v := 1000000000) hx hb hown (hts _ qX3_passing_1) dX3_passing_2 ?_
  obtain ⟨r1, h2, hf⟩ := q_b1o hf
  refine q_roVl (As := [.int p1, .long (1000000000 : Int64)]) (rest := []) (ci := 3) ⟨hx, hb, hml, hown, hts⟩ (kX3_keptBy l dC dI cI cB cZ o0 a0 s0 p1 (1000000000 : Int64) r1 h2) (cwV 2 hts gX3_passing_X3_keptBy rfl rfl rfl hdX3_keptBy ⟨Nat.le_of_ble_eq_true rfl, Nat.le_of_ble_eq_true rfl⟩) hK hP rfl rfl rfl hl.1 rfl (Nat.le_of_ble_eq_true rfl) dX3_passing_5 ⟨Nat.zero_le _, Nat.zero_le _⟩ ?_
  refine lv_lstore (lv' := [(4, .long r1), (0, .ref o0), (1, .int p1), (2, .int p2), (3, .int p3)]) hx hb dX3_passing_8 hl (by decide) rfl (fun ls hl => ?_)
  refine lv_iconst (v := 0) hx hb dX3_passing_10 (by decide) ?_
  refine lv_istore (lv' := [(6, .int (0 : Int32)), (4, .long r1), (0, .ref o0), (1, .int p1), (2, .int p2), (3, .int p3)]) hx hb dX3_passing_11 hl (by decide) rfl (fun ls hl => ?_)
  obtain ⟨oz6, hqn5, hf⟩ := q_b1o hf
  have kxn5 : ∀ z6 : Int64, z6 = oz6 → ∀ ls : Array Slot, lv_has ls 7 [(4, .long z6)] → W p l e ({ frames := 3, cells := 0, slots := 0, locals := 65 } : Room) s m [.ref o0, .int p1, .int p2, .int p3].toArray below meth c s.heap [] 0 0 (MQ below (qlR r) [.ref o0, .int p1, .int p2, .int p3].toArray s 0 0 (fun _ => False)) (F0 m 52 ls []) := by
    intro z6 ez6 ls hl
    subst ez6
    refine lv_lload hx hb dX3_passing_52 (lv_at hl 0 rfl) ?_
    have ee0 := q_s1 hf
    exact q_retL hx hb hr hlk ee0 dX3_passing_54
  have aihn5 : ∀ n5 : Nat, ∀ l4_3 : Int64, ∀ l6_4 : Int32, fX3_passing_L13 p2 p3 s0 n5 l4_3 l6_4 = some oz6 → ∀ ls : Array Slot, lv_has ls 7 [(6, .int l6_4), (4, .long l4_3), (0, .ref o0), (2, .int p2), (3, .int p3)] → W p l e ({ frames := 3, cells := 0, slots := 0, locals := 65 } : Room) s m [.ref o0, .int p1, .int p2, .int p3].toArray below meth c s.heap [] 0 0 (MQ below (qlR r) [.ref o0, .int p1, .int p2, .int p3].toArray s 0 0 (fun _ => False)) (F0 m 13 ls []) := by
    intro n5
    induction n5 with
    | zero =>
      intro l4_3 l6_4 hf
      exact q_no hf
    | succ n5 ihn5 =>
      intro l4_3 l6_4 hf ls hl
      rw [fX3_passing_L13] at hf
      refine lv_iload hx hb dX3_passing_13 (lv_at hl 0 rfl) ?_
      refine lv_aload_n hx hb dX3_passing_15 rfl (lv_at hl 2 rfl) ?_
      refine va_get (D := (dC, dI)) (ci := 3) (v := .int (s0 12 0)) (C := RX3) (T := TX3) (N := 14) hx hb hts nX3_passing_3 hown hK hP 0 rfl rfl 12 (by decide) (hts _ qX3_passing_2) (fun _ h9 => h9) rfl dX3_passing_16 ?_
      refine lv_icmp_ge (tgt := 52) hx hb dX3_passing_19 (by decide) (fun c7 => ?_) (fun c7 => ?_)
      · have hf := q_t c7 hf
        exact kxn5 l4_3 (q_s1 hf) _ (lv_sub hl [1] rfl)
      · have hf := q_f c7 hf
        refine lv_aload_n hx hb dX3_passing_22 rfl (lv_at hl 2 rfl) ?_
        refine lv_iload hx hb dX3_passing_23 (lv_at hl 0 rfl) ?_
        refine lv_iload_n hx hb dX3_passing_25 rfl (lv_at hl 4 rfl) ?_
        obtain ⟨r8, h9, hf⟩ := q_b1o hf
        refine q_roVi (As := [.int l6_4, .int p3]) (rest := []) (ci := 3) ⟨hx, hb, hml, hown, hts⟩ (kX3_bears l dC dI cI cB cZ o0 a0 s0 l6_4 p3 r8 h9) (cwV 2 hts gX3_passing_X3_bears rfl rfl rfl hdX3_bears ⟨Nat.le_of_ble_eq_true rfl, Nat.le_of_ble_eq_true rfl⟩) hK hP rfl rfl rfl hl.1 rfl (Nat.le_of_ble_eq_true rfl) dX3_passing_26 ⟨Nat.zero_le _, Nat.zero_le _⟩ ?_
        obtain ⟨ov10, hqj11, hf⟩ := q_b1o hf
        have kj11 : ∀ v10 : Int64, v10 = ov10 → ∀ ls : Array Slot, lv_has ls 7 [(6, .int l6_4), (4, .long v10), (0, .ref o0), (2, .int p2), (3, .int p3)] → W p l e ({ frames := 3, cells := 0, slots := 0, locals := 65 } : Room) s m [.ref o0, .int p1, .int p2, .int p3].toArray below meth c s.heap [] 0 0 (MQ below (qlR r) [.ref o0, .int p1, .int p2, .int p3].toArray s 0 0 (fun _ => False)) (F0 m 46 ls []) := by
          intro v10 ev10 ls hl
          subst ev10
          refine lv_iinc (v := l6_4 + (1 : Int32)) (lv' := [(6, .int (l6_4 + (1 : Int32))), (4, .long v10), (0, .ref o0), (2, .int p2), (3, .int p3)]) hx hb dX3_passing_46 hl (k := 0) rfl rfl (by decide) rfl (fun ls hl => ?_)
          refine lv_goto (tgt := 13) hx hb dX3_passing_49 (by decide) ?_
          exact ihn5 v10 (l6_4 + (1 : Int32)) hf _ hl
        have hf := hqj11
        refine lv_if_eq (tgt := 46) hx hb dX3_passing_29 (by decide) (fun c12 => ?_) (fun c12 => ?_)
        · have hf := q_t c12 hf
          exact kj11 l4_3 (q_s1 hf) _ hl
        · have hf := q_f c12 hf
          refine lv_lload hx hb dX3_passing_32 (lv_at hl 1 rfl) ?_
          refine lv_aload_n hx hb dX3_passing_34 rfl (lv_at hl 2 rfl) ?_
          refine lv_iload hx hb dX3_passing_35 (lv_at hl 0 rfl) ?_
          refine lv_iload_n hx hb dX3_passing_37 rfl (lv_at hl 3 rfl) ?_
          obtain ⟨r13, h14, hf⟩ := q_b1o hf
          refine q_roVi (As := [.int l6_4, .int p2]) (rest := [.long l4_3]) (ci := 3) ⟨hx, hb, hml, hown, hts⟩ (kX3_blown l dC dI cI cB cZ o0 a0 s0 l6_4 p2 r13 h14) (cwV 2 hts gX3_passing_X3_blown rfl rfl rfl hdX3_blown ⟨Nat.le_of_ble_eq_true rfl, Nat.le_of_ble_eq_true rfl⟩) hK hP rfl rfl rfl hl.1 rfl (Nat.le_of_ble_eq_true rfl) dX3_passing_38 ⟨Nat.zero_le _, Nat.zero_le _⟩ ?_
          obtain ⟨r15, h16, hf⟩ := q_b1o hf
          refine q_roSl (As := [.long l4_3, .int r13]) (rest := []) ⟨hx, hb, hml, hown, hts⟩ (kX3_kept l l4_3 r13 r15 h16) (va_cwS 2 hts gX3_passing_X3_kept rfl rfl rfl hdX3_kept ⟨Nat.le_of_ble_eq_true rfl, Nat.le_of_ble_eq_true rfl⟩) rfl hl.1 rfl (Nat.le_of_ble_eq_true rfl) dX3_passing_41 ⟨Nat.zero_le _, Nat.zero_le _⟩ ?_
          refine lv_lstore (lv' := [(4, .long r15), (6, .int l6_4), (0, .ref o0), (2, .int p2), (3, .int p3)]) hx hb dX3_passing_44 hl (by decide) rfl (fun ls hl => ?_)
          exact kj11 r15 (q_s1 hf) _ (lv_sub hl [1, 0, 2, 3, 4] rfl)
  exact aihn5 5000 r1 (0 : Int32) hqn5 _ (lv_sub hl [0, 1, 2, 4, 5] rfl)
theorem hdX3_hearing : yX3_hearing.cls = RX3 ∧ yX3_hearing.cls ≠ "java/lang/invoke/MethodHandle" ∧ yX3_hearing.cls ≠ "java/lang/invoke/VarHandle" ∧ (parseMethodDescriptor yX3_hearing.desc).map (fun d => d.parameters.length) = some 1 := by decide +kernel
theorem qX3_hearing_1 : (Cond.fieldLink RX3 42 "DeadAsked$Hill" "graves" "I") ∈ wsX3_hearing := List.mem_of_getElem? (i := 1) (by decide +kernel)
theorem nX3_hearing_3 : ∀ w ∈ u_ws RX3 TX3 14, w ∈ wsX3_hearing := fun _ h => (List.mem_cons_of_mem _ (List.mem_append_right _ h))
set_option maxHeartbeats 4000000 in
set_option maxRecDepth 100000 in
theorem kX3_hearing (o0 : Nat) (a0 : Nat → Nat) (s0 : St) (p1 : Int32) (r : Int32) (hf : fX3_hearing s0 p1 = some r) : Met l yX3_hearing wsX3_hearing ({ frames := 3, cells := 0, slots := 0, locals := 66 } : Room) (pcR (dC, dI) (q_ty cI cB cZ) [.ref o0, .int p1] (wcH cI o0 a0 s0)) (qiR r) 0 0 (fun _ => False) := by
  refine q_roM (cc := cX3_hearing) (maxL := 4) (ret := (some .int)) (by decide +kernel) rfl (Nat.le_of_ble_eq_true rfl) ?_
  intro p e s m below meth c hx hb hr hlk hml hown hts hK hP ls hl
  have hown : s.vm.findClass RX3 = some m.cls := hown
  have hl : lv_has ls 4 [(0, .ref o0), (1, .int p1)] := hl
  unfold fX3_hearing at hf
  refine lv_iconst (v := 0) hx hb dX3_hearing_0 (by decide) ?_
  refine lv_istore_n (lv' := [(2, .int (0 : Int32)), (0, .ref o0), (1, .int p1)]) hx hb dX3_hearing_1 rfl hl (by decide) rfl (fun ls hl => ?_)
  refine lv_iconst (v := 0) hx hb dX3_hearing_2 (by decide) ?_
  refine lv_istore_n (lv' := [(3, .int (0 : Int32)), (2, .int (0 : Int32)), (0, .ref o0), (1, .int p1)]) hx hb dX3_hearing_3 rfl hl (by decide) rfl (fun ls hl => ?_)
  obtain ⟨oz4, hqn3, hf⟩ := q_b1o hf
  have kxn3 : ∀ z4 : Int32, z4 = oz4 → ∀ ls : Array Slot, lv_has ls 4 [(2, .int z4)] → W p l e ({ frames := 3, cells := 0, slots := 0, locals := 66 } : Room) s m [.ref o0, .int p1].toArray below meth c s.heap [] 0 0 (MQ below (qiR r) [.ref o0, .int p1].toArray s 0 0 (fun _ => False)) (F0 m 31 ls []) := by
    intro z4 ez4 ls hl
    subst ez4
    refine lv_iload_n hx hb dX3_hearing_31 rfl (lv_at hl 0 rfl) ?_
    have ee0 := q_s1 hf
    exact q_retI hx hb hr hlk ee0 dX3_hearing_32
  have aihn3 : ∀ n3 : Nat, ∀ l2_1 : Int32, ∀ l3_2 : Int32, fX3_hearing_L4 p1 s0 n3 l2_1 l3_2 = some oz4 → ∀ ls : Array Slot, lv_has ls 4 [(3, .int l3_2), (2, .int l2_1), (0, .ref o0), (1, .int p1)] → W p l e ({ frames := 3, cells := 0, slots := 0, locals := 66 } : Room) s m [.ref o0, .int p1].toArray below meth c s.heap [] 0 0 (MQ below (qiR r) [.ref o0, .int p1].toArray s 0 0 (fun _ => False)) (F0 m 4 ls []) := by
    intro n3
    induction n3 with
    | zero =>
      intro l2_1 l3_2 hf
      exact q_no hf
    | succ n3 ihn3 =>
      intro l2_1 l3_2 hf ls hl
      rw [fX3_hearing_L4] at hf
      refine lv_iload_n hx hb dX3_hearing_4 rfl (lv_at hl 0 rfl) ?_
      refine lv_aload_n hx hb dX3_hearing_5 rfl (lv_at hl 2 rfl) ?_
      refine va_get (D := (dC, dI)) (ci := 3) (v := .int (s0 10 0)) (C := RX3) (T := TX3) (N := 14) hx hb hts nX3_hearing_3 hown hK hP 0 rfl rfl 10 (by decide) (hts _ qX3_hearing_1) (fun _ h9 => h9) rfl dX3_hearing_6 ?_
      refine lv_icmp_ge (tgt := 31) hx hb dX3_hearing_9 (by decide) (fun c5 => ?_) (fun c5 => ?_)
      · have hf := q_t c5 hf
        exact kxn3 l2_1 (q_s1 hf) _ (lv_sub hl [1] rfl)
      · have hf := q_f c5 hf
        refine lv_aload_n hx hb dX3_hearing_12 rfl (lv_at hl 2 rfl) ?_
        refine lv_iload_n hx hb dX3_hearing_13 rfl (lv_at hl 0 rfl) ?_
        obtain ⟨r6, h7, hf⟩ := q_b1o hf
        refine q_roVi (As := [.int l3_2]) (rest := []) (ci := 3) ⟨hx, hb, hml, hown, hts⟩ (kX3_hornsHeardBy l dC dI cI cB cZ o0 a0 s0 l3_2 r6 h7) (cwV 1 hts gX3_hearing_X3_hornsHeardBy rfl rfl rfl hdX3_hornsHeardBy ⟨Nat.le_of_ble_eq_true rfl, Nat.le_of_ble_eq_true rfl⟩) hK hP rfl rfl rfl hl.1 rfl (Nat.le_of_ble_eq_true rfl) dX3_hearing_14 ⟨Nat.zero_le _, Nat.zero_le _⟩ ?_
        refine lv_iload_n hx hb dX3_hearing_17 rfl (lv_at hl 3 rfl) ?_
        refine lv_iand hx hb dX3_hearing_18 ?_
        obtain ⟨ov8, hqj9, hf⟩ := q_b1o hf
        have kj9 : ∀ v8 : Int32, v8 = ov8 → ∀ ls : Array Slot, lv_has ls 4 [(3, .int l3_2), (2, .int v8), (0, .ref o0), (1, .int p1)] → W p l e ({ frames := 3, cells := 0, slots := 0, locals := 66 } : Room) s m [.ref o0, .int p1].toArray below meth c s.heap [] 0 0 (MQ below (qiR r) [.ref o0, .int p1].toArray s 0 0 (fun _ => False)) (F0 m 25 ls []) := by
          intro v8 ev8 ls hl
          subst ev8
          refine lv_iinc (v := l3_2 + (1 : Int32)) (lv' := [(3, .int (l3_2 + (1 : Int32))), (2, .int v8), (0, .ref o0), (1, .int p1)]) hx hb dX3_hearing_25 hl (k := 0) rfl rfl (by decide) rfl (fun ls hl => ?_)
          refine lv_goto (tgt := 4) hx hb dX3_hearing_28 (by decide) ?_
          exact ihn3 v8 (l3_2 + (1 : Int32)) hf _ hl
        have hf := hqj9
        refine lv_if_eq (tgt := 25) hx hb dX3_hearing_19 (by decide) (fun c10 => ?_) (fun c10 => ?_)
        · have hf := q_t c10 hf
          exact kj9 l2_1 (q_s1 hf) _ hl
        · have hf := q_f c10 hf
          refine lv_iinc (v := l2_1 + (1 : Int32)) (lv' := [(2, .int (l2_1 + (1 : Int32))), (3, .int l3_2), (0, .ref o0), (1, .int p1)]) hx hb dX3_hearing_22 hl (k := 1) rfl rfl (by decide) rfl (fun ls hl => ?_)
          exact kj9 (l2_1 + (1 : Int32)) (q_s1 hf) _ (lv_sub hl [1, 0, 2, 3] rfl)
  exact aihn3 5000 (0 : Int32) (0 : Int32) hqn3 _ hl
theorem hdX3_bestWay : yX3_bestWay.cls = RX3 ∧ yX3_bestWay.cls ≠ "java/lang/invoke/MethodHandle" ∧ yX3_bestWay.cls ≠ "java/lang/invoke/VarHandle" ∧ (parseMethodDescriptor yX3_bestWay.desc).map (fun d => d.parameters.length) = some 4 := by decide +kernel
theorem qX3_bestWay_1 : (Cond.constant RX3 86 (-1000000)) ∈ wsX3_bestWay := List.mem_of_getElem? (i := 1) (by decide +kernel)
theorem qX3_bestWay_2 : (Cond.constantLong RX3 113 (-1)) ∈ wsX3_bestWay := List.mem_of_getElem? (i := 2) (by decide +kernel)
theorem qX3_bestWay_3 : (Cond.fieldLink RX3 46 "DeadAsked$Hill" "horns" "I") ∈ wsX3_bestWay := List.mem_of_getElem? (i := 3) (by decide +kernel)
theorem nX3_bestWay_3 : ∀ w ∈ u_ws RX3 TX3 14, w ∈ wsX3_bestWay := fun _ h => (List.mem_cons_of_mem _ (List.mem_append_right _ h))
set_option maxHeartbeats 4000000 in
set_option maxRecDepth 100000 in
theorem kX3_bestWay (o0 : Nat) (a0 : Nat → Nat) (s0 : St) (p1 : Int32) (p2 : Int32) (p3 : Int32) (p4 : Int32) (r : Int32) (hf : fX3_bestWay s0 p1 p2 p3 p4 = some r) : Met l yX3_bestWay wsX3_bestWay ({ frames := 4, cells := 0, slots := 0, locals := 93 } : Room) (pcR (dC, dI) (q_ty cI cB cZ) [.ref o0, .int p1, .int p2, .int p3, .int p4] (wcH cI o0 a0 s0)) (qiR r) 0 0 (fun _ => False) := by
  refine q_roM (cc := cX3_bestWay) (maxL := 15) (ret := (some .int)) (by decide +kernel) rfl (Nat.le_of_ble_eq_true rfl) ?_
  intro p e s m below meth c hx hb hr hlk hml hown hts hK hP ls hl
  have hown : s.vm.findClass RX3 = some m.cls := hown
  have hl : lv_has ls 15 [(0, .ref o0), (1, .int p1), (2, .int p2), (3, .int p3), (4, .int p4)] := hl
  unfold fX3_bestWay at hf
  refine lv_ldc (v := -1000000) hx hb hown (hts _ qX3_bestWay_1) dX3_bestWay_0 ?_
  refine lv_istore (lv' := [(5, .int (-1000000 : Int32)), (0, .ref o0), (1, .int p1), (2, .int p2), (3, .int p3), (4, .int p4)]) hx hb dX3_bestWay_2 hl (by decide) rfl (fun ls hl => ?_)
  refine lv_ldc2 (v := -1) hx hb hown (hts _ qX3_bestWay_2) dX3_bestWay_4 ?_
  refine lv_lstore (lv' := [(6, .long (-1 : Int64)), (5, .int (-1000000 : Int32)), (0, .ref o0), (1, .int p1), (2, .int p2), (3, .int p3), (4, .int p4)]) hx hb dX3_bestWay_7 hl (by decide) rfl (fun ls hl => ?_)
  refine lv_iconst (v := 0) hx hb dX3_bestWay_9 (by decide) ?_
  refine lv_istore (lv' := [(8, .int (0 : Int32)), (6, .long (-1 : Int64)), (5, .int (-1000000 : Int32)), (0, .ref o0), (1, .int p1), (2, .int p2), (3, .int p3), (4, .int p4)]) hx hb dX3_bestWay_10 hl (by decide) rfl (fun ls hl => ?_)
  obtain ⟨oz5, hqn4, hf⟩ := q_b1o hf
  have kxn4 : ∀ z5 : Int32, z5 = oz5 → ∀ ls : Array Slot, lv_has ls 15 [(5, .int z5)] → W p l e ({ frames := 4, cells := 0, slots := 0, locals := 93 } : Room) s m [.ref o0, .int p1, .int p2, .int p3, .int p4].toArray below meth c s.heap [] 0 0 (MQ below (qiR r) [.ref o0, .int p1, .int p2, .int p3, .int p4].toArray s 0 0 (fun _ => False)) (F0 m 129 ls []) := by
    intro z5 ez5 ls hl
    subst ez5
    refine lv_iload hx hb dX3_bestWay_129 (lv_at hl 0 rfl) ?_
    have ee0 := q_s1 hf
    exact q_retI hx hb hr hlk ee0 dX3_bestWay_131
  have aihn4 : ∀ n4 : Nat, ∀ l5_1 : Int32, ∀ l6_2 : Int64, ∀ l8_3 : Int32, fX3_bestWay_L12 p1 p2 p3 p4 s0 n4 l5_1 l6_2 l8_3 = some oz5 → ∀ ls : Array Slot, lv_has ls 15 [(8, .int l8_3), (6, .long l6_2), (5, .int l5_1), (0, .ref o0), (1, .int p1), (2, .int p2), (3, .int p3), (4, .int p4)] → W p l e ({ frames := 4, cells := 0, slots := 0, locals := 93 } : Room) s m [.ref o0, .int p1, .int p2, .int p3, .int p4].toArray below meth c s.heap [] 0 0 (MQ below (qiR r) [.ref o0, .int p1, .int p2, .int p3, .int p4].toArray s 0 0 (fun _ => False)) (F0 m 12 ls []) := by
    intro n4
    induction n4 with
    | zero =>
      intro l5_1 l6_2 l8_3 hf
      exact q_no hf
    | succ n4 ihn4 =>
      intro l5_1 l6_2 l8_3 hf ls hl
      rw [fX3_bestWay_L12] at hf
      refine lv_iload hx hb dX3_bestWay_12 (lv_at hl 0 rfl) ?_
      refine lv_iconst (v := 1) hx hb dX3_bestWay_14 (by decide) ?_
      refine lv_aload_n hx hb dX3_bestWay_15 rfl (lv_at hl 3 rfl) ?_
      refine va_get (D := (dC, dI)) (ci := 3) (v := .int (s0 11 0)) (C := RX3) (T := TX3) (N := 14) hx hb hts nX3_bestWay_3 hown hK hP 0 rfl rfl 11 (by decide) (hts _ qX3_bestWay_3) (fun _ h9 => h9) rfl dX3_bestWay_16 ?_
      refine lv_ishl hx hb dX3_bestWay_19 ?_
      refine lv_icmp_ge (tgt := 129) hx hb dX3_bestWay_20 (by decide) (fun c6 => ?_) (fun c6 => ?_)
      · have hf := q_t c6 hf
        exact kxn4 l5_1 (q_s1 hf) _ (lv_sub hl [2] rfl)
      · have hf := q_f c6 hf
        refine lv_aload_n hx hb dX3_bestWay_23 rfl (lv_at hl 3 rfl) ?_
        refine lv_iload_n hx hb dX3_bestWay_24 rfl (lv_at hl 4 rfl) ?_
        refine lv_iload hx hb dX3_bestWay_25 (lv_at hl 0 rfl) ?_
        refine lv_iconst (v := 0) hx hb dX3_bestWay_27 (by decide) ?_
        obtain ⟨r7, h8, hf⟩ := q_b1o hf
        refine q_roVi (As := [.int p1, .int l8_3, .int (0 : Int32)]) (rest := []) (ci := 3) ⟨hx, hb, hml, hown, hts⟩ (kX3_minding l dC dI cI cB cZ o0 a0 s0 p1 l8_3 (0 : Int32) r7 h8) (cwV 3 hts gX3_bestWay_X3_minding rfl rfl rfl hdX3_minding ⟨Nat.le_of_ble_eq_true rfl, Nat.le_of_ble_eq_true rfl⟩) hK hP rfl rfl rfl hl.1 rfl (Nat.le_of_ble_eq_true rfl) dX3_bestWay_28 ⟨Nat.zero_le _, Nat.zero_le _⟩ ?_
        refine lv_istore (lv' := [(9, .int r7), (8, .int l8_3), (6, .long l6_2), (5, .int l5_1), (0, .ref o0), (1, .int p1), (2, .int p2), (3, .int p3), (4, .int p4)]) hx hb dX3_bestWay_31 hl (by decide) rfl (fun ls hl => ?_)
        refine lv_aload_n hx hb dX3_bestWay_33 rfl (lv_at hl 4 rfl) ?_
        refine lv_iload hx hb dX3_bestWay_34 (lv_at hl 1 rfl) ?_
        obtain ⟨r9, h10, hf⟩ := q_b1o hf
        refine q_roVi (As := [.int l8_3]) (rest := []) (ci := 3) ⟨hx, hb, hml, hown, hts⟩ (kX3_hearing l dC dI cI cB cZ o0 a0 s0 l8_3 r9 h10) (cwV 1 hts gX3_bestWay_X3_hearing rfl rfl rfl hdX3_hearing ⟨Nat.le_of_ble_eq_true rfl, Nat.le_of_ble_eq_true rfl⟩) hK hP rfl rfl rfl hl.1 rfl (Nat.le_of_ble_eq_true rfl) dX3_bestWay_36 ⟨Nat.zero_le _, Nat.zero_le _⟩ ?_
        refine lv_iload_n hx hb dX3_bestWay_39 rfl (lv_at hl 6 rfl) ?_
        obtain ⟨ov11, hqj12, hf⟩ := q_b1o hf
        have kj12 : ∀ v11 : Int32, v11 = ov11 → ∀ ls : Array Slot, lv_has ls 15 [(9, .int r7), (8, .int l8_3), (6, .long l6_2), (5, .int l5_1), (0, .ref o0), (1, .int p1), (2, .int p2), (3, .int p3), (4, .int p4)] → W p l e ({ frames := 4, cells := 0, slots := 0, locals := 93 } : Room) s m [.ref o0, .int p1, .int p2, .int p3, .int p4].toArray below meth c s.heap [] 0 0 (MQ below (qiR r) [.ref o0, .int p1, .int p2, .int p3, .int p4].toArray s 0 0 (fun _ => False)) (F0 m 48 ls [.int v11]) := by
          intro v11 ev11 ls hl
          subst ev11
          refine lv_istore (lv' := [(10, .int v11), (9, .int r7), (8, .int l8_3), (6, .long l6_2), (5, .int l5_1), (0, .ref o0), (1, .int p1), (2, .int p2), (3, .int p3), (4, .int p4)]) hx hb dX3_bestWay_48 hl (by decide) rfl (fun ls hl => ?_)
          refine lv_iload_n hx hb dX3_bestWay_50 rfl (lv_at hl 8 rfl) ?_
          refine lv_istore (lv' := [(11, .int p3), (10, .int v11), (9, .int r7), (8, .int l8_3), (6, .long l6_2), (5, .int l5_1), (0, .ref o0), (1, .int p1), (2, .int p2), (3, .int p3), (4, .int p4)]) hx hb dX3_bestWay_51 hl (by decide) rfl (fun ls hl => ?_)
          obtain ⟨oz17, oz18, hqn16, hf⟩ := q_b2o hf
          have kxn16 : ∀ z17 : Int32, ∀ z18 : Int64, z17 = oz17 → z18 = oz18 → ∀ ls : Array Slot, lv_has ls 15 [(8, .int l8_3), (6, .long z18), (5, .int z17), (0, .ref o0), (1, .int p1), (2, .int p2), (3, .int p3), (4, .int p4)] → W p l e ({ frames := 4, cells := 0, slots := 0, locals := 93 } : Room) s m [.ref o0, .int p1, .int p2, .int p3, .int p4].toArray below meth c s.heap [] 0 0 (MQ below (qiR r) [.ref o0, .int p1, .int p2, .int p3, .int p4].toArray s 0 0 (fun _ => False)) (F0 m 123 ls []) := by
            intro z17 z18 ez17 ez18 ls hl
            subst ez17
            subst ez18
            refine lv_iinc (v := l8_3 + (1 : Int32)) (lv' := [(8, .int (l8_3 + (1 : Int32))), (6, .long z18), (5, .int z17), (0, .ref o0), (1, .int p1), (2, .int p2), (3, .int p3), (4, .int p4)]) hx hb dX3_bestWay_123 hl (k := 0) rfl rfl (by decide) rfl (fun ls hl => ?_)
            refine lv_goto (tgt := 12) hx hb dX3_bestWay_126 (by decide) ?_
            exact ihn4 z17 z18 (l8_3 + (1 : Int32)) hf _ hl
          have aihn16 : ∀ n16 : Nat, ∀ l5_13 : Int32, ∀ l6_14 : Int64, ∀ l11_15 : Int32, fX3_bestWay_L53 p4 r7 s0 v11 l8_3 n16 l5_13 l6_14 l11_15 = some (oz17, oz18) → ∀ ls : Array Slot, lv_has ls 15 [(11, .int l11_15), (10, .int v11), (9, .int r7), (8, .int l8_3), (6, .long l6_14), (5, .int l5_13), (0, .ref o0), (1, .int p1), (2, .int p2), (3, .int p3), (4, .int p4)] → W p l e ({ frames := 4, cells := 0, slots := 0, locals := 93 } : Room) s m [.ref o0, .int p1, .int p2, .int p3, .int p4].toArray below meth c s.heap [] 0 0 (MQ below (qiR r) [.ref o0, .int p1, .int p2, .int p3, .int p4].toArray s 0 0 (fun _ => False)) (F0 m 53 ls []) := by
            intro n16
            induction n16 with
            | zero =>
              intro l5_13 l6_14 l11_15 hf
              exact q_no hf
            | succ n16 ihn16 =>
              intro l5_13 l6_14 l11_15 hf ls hl
              rw [fX3_bestWay_L53] at hf
              refine lv_iload hx hb dX3_bestWay_53 (lv_at hl 1 rfl) ?_
              refine lv_if_eq (tgt := 123) hx hb dX3_bestWay_55 (by decide) (fun c19 => ?_) (fun c19 => ?_)
              · have hf := q_t c19 hf
                obtain ⟨w0, w1⟩ := q_s2 hf
                exact kxn16 l5_13 l6_14 w0 w1 _ (lv_sub hl [3, 4, 5, 6, 7, 8, 9, 10] rfl)
              · have hf := q_f c19 hf
                refine lv_iload hx hb dX3_bestWay_58 (lv_at hl 0 rfl) ?_
                refine lv_iload hx hb dX3_bestWay_60 (lv_at hl 10 rfl) ?_
                refine lv_icmp_gt (tgt := 123) hx hb dX3_bestWay_62 (by decide) (fun c20 => ?_) (fun c20 => ?_)
                · have hf := q_t c20 hf
                  obtain ⟨w0, w1⟩ := q_s2 hf
                  exact kxn16 l5_13 l6_14 w0 w1 _ (lv_sub hl [3, 4, 5, 6, 7, 8, 9, 10] rfl)
                · have hf := q_f c20 hf
                  refine lv_aload_n hx hb dX3_bestWay_65 rfl (lv_at hl 6 rfl) ?_
                  refine lv_iload hx hb dX3_bestWay_66 (lv_at hl 2 rfl) ?_
                  refine lv_iload hx hb dX3_bestWay_68 (lv_at hl 0 rfl) ?_
                  refine lv_iconst (v := 0) hx hb dX3_bestWay_70 (by decide) ?_
                  obtain ⟨r21, h22, hf⟩ := q_b1o hf
                  refine q_roVl (As := [.int r7, .int l11_15, .int (0 : Int32)]) (rest := []) (ci := 3) ⟨hx, hb, hml, hown, hts⟩ (kX3_passing l dC dI cI cB cZ o0 a0 s0 r7 l11_15 (0 : Int32) r21 h22) (cwV 3 hts gX3_bestWay_X3_passing rfl rfl rfl hdX3_passing ⟨Nat.le_of_ble_eq_true rfl, Nat.le_of_ble_eq_true rfl⟩) hK hP rfl rfl rfl hl.1 rfl (Nat.le_of_ble_eq_true rfl) dX3_bestWay_71 ⟨Nat.zero_le _, Nat.zero_le _⟩ ?_
                  refine lv_lstore (lv' := [(12, .long r21), (11, .int l11_15), (10, .int v11), (9, .int r7), (8, .int l8_3), (6, .long l6_14), (5, .int l5_13), (0, .ref o0), (1, .int p1), (2, .int p2), (3, .int p3), (4, .int p4)]) hx hb dX3_bestWay_74 hl (by decide) rfl (fun ls hl => ?_)
                  refine lv_bipush (v := 16) hx hb dX3_bestWay_76 (by decide) ?_
                  refine lv_iload hx hb dX3_bestWay_78 (lv_at hl 1 rfl) ?_
                  refine lv_imul hx hb dX3_bestWay_80 ?_
                  refine lv_iload hx hb dX3_bestWay_81 (lv_at hl 4 rfl) ?_
                  refine lv_iadd hx hb dX3_bestWay_83 ?_
                  obtain ⟨x23, ex23, hf⟩ := q_lto hf
                  refine W.eq (g2 := F0 m 84 ls [.int x23]) (by rw [ex23]) ?_
                  refine lv_istore (lv' := [(14, .int x23), (12, .long r21), (11, .int l11_15), (10, .int v11), (9, .int r7), (8, .int l8_3), (6, .long l6_14), (5, .int l5_13), (0, .ref o0), (1, .int p1), (2, .int p2), (3, .int p3), (4, .int p4)]) hx hb dX3_bestWay_84 hl (by decide) rfl (fun ls hl => ?_)
                  refine lv_lload hx hb dX3_bestWay_86 (lv_at hl 1 rfl) ?_
                  refine lv_lload hx hb dX3_bestWay_88 (lv_at hl 6 rfl) ?_
                  refine W.lcmp hx hb dX3_bestWay_90 ?_
                  obtain ⟨ov24, ov25, hqj26, hf⟩ := q_b2o hf
                  have kj26 : ∀ v24 : Int32, ∀ v25 : Int64, v24 = ov24 → v25 = ov25 → ∀ ls : Array Slot, lv_has ls 15 [(5, .int v24), (6, .long v25), (11, .int l11_15), (10, .int v11), (9, .int r7), (8, .int l8_3), (0, .ref o0), (1, .int p1), (2, .int p2), (3, .int p3), (4, .int p4)] → W p l e ({ frames := 4, cells := 0, slots := 0, locals := 93 } : Room) s m [.ref o0, .int p1, .int p2, .int p3, .int p4].toArray below meth c s.heap [] 0 0 (MQ below (qiR r) [.ref o0, .int p1, .int p2, .int p3, .int p4].toArray s 0 0 (fun _ => False)) (F0 m 117 ls []) := by
                    intro v24 v25 ev24 ev25 ls hl
                    subst ev24
                    subst ev25
                    refine lv_iinc (v := l11_15 + (1 : Int32)) (lv' := [(11, .int (l11_15 + (1 : Int32))), (5, .int v24), (6, .long v25), (10, .int v11), (9, .int r7), (8, .int l8_3), (0, .ref o0), (1, .int p1), (2, .int p2), (3, .int p3), (4, .int p4)]) hx hb dX3_bestWay_117 hl (k := 2) rfl rfl (by decide) rfl (fun ls hl => ?_)
                    refine lv_goto (tgt := 53) hx hb dX3_bestWay_120 (by decide) ?_
                    exact ihn16 v24 v25 (l11_15 + (1 : Int32)) hf _ (lv_sub hl [0, 3, 4, 5, 2, 1, 6, 7, 8, 9, 10] rfl)
                  have hf := hqj26
                  refine lv_if_gt (tgt := 109) hx hb dX3_bestWay_91 (by decide) (fun c27 => ?_) (fun c27 => ?_)
                  · have hf := q_t c27 hf
                    refine lv_lload hx hb dX3_bestWay_109 (lv_at hl 1 rfl) ?_
                    refine lv_lstore (lv' := [(6, .long r21), (14, .int x23), (12, .long r21), (11, .int l11_15), (10, .int v11), (9, .int r7), (8, .int l8_3), (5, .int l5_13), (0, .ref o0), (1, .int p1), (2, .int p2), (3, .int p3), (4, .int p4)]) hx hb dX3_bestWay_111 hl (by decide) rfl (fun ls hl => ?_)
                    refine lv_iload hx hb dX3_bestWay_113 (lv_at hl 1 rfl) ?_
                    refine lv_istore (lv' := [(5, .int x23), (6, .long r21), (14, .int x23), (12, .long r21), (11, .int l11_15), (10, .int v11), (9, .int r7), (8, .int l8_3), (0, .ref o0), (1, .int p1), (2, .int p2), (3, .int p3), (4, .int p4)]) hx hb dX3_bestWay_115 hl (by decide) rfl (fun ls hl => ?_)
                    obtain ⟨w0, w1⟩ := q_s2 hf
                    exact kj26 x23 r21 w0 w1 _ (lv_sub hl [0, 1, 4, 5, 6, 7, 8, 9, 10, 11, 12] rfl)
                  · have hf := q_f c27 hf
                    refine lv_lload hx hb dX3_bestWay_94 (lv_at hl 1 rfl) ?_
                    refine lv_lload hx hb dX3_bestWay_96 (lv_at hl 6 rfl) ?_
                    refine W.lcmp hx hb dX3_bestWay_98 ?_
                    refine lv_if_ne (tgt := 117) hx hb dX3_bestWay_99 (by decide) (fun c28 => ?_) (fun c28 => ?_)
                    · have hf := q_f c28 hf
                      obtain ⟨w0, w1⟩ := q_s2 hf
                      exact kj26 l5_13 l6_14 w0 w1 _ (lv_sub hl [7, 6, 2, 3, 4, 5, 8, 9, 10, 11, 12] rfl)
                    · have hf := q_t c28 hf
                      refine lv_iload hx hb dX3_bestWay_102 (lv_at hl 0 rfl) ?_
                      refine lv_iload hx hb dX3_bestWay_104 (lv_at hl 7 rfl) ?_
                      refine lv_icmp_ge (tgt := 117) hx hb dX3_bestWay_106 (by decide) (fun c29 => ?_) (fun c29 => ?_)
                      · have hf := q_t c29 hf
                        obtain ⟨w0, w1⟩ := q_s2 hf
                        exact kj26 l5_13 l6_14 w0 w1 _ (lv_sub hl [7, 6, 2, 3, 4, 5, 8, 9, 10, 11, 12] rfl)
                      · have hf := q_f c29 hf
                        refine lv_lload hx hb dX3_bestWay_109 (lv_at hl 1 rfl) ?_
                        refine lv_lstore (lv' := [(6, .long r21), (14, .int x23), (12, .long r21), (11, .int l11_15), (10, .int v11), (9, .int r7), (8, .int l8_3), (5, .int l5_13), (0, .ref o0), (1, .int p1), (2, .int p2), (3, .int p3), (4, .int p4)]) hx hb dX3_bestWay_111 hl (by decide) rfl (fun ls hl => ?_)
                        refine lv_iload hx hb dX3_bestWay_113 (lv_at hl 1 rfl) ?_
                        refine lv_istore (lv' := [(5, .int x23), (6, .long r21), (14, .int x23), (12, .long r21), (11, .int l11_15), (10, .int v11), (9, .int r7), (8, .int l8_3), (0, .ref o0), (1, .int p1), (2, .int p2), (3, .int p3), (4, .int p4)]) hx hb dX3_bestWay_115 hl (by decide) rfl (fun ls hl => ?_)
                        obtain ⟨w0, w1⟩ := q_s2 hf
                        exact kj26 x23 r21 w0 w1 _ (lv_sub hl [0, 1, 4, 5, 6, 7, 8, 9, 10, 11, 12] rfl)
          exact aihn16 5000 l5_1 l6_2 p3 hqn16 _ hl
        have hf := hqj12
        refine lv_icmp_lt (tgt := 47) hx hb dX3_bestWay_40 (by decide) (fun c30 => ?_) (fun c30 => ?_)
        · have hf := q_t c30 hf
          refine lv_iconst (v := 0) hx hb dX3_bestWay_47 (by decide) ?_
          exact kj12 (0 : Int32) (q_s1 hf) _ hl
        · have hf := q_f c30 hf
          refine lv_iconst (v := 1) hx hb dX3_bestWay_43 (by decide) ?_
          refine lv_goto (tgt := 48) hx hb dX3_bestWay_44 (by decide) ?_
          exact kj12 (1 : Int32) (q_s1 hf) _ hl
  exact aihn4 5000 (-1000000 : Int32) (-1 : Int64) (0 : Int32) hqn4 _ hl
theorem hdJ6_bitCount_0f7a4 : yJ6_bitCount_0f7a4.cls ≠ "java/lang/invoke/MethodHandle" ∧ yJ6_bitCount_0f7a4.cls ≠ "java/lang/invoke/VarHandle" ∧ (parseMethodDescriptor yJ6_bitCount_0f7a4.desc).map (fun d => d.parameters.length) = some 1 := by decide +kernel
theorem qJ6_bitCount_0f7a4_1 : (Cond.constant RJ6 265 1431655765) ∈ wsJ6_bitCount_0f7a4 := List.mem_of_getElem? (i := 1) (by decide +kernel)
theorem qJ6_bitCount_0f7a4_2 : (Cond.constant RJ6 266 858993459) ∈ wsJ6_bitCount_0f7a4 := List.mem_of_getElem? (i := 2) (by decide +kernel)
theorem qJ6_bitCount_0f7a4_3 : (Cond.constant RJ6 267 252645135) ∈ wsJ6_bitCount_0f7a4 := List.mem_of_getElem? (i := 3) (by decide +kernel)
set_option maxHeartbeats 4000000 in
set_option maxRecDepth 100000 in
theorem kJ6_bitCount_0f7a4 (p0 : Int32) (r : Int32) (hf : fJ6_bitCount_0f7a4 p0 = some r) : Met l yJ6_bitCount_0f7a4 wsJ6_bitCount_0f7a4 ({ frames := 0, cells := 0, slots := 0, locals := 0 } : Room) (pcS [.int p0]) (qiR r) 0 0 (fun _ => False) := by
  refine q_roS (cc := cJ6_bitCount_0f7a4) (maxL := 1) (ret := (some .int)) (by decide +kernel) rfl (Nat.le_of_ble_eq_true rfl) ?_
  intro p e s m below meth c hx hb hr hlk hml hown hts ls hl
  have hown : s.vm.findClass RJ6 = some m.cls := hown
  have hl : lv_has ls 1 [(0, .int p0)] := hl
  unfold fJ6_bitCount_0f7a4 at hf
  refine lv_iload_n hx hb dJ6_bitCount_0f7a4_0 rfl (lv_at hl 0 rfl) ?_
  refine lv_iload_n hx hb dJ6_bitCount_0f7a4_1 rfl (lv_at hl 0 rfl) ?_
  refine lv_iconst (v := 1) hx hb dJ6_bitCount_0f7a4_2 (by decide) ?_
  refine lv_iushr (v := (p0.toUInt32 >>> ((1 : Int32).toUInt32 &&& Int32.toUInt32 31)).toInt32) hx hb dJ6_bitCount_0f7a4_3 rfl ?_
  refine lv_ldcw (v := 1431655765) hx hb hown (hts _ qJ6_bitCount_0f7a4_1) dJ6_bitCount_0f7a4_4 ?_
  refine lv_iand hx hb dJ6_bitCount_0f7a4_7 ?_
  refine lv_isub hx hb dJ6_bitCount_0f7a4_8 ?_
  obtain ⟨x1, ex1, hf⟩ := q_lto hf
  refine W.eq (g2 := F0 m 9 ls [.int x1]) (by rw [ex1]) ?_
  refine lv_istore_n (lv' := [(0, .int x1)]) hx hb dJ6_bitCount_0f7a4_9 rfl hl (by decide) rfl (fun ls hl => ?_)
  refine lv_iload_n hx hb dJ6_bitCount_0f7a4_10 rfl (lv_at hl 0 rfl) ?_
  refine lv_ldcw (v := 858993459) hx hb hown (hts _ qJ6_bitCount_0f7a4_2) dJ6_bitCount_0f7a4_11 ?_
  refine lv_iand hx hb dJ6_bitCount_0f7a4_14 ?_
  refine lv_iload_n hx hb dJ6_bitCount_0f7a4_15 rfl (lv_at hl 0 rfl) ?_
  refine lv_iconst (v := 2) hx hb dJ6_bitCount_0f7a4_16 (by decide) ?_
  refine lv_iushr (v := (x1.toUInt32 >>> ((2 : Int32).toUInt32 &&& Int32.toUInt32 31)).toInt32) hx hb dJ6_bitCount_0f7a4_17 rfl ?_
  refine lv_ldcw (v := 858993459) hx hb hown (hts _ qJ6_bitCount_0f7a4_2) dJ6_bitCount_0f7a4_18 ?_
  refine lv_iand hx hb dJ6_bitCount_0f7a4_21 ?_
  refine lv_iadd hx hb dJ6_bitCount_0f7a4_22 ?_
  obtain ⟨x2, ex2, hf⟩ := q_lto hf
  refine W.eq (g2 := F0 m 23 ls [.int x2]) (by rw [ex2]) ?_
  refine lv_istore_n (lv' := [(0, .int x2)]) hx hb dJ6_bitCount_0f7a4_23 rfl hl (by decide) rfl (fun ls hl => ?_)
  refine lv_iload_n hx hb dJ6_bitCount_0f7a4_24 rfl (lv_at hl 0 rfl) ?_
  refine lv_iload_n hx hb dJ6_bitCount_0f7a4_25 rfl (lv_at hl 0 rfl) ?_
  refine lv_iconst (v := 4) hx hb dJ6_bitCount_0f7a4_26 (by decide) ?_
  refine lv_iushr (v := (x2.toUInt32 >>> ((4 : Int32).toUInt32 &&& Int32.toUInt32 31)).toInt32) hx hb dJ6_bitCount_0f7a4_27 rfl ?_
  refine lv_iadd hx hb dJ6_bitCount_0f7a4_28 ?_
  refine lv_ldcw (v := 252645135) hx hb hown (hts _ qJ6_bitCount_0f7a4_3) dJ6_bitCount_0f7a4_29 ?_
  refine lv_iand hx hb dJ6_bitCount_0f7a4_32 ?_
  obtain ⟨x3, ex3, hf⟩ := q_lto hf
  refine W.eq (g2 := F0 m 33 ls [.int x3]) (by rw [ex3]) ?_
  refine lv_istore_n (lv' := [(0, .int x3)]) hx hb dJ6_bitCount_0f7a4_33 rfl hl (by decide) rfl (fun ls hl => ?_)
  refine lv_iload_n hx hb dJ6_bitCount_0f7a4_34 rfl (lv_at hl 0 rfl) ?_
  refine lv_iload_n hx hb dJ6_bitCount_0f7a4_35 rfl (lv_at hl 0 rfl) ?_
  refine lv_bipush (v := 8) hx hb dJ6_bitCount_0f7a4_36 (by decide) ?_
  refine lv_iushr (v := (x3.toUInt32 >>> ((8 : Int32).toUInt32 &&& Int32.toUInt32 31)).toInt32) hx hb dJ6_bitCount_0f7a4_38 rfl ?_
  refine lv_iadd hx hb dJ6_bitCount_0f7a4_39 ?_
  obtain ⟨x4, ex4, hf⟩ := q_lto hf
  refine W.eq (g2 := F0 m 40 ls [.int x4]) (by rw [ex4]) ?_
  refine lv_istore_n (lv' := [(0, .int x4)]) hx hb dJ6_bitCount_0f7a4_40 rfl hl (by decide) rfl (fun ls hl => ?_)
  refine lv_iload_n hx hb dJ6_bitCount_0f7a4_41 rfl (lv_at hl 0 rfl) ?_
  refine lv_iload_n hx hb dJ6_bitCount_0f7a4_42 rfl (lv_at hl 0 rfl) ?_
  refine lv_bipush (v := 16) hx hb dJ6_bitCount_0f7a4_43 (by decide) ?_
  refine lv_iushr (v := (x4.toUInt32 >>> ((16 : Int32).toUInt32 &&& Int32.toUInt32 31)).toInt32) hx hb dJ6_bitCount_0f7a4_45 rfl ?_
  refine lv_iadd hx hb dJ6_bitCount_0f7a4_46 ?_
  obtain ⟨x5, ex5, hf⟩ := q_lto hf
  refine W.eq (g2 := F0 m 47 ls [.int x5]) (by rw [ex5]) ?_
  refine lv_istore_n (lv' := [(0, .int x5)]) hx hb dJ6_bitCount_0f7a4_47 rfl hl (by decide) rfl (fun ls hl => ?_)
  refine lv_iload_n hx hb dJ6_bitCount_0f7a4_48 rfl (lv_at hl 0 rfl) ?_
  refine lv_bipush (v := 63) hx hb dJ6_bitCount_0f7a4_49 (by decide) ?_
  refine lv_iand hx hb dJ6_bitCount_0f7a4_51 ?_
  have ee0 := q_s1 hf
  exact q_retI hx hb hr hlk ee0 dJ6_bitCount_0f7a4_52
theorem hdX3_fewestGone : yX3_fewestGone.cls = RX3 ∧ yX3_fewestGone.cls ≠ "java/lang/invoke/MethodHandle" ∧ yX3_fewestGone.cls ≠ "java/lang/invoke/VarHandle" ∧ (parseMethodDescriptor yX3_fewestGone.desc).map (fun d => d.parameters.length) = some 4 := by decide +kernel
theorem qX3_fewestGone_1 : (Cond.constant RX3 86 (-1000000)) ∈ wsX3_fewestGone := List.mem_of_getElem? (i := 1) (by decide +kernel)
theorem qX3_fewestGone_2 : (Cond.fieldLink RX3 49 "DeadAsked$Hill" "trees" "I") ∈ wsX3_fewestGone := List.mem_of_getElem? (i := 2) (by decide +kernel)
theorem qX3_fewestGone_3 : (Cond.constantLong RX3 131 1000000) ∈ wsX3_fewestGone := List.mem_of_getElem? (i := 3) (by decide +kernel)
theorem nX3_fewestGone_3 : ∀ w ∈ u_ws RX3 TX3 14, w ∈ wsX3_fewestGone := fun _ h => (List.mem_cons_of_mem _ (List.mem_append_right _ h))
set_option maxHeartbeats 4000000 in
set_option maxRecDepth 100000 in
theorem kX3_fewestGone (o0 : Nat) (a0 : Nat → Nat) (s0 : St) (p1 : Int32) (p2 : Int32) (p3 : Int32) (p4 : Int32) (r : Int32) (hf : fX3_fewestGone s0 p1 p2 p3 p4 = some r) : Met l yX3_fewestGone wsX3_fewestGone ({ frames := 4, cells := 0, slots := 0, locals := 93 } : Room) (pcR (dC, dI) (q_ty cI cB cZ) [.ref o0, .int p1, .int p2, .int p3, .int p4] (wcH cI o0 a0 s0)) (qiR r) 0 0 (fun _ => False) := by
  refine q_roM (cc := cX3_fewestGone) (maxL := 8) (ret := (some .int)) (by decide +kernel) rfl (Nat.le_of_ble_eq_true rfl) ?_
  intro p e s m below meth c hx hb hr hlk hml hown hts hK hP ls hl
  have hown : s.vm.findClass RX3 = some m.cls := hown
  have hl : lv_has ls 8 [(0, .ref o0), (1, .int p1), (2, .int p2), (3, .int p3), (4, .int p4)] := hl
  unfold fX3_fewestGone at hf
  refine lv_ldc (v := -1000000) hx hb hown (hts _ qX3_fewestGone_1) dX3_fewestGone_0 ?_
  refine lv_istore (lv' := [(5, .int (-1000000 : Int32)), (0, .ref o0), (1, .int p1), (2, .int p2), (3, .int p3), (4, .int p4)]) hx hb dX3_fewestGone_2 hl (by decide) rfl (fun ls hl => ?_)
  refine lv_iconst (v := 5) hx hb dX3_fewestGone_4 (by decide) ?_
  refine lv_istore (lv' := [(6, .int (5 : Int32)), (5, .int (-1000000 : Int32)), (0, .ref o0), (1, .int p1), (2, .int p2), (3, .int p3), (4, .int p4)]) hx hb dX3_fewestGone_5 hl (by decide) rfl (fun ls hl => ?_)
  refine lv_iconst (v := 0) hx hb dX3_fewestGone_7 (by decide) ?_
  refine lv_istore (lv' := [(7, .int (0 : Int32)), (6, .int (5 : Int32)), (5, .int (-1000000 : Int32)), (0, .ref o0), (1, .int p1), (2, .int p2), (3, .int p3), (4, .int p4)]) hx hb dX3_fewestGone_8 hl (by decide) rfl (fun ls hl => ?_)
  obtain ⟨oz5, hqn4, hf⟩ := q_b1o hf
  have kxn4 : ∀ z5 : Int32, z5 = oz5 → ∀ ls : Array Slot, lv_has ls 8 [(5, .int z5)] → W p l e ({ frames := 4, cells := 0, slots := 0, locals := 93 } : Room) s m [.ref o0, .int p1, .int p2, .int p3, .int p4].toArray below meth c s.heap [] 0 0 (MQ below (qiR r) [.ref o0, .int p1, .int p2, .int p3, .int p4].toArray s 0 0 (fun _ => False)) (F0 m 74 ls []) := by
    intro z5 ez5 ls hl
    subst ez5
    refine lv_iload hx hb dX3_fewestGone_74 (lv_at hl 0 rfl) ?_
    have ee0 := q_s1 hf
    exact q_retI hx hb hr hlk ee0 dX3_fewestGone_76
  have aihn4 : ∀ n4 : Nat, ∀ l5_1 : Int32, ∀ l6_2 : Int32, ∀ l7_3 : Int32, fX3_fewestGone_L10 p1 p2 p3 p4 s0 n4 l5_1 l6_2 l7_3 = some oz5 → ∀ ls : Array Slot, lv_has ls 8 [(7, .int l7_3), (6, .int l6_2), (5, .int l5_1), (0, .ref o0), (1, .int p1), (2, .int p2), (3, .int p3), (4, .int p4)] → W p l e ({ frames := 4, cells := 0, slots := 0, locals := 93 } : Room) s m [.ref o0, .int p1, .int p2, .int p3, .int p4].toArray below meth c s.heap [] 0 0 (MQ below (qiR r) [.ref o0, .int p1, .int p2, .int p3, .int p4].toArray s 0 0 (fun _ => False)) (F0 m 10 ls []) := by
    intro n4
    induction n4 with
    | zero =>
      intro l5_1 l6_2 l7_3 hf
      exact q_no hf
    | succ n4 ihn4 =>
      intro l5_1 l6_2 l7_3 hf ls hl
      rw [fX3_fewestGone_L10] at hf
      refine lv_iload hx hb dX3_fewestGone_10 (lv_at hl 0 rfl) ?_
      refine lv_iconst (v := 1) hx hb dX3_fewestGone_12 (by decide) ?_
      refine lv_aload_n hx hb dX3_fewestGone_13 rfl (lv_at hl 3 rfl) ?_
      refine va_get (D := (dC, dI)) (ci := 3) (v := .int (s0 12 0)) (C := RX3) (T := TX3) (N := 14) hx hb hts nX3_fewestGone_3 hown hK hP 0 rfl rfl 12 (by decide) (hts _ qX3_fewestGone_2) (fun _ h9 => h9) rfl dX3_fewestGone_14 ?_
      refine lv_ishl hx hb dX3_fewestGone_17 ?_
      refine lv_icmp_ge (tgt := 74) hx hb dX3_fewestGone_18 (by decide) (fun c6 => ?_) (fun c6 => ?_)
      · have hf := q_t c6 hf
        exact kxn4 l5_1 (q_s1 hf) _ (lv_sub hl [2] rfl)
      · have hf := q_f c6 hf
        refine lv_iload hx hb dX3_fewestGone_21 (lv_at hl 0 rfl) ?_
        obtain ⟨r7, h8, hf⟩ := q_b1o hf
        refine q_roSi (As := [.int l7_3]) (rest := []) ⟨hx, hb, hml, hown, hts⟩ (kJ6_bitCount_0f7a4 l l7_3 r7 h8) (va_cwS 1 hts gX3_fewestGone_J6_bitCount_0f7a4 rfl rfl rfl hdJ6_bitCount_0f7a4 ⟨Nat.le_of_ble_eq_true rfl, Nat.le_of_ble_eq_true rfl⟩) rfl hl.1 rfl (Nat.le_of_ble_eq_true rfl) dX3_fewestGone_23 ⟨Nat.zero_le _, Nat.zero_le _⟩ ?_
        refine lv_iload hx hb dX3_fewestGone_26 (lv_at hl 1 rfl) ?_
        obtain ⟨ov9, ov10, hqj11, hf⟩ := q_b2o hf
        have kj11 : ∀ v9 : Int32, ∀ v10 : Int32, v9 = ov9 → v10 = ov10 → ∀ ls : Array Slot, lv_has ls 8 [(7, .int l7_3), (6, .int v10), (5, .int v9), (0, .ref o0), (1, .int p1), (2, .int p2), (3, .int p3), (4, .int p4)] → W p l e ({ frames := 4, cells := 0, slots := 0, locals := 93 } : Room) s m [.ref o0, .int p1, .int p2, .int p3, .int p4].toArray below meth c s.heap [] 0 0 (MQ below (qiR r) [.ref o0, .int p1, .int p2, .int p3, .int p4].toArray s 0 0 (fun _ => False)) (F0 m 68 ls []) := by
          intro v9 v10 ev9 ev10 ls hl
          subst ev9
          subst ev10
          refine lv_iinc (v := l7_3 + (1 : Int32)) (lv' := [(7, .int (l7_3 + (1 : Int32))), (6, .int v10), (5, .int v9), (0, .ref o0), (1, .int p1), (2, .int p2), (3, .int p3), (4, .int p4)]) hx hb dX3_fewestGone_68 hl (k := 0) rfl rfl (by decide) rfl (fun ls hl => ?_)
          refine lv_goto (tgt := 10) hx hb dX3_fewestGone_71 (by decide) ?_
          exact ihn4 v9 v10 (l7_3 + (1 : Int32)) hf _ hl
        have hf := hqj11
        refine lv_icmp_ge (tgt := 68) hx hb dX3_fewestGone_28 (by decide) (fun c12 => ?_) (fun c12 => ?_)
        · have hf := q_t c12 hf
          obtain ⟨w0, w1⟩ := q_s2 hf
          exact kj11 l5_1 l6_2 w0 w1 _ hl
        · have hf := q_f c12 hf
          refine lv_aload_n hx hb dX3_fewestGone_31 rfl (lv_at hl 3 rfl) ?_
          refine lv_aload_n hx hb dX3_fewestGone_32 rfl (lv_at hl 3 rfl) ?_
          refine lv_iload_n hx hb dX3_fewestGone_33 rfl (lv_at hl 4 rfl) ?_
          refine lv_iload_n hx hb dX3_fewestGone_34 rfl (lv_at hl 5 rfl) ?_
          refine lv_iload hx hb dX3_fewestGone_35 (lv_at hl 0 rfl) ?_
          obtain ⟨r13, h14, hf⟩ := q_b1o hf
          refine q_roVi (As := [.int p1, .int p2, .int l7_3]) (rest := [.ref o0]) (ci := 3) ⟨hx, hb, hml, hown, hts⟩ (kX3_minding l dC dI cI cB cZ o0 a0 s0 p1 p2 l7_3 r13 h14) (cwV 3 hts gX3_fewestGone_X3_minding rfl rfl rfl hdX3_minding ⟨Nat.le_of_ble_eq_true rfl, Nat.le_of_ble_eq_true rfl⟩) hK hP rfl rfl rfl hl.1 rfl (Nat.le_of_ble_eq_true rfl) dX3_fewestGone_37 ⟨Nat.zero_le _, Nat.zero_le _⟩ ?_
          refine lv_iload_n hx hb dX3_fewestGone_40 rfl (lv_at hl 6 rfl) ?_
          refine lv_iload hx hb dX3_fewestGone_41 (lv_at hl 0 rfl) ?_
          obtain ⟨r15, h16, hf⟩ := q_b1o hf
          refine q_roVl (As := [.int r13, .int p3, .int l7_3]) (rest := []) (ci := 3) ⟨hx, hb, hml, hown, hts⟩ (kX3_passing l dC dI cI cB cZ o0 a0 s0 r13 p3 l7_3 r15 h16) (cwV 3 hts gX3_fewestGone_X3_passing rfl rfl rfl hdX3_passing ⟨Nat.le_of_ble_eq_true rfl, Nat.le_of_ble_eq_true rfl⟩) hK hP rfl rfl rfl hl.1 rfl (Nat.le_of_ble_eq_true rfl) dX3_fewestGone_43 ⟨Nat.zero_le _, Nat.zero_le _⟩ ?_
          refine lv_ldc2 (v := 1000000) hx hb hown (hts _ qX3_fewestGone_3) dX3_fewestGone_46 ?_
          refine lv_iload hx hb dX3_fewestGone_49 (lv_at hl 7 rfl) ?_
          refine lv_i2l (v := p4.toInt64) hx hb dX3_fewestGone_51 rfl ?_
          refine lv_lmul hx hb dX3_fewestGone_52 ?_
          refine W.lcmp hx hb dX3_fewestGone_53 ?_
          refine lv_if_lt (tgt := 68) hx hb dX3_fewestGone_54 (by decide) (fun c17 => ?_) (fun c17 => ?_)
          · have hf := q_t c17 hf
            obtain ⟨w0, w1⟩ := q_s2 hf
            exact kj11 l5_1 l6_2 w0 w1 _ hl
          · have hf := q_f c17 hf
            refine lv_iload hx hb dX3_fewestGone_57 (lv_at hl 0 rfl) ?_
            refine lv_istore (lv' := [(5, .int l7_3), (7, .int l7_3), (6, .int l6_2), (0, .ref o0), (1, .int p1), (2, .int p2), (3, .int p3), (4, .int p4)]) hx hb dX3_fewestGone_59 hl (by decide) rfl (fun ls hl => ?_)
            refine lv_iload hx hb dX3_fewestGone_61 (lv_at hl 1 rfl) ?_
            obtain ⟨r18, h19, hf⟩ := q_b1o hf
            refine q_roSi (As := [.int l7_3]) (rest := []) ⟨hx, hb, hml, hown, hts⟩ (kJ6_bitCount_0f7a4 l l7_3 r18 h19) (va_cwS 1 hts gX3_fewestGone_J6_bitCount_0f7a4 rfl rfl rfl hdJ6_bitCount_0f7a4 ⟨Nat.le_of_ble_eq_true rfl, Nat.le_of_ble_eq_true rfl⟩) rfl hl.1 rfl (Nat.le_of_ble_eq_true rfl) dX3_fewestGone_63 ⟨Nat.zero_le _, Nat.zero_le _⟩ ?_
            refine lv_istore (lv' := [(6, .int r18), (5, .int l7_3), (7, .int l7_3), (0, .ref o0), (1, .int p1), (2, .int p2), (3, .int p3), (4, .int p4)]) hx hb dX3_fewestGone_66 hl (by decide) rfl (fun ls hl => ?_)
            obtain ⟨w0, w1⟩ := q_s2 hf
            exact kj11 l7_3 r18 w0 w1 _ (lv_sub hl [2, 0, 1, 3, 4, 5, 6, 7] rfl)
  exact aihn4 5000 (-1000000 : Int32) (5 : Int32) (0 : Int32) hqn4 _ hl
theorem hdX3_drawFallen : yX3_drawFallen.cls = RX3 ∧ yX3_drawFallen.cls ≠ "java/lang/invoke/MethodHandle" ∧ yX3_drawFallen.cls ≠ "java/lang/invoke/VarHandle" ∧ (parseMethodDescriptor yX3_drawFallen.desc).map (fun d => d.parameters.length) = some 3 := by decide +kernel
theorem qX3_drawFallen_1 : (Cond.fieldLink RX3 49 "DeadAsked$Hill" "trees" "I") ∈ wsX3_drawFallen := List.mem_of_getElem? (i := 1) (by decide +kernel)
theorem qX3_drawFallen_2 : (Cond.constantLong RX3 133 16807) ∈ wsX3_drawFallen := List.mem_of_getElem? (i := 2) (by decide +kernel)
theorem qX3_drawFallen_3 : (Cond.constantLong RX3 135 2147483647) ∈ wsX3_drawFallen := List.mem_of_getElem? (i := 3) (by decide +kernel)
theorem qX3_drawFallen_4 : (Cond.constantLong RX3 111 10) ∈ wsX3_drawFallen := List.mem_of_getElem? (i := 4) (by decide +kernel)
theorem qX3_drawFallen_5 : (Cond.fieldLink RX3 42 "DeadAsked$Hill" "graves" "I") ∈ wsX3_drawFallen := List.mem_of_getElem? (i := 5) (by decide +kernel)
theorem qX3_drawFallen_6 : (Cond.fieldLink RX3 21 "DeadAsked$Hill" "temper" "[I") ∈ wsX3_drawFallen := List.mem_of_getElem? (i := 6) (by decide +kernel)
theorem nX3_drawFallen_3 : ∀ w ∈ u_ws RX3 TX3 14, w ∈ wsX3_drawFallen := fun _ h => (List.mem_cons_of_mem _ (List.mem_append_right _ h))
set_option maxHeartbeats 4000000 in
set_option maxRecDepth 100000 in
theorem kX3_drawFallen (o0 : Nat) (a0 : Nat → Nat) (s0 : St) (p1 : Int32) (p2 : Int32) (p3 : Int32) (r : Int32) (hf : fX3_drawFallen s0 p1 p2 p3 = some r) : Met l yX3_drawFallen wsX3_drawFallen ({ frames := 3, cells := 0, slots := 0, locals := 68 } : Room) (pcR (dC, dI) (q_ty cI cB cZ) [.ref o0, .int p1, .int p2, .int p3] (wcH cI o0 a0 s0)) (qiR r) 0 0 (fun _ => False) := by
  refine q_roM (cc := cX3_drawFallen) (maxL := 10) (ret := (some .int)) (by decide +kernel) rfl (Nat.le_of_ble_eq_true rfl) ?_
  intro p e s m below meth c hx hb hr hlk hml hown hts hK hP ls hl
  have hown : s.vm.findClass RX3 = some m.cls := hown
  have hl : lv_has ls 10 [(0, .ref o0), (1, .int p1), (2, .int p2), (3, .int p3)] := hl
  unfold fX3_drawFallen at hf
  refine lv_iconst (v := 0) hx hb dX3_drawFallen_0 (by decide) ?_
  refine lv_istore (lv' := [(4, .int (0 : Int32)), (0, .ref o0), (1, .int p1), (2, .int p2), (3, .int p3)]) hx hb dX3_drawFallen_1 hl (by decide) rfl (fun ls hl => ?_)
  refine lv_iload_n hx hb dX3_drawFallen_3 rfl (lv_at hl 4 rfl) ?_
  refine lv_i2l (v := p3.toInt64) hx hb dX3_drawFallen_4 rfl ?_
  refine lv_lstore (lv' := [(5, .long p3.toInt64), (4, .int (0 : Int32)), (0, .ref o0), (1, .int p1), (2, .int p2), (3, .int p3)]) hx hb dX3_drawFallen_5 hl (by decide) rfl (fun ls hl => ?_)
  refine lv_iconst (v := 0) hx hb dX3_drawFallen_7 (by decide) ?_
  refine lv_istore (lv' := [(7, .int (0 : Int32)), (5, .long p3.toInt64), (4, .int (0 : Int32)), (0, .ref o0), (1, .int p1), (2, .int p2), (3, .int p3)]) hx hb dX3_drawFallen_8 hl (by decide) rfl (fun ls hl => ?_)
  obtain ⟨oz5, hqn4, hf⟩ := q_b1o hf
  have kxn4 : ∀ z5 : Int32, z5 = oz5 → ∀ ls : Array Slot, lv_has ls 10 [(4, .int z5)] → W p l e ({ frames := 3, cells := 0, slots := 0, locals := 68 } : Room) s m [.ref o0, .int p1, .int p2, .int p3].toArray below meth c s.heap [] 0 0 (MQ below (qiR r) [.ref o0, .int p1, .int p2, .int p3].toArray s 0 0 (fun _ => False)) (F0 m 167 ls []) := by
    intro z5 ez5 ls hl
    subst ez5
    refine lv_iload hx hb dX3_drawFallen_167 (lv_at hl 0 rfl) ?_
    have ee0 := q_s1 hf
    exact q_retI hx hb hr hlk ee0 dX3_drawFallen_169
  have aihn4 : ∀ n4 : Nat, ∀ l4_1 : Int32, ∀ l5_2 : Int64, ∀ l7_3 : Int32, fX3_drawFallen_L10 p1 p2 s0 n4 l4_1 l5_2 l7_3 = some oz5 → ∀ ls : Array Slot, lv_has ls 10 [(7, .int l7_3), (5, .long l5_2), (4, .int l4_1), (0, .ref o0), (1, .int p1), (2, .int p2)] → W p l e ({ frames := 3, cells := 0, slots := 0, locals := 68 } : Room) s m [.ref o0, .int p1, .int p2, .int p3].toArray below meth c s.heap [] 0 0 (MQ below (qiR r) [.ref o0, .int p1, .int p2, .int p3].toArray s 0 0 (fun _ => False)) (F0 m 10 ls []) := by
    intro n4
    induction n4 with
    | zero =>
      intro l4_1 l5_2 l7_3 hf
      exact q_no hf
    | succ n4 ihn4 =>
      intro l4_1 l5_2 l7_3 hf ls hl
      rw [fX3_drawFallen_L10] at hf
      refine lv_iload hx hb dX3_drawFallen_10 (lv_at hl 0 rfl) ?_
      refine lv_aload_n hx hb dX3_drawFallen_12 rfl (lv_at hl 3 rfl) ?_
      refine va_get (D := (dC, dI)) (ci := 3) (v := .int (s0 12 0)) (C := RX3) (T := TX3) (N := 14) hx hb hts nX3_drawFallen_3 hown hK hP 0 rfl rfl 12 (by decide) (hts _ qX3_drawFallen_1) (fun _ h9 => h9) rfl dX3_drawFallen_13 ?_
      refine lv_icmp_ge (tgt := 167) hx hb dX3_drawFallen_16 (by decide) (fun c6 => ?_) (fun c6 => ?_)
      · have hf := q_t c6 hf
        exact kxn4 l4_1 (q_s1 hf) _ (lv_sub hl [2] rfl)
      · have hf := q_f c6 hf
        refine lv_aload_n hx hb dX3_drawFallen_19 rfl (lv_at hl 3 rfl) ?_
        refine lv_iload hx hb dX3_drawFallen_20 (lv_at hl 0 rfl) ?_
        refine lv_iconst (v := 0) hx hb dX3_drawFallen_22 (by decide) ?_
        obtain ⟨r7, h8, hf⟩ := q_b1o hf
        refine q_roVi (As := [.int l7_3, .int (0 : Int32)]) (rest := []) (ci := 3) ⟨hx, hb, hml, hown, hts⟩ (kX3_bears l dC dI cI cB cZ o0 a0 s0 l7_3 (0 : Int32) r7 h8) (cwV 2 hts gX3_drawFallen_X3_bears rfl rfl rfl hdX3_bears ⟨Nat.le_of_ble_eq_true rfl, Nat.le_of_ble_eq_true rfl⟩) hK hP rfl rfl rfl hl.1 rfl (Nat.le_of_ble_eq_true rfl) dX3_drawFallen_23 ⟨Nat.zero_le _, Nat.zero_le _⟩ ?_
        obtain ⟨ov9, ov10, hqj11, hf⟩ := q_b2o hf
        have kj11 : ∀ v9 : Int32, ∀ v10 : Int64, v9 = ov9 → v10 = ov10 → ∀ ls : Array Slot, lv_has ls 10 [(7, .int l7_3), (5, .long v10), (4, .int v9), (0, .ref o0), (1, .int p1), (2, .int p2)] → W p l e ({ frames := 3, cells := 0, slots := 0, locals := 68 } : Room) s m [.ref o0, .int p1, .int p2, .int p3].toArray below meth c s.heap [] 0 0 (MQ below (qiR r) [.ref o0, .int p1, .int p2, .int p3].toArray s 0 0 (fun _ => False)) (F0 m 161 ls []) := by
          intro v9 v10 ev9 ev10 ls hl
          subst ev9
          subst ev10
          refine lv_iinc (v := l7_3 + (1 : Int32)) (lv' := [(7, .int (l7_3 + (1 : Int32))), (5, .long v10), (4, .int v9), (0, .ref o0), (1, .int p1), (2, .int p2)]) hx hb dX3_drawFallen_161 hl (k := 0) rfl rfl (by decide) rfl (fun ls hl => ?_)
          refine lv_goto (tgt := 10) hx hb dX3_drawFallen_164 (by decide) ?_
          exact ihn4 v9 v10 (l7_3 + (1 : Int32)) hf _ hl
        have hf := hqj11
        refine lv_if_eq (tgt := 161) hx hb dX3_drawFallen_26 (by decide) (fun c12 => ?_) (fun c12 => ?_)
        · have hf := q_t c12 hf
          obtain ⟨w0, w1⟩ := q_s2 hf
          exact kj11 l4_1 l5_2 w0 w1 _ hl
        · have hf := q_f c12 hf
          refine lv_lload hx hb dX3_drawFallen_29 (lv_at hl 1 rfl) ?_
          refine lv_ldc2 (v := 16807) hx hb hown (hts _ qX3_drawFallen_2) dX3_drawFallen_31 ?_
          refine lv_lmul hx hb dX3_drawFallen_34 ?_
          refine lv_ldc2 (v := 2147483647) hx hb hown (hts _ qX3_drawFallen_3) dX3_drawFallen_35 ?_
          refine lv_lrem hx hb dX3_drawFallen_38 (by decide) ?_
          obtain ⟨x13, ex13, hf⟩ := q_lto hf
          refine W.eq (g2 := F0 m 39 ls [.long x13]) (by rw [ex13]) ?_
          refine lv_lstore (lv' := [(5, .long x13), (7, .int l7_3), (4, .int l4_1), (0, .ref o0), (1, .int p1), (2, .int p2)]) hx hb dX3_drawFallen_39 hl (by decide) rfl (fun ls hl => ?_)
          refine lv_lload hx hb dX3_drawFallen_41 (lv_at hl 0 rfl) ?_
          refine lv_ldc2 (v := 10) hx hb hown (hts _ qX3_drawFallen_4) dX3_drawFallen_43 ?_
          refine lv_lrem hx hb dX3_drawFallen_46 (by decide) ?_
          refine lv_aload_n hx hb dX3_drawFallen_47 rfl (lv_at hl 3 rfl) ?_
          refine lv_iload hx hb dX3_drawFallen_48 (lv_at hl 1 rfl) ?_
          refine lv_iload_n hx hb dX3_drawFallen_50 rfl (lv_at hl 5 rfl) ?_
          obtain ⟨r14, h15, hf⟩ := q_b1o hf
          refine q_roVi (As := [.int l7_3, .int p2]) (rest := [.long (x13 - x13 / (10 : Int64) * (10 : Int64))]) (ci := 3) ⟨hx, hb, hml, hown, hts⟩ (kX3_blown l dC dI cI cB cZ o0 a0 s0 l7_3 p2 r14 h15) (cwV 2 hts gX3_drawFallen_X3_blown rfl rfl rfl hdX3_blown ⟨Nat.le_of_ble_eq_true rfl, Nat.le_of_ble_eq_true rfl⟩) hK hP rfl rfl rfl hl.1 rfl (Nat.le_of_ble_eq_true rfl) dX3_drawFallen_51 ⟨Nat.zero_le _, Nat.zero_le _⟩ ?_
          refine lv_i2l (v := r14.toInt64) hx hb dX3_drawFallen_54 rfl ?_
          refine W.lcmp hx hb dX3_drawFallen_55 ?_
          obtain ⟨ov16, hqj17, hf⟩ := q_b1o hf
          have kj17 : ∀ v16 : Int32, v16 = ov16 → ∀ ls : Array Slot, lv_has ls 10 [(5, .long x13), (7, .int l7_3), (4, .int l4_1), (0, .ref o0), (1, .int p1), (2, .int p2)] → W p l e ({ frames := 3, cells := 0, slots := 0, locals := 68 } : Room) s m [.ref o0, .int p1, .int p2, .int p3].toArray below meth c s.heap [] 0 0 (MQ below (qiR r) [.ref o0, .int p1, .int p2, .int p3].toArray s 0 0 (fun _ => False)) (F0 m 64 ls [.int v16]) := by
            intro v16 ev16 ls hl
            subst ev16
            refine lv_istore (lv' := [(8, .int v16), (5, .long x13), (7, .int l7_3), (4, .int l4_1), (0, .ref o0), (1, .int p1), (2, .int p2)]) hx hb dX3_drawFallen_64 hl (by decide) rfl (fun ls hl => ?_)
            refine lv_iconst (v := 0) hx hb dX3_drawFallen_66 (by decide) ?_
            refine lv_istore (lv' := [(9, .int (0 : Int32)), (8, .int v16), (5, .long x13), (7, .int l7_3), (4, .int l4_1), (0, .ref o0), (1, .int p1), (2, .int p2)]) hx hb dX3_drawFallen_67 hl (by decide) rfl (fun ls hl => ?_)
            obtain ⟨oz22, oz23, hqn21, hf⟩ := q_b2o hf
            have kxn21 : ∀ z22 : Int64, ∀ z23 : Int32, z22 = oz22 → z23 = oz23 → ∀ ls : Array Slot, lv_has ls 10 [(8, .int z23), (5, .long z22), (7, .int l7_3), (4, .int l4_1), (0, .ref o0), (1, .int p1), (2, .int p2)] → W p l e ({ frames := 3, cells := 0, slots := 0, locals := 68 } : Room) s m [.ref o0, .int p1, .int p2, .int p3].toArray below meth c s.heap [] 0 0 (MQ below (qiR r) [.ref o0, .int p1, .int p2, .int p3].toArray s 0 0 (fun _ => False)) (F0 m 147 ls []) := by
              intro z22 z23 ez22 ez23 ls hl
              subst ez22
              subst ez23
              refine lv_iload hx hb dX3_drawFallen_147 (lv_at hl 0 rfl) ?_
              refine lv_if_eq (tgt := 161) hx hb dX3_drawFallen_149 (by decide) (fun c40 => ?_) (fun c40 => ?_)
              · have hf := q_t c40 hf
                obtain ⟨w0, w1⟩ := q_s2 hf
                exact kj11 l4_1 z22 w0 w1 _ (lv_sub hl [2, 1, 3, 4, 5, 6] rfl)
              · have hf := q_f c40 hf
                refine lv_iload hx hb dX3_drawFallen_152 (lv_at hl 3 rfl) ?_
                refine lv_iconst (v := 1) hx hb dX3_drawFallen_154 (by decide) ?_
                refine lv_iload hx hb dX3_drawFallen_155 (lv_at hl 2 rfl) ?_
                refine lv_ishl hx hb dX3_drawFallen_157 ?_
                refine lv_ior hx hb dX3_drawFallen_158 ?_
                obtain ⟨x41, ex41, hf⟩ := q_lto hf
                refine W.eq (g2 := F0 m 159 ls [.int x41]) (by rw [ex41]) ?_
                refine lv_istore (lv' := [(4, .int x41), (8, .int z23), (5, .long z22), (7, .int l7_3), (0, .ref o0), (1, .int p1), (2, .int p2)]) hx hb dX3_drawFallen_159 hl (by decide) rfl (fun ls hl => ?_)
                obtain ⟨w0, w1⟩ := q_s2 hf
                exact kj11 x41 z22 w0 w1 _ (lv_sub hl [3, 2, 0, 4, 5, 6] rfl)
            have aihn21 : ∀ n21 : Nat, ∀ l5_18 : Int64, ∀ l8_19 : Int32, ∀ l9_20 : Int32, fX3_drawFallen_L69 p1 s0 l7_3 n21 l5_18 l8_19 l9_20 = some (oz22, oz23) → ∀ ls : Array Slot, lv_has ls 10 [(9, .int l9_20), (8, .int l8_19), (5, .long l5_18), (7, .int l7_3), (4, .int l4_1), (0, .ref o0), (1, .int p1), (2, .int p2)] → W p l e ({ frames := 3, cells := 0, slots := 0, locals := 68 } : Room) s m [.ref o0, .int p1, .int p2, .int p3].toArray below meth c s.heap [] 0 0 (MQ below (qiR r) [.ref o0, .int p1, .int p2, .int p3].toArray s 0 0 (fun _ => False)) (F0 m 69 ls []) := by
              intro n21
              induction n21 with
              | zero =>
                intro l5_18 l8_19 l9_20 hf
                exact q_no hf
              | succ n21 ihn21 =>
                intro l5_18 l8_19 l9_20 hf ls hl
                rw [fX3_drawFallen_L69] at hf
                refine lv_iload hx hb dX3_drawFallen_69 (lv_at hl 0 rfl) ?_
                refine lv_aload_n hx hb dX3_drawFallen_71 rfl (lv_at hl 5 rfl) ?_
                refine va_get (D := (dC, dI)) (ci := 3) (v := .int (s0 10 0)) (C := RX3) (T := TX3) (N := 14) hx hb hts nX3_drawFallen_3 hown hK hP 0 rfl rfl 10 (by decide) (hts _ qX3_drawFallen_5) (fun _ h9 => h9) rfl dX3_drawFallen_72 ?_
                refine lv_icmp_ge (tgt := 147) hx hb dX3_drawFallen_75 (by decide) (fun c24 => ?_) (fun c24 => ?_)
                · have hf := q_t c24 hf
                  obtain ⟨w0, w1⟩ := q_s2 hf
                  exact kxn21 l5_18 l8_19 w0 w1 _ (lv_sub hl [1, 2, 3, 4, 5, 6, 7] rfl)
                · have hf := q_f c24 hf
                  refine lv_iload_n hx hb dX3_drawFallen_78 rfl (lv_at hl 6 rfl) ?_
                  refine lv_iload hx hb dX3_drawFallen_79 (lv_at hl 0 rfl) ?_
                  obtain ⟨r25, h26, hf⟩ := q_b1o hf
                  refine q_roSi (As := [.int p1, .int l9_20]) (rest := []) ⟨hx, hb, hml, hown, hts⟩ (kX3_has l p1 l9_20 r25 h26) (va_cwS 2 hts gX3_drawFallen_X3_has rfl rfl rfl hdX3_has ⟨Nat.le_of_ble_eq_true rfl, Nat.le_of_ble_eq_true rfl⟩) rfl hl.1 rfl (Nat.le_of_ble_eq_true rfl) dX3_drawFallen_81 ⟨Nat.zero_le _, Nat.zero_le _⟩ ?_
                  obtain ⟨ov27, ov28, hqj29, hf⟩ := q_b2o hf
                  have kj29 : ∀ v27 : Int64, ∀ v28 : Int32, v27 = ov27 → v28 = ov28 → ∀ ls : Array Slot, lv_has ls 10 [(9, .int l9_20), (8, .int v28), (5, .long v27), (7, .int l7_3), (4, .int l4_1), (0, .ref o0), (1, .int p1), (2, .int p2)] → W p l e ({ frames := 3, cells := 0, slots := 0, locals := 68 } : Room) s m [.ref o0, .int p1, .int p2, .int p3].toArray below meth c s.heap [] 0 0 (MQ below (qiR r) [.ref o0, .int p1, .int p2, .int p3].toArray s 0 0 (fun _ => False)) (F0 m 141 ls []) := by
                    intro v27 v28 ev27 ev28 ls hl
                    subst ev27
                    subst ev28
                    refine lv_iinc (v := l9_20 + (1 : Int32)) (lv' := [(9, .int (l9_20 + (1 : Int32))), (8, .int v28), (5, .long v27), (7, .int l7_3), (4, .int l4_1), (0, .ref o0), (1, .int p1), (2, .int p2)]) hx hb dX3_drawFallen_141 hl (k := 0) rfl rfl (by decide) rfl (fun ls hl => ?_)
                    refine lv_goto (tgt := 69) hx hb dX3_drawFallen_144 (by decide) ?_
                    exact ihn21 v27 v28 (l9_20 + (1 : Int32)) hf _ hl
                  have hf := hqj29
                  refine lv_if_eq (tgt := 141) hx hb dX3_drawFallen_84 (by decide) (fun c30 => ?_) (fun c30 => ?_)
                  · have hf := q_t c30 hf
                    obtain ⟨w0, w1⟩ := q_s2 hf
                    exact kj29 l5_18 l8_19 w0 w1 _ hl
                  · have hf := q_f c30 hf
                    refine lv_aload_n hx hb dX3_drawFallen_87 rfl (lv_at hl 5 rfl) ?_
                    refine lv_iload hx hb dX3_drawFallen_88 (lv_at hl 0 rfl) ?_
                    refine lv_iconst (v := 0) hx hb dX3_drawFallen_90 (by decide) ?_
                    obtain ⟨r31, h32, hf⟩ := q_b1o hf
                    refine q_roVi (As := [.int l9_20, .int (0 : Int32)]) (rest := []) (ci := 3) ⟨hx, hb, hml, hown, hts⟩ (kX3_treeOf l dC dI cI cB cZ o0 a0 s0 l9_20 (0 : Int32) r31 h32) (cwV 2 hts gX3_drawFallen_X3_treeOf rfl rfl rfl hdX3_treeOf ⟨Nat.le_of_ble_eq_true rfl, Nat.le_of_ble_eq_true rfl⟩) hK hP rfl rfl rfl hl.1 rfl (Nat.le_of_ble_eq_true rfl) dX3_drawFallen_91 ⟨Nat.zero_le _, Nat.zero_le _⟩ ?_
                    refine lv_iload hx hb dX3_drawFallen_94 (lv_at hl 3 rfl) ?_
                    refine lv_icmp_ne (tgt := 141) hx hb dX3_drawFallen_96 (by decide) (fun c33 => ?_) (fun c33 => ?_)
                    · have hf := q_f c33 hf
                      obtain ⟨w0, w1⟩ := q_s2 hf
                      exact kj29 l5_18 l8_19 w0 w1 _ hl
                    · have hf := q_t c33 hf
                      refine lv_lload hx hb dX3_drawFallen_99 (lv_at hl 2 rfl) ?_
                      refine lv_ldc2 (v := 16807) hx hb hown (hts _ qX3_drawFallen_2) dX3_drawFallen_101 ?_
                      refine lv_lmul hx hb dX3_drawFallen_104 ?_
                      refine lv_ldc2 (v := 2147483647) hx hb hown (hts _ qX3_drawFallen_3) dX3_drawFallen_105 ?_
                      refine lv_lrem hx hb dX3_drawFallen_108 (by decide) ?_
                      obtain ⟨x34, ex34, hf⟩ := q_lto hf
                      refine W.eq (g2 := F0 m 109 ls [.long x34]) (by rw [ex34]) ?_
                      refine lv_lstore (lv' := [(5, .long x34), (9, .int l9_20), (8, .int l8_19), (7, .int l7_3), (4, .int l4_1), (0, .ref o0), (1, .int p1), (2, .int p2)]) hx hb dX3_drawFallen_109 hl (by decide) rfl (fun ls hl => ?_)
                      refine lv_lload hx hb dX3_drawFallen_111 (lv_at hl 0 rfl) ?_
                      refine lv_ldc2 (v := 10) hx hb hown (hts _ qX3_drawFallen_4) dX3_drawFallen_113 ?_
                      refine lv_lrem hx hb dX3_drawFallen_116 (by decide) ?_
                      refine lv_aload_n hx hb dX3_drawFallen_117 rfl (lv_at hl 5 rfl) ?_
                      refine va_get (D := (dC, dI)) (ci := 3) (v := .ref (a0 3)) (C := RX3) (T := TX3) (N := 14) hx hb hts nX3_drawFallen_3 hown hK hP 0 rfl rfl 3 (by decide) (hts _ qX3_drawFallen_6) (fun _ h9 => h9) rfl dX3_drawFallen_118 ?_
                      refine lv_iload hx hb dX3_drawFallen_121 (lv_at hl 1 rfl) ?_
                      obtain ⟨c35, hf⟩ := q_ck hf
                      refine va_iald hx hb hK hP 4 0 rfl rfl c35 dX3_drawFallen_123 ?_
                      refine lv_i2l (v := (s0 3 l9_20.toNatClampNeg).toInt64) hx hb dX3_drawFallen_124 rfl ?_
                      refine W.lcmp hx hb dX3_drawFallen_125 ?_
                      obtain ⟨ov36, hqj37, hf⟩ := q_b1o hf
                      have kj37 : ∀ v36 : Int32, v36 = ov36 → ∀ ls : Array Slot, lv_has ls 10 [(5, .long x34), (9, .int l9_20), (7, .int l7_3), (4, .int l4_1), (0, .ref o0), (1, .int p1), (2, .int p2)] → W p l e ({ frames := 3, cells := 0, slots := 0, locals := 68 } : Room) s m [.ref o0, .int p1, .int p2, .int p3].toArray below meth c s.heap [] 0 0 (MQ below (qiR r) [.ref o0, .int p1, .int p2, .int p3].toArray s 0 0 (fun _ => False)) (F0 m 139 ls [.int v36]) := by
                        intro v36 ev36 ls hl
                        subst ev36
                        refine lv_istore (lv' := [(8, .int v36), (5, .long x34), (9, .int l9_20), (7, .int l7_3), (4, .int l4_1), (0, .ref o0), (1, .int p1), (2, .int p2)]) hx hb dX3_drawFallen_139 hl (by decide) rfl (fun ls hl => ?_)
                        obtain ⟨w0, w1⟩ := q_s2 hf
                        exact kj29 x34 v36 w0 w1 _ (lv_sub hl [2, 0, 1, 3, 4, 5, 6, 7] rfl)
                      have hf := hqj37
                      refine lv_if_lt (tgt := 134) hx hb dX3_drawFallen_126 (by decide) (fun c38 => ?_) (fun c38 => ?_)
                      · have hf := q_t c38 hf
                        refine lv_iconst (v := 1) hx hb dX3_drawFallen_134 (by decide) ?_
                        refine lv_goto (tgt := 139) hx hb dX3_drawFallen_135 (by decide) ?_
                        exact kj37 (1 : Int32) (q_s1 hf) _ (lv_sub hl [0, 1, 3, 4, 5, 6, 7] rfl)
                      · have hf := q_f c38 hf
                        refine lv_iload hx hb dX3_drawFallen_129 (lv_at hl 2 rfl) ?_
                        refine lv_if_eq (tgt := 138) hx hb dX3_drawFallen_131 (by decide) (fun c39 => ?_) (fun c39 => ?_)
                        · have hf := q_t c39 hf
                          refine lv_iconst (v := 0) hx hb dX3_drawFallen_138 (by decide) ?_
                          exact kj37 (0 : Int32) (q_s1 hf) _ (lv_sub hl [0, 1, 3, 4, 5, 6, 7] rfl)
                        · have hf := q_f c39 hf
                          refine lv_iconst (v := 1) hx hb dX3_drawFallen_134 (by decide) ?_
                          refine lv_goto (tgt := 139) hx hb dX3_drawFallen_135 (by decide) ?_
                          exact kj37 (1 : Int32) (q_s1 hf) _ (lv_sub hl [0, 1, 3, 4, 5, 6, 7] rfl)
            exact aihn21 5000 x13 v16 (0 : Int32) hqn21 _ hl
          have hf := hqj17
          refine lv_if_ge (tgt := 63) hx hb dX3_drawFallen_56 (by decide) (fun c42 => ?_) (fun c42 => ?_)
          · have hf := q_t c42 hf
            refine lv_iconst (v := 0) hx hb dX3_drawFallen_63 (by decide) ?_
            exact kj17 (0 : Int32) (q_s1 hf) _ hl
          · have hf := q_f c42 hf
            refine lv_iconst (v := 1) hx hb dX3_drawFallen_59 (by decide) ?_
            refine lv_goto (tgt := 64) hx hb dX3_drawFallen_60 (by decide) ?_
            exact kj17 (1 : Int32) (q_s1 hf) _ hl
  exact aihn4 5000 (0 : Int32) p3.toInt64 (0 : Int32) hqn4 _ (lv_sub hl [0, 1, 2, 3, 4, 5] rfl)
