variable (l : Launch) (dC : Nat → ClassId) (dI : Nat → Nat → Nat) (cI cB cZ : ClassId)
theorem hdX6_isBlank : yX6_isBlank.cls ≠ "java/lang/invoke/MethodHandle" ∧ yX6_isBlank.cls ≠ "java/lang/invoke/VarHandle" ∧ (parseMethodDescriptor yX6_isBlank.desc).map (fun d => d.parameters.length) = some 1 := by decide +kernel
set_option maxHeartbeats 4000000 in
set_option maxRecDepth 100000 in
theorem kX6_isBlank (p0 : Int32) (r : Int32) (hf : fX6_isBlank p0 = some r) : Met l yX6_isBlank wsX6_isBlank ({ frames := 0, cells := 0, slots := 0, locals := 0 } : Room) (pcS [.int p0]) (qiR r) 0 0 (fun _ => False) := by
  refine q_roS (cc := cX6_isBlank) (maxL := 1) (ret := (some .boolean)) (by decide +kernel) rfl (Nat.le_of_ble_eq_true rfl) ?_
  intro p e s m below meth c hx hb hr hlk hml hown hts ls hl
  have hown : s.vm.findClass RX6 = some m.cls := hown
  have hl : lv_has ls 1 [(0, .int p0)] := hl
  unfold fX6_isBlank at hf
  refine lv_iload_n hx hb dX6_isBlank_0 rfl (lv_at hl 0 rfl) ?_
  refine lv_bipush (v := 32) hx hb dX6_isBlank_1 (by decide) ?_
  refine lv_icmp_eq (tgt := 12) hx hb dX6_isBlank_3 (by decide) (fun c1 => ?_) (fun c1 => ?_)
  · have hf := q_t c1 hf
    refine lv_iconst (v := 1) hx hb dX6_isBlank_12 (by decide) ?_
    refine lv_goto (tgt := 17) hx hb dX6_isBlank_13 (by decide) ?_
    have ee0 := q_s1 hf
    exact q_retZ hx hb hr hlk rfl ee0 dX6_isBlank_17
  · have hf := q_f c1 hf
    refine lv_iload_n hx hb dX6_isBlank_6 rfl (lv_at hl 0 rfl) ?_
    refine lv_bipush (v := 10) hx hb dX6_isBlank_7 (by decide) ?_
    refine lv_icmp_ne (tgt := 16) hx hb dX6_isBlank_9 (by decide) (fun c2 => ?_) (fun c2 => ?_)
    · have hf := q_f c2 hf
      refine lv_iconst (v := 0) hx hb dX6_isBlank_16 (by decide) ?_
      have ee0 := q_s1 hf
      exact q_retZ hx hb hr hlk rfl ee0 dX6_isBlank_17
    · have hf := q_t c2 hf
      refine lv_iconst (v := 1) hx hb dX6_isBlank_12 (by decide) ?_
      refine lv_goto (tgt := 17) hx hb dX6_isBlank_13 (by decide) ?_
      have ee0 := q_s1 hf
      exact q_retZ hx hb hr hlk rfl ee0 dX6_isBlank_17
theorem hdX6_isLetter : yX6_isLetter.cls ≠ "java/lang/invoke/MethodHandle" ∧ yX6_isLetter.cls ≠ "java/lang/invoke/VarHandle" ∧ (parseMethodDescriptor yX6_isLetter.desc).map (fun d => d.parameters.length) = some 1 := by decide +kernel
set_option maxHeartbeats 4000000 in
set_option maxRecDepth 100000 in
theorem kX6_isLetter (p0 : Int32) (r : Int32) (hf : fX6_isLetter p0 = some r) : Met l yX6_isLetter wsX6_isLetter ({ frames := 0, cells := 0, slots := 0, locals := 0 } : Room) (pcS [.int p0]) (qiR r) 0 0 (fun _ => False) := by
  refine q_roS (cc := cX6_isLetter) (maxL := 1) (ret := (some .boolean)) (by decide +kernel) rfl (Nat.le_of_ble_eq_true rfl) ?_
  intro p e s m below meth c hx hb hr hlk hml hown hts ls hl
  have hown : s.vm.findClass RX6 = some m.cls := hown
  have hl : lv_has ls 1 [(0, .int p0)] := hl
  unfold fX6_isLetter at hf
  refine lv_iload_n hx hb dX6_isLetter_0 rfl (lv_at hl 0 rfl) ?_
  refine lv_bipush (v := 97) hx hb dX6_isLetter_1 (by decide) ?_
  refine lv_icmp_lt (tgt := 16) hx hb dX6_isLetter_3 (by decide) (fun c1 => ?_) (fun c1 => ?_)
  · have hf := q_t c1 hf
    refine lv_iconst (v := 0) hx hb dX6_isLetter_16 (by decide) ?_
    have ee0 := q_s1 hf
    exact q_retZ hx hb hr hlk rfl ee0 dX6_isLetter_17
  · have hf := q_f c1 hf
    refine lv_iload_n hx hb dX6_isLetter_6 rfl (lv_at hl 0 rfl) ?_
    refine lv_bipush (v := 122) hx hb dX6_isLetter_7 (by decide) ?_
    refine lv_icmp_gt (tgt := 16) hx hb dX6_isLetter_9 (by decide) (fun c2 => ?_) (fun c2 => ?_)
    · have hf := q_t c2 hf
      refine lv_iconst (v := 0) hx hb dX6_isLetter_16 (by decide) ?_
      have ee0 := q_s1 hf
      exact q_retZ hx hb hr hlk rfl ee0 dX6_isLetter_17
    · have hf := q_f c2 hf
      refine lv_iconst (v := 1) hx hb dX6_isLetter_12 (by decide) ?_
      refine lv_goto (tgt := 17) hx hb dX6_isLetter_13 (by decide) ?_
      have ee0 := q_s1 hf
      exact q_retZ hx hb hr hlk rfl ee0 dX6_isLetter_17
theorem hdX6_readLetters : yX6_readLetters.cls = RX6 ∧ yX6_readLetters.cls ≠ "java/lang/invoke/MethodHandle" ∧ yX6_readLetters.cls ≠ "java/lang/invoke/VarHandle" ∧ (parseMethodDescriptor yX6_readLetters.desc).map (fun d => d.parameters.length) = some 0 := by decide +kernel
theorem qX6_readLetters_1 : (Cond.fieldLink RX6 17 "DeadAsked$Tape" "behind" "I") ∈ wsX6_readLetters := List.mem_of_getElem? (i := 1) (by decide +kernel)
theorem qX6_readLetters_2 : (Cond.fieldLink RX6 13 "DeadAsked$Tape" "used" "I") ∈ wsX6_readLetters := List.mem_of_getElem? (i := 2) (by decide +kernel)
theorem qX6_readLetters_3 : (Cond.fieldLink RX6 9 "DeadAsked$Tape" "bytes" "[B") ∈ wsX6_readLetters := List.mem_of_getElem? (i := 3) (by decide +kernel)
theorem nX6_readLetters_6 : ∀ w ∈ u_ws RX6 TX6 5, w ∈ wsX6_readLetters := fun _ h => (List.mem_cons_of_mem _ (List.mem_append_right _ h))
set_option maxHeartbeats 4000000 in
set_option maxRecDepth 100000 in
theorem kX6_readLetters (o0 : Nat) (a0 : Nat → Nat) (s0 : St) (sz : Nat) (z0 : St) (hf : fX6_readLetters s0 = some z0) : Met l yX6_readLetters wsX6_readLetters ({ frames := 1, cells := 0, slots := 0, locals := 20 } : Room) (pcW (dC, dI) (q_ty cI cB cZ) [.ref o0] (wcT cB o0 a0 s0) sz) (qvW (dC, dI) (q_ty cI cB cZ) (wcT cB o0 a0 s0) (wcT cB o0 a0 z0) sz) 0 0 (va_A (wcT cB o0 a0 s0) sz) := by
  refine q_rwM (cc := cX6_readLetters) (maxL := 1) (ret := none) (by decide +kernel) rfl (Nat.le_of_ble_eq_true rfl) ?_
  intro p e s m below meth c hx hb hr hlk hml hown hts hK A H hAe hH hsz hP hD hA hS ls hl
  have hown : s.vm.findClass RX6 = some m.cls := hown
  have hl : lv_has ls 1 [(0, .ref o0)] := hl
  unfold fX6_readLetters at hf
  obtain ⟨oz3, hqn2, hf⟩ := q_b1o hf
  have kxn2 : ∀ z3 : St, z3 = oz3 → ∀ (H : Heap) (locs : List Loc), va_P (dC, dI) vwCl (wcT cB o0 a0 z3) H → va_D A (wcT cB o0 a0 z3) → va_S A s.heap H locs → ∀ ls : Array Slot, lv_has ls 1 [] → W p l e ({ frames := 1, cells := 0, slots := 0, locals := 20 } : Room) s m [.ref o0].toArray below meth c H locs 0 0 (MQ below (qvW (dC, dI) (q_ty cI cB cZ) (wcT cB o0 a0 s0) (wcT cB o0 a0 z0) sz) [.ref o0].toArray s 0 0 (va_A (wcT cB o0 a0 s0) sz)) (F0 m 39 ls []) := by
    intro z3 ez3 H locs hP hD hS ls hl
    subst ez3
    have ee0 := q_s1 hf
    subst ee0
    exact q_wretV hx hb hr hlk hAe hK hP hD hS dX6_readLetters_39
  have aihn2 : ∀ n2 : Nat, ∀ sl1 : St, fX6_readLetters_L0 n2 sl1 = some oz3 → ∀ (H : Heap) (locs : List Loc), va_P (dC, dI) vwCl (wcT cB o0 a0 sl1) H → va_D A (wcT cB o0 a0 sl1) → va_S A s.heap H locs → ∀ ls : Array Slot, lv_has ls 1 [(0, .ref o0)] → W p l e ({ frames := 1, cells := 0, slots := 0, locals := 20 } : Room) s m [.ref o0].toArray below meth c H locs 0 0 (MQ below (qvW (dC, dI) (q_ty cI cB cZ) (wcT cB o0 a0 s0) (wcT cB o0 a0 z0) sz) [.ref o0].toArray s 0 0 (va_A (wcT cB o0 a0 s0) sz)) (F0 m 0 ls []) := by
    intro n2
    induction n2 with
    | zero =>
      intro sl1 hf
      exact q_no hf
    | succ n2 ihn2 =>
      intro sl1 hf H locs hP hD hS ls hl
      rw [fX6_readLetters_L0] at hf
      refine lv_aload_n hx hb dX6_readLetters_0 rfl (lv_at hl 0 rfl) ?_
      refine va_get (D := (dC, dI)) (ci := 6) (v := .int (sl1 3 0)) (C := RX6) (T := TX6) (N := 5) hx hb hts nX6_readLetters_6 hown hK hP 0 rfl rfl 3 (by decide) (hts _ qX6_readLetters_1) (fun _ h9 => h9) rfl dX6_readLetters_1 ?_
      refine lv_aload_n hx hb dX6_readLetters_4 rfl (lv_at hl 0 rfl) ?_
      refine va_get (D := (dC, dI)) (ci := 6) (v := .int (sl1 1 0)) (C := RX6) (T := TX6) (N := 5) hx hb hts nX6_readLetters_6 hown hK hP 0 rfl rfl 1 (by decide) (hts _ qX6_readLetters_2) (fun _ h9 => h9) rfl dX6_readLetters_5 ?_
      refine lv_icmp_ge (tgt := 39) hx hb dX6_readLetters_8 (by decide) (fun c4 => ?_) (fun c4 => ?_)
      · have hf := q_t c4 hf
        exact kxn2 sl1 (q_s1 hf) _ _ hP hD hS _ (lv_sub hl [] rfl)
      · have hf := q_f c4 hf
        refine lv_aload_n hx hb dX6_readLetters_11 rfl (lv_at hl 0 rfl) ?_
        refine va_get (D := (dC, dI)) (ci := 6) (v := .ref (a0 0)) (C := RX6) (T := TX6) (N := 5) hx hb hts nX6_readLetters_6 hown hK hP 0 rfl rfl 0 (by decide) (hts _ qX6_readLetters_3) (fun _ h9 => h9) rfl dX6_readLetters_12 ?_
        refine lv_aload_n hx hb dX6_readLetters_15 rfl (lv_at hl 0 rfl) ?_
        refine va_get (D := (dC, dI)) (ci := 6) (v := .int (sl1 3 0)) (C := RX6) (T := TX6) (N := 5) hx hb hts nX6_readLetters_6 hown hK hP 0 rfl rfl 3 (by decide) (hts _ qX6_readLetters_1) (fun _ h9 => h9) rfl dX6_readLetters_16 ?_
        obtain ⟨c5, hf⟩ := q_ck hf
        refine va_bald hx hb hK hP 1 1 rfl rfl c5 dX6_readLetters_19 ?_
        obtain ⟨r6, h7, hf⟩ := q_b1o hf
        refine q_roSi (As := [.int (sl1 0 (sl1 3 0).toNatClampNeg)]) (rest := []) ⟨hx, hb, hml, hown, hts⟩ (kX6_isLetter l (sl1 0 (sl1 3 0).toNatClampNeg) r6 h7) (va_cwS 1 hts gX6_readLetters_X6_isLetter rfl rfl rfl hdX6_isLetter ⟨Nat.le_of_ble_eq_true rfl, Nat.le_of_ble_eq_true rfl⟩) rfl hl.1 rfl (Nat.le_of_ble_eq_true rfl) dX6_readLetters_20 ⟨Nat.zero_le _, Nat.zero_le _⟩ ?_
        refine lv_if_eq (tgt := 39) hx hb dX6_readLetters_23 (by decide) (fun c8 => ?_) (fun c8 => ?_)
        · have hf := q_t c8 hf
          exact kxn2 sl1 (q_s1 hf) _ _ hP hD hS _ (lv_sub hl [] rfl)
        · have hf := q_f c8 hf
          refine lv_aload_n hx hb dX6_readLetters_26 rfl (lv_at hl 0 rfl) ?_
          refine lv_dup hx hb dX6_readLetters_27 rfl ?_
          refine va_get (D := (dC, dI)) (ci := 6) (v := .int (sl1 3 0)) (C := RX6) (T := TX6) (N := 5) hx hb hts nX6_readLetters_6 hown hK hP 0 rfl rfl 3 (by decide) (hts _ qX6_readLetters_1) (fun _ h9 => h9) rfl dX6_readLetters_28 ?_
          refine lv_iconst (v := 1) hx hb dX6_readLetters_31 (by decide) ?_
          refine lv_iadd hx hb dX6_readLetters_32 ?_
          obtain ⟨sn9, esn9, hf⟩ := q_lto hf
          refine va_put (D := (dC, dI)) (ci := 6) (v := .int ((sl1 3 0) + (1 : Int32))) (ty := .int) (C := RX6) (T := TX6) (N := 5) hx hb hts nX6_readLetters_6 tyX6 tyX6_ok nmX6 hown hK hP hD hS 0 rfl rfl 3 (by decide) (hts _ qX6_readLetters_1) (fun _ h9 => h9) rfl (by decide +kernel) rfl rfl (Nat.le_of_ble_eq_true rfl) dX6_readLetters_33 (fun H locs hP hD hS => ?_)
          have hP : va_P (dC, dI) vwCl (wcT cB o0 a0 sn9) H := by rw [esn9]; exact hP
          have hD : va_D A (wcT cB o0 a0 sn9) := by rw [esn9]; exact hD
          refine lv_goto (tgt := 0) hx hb dX6_readLetters_36 (by decide) ?_
          exact ihn2 sn9 hf _ _ hP hD hS _ hl
  exact aihn2 5000 s0 hqn2 _ _ hP hD hS _ hl
theorem hdX6_isFigure : yX6_isFigure.cls ≠ "java/lang/invoke/MethodHandle" ∧ yX6_isFigure.cls ≠ "java/lang/invoke/VarHandle" ∧ (parseMethodDescriptor yX6_isFigure.desc).map (fun d => d.parameters.length) = some 1 := by decide +kernel
set_option maxHeartbeats 4000000 in
set_option maxRecDepth 100000 in
theorem kX6_isFigure (p0 : Int32) (r : Int32) (hf : fX6_isFigure p0 = some r) : Met l yX6_isFigure wsX6_isFigure ({ frames := 0, cells := 0, slots := 0, locals := 0 } : Room) (pcS [.int p0]) (qiR r) 0 0 (fun _ => False) := by
  refine q_roS (cc := cX6_isFigure) (maxL := 1) (ret := (some .boolean)) (by decide +kernel) rfl (Nat.le_of_ble_eq_true rfl) ?_
  intro p e s m below meth c hx hb hr hlk hml hown hts ls hl
  have hown : s.vm.findClass RX6 = some m.cls := hown
  have hl : lv_has ls 1 [(0, .int p0)] := hl
  unfold fX6_isFigure at hf
  refine lv_iload_n hx hb dX6_isFigure_0 rfl (lv_at hl 0 rfl) ?_
  refine lv_bipush (v := 48) hx hb dX6_isFigure_1 (by decide) ?_
  refine lv_icmp_lt (tgt := 16) hx hb dX6_isFigure_3 (by decide) (fun c1 => ?_) (fun c1 => ?_)
  · have hf := q_t c1 hf
    refine lv_iconst (v := 0) hx hb dX6_isFigure_16 (by decide) ?_
    have ee0 := q_s1 hf
    exact q_retZ hx hb hr hlk rfl ee0 dX6_isFigure_17
  · have hf := q_f c1 hf
    refine lv_iload_n hx hb dX6_isFigure_6 rfl (lv_at hl 0 rfl) ?_
    refine lv_bipush (v := 57) hx hb dX6_isFigure_7 (by decide) ?_
    refine lv_icmp_gt (tgt := 16) hx hb dX6_isFigure_9 (by decide) (fun c2 => ?_) (fun c2 => ?_)
    · have hf := q_t c2 hf
      refine lv_iconst (v := 0) hx hb dX6_isFigure_16 (by decide) ?_
      have ee0 := q_s1 hf
      exact q_retZ hx hb hr hlk rfl ee0 dX6_isFigure_17
    · have hf := q_f c2 hf
      refine lv_iconst (v := 1) hx hb dX6_isFigure_12 (by decide) ?_
      refine lv_goto (tgt := 17) hx hb dX6_isFigure_13 (by decide) ?_
      have ee0 := q_s1 hf
      exact q_retZ hx hb hr hlk rfl ee0 dX6_isFigure_17
theorem hdX6_readFigures : yX6_readFigures.cls = RX6 ∧ yX6_readFigures.cls ≠ "java/lang/invoke/MethodHandle" ∧ yX6_readFigures.cls ≠ "java/lang/invoke/VarHandle" ∧ (parseMethodDescriptor yX6_readFigures.desc).map (fun d => d.parameters.length) = some 0 := by decide +kernel
theorem qX6_readFigures_1 : (Cond.fieldLink RX6 17 "DeadAsked$Tape" "behind" "I") ∈ wsX6_readFigures := List.mem_of_getElem? (i := 1) (by decide +kernel)
theorem qX6_readFigures_2 : (Cond.fieldLink RX6 13 "DeadAsked$Tape" "used" "I") ∈ wsX6_readFigures := List.mem_of_getElem? (i := 2) (by decide +kernel)
theorem qX6_readFigures_3 : (Cond.fieldLink RX6 9 "DeadAsked$Tape" "bytes" "[B") ∈ wsX6_readFigures := List.mem_of_getElem? (i := 3) (by decide +kernel)
theorem nX6_readFigures_6 : ∀ w ∈ u_ws RX6 TX6 5, w ∈ wsX6_readFigures := fun _ h => (List.mem_cons_of_mem _ (List.mem_append_right _ h))
set_option maxHeartbeats 4000000 in
set_option maxRecDepth 100000 in
theorem kX6_readFigures (o0 : Nat) (a0 : Nat → Nat) (s0 : St) (sz : Nat) (z0 : St) (hf : fX6_readFigures s0 = some z0) : Met l yX6_readFigures wsX6_readFigures ({ frames := 1, cells := 0, slots := 0, locals := 20 } : Room) (pcW (dC, dI) (q_ty cI cB cZ) [.ref o0] (wcT cB o0 a0 s0) sz) (qvW (dC, dI) (q_ty cI cB cZ) (wcT cB o0 a0 s0) (wcT cB o0 a0 z0) sz) 0 0 (va_A (wcT cB o0 a0 s0) sz) := by
  refine q_rwM (cc := cX6_readFigures) (maxL := 1) (ret := none) (by decide +kernel) rfl (Nat.le_of_ble_eq_true rfl) ?_
  intro p e s m below meth c hx hb hr hlk hml hown hts hK A H hAe hH hsz hP hD hA hS ls hl
  have hown : s.vm.findClass RX6 = some m.cls := hown
  have hl : lv_has ls 1 [(0, .ref o0)] := hl
  unfold fX6_readFigures at hf
  obtain ⟨oz3, hqn2, hf⟩ := q_b1o hf
  have kxn2 : ∀ z3 : St, z3 = oz3 → ∀ (H : Heap) (locs : List Loc), va_P (dC, dI) vwCl (wcT cB o0 a0 z3) H → va_D A (wcT cB o0 a0 z3) → va_S A s.heap H locs → ∀ ls : Array Slot, lv_has ls 1 [] → W p l e ({ frames := 1, cells := 0, slots := 0, locals := 20 } : Room) s m [.ref o0].toArray below meth c H locs 0 0 (MQ below (qvW (dC, dI) (q_ty cI cB cZ) (wcT cB o0 a0 s0) (wcT cB o0 a0 z0) sz) [.ref o0].toArray s 0 0 (va_A (wcT cB o0 a0 s0) sz)) (F0 m 39 ls []) := by
    intro z3 ez3 H locs hP hD hS ls hl
    subst ez3
    have ee0 := q_s1 hf
    subst ee0
    exact q_wretV hx hb hr hlk hAe hK hP hD hS dX6_readFigures_39
  have aihn2 : ∀ n2 : Nat, ∀ sl1 : St, fX6_readFigures_L0 n2 sl1 = some oz3 → ∀ (H : Heap) (locs : List Loc), va_P (dC, dI) vwCl (wcT cB o0 a0 sl1) H → va_D A (wcT cB o0 a0 sl1) → va_S A s.heap H locs → ∀ ls : Array Slot, lv_has ls 1 [(0, .ref o0)] → W p l e ({ frames := 1, cells := 0, slots := 0, locals := 20 } : Room) s m [.ref o0].toArray below meth c H locs 0 0 (MQ below (qvW (dC, dI) (q_ty cI cB cZ) (wcT cB o0 a0 s0) (wcT cB o0 a0 z0) sz) [.ref o0].toArray s 0 0 (va_A (wcT cB o0 a0 s0) sz)) (F0 m 0 ls []) := by
    intro n2
    induction n2 with
    | zero =>
      intro sl1 hf
      exact q_no hf
    | succ n2 ihn2 =>
      intro sl1 hf H locs hP hD hS ls hl
      rw [fX6_readFigures_L0] at hf
      refine lv_aload_n hx hb dX6_readFigures_0 rfl (lv_at hl 0 rfl) ?_
      refine va_get (D := (dC, dI)) (ci := 6) (v := .int (sl1 3 0)) (C := RX6) (T := TX6) (N := 5) hx hb hts nX6_readFigures_6 hown hK hP 0 rfl rfl 3 (by decide) (hts _ qX6_readFigures_1) (fun _ h9 => h9) rfl dX6_readFigures_1 ?_
      refine lv_aload_n hx hb dX6_readFigures_4 rfl (lv_at hl 0 rfl) ?_
      refine va_get (D := (dC, dI)) (ci := 6) (v := .int (sl1 1 0)) (C := RX6) (T := TX6) (N := 5) hx hb hts nX6_readFigures_6 hown hK hP 0 rfl rfl 1 (by decide) (hts _ qX6_readFigures_2) (fun _ h9 => h9) rfl dX6_readFigures_5 ?_
      refine lv_icmp_ge (tgt := 39) hx hb dX6_readFigures_8 (by decide) (fun c4 => ?_) (fun c4 => ?_)
      · have hf := q_t c4 hf
        exact kxn2 sl1 (q_s1 hf) _ _ hP hD hS _ (lv_sub hl [] rfl)
      · have hf := q_f c4 hf
        refine lv_aload_n hx hb dX6_readFigures_11 rfl (lv_at hl 0 rfl) ?_
        refine va_get (D := (dC, dI)) (ci := 6) (v := .ref (a0 0)) (C := RX6) (T := TX6) (N := 5) hx hb hts nX6_readFigures_6 hown hK hP 0 rfl rfl 0 (by decide) (hts _ qX6_readFigures_3) (fun _ h9 => h9) rfl dX6_readFigures_12 ?_
        refine lv_aload_n hx hb dX6_readFigures_15 rfl (lv_at hl 0 rfl) ?_
        refine va_get (D := (dC, dI)) (ci := 6) (v := .int (sl1 3 0)) (C := RX6) (T := TX6) (N := 5) hx hb hts nX6_readFigures_6 hown hK hP 0 rfl rfl 3 (by decide) (hts _ qX6_readFigures_1) (fun _ h9 => h9) rfl dX6_readFigures_16 ?_
        obtain ⟨c5, hf⟩ := q_ck hf
        refine va_bald hx hb hK hP 1 1 rfl rfl c5 dX6_readFigures_19 ?_
        obtain ⟨r6, h7, hf⟩ := q_b1o hf
        refine q_roSi (As := [.int (sl1 0 (sl1 3 0).toNatClampNeg)]) (rest := []) ⟨hx, hb, hml, hown, hts⟩ (kX6_isFigure l (sl1 0 (sl1 3 0).toNatClampNeg) r6 h7) (va_cwS 1 hts gX6_readFigures_X6_isFigure rfl rfl rfl hdX6_isFigure ⟨Nat.le_of_ble_eq_true rfl, Nat.le_of_ble_eq_true rfl⟩) rfl hl.1 rfl (Nat.le_of_ble_eq_true rfl) dX6_readFigures_20 ⟨Nat.zero_le _, Nat.zero_le _⟩ ?_
        refine lv_if_eq (tgt := 39) hx hb dX6_readFigures_23 (by decide) (fun c8 => ?_) (fun c8 => ?_)
        · have hf := q_t c8 hf
          exact kxn2 sl1 (q_s1 hf) _ _ hP hD hS _ (lv_sub hl [] rfl)
        · have hf := q_f c8 hf
          refine lv_aload_n hx hb dX6_readFigures_26 rfl (lv_at hl 0 rfl) ?_
          refine lv_dup hx hb dX6_readFigures_27 rfl ?_
          refine va_get (D := (dC, dI)) (ci := 6) (v := .int (sl1 3 0)) (C := RX6) (T := TX6) (N := 5) hx hb hts nX6_readFigures_6 hown hK hP 0 rfl rfl 3 (by decide) (hts _ qX6_readFigures_1) (fun _ h9 => h9) rfl dX6_readFigures_28 ?_
          refine lv_iconst (v := 1) hx hb dX6_readFigures_31 (by decide) ?_
          refine lv_iadd hx hb dX6_readFigures_32 ?_
          obtain ⟨sn9, esn9, hf⟩ := q_lto hf
          refine va_put (D := (dC, dI)) (ci := 6) (v := .int ((sl1 3 0) + (1 : Int32))) (ty := .int) (C := RX6) (T := TX6) (N := 5) hx hb hts nX6_readFigures_6 tyX6 tyX6_ok nmX6 hown hK hP hD hS 0 rfl rfl 3 (by decide) (hts _ qX6_readFigures_1) (fun _ h9 => h9) rfl (by decide +kernel) rfl rfl (Nat.le_of_ble_eq_true rfl) dX6_readFigures_33 (fun H locs hP hD hS => ?_)
          have hP : va_P (dC, dI) vwCl (wcT cB o0 a0 sn9) H := by rw [esn9]; exact hP
          have hD : va_D A (wcT cB o0 a0 sn9) := by rw [esn9]; exact hD
          refine lv_goto (tgt := 0) hx hb dX6_readFigures_36 (by decide) ?_
          exact ihn2 sn9 hf _ _ hP hD hS _ hl
  exact aihn2 5000 s0 hqn2 _ _ hP hD hS _ hl
theorem hdX6_readNext : yX6_readNext.cls = RX6 ∧ yX6_readNext.cls ≠ "java/lang/invoke/MethodHandle" ∧ yX6_readNext.cls ≠ "java/lang/invoke/VarHandle" ∧ (parseMethodDescriptor yX6_readNext.desc).map (fun d => d.parameters.length) = some 0 := by decide +kernel
theorem qX6_readNext_1 : (Cond.fieldLink RX6 17 "DeadAsked$Tape" "behind" "I") ∈ wsX6_readNext := List.mem_of_getElem? (i := 1) (by decide +kernel)
theorem qX6_readNext_2 : (Cond.fieldLink RX6 23 "DeadAsked$Tape" "start" "I") ∈ wsX6_readNext := List.mem_of_getElem? (i := 2) (by decide +kernel)
theorem qX6_readNext_3 : (Cond.fieldLink RX6 13 "DeadAsked$Tape" "used" "I") ∈ wsX6_readNext := List.mem_of_getElem? (i := 3) (by decide +kernel)
theorem qX6_readNext_4 : (Cond.fieldLink RX6 9 "DeadAsked$Tape" "bytes" "[B") ∈ wsX6_readNext := List.mem_of_getElem? (i := 4) (by decide +kernel)
theorem qX6_readNext_5 : (Cond.fieldLink RX6 30 "DeadAsked$Tape" "sort" "I") ∈ wsX6_readNext := List.mem_of_getElem? (i := 5) (by decide +kernel)
theorem nX6_readNext_6 : ∀ w ∈ u_ws RX6 TX6 5, w ∈ wsX6_readNext := fun _ h => (List.mem_cons_of_mem _ (List.mem_append_right _ h))
set_option maxHeartbeats 4000000 in
set_option maxRecDepth 100000 in
theorem kX6_readNext (o0 : Nat) (a0 : Nat → Nat) (s0 : St) (sz : Nat) (z0 : St) (hf : fX6_readNext s0 = some z0) : Met l yX6_readNext wsX6_readNext ({ frames := 2, cells := 0, slots := 0, locals := 40 } : Room) (pcW (dC, dI) (q_ty cI cB cZ) [.ref o0] (wcT cB o0 a0 s0) sz) (qvW (dC, dI) (q_ty cI cB cZ) (wcT cB o0 a0 s0) (wcT cB o0 a0 z0) sz) 0 0 (va_A (wcT cB o0 a0 s0) sz) := by
  refine q_rwM (cc := cX6_readNext) (maxL := 1) (ret := none) (by decide +kernel) rfl (Nat.le_of_ble_eq_true rfl) ?_
  intro p e s m below meth c hx hb hr hlk hml hown hts hK A H hAe hH hsz hP hD hA hS ls hl
  have hown : s.vm.findClass RX6 = some m.cls := hown
  have hl : lv_has ls 1 [(0, .ref o0)] := hl
  unfold fX6_readNext at hf
  refine lv_aload_n hx hb dX6_readNext_0 rfl (lv_at hl 0 rfl) ?_
  refine lv_aload_n hx hb dX6_readNext_1 rfl (lv_at hl 0 rfl) ?_
  refine va_get (D := (dC, dI)) (ci := 6) (v := .int (s0 3 0)) (C := RX6) (T := TX6) (N := 5) hx hb hts nX6_readNext_6 hown hK hP 0 rfl rfl 3 (by decide) (hts _ qX6_readNext_1) (fun _ h9 => h9) rfl dX6_readNext_2 ?_
  obtain ⟨sn1, esn1, hf⟩ := q_lto hf
  refine va_put (D := (dC, dI)) (ci := 6) (v := .int (s0 3 0)) (ty := .int) (C := RX6) (T := TX6) (N := 5) hx hb hts nX6_readNext_6 tyX6 tyX6_ok nmX6 hown hK hP hD hS 0 rfl rfl 2 (by decide) (hts _ qX6_readNext_2) (fun _ h9 => h9) rfl (by decide +kernel) rfl rfl (Nat.le_of_ble_eq_true rfl) dX6_readNext_5 (fun H locs hP hD hS => ?_)
  have hP : va_P (dC, dI) vwCl (wcT cB o0 a0 sn1) H := by rw [esn1]; exact hP
  have hD : va_D A (wcT cB o0 a0 sn1) := by rw [esn1]; exact hD
  obtain ⟨oz4, hqn3, hf⟩ := q_b1o hf
  have kxn3 : ∀ z4 : St, z4 = oz4 → ∀ (H : Heap) (locs : List Loc), va_P (dC, dI) vwCl (wcT cB o0 a0 z4) H → va_D A (wcT cB o0 a0 z4) → va_S A s.heap H locs → ∀ ls : Array Slot, lv_has ls 1 [(0, .ref o0)] → W p l e ({ frames := 2, cells := 0, slots := 0, locals := 40 } : Room) s m [.ref o0].toArray below meth c H locs 0 0 (MQ below (qvW (dC, dI) (q_ty cI cB cZ) (wcT cB o0 a0 s0) (wcT cB o0 a0 z0) sz) [.ref o0].toArray s 0 0 (va_A (wcT cB o0 a0 s0) sz)) (F0 m 47 ls []) := by
    intro z4 ez4 H locs hP hD hS ls hl
    subst ez4
    refine lv_aload_n hx hb dX6_readNext_47 rfl (lv_at hl 0 rfl) ?_
    refine lv_aload_n hx hb dX6_readNext_48 rfl (lv_at hl 0 rfl) ?_
    refine va_get (D := (dC, dI)) (ci := 6) (v := .int (z4 2 0)) (C := RX6) (T := TX6) (N := 5) hx hb hts nX6_readNext_6 hown hK hP 0 rfl rfl 2 (by decide) (hts _ qX6_readNext_2) (fun _ h9 => h9) rfl dX6_readNext_49 ?_
    refine lv_iconst (v := 1) hx hb dX6_readNext_52 (by decide) ?_
    refine lv_iadd hx hb dX6_readNext_53 ?_
    obtain ⟨sn11, esn11, hf⟩ := q_lto hf
    refine va_put (D := (dC, dI)) (ci := 6) (v := .int ((z4 2 0) + (1 : Int32))) (ty := .int) (C := RX6) (T := TX6) (N := 5) hx hb hts nX6_readNext_6 tyX6 tyX6_ok nmX6 hown hK hP hD hS 0 rfl rfl 3 (by decide) (hts _ qX6_readNext_1) (fun _ h9 => h9) rfl (by decide +kernel) rfl rfl (Nat.le_of_ble_eq_true rfl) dX6_readNext_54 (fun H locs hP hD hS => ?_)
    have hP : va_P (dC, dI) vwCl (wcT cB o0 a0 sn11) H := by rw [esn11]; exact hP
    have hD : va_D A (wcT cB o0 a0 sn11) := by rw [esn11]; exact hD
    refine lv_aload_n hx hb dX6_readNext_57 rfl (lv_at hl 0 rfl) ?_
    refine va_get (D := (dC, dI)) (ci := 6) (v := .int (sn11 2 0)) (C := RX6) (T := TX6) (N := 5) hx hb hts nX6_readNext_6 hown hK hP 0 rfl rfl 2 (by decide) (hts _ qX6_readNext_2) (fun _ h9 => h9) rfl dX6_readNext_58 ?_
    refine lv_aload_n hx hb dX6_readNext_61 rfl (lv_at hl 0 rfl) ?_
    refine va_get (D := (dC, dI)) (ci := 6) (v := .int (sn11 1 0)) (C := RX6) (T := TX6) (N := 5) hx hb hts nX6_readNext_6 hown hK hP 0 rfl rfl 1 (by decide) (hts _ qX6_readNext_3) (fun _ h9 => h9) rfl dX6_readNext_62 ?_
    refine lv_icmp_lt (tgt := 84) hx hb dX6_readNext_65 (by decide) (fun c12 => ?_) (fun c12 => ?_)
    · have hf := q_t c12 hf
      refine lv_aload_n hx hb dX6_readNext_84 rfl (lv_at hl 0 rfl) ?_
      refine va_get (D := (dC, dI)) (ci := 6) (v := .ref (a0 0)) (C := RX6) (T := TX6) (N := 5) hx hb hts nX6_readNext_6 hown hK hP 0 rfl rfl 0 (by decide) (hts _ qX6_readNext_4) (fun _ h9 => h9) rfl dX6_readNext_85 ?_
      refine lv_aload_n hx hb dX6_readNext_88 rfl (lv_at hl 0 rfl) ?_
      refine va_get (D := (dC, dI)) (ci := 6) (v := .int (sn11 2 0)) (C := RX6) (T := TX6) (N := 5) hx hb hts nX6_readNext_6 hown hK hP 0 rfl rfl 2 (by decide) (hts _ qX6_readNext_2) (fun _ h9 => h9) rfl dX6_readNext_89 ?_
      obtain ⟨c13, hf⟩ := q_ck hf
      refine va_bald hx hb hK hP 1 1 rfl rfl c13 dX6_readNext_92 ?_
      obtain ⟨r14, h15, hf⟩ := q_b1o hf
      refine q_roSi (As := [.int (sn11 0 (sn11 2 0).toNatClampNeg)]) (rest := []) ⟨hx, hb, hml, hown, hts⟩ (kX6_isLetter l (sn11 0 (sn11 2 0).toNatClampNeg) r14 h15) (va_cwS 1 hts gX6_readNext_X6_isLetter rfl rfl rfl hdX6_isLetter ⟨Nat.le_of_ble_eq_true rfl, Nat.le_of_ble_eq_true rfl⟩) rfl hl.1 rfl (Nat.le_of_ble_eq_true rfl) dX6_readNext_93 ⟨Nat.zero_le _, Nat.zero_le _⟩ ?_
      refine lv_if_eq (tgt := 111) hx hb dX6_readNext_96 (by decide) (fun c16 => ?_) (fun c16 => ?_)
      · have hf := q_t c16 hf
        refine lv_aload_n hx hb dX6_readNext_111 rfl (lv_at hl 0 rfl) ?_
        refine va_get (D := (dC, dI)) (ci := 6) (v := .ref (a0 0)) (C := RX6) (T := TX6) (N := 5) hx hb hts nX6_readNext_6 hown hK hP 0 rfl rfl 0 (by decide) (hts _ qX6_readNext_4) (fun _ h9 => h9) rfl dX6_readNext_112 ?_
        refine lv_aload_n hx hb dX6_readNext_115 rfl (lv_at hl 0 rfl) ?_
        refine va_get (D := (dC, dI)) (ci := 6) (v := .int (sn11 2 0)) (C := RX6) (T := TX6) (N := 5) hx hb hts nX6_readNext_6 hown hK hP 0 rfl rfl 2 (by decide) (hts _ qX6_readNext_2) (fun _ h9 => h9) rfl dX6_readNext_116 ?_
        obtain ⟨c17, hf⟩ := q_ck hf
        refine va_bald hx hb hK hP 1 1 rfl rfl c17 dX6_readNext_119 ?_
        obtain ⟨r18, h19, hf⟩ := q_b1o hf
        refine q_roSi (As := [.int (sn11 0 (sn11 2 0).toNatClampNeg)]) (rest := []) ⟨hx, hb, hml, hown, hts⟩ (kX6_isFigure l (sn11 0 (sn11 2 0).toNatClampNeg) r18 h19) (va_cwS 1 hts gX6_readNext_X6_isFigure rfl rfl rfl hdX6_isFigure ⟨Nat.le_of_ble_eq_true rfl, Nat.le_of_ble_eq_true rfl⟩) rfl hl.1 rfl (Nat.le_of_ble_eq_true rfl) dX6_readNext_120 ⟨Nat.zero_le _, Nat.zero_le _⟩ ?_
        refine lv_if_eq (tgt := 155) hx hb dX6_readNext_123 (by decide) (fun c20 => ?_) (fun c20 => ?_)
        · have hf := q_t c20 hf
          refine lv_aload_n hx hb dX6_readNext_155 rfl (lv_at hl 0 rfl) ?_
          refine lv_aload_n hx hb dX6_readNext_156 rfl (lv_at hl 0 rfl) ?_
          refine va_get (D := (dC, dI)) (ci := 6) (v := .ref (a0 0)) (C := RX6) (T := TX6) (N := 5) hx hb hts nX6_readNext_6 hown hK hP 0 rfl rfl 0 (by decide) (hts _ qX6_readNext_4) (fun _ h9 => h9) rfl dX6_readNext_157 ?_
          refine lv_aload_n hx hb dX6_readNext_160 rfl (lv_at hl 0 rfl) ?_
          refine va_get (D := (dC, dI)) (ci := 6) (v := .int (sn11 2 0)) (C := RX6) (T := TX6) (N := 5) hx hb hts nX6_readNext_6 hown hK hP 0 rfl rfl 2 (by decide) (hts _ qX6_readNext_2) (fun _ h9 => h9) rfl dX6_readNext_161 ?_
          obtain ⟨c21, hf⟩ := q_ck hf
          refine va_bald hx hb hK hP 1 1 rfl rfl c21 dX6_readNext_164 ?_
          refine lv_bipush (v := 59) hx hb dX6_readNext_165 (by decide) ?_
          obtain ⟨ov22, hqj23, hf⟩ := q_b1o hf
          have kj23 : ∀ v22 : Int32, v22 = ov22 → ∀ (H : Heap) (locs : List Loc), va_P (dC, dI) vwCl (wcT cB o0 a0 sn11) H → va_D A (wcT cB o0 a0 sn11) → va_S A s.heap H locs → ∀ ls : Array Slot, lv_has ls 1 [] → W p l e ({ frames := 2, cells := 0, slots := 0, locals := 40 } : Room) s m [.ref o0].toArray below meth c H locs 0 0 (MQ below (qvW (dC, dI) (q_ty cI cB cZ) (wcT cB o0 a0 s0) (wcT cB o0 a0 z0) sz) [.ref o0].toArray s 0 0 (va_A (wcT cB o0 a0 s0) sz)) (F0 m 175 ls [.int v22, .ref o0]) := by
            intro v22 ev22 H locs hP hD hS ls hl
            subst ev22
            obtain ⟨sn24, esn24, hf⟩ := q_lto hf
            refine va_put (D := (dC, dI)) (ci := 6) (v := .int v22) (ty := .int) (C := RX6) (T := TX6) (N := 5) hx hb hts nX6_readNext_6 tyX6 tyX6_ok nmX6 hown hK hP hD hS 0 rfl rfl 4 (by decide) (hts _ qX6_readNext_5) (fun _ h9 => h9) rfl (by decide +kernel) rfl rfl (Nat.le_of_ble_eq_true rfl) dX6_readNext_175 (fun H locs hP hD hS => ?_)
            have hP : va_P (dC, dI) vwCl (wcT cB o0 a0 sn24) H := by rw [esn24]; exact hP
            have hD : va_D A (wcT cB o0 a0 sn24) := by rw [esn24]; exact hD
            have ee0 := q_s1 hf
            subst ee0
            exact q_wretV hx hb hr hlk hAe hK hP hD hS dX6_readNext_178
          have hf := hqj23
          refine lv_icmp_ne (tgt := 174) hx hb dX6_readNext_167 (by decide) (fun c25 => ?_) (fun c25 => ?_)
          · have hf := q_f c25 hf
            refine lv_iconst (v := 4) hx hb dX6_readNext_174 (by decide) ?_
            exact kj23 (4 : Int32) (q_s1 hf) _ _ hP hD hS _ (lv_sub hl [] rfl)
          · have hf := q_t c25 hf
            refine lv_iconst (v := 3) hx hb dX6_readNext_170 (by decide) ?_
            refine lv_goto (tgt := 175) hx hb dX6_readNext_171 (by decide) ?_
            exact kj23 (3 : Int32) (q_s1 hf) _ _ hP hD hS _ (lv_sub hl [] rfl)
        · have hf := q_f c20 hf
          refine lv_aload_n hx hb dX6_readNext_126 rfl (lv_at hl 0 rfl) ?_
          obtain ⟨sc26, h27, hf⟩ := q_b1o hf
          refine q_rwVv (As := []) (rest := []) (ci := 6) (wr := []) (w2 := (wcT cB o0 a0 sc26)) ⟨hx, hb, hml, hown, hts⟩ (kX6_readFigures l dC dI cI cB cZ o0 a0 sn11 H.size sc26 h27) (cwV 0 hts gX6_readNext_X6_readFigures rfl rfl rfl hdX6_readFigures ⟨Nat.le_of_ble_eq_true rfl, Nat.le_of_ble_eq_true rfl⟩) hK hP hD hS hA [0, 1] [] [0, 1] rfl rfl (by decide) (by decide) (by decide) rfl (by decide) rfl rfl rfl hl.1 rfl (Nat.le_of_ble_eq_true rfl) dX6_readNext_127 ⟨Nat.zero_le _, Nat.zero_le _⟩ (fun H locs hP hD hS => ?_)
          refine lv_aload_n hx hb dX6_readNext_130 rfl (lv_at hl 0 rfl) ?_
          refine lv_aload_n hx hb dX6_readNext_131 rfl (lv_at hl 0 rfl) ?_
          refine va_get (D := (dC, dI)) (ci := 6) (v := .int (sc26 3 0)) (C := RX6) (T := TX6) (N := 5) hx hb hts nX6_readNext_6 hown hK hP 0 rfl rfl 3 (by decide) (hts _ qX6_readNext_1) (fun _ h9 => h9) rfl dX6_readNext_132 ?_
          refine lv_aload_n hx hb dX6_readNext_135 rfl (lv_at hl 0 rfl) ?_
          refine va_get (D := (dC, dI)) (ci := 6) (v := .int (sc26 2 0)) (C := RX6) (T := TX6) (N := 5) hx hb hts nX6_readNext_6 hown hK hP 0 rfl rfl 2 (by decide) (hts _ qX6_readNext_2) (fun _ h9 => h9) rfl dX6_readNext_136 ?_
          refine lv_isub hx hb dX6_readNext_139 ?_
          refine lv_iconst (v := 3) hx hb dX6_readNext_140 (by decide) ?_
          obtain ⟨ov28, hqj29, hf⟩ := q_b1o hf
          have kj29 : ∀ v28 : Int32, v28 = ov28 → ∀ (H : Heap) (locs : List Loc), va_P (dC, dI) vwCl (wcT cB o0 a0 sc26) H → va_D A (wcT cB o0 a0 sc26) → va_S A s.heap H locs → ∀ ls : Array Slot, lv_has ls 1 [] → W p l e ({ frames := 2, cells := 0, slots := 0, locals := 40 } : Room) s m [.ref o0].toArray below meth c H locs 0 0 (MQ below (qvW (dC, dI) (q_ty cI cB cZ) (wcT cB o0 a0 s0) (wcT cB o0 a0 z0) sz) [.ref o0].toArray s 0 0 (va_A (wcT cB o0 a0 s0) sz)) (F0 m 149 ls [.int v28, .ref o0]) := by
            intro v28 ev28 H locs hP hD hS ls hl
            subst ev28
            obtain ⟨sn30, esn30, hf⟩ := q_lto hf
            refine va_put (D := (dC, dI)) (ci := 6) (v := .int v28) (ty := .int) (C := RX6) (T := TX6) (N := 5) hx hb hts nX6_readNext_6 tyX6 tyX6_ok nmX6 hown hK hP hD hS 0 rfl rfl 4 (by decide) (hts _ qX6_readNext_5) (fun _ h9 => h9) rfl (by decide +kernel) rfl rfl (Nat.le_of_ble_eq_true rfl) dX6_readNext_149 (fun H locs hP hD hS => ?_)
            have hP : va_P (dC, dI) vwCl (wcT cB o0 a0 sn30) H := by rw [esn30]; exact hP
            have hD : va_D A (wcT cB o0 a0 sn30) := by rw [esn30]; exact hD
            refine lv_goto (tgt := 178) hx hb dX6_readNext_152 (by decide) ?_
            have ee0 := q_s1 hf
            subst ee0
            exact q_wretV hx hb hr hlk hAe hK hP hD hS dX6_readNext_178
          have hf := hqj29
          refine lv_icmp_le (tgt := 148) hx hb dX6_readNext_141 (by decide) (fun c31 => ?_) (fun c31 => ?_)
          · have hf := q_t c31 hf
            refine lv_iconst (v := 2) hx hb dX6_readNext_148 (by decide) ?_
            exact kj29 (2 : Int32) (q_s1 hf) _ _ hP hD hS _ (lv_sub hl [] rfl)
          · have hf := q_f c31 hf
            refine lv_iconst (v := 4) hx hb dX6_readNext_144 (by decide) ?_
            refine lv_goto (tgt := 149) hx hb dX6_readNext_145 (by decide) ?_
            exact kj29 (4 : Int32) (q_s1 hf) _ _ hP hD hS _ (lv_sub hl [] rfl)
      · have hf := q_f c16 hf
        refine lv_aload_n hx hb dX6_readNext_99 rfl (lv_at hl 0 rfl) ?_
        refine lv_iconst (v := 1) hx hb dX6_readNext_100 (by decide) ?_
        obtain ⟨sn32, esn32, hf⟩ := q_lto hf
        refine va_put (D := (dC, dI)) (ci := 6) (v := .int (1 : Int32)) (ty := .int) (C := RX6) (T := TX6) (N := 5) hx hb hts nX6_readNext_6 tyX6 tyX6_ok nmX6 hown hK hP hD hS 0 rfl rfl 4 (by decide) (hts _ qX6_readNext_5) (fun _ h9 => h9) rfl (by decide +kernel) rfl rfl (Nat.le_of_ble_eq_true rfl) dX6_readNext_101 (fun H locs hP hD hS => ?_)
        have hP : va_P (dC, dI) vwCl (wcT cB o0 a0 sn32) H := by rw [esn32]; exact hP
        have hD : va_D A (wcT cB o0 a0 sn32) := by rw [esn32]; exact hD
        refine lv_aload_n hx hb dX6_readNext_104 rfl (lv_at hl 0 rfl) ?_
        obtain ⟨sc33, h34, hf⟩ := q_b1o hf
        refine q_rwVv (As := []) (rest := []) (ci := 6) (wr := []) (w2 := (wcT cB o0 a0 sc33)) ⟨hx, hb, hml, hown, hts⟩ (kX6_readLetters l dC dI cI cB cZ o0 a0 sn32 H.size sc33 h34) (cwV 0 hts gX6_readNext_X6_readLetters rfl rfl rfl hdX6_readLetters ⟨Nat.le_of_ble_eq_true rfl, Nat.le_of_ble_eq_true rfl⟩) hK hP hD hS hA [0, 1] [] [0, 1] rfl rfl (by decide) (by decide) (by decide) rfl (by decide) rfl rfl rfl hl.1 rfl (Nat.le_of_ble_eq_true rfl) dX6_readNext_105 ⟨Nat.zero_le _, Nat.zero_le _⟩ (fun H locs hP hD hS => ?_)
        refine lv_goto (tgt := 178) hx hb dX6_readNext_108 (by decide) ?_
        have ee0 := q_s1 hf
        subst ee0
        exact q_wretV hx hb hr hlk hAe hK hP hD hS dX6_readNext_178
    · have hf := q_f c12 hf
      refine lv_aload_n hx hb dX6_readNext_68 rfl (lv_at hl 0 rfl) ?_
      refine lv_iconst (v := 0) hx hb dX6_readNext_69 (by decide) ?_
      obtain ⟨sn35, esn35, hf⟩ := q_lto hf
      refine va_put (D := (dC, dI)) (ci := 6) (v := .int (0 : Int32)) (ty := .int) (C := RX6) (T := TX6) (N := 5) hx hb hts nX6_readNext_6 tyX6 tyX6_ok nmX6 hown hK hP hD hS 0 rfl rfl 4 (by decide) (hts _ qX6_readNext_5) (fun _ h9 => h9) rfl (by decide +kernel) rfl rfl (Nat.le_of_ble_eq_true rfl) dX6_readNext_70 (fun H locs hP hD hS => ?_)
      have hP : va_P (dC, dI) vwCl (wcT cB o0 a0 sn35) H := by rw [esn35]; exact hP
      have hD : va_D A (wcT cB o0 a0 sn35) := by rw [esn35]; exact hD
      refine lv_aload_n hx hb dX6_readNext_73 rfl (lv_at hl 0 rfl) ?_
      refine lv_aload_n hx hb dX6_readNext_74 rfl (lv_at hl 0 rfl) ?_
      refine va_get (D := (dC, dI)) (ci := 6) (v := .int (sn35 2 0)) (C := RX6) (T := TX6) (N := 5) hx hb hts nX6_readNext_6 hown hK hP 0 rfl rfl 2 (by decide) (hts _ qX6_readNext_2) (fun _ h9 => h9) rfl dX6_readNext_75 ?_
      obtain ⟨sn36, esn36, hf⟩ := q_lto hf
      refine va_put (D := (dC, dI)) (ci := 6) (v := .int (sn35 2 0)) (ty := .int) (C := RX6) (T := TX6) (N := 5) hx hb hts nX6_readNext_6 tyX6 tyX6_ok nmX6 hown hK hP hD hS 0 rfl rfl 3 (by decide) (hts _ qX6_readNext_1) (fun _ h9 => h9) rfl (by decide +kernel) rfl rfl (Nat.le_of_ble_eq_true rfl) dX6_readNext_78 (fun H locs hP hD hS => ?_)
      have hP : va_P (dC, dI) vwCl (wcT cB o0 a0 sn36) H := by rw [esn36]; exact hP
      have hD : va_D A (wcT cB o0 a0 sn36) := by rw [esn36]; exact hD
      refine lv_goto (tgt := 178) hx hb dX6_readNext_81 (by decide) ?_
      have ee0 := q_s1 hf
      subst ee0
      exact q_wretV hx hb hr hlk hAe hK hP hD hS dX6_readNext_178
  have aihn3 : ∀ n3 : Nat, ∀ sl2 : St, fX6_readNext_L8 n3 sl2 = some oz4 → ∀ (H : Heap) (locs : List Loc), va_P (dC, dI) vwCl (wcT cB o0 a0 sl2) H → va_D A (wcT cB o0 a0 sl2) → va_S A s.heap H locs → ∀ ls : Array Slot, lv_has ls 1 [(0, .ref o0)] → W p l e ({ frames := 2, cells := 0, slots := 0, locals := 40 } : Room) s m [.ref o0].toArray below meth c H locs 0 0 (MQ below (qvW (dC, dI) (q_ty cI cB cZ) (wcT cB o0 a0 s0) (wcT cB o0 a0 z0) sz) [.ref o0].toArray s 0 0 (va_A (wcT cB o0 a0 s0) sz)) (F0 m 8 ls []) := by
    intro n3
    induction n3 with
    | zero =>
      intro sl2 hf
      exact q_no hf
    | succ n3 ihn3 =>
      intro sl2 hf H locs hP hD hS ls hl
      rw [fX6_readNext_L8] at hf
      refine lv_aload_n hx hb dX6_readNext_8 rfl (lv_at hl 0 rfl) ?_
      refine va_get (D := (dC, dI)) (ci := 6) (v := .int (sl2 2 0)) (C := RX6) (T := TX6) (N := 5) hx hb hts nX6_readNext_6 hown hK hP 0 rfl rfl 2 (by decide) (hts _ qX6_readNext_2) (fun _ h9 => h9) rfl dX6_readNext_9 ?_
      refine lv_aload_n hx hb dX6_readNext_12 rfl (lv_at hl 0 rfl) ?_
      refine va_get (D := (dC, dI)) (ci := 6) (v := .int (sl2 1 0)) (C := RX6) (T := TX6) (N := 5) hx hb hts nX6_readNext_6 hown hK hP 0 rfl rfl 1 (by decide) (hts _ qX6_readNext_3) (fun _ h9 => h9) rfl dX6_readNext_13 ?_
      refine lv_icmp_ge (tgt := 47) hx hb dX6_readNext_16 (by decide) (fun c5 => ?_) (fun c5 => ?_)
      · have hf := q_t c5 hf
        exact kxn3 sl2 (q_s1 hf) _ _ hP hD hS _ hl
      · have hf := q_f c5 hf
        refine lv_aload_n hx hb dX6_readNext_19 rfl (lv_at hl 0 rfl) ?_
        refine va_get (D := (dC, dI)) (ci := 6) (v := .ref (a0 0)) (C := RX6) (T := TX6) (N := 5) hx hb hts nX6_readNext_6 hown hK hP 0 rfl rfl 0 (by decide) (hts _ qX6_readNext_4) (fun _ h9 => h9) rfl dX6_readNext_20 ?_
        refine lv_aload_n hx hb dX6_readNext_23 rfl (lv_at hl 0 rfl) ?_
        refine va_get (D := (dC, dI)) (ci := 6) (v := .int (sl2 2 0)) (C := RX6) (T := TX6) (N := 5) hx hb hts nX6_readNext_6 hown hK hP 0 rfl rfl 2 (by decide) (hts _ qX6_readNext_2) (fun _ h9 => h9) rfl dX6_readNext_24 ?_
        obtain ⟨c6, hf⟩ := q_ck hf
        refine va_bald hx hb hK hP 1 1 rfl rfl c6 dX6_readNext_27 ?_
        obtain ⟨r7, h8, hf⟩ := q_b1o hf
        refine q_roSi (As := [.int (sl2 0 (sl2 2 0).toNatClampNeg)]) (rest := []) ⟨hx, hb, hml, hown, hts⟩ (kX6_isBlank l (sl2 0 (sl2 2 0).toNatClampNeg) r7 h8) (va_cwS 1 hts gX6_readNext_X6_isBlank rfl rfl rfl hdX6_isBlank ⟨Nat.le_of_ble_eq_true rfl, Nat.le_of_ble_eq_true rfl⟩) rfl hl.1 rfl (Nat.le_of_ble_eq_true rfl) dX6_readNext_28 ⟨Nat.zero_le _, Nat.zero_le _⟩ ?_
        refine lv_if_eq (tgt := 47) hx hb dX6_readNext_31 (by decide) (fun c9 => ?_) (fun c9 => ?_)
        · have hf := q_t c9 hf
          exact kxn3 sl2 (q_s1 hf) _ _ hP hD hS _ hl
        · have hf := q_f c9 hf
          refine lv_aload_n hx hb dX6_readNext_34 rfl (lv_at hl 0 rfl) ?_
          refine lv_dup hx hb dX6_readNext_35 rfl ?_
          refine va_get (D := (dC, dI)) (ci := 6) (v := .int (sl2 2 0)) (C := RX6) (T := TX6) (N := 5) hx hb hts nX6_readNext_6 hown hK hP 0 rfl rfl 2 (by decide) (hts _ qX6_readNext_2) (fun _ h9 => h9) rfl dX6_readNext_36 ?_
          refine lv_iconst (v := 1) hx hb dX6_readNext_39 (by decide) ?_
          refine lv_iadd hx hb dX6_readNext_40 ?_
          obtain ⟨sn10, esn10, hf⟩ := q_lto hf
          refine va_put (D := (dC, dI)) (ci := 6) (v := .int ((sl2 2 0) + (1 : Int32))) (ty := .int) (C := RX6) (T := TX6) (N := 5) hx hb hts nX6_readNext_6 tyX6 tyX6_ok nmX6 hown hK hP hD hS 0 rfl rfl 2 (by decide) (hts _ qX6_readNext_2) (fun _ h9 => h9) rfl (by decide +kernel) rfl rfl (Nat.le_of_ble_eq_true rfl) dX6_readNext_41 (fun H locs hP hD hS => ?_)
          have hP : va_P (dC, dI) vwCl (wcT cB o0 a0 sn10) H := by rw [esn10]; exact hP
          have hD : va_D A (wcT cB o0 a0 sn10) := by rw [esn10]; exact hD
          refine lv_goto (tgt := 8) hx hb dX6_readNext_44 (by decide) ?_
          exact ihn3 sn10 hf _ _ hP hD hS _ hl
  exact aihn3 5000 sn1 hqn3 _ _ hP hD hS _ hl
theorem hdX6_readFirst : yX6_readFirst.cls = RX6 ∧ yX6_readFirst.cls ≠ "java/lang/invoke/MethodHandle" ∧ yX6_readFirst.cls ≠ "java/lang/invoke/VarHandle" ∧ (parseMethodDescriptor yX6_readFirst.desc).map (fun d => d.parameters.length) = some 0 := by decide +kernel
theorem qX6_readFirst_1 : (Cond.fieldLink RX6 17 "DeadAsked$Tape" "behind" "I") ∈ wsX6_readFirst := List.mem_of_getElem? (i := 1) (by decide +kernel)
theorem nX6_readFirst_6 : ∀ w ∈ u_ws RX6 TX6 5, w ∈ wsX6_readFirst := fun _ h => (List.mem_cons_of_mem _ (List.mem_append_right _ h))
set_option maxHeartbeats 4000000 in
set_option maxRecDepth 100000 in
theorem kX6_readFirst (o0 : Nat) (a0 : Nat → Nat) (s0 : St) (sz : Nat) (z0 : St) (hf : fX6_readFirst s0 = some z0) : Met l yX6_readFirst wsX6_readFirst ({ frames := 3, cells := 0, slots := 0, locals := 60 } : Room) (pcW (dC, dI) (q_ty cI cB cZ) [.ref o0] (wcT cB o0 a0 s0) sz) (qvW (dC, dI) (q_ty cI cB cZ) (wcT cB o0 a0 s0) (wcT cB o0 a0 z0) sz) 0 0 (va_A (wcT cB o0 a0 s0) sz) := by
  refine q_rwM (cc := cX6_readFirst) (maxL := 1) (ret := none) (by decide +kernel) rfl (Nat.le_of_ble_eq_true rfl) ?_
  intro p e s m below meth c hx hb hr hlk hml hown hts hK A H hAe hH hsz hP hD hA hS ls hl
  have hown : s.vm.findClass RX6 = some m.cls := hown
  have hl : lv_has ls 1 [(0, .ref o0)] := hl
  unfold fX6_readFirst at hf
  refine lv_aload_n hx hb dX6_readFirst_0 rfl (lv_at hl 0 rfl) ?_
  refine lv_iconst (v := 0) hx hb dX6_readFirst_1 (by decide) ?_
  obtain ⟨sn1, esn1, hf⟩ := q_lto hf
  refine va_put (D := (dC, dI)) (ci := 6) (v := .int (0 : Int32)) (ty := .int) (C := RX6) (T := TX6) (N := 5) hx hb hts nX6_readFirst_6 tyX6 tyX6_ok nmX6 hown hK hP hD hS 0 rfl rfl 3 (by decide) (hts _ qX6_readFirst_1) (fun _ h9 => h9) rfl (by decide +kernel) rfl rfl (Nat.le_of_ble_eq_true rfl) dX6_readFirst_2 (fun H locs hP hD hS => ?_)
  have hP : va_P (dC, dI) vwCl (wcT cB o0 a0 sn1) H := by rw [esn1]; exact hP
  have hD : va_D A (wcT cB o0 a0 sn1) := by rw [esn1]; exact hD
  refine lv_aload_n hx hb dX6_readFirst_5 rfl (lv_at hl 0 rfl) ?_
  obtain ⟨sc2, h3, hf⟩ := q_b1o hf
  refine q_rwVv (As := []) (rest := []) (ci := 6) (wr := []) (w2 := (wcT cB o0 a0 sc2)) ⟨hx, hb, hml, hown, hts⟩ (kX6_readNext l dC dI cI cB cZ o0 a0 sn1 H.size sc2 h3) (cwV 0 hts gX6_readFirst_X6_readNext rfl rfl rfl hdX6_readNext ⟨Nat.le_of_ble_eq_true rfl, Nat.le_of_ble_eq_true rfl⟩) hK hP hD hS hA [0, 1] [] [0, 1] rfl rfl (by decide) (by decide) (by decide) rfl (by decide) rfl rfl rfl hl.1 rfl (Nat.le_of_ble_eq_true rfl) dX6_readFirst_6 ⟨Nat.zero_le _, Nat.zero_le _⟩ (fun H locs hP hD hS => ?_)
  have ee0 := q_s1 hf
  subst ee0
  exact q_wretV hx hb hr hlk hAe hK hP hD hS dX6_readFirst_9
theorem hdX6_tokenStart : yX6_tokenStart.cls = RX6 ∧ yX6_tokenStart.cls ≠ "java/lang/invoke/MethodHandle" ∧ yX6_tokenStart.cls ≠ "java/lang/invoke/VarHandle" ∧ (parseMethodDescriptor yX6_tokenStart.desc).map (fun d => d.parameters.length) = some 0 := by decide +kernel
theorem qX6_tokenStart_1 : (Cond.fieldLink RX6 23 "DeadAsked$Tape" "start" "I") ∈ wsX6_tokenStart := List.mem_of_getElem? (i := 1) (by decide +kernel)
theorem nX6_tokenStart_6 : ∀ w ∈ u_ws RX6 TX6 5, w ∈ wsX6_tokenStart := fun _ h => (List.mem_cons_of_mem _ (List.mem_append_right _ h))
set_option maxHeartbeats 4000000 in
set_option maxRecDepth 100000 in
theorem kX6_tokenStart (o0 : Nat) (a0 : Nat → Nat) (s0 : St) (r : Int32) (hf : fX6_tokenStart s0 = some r) : Met l yX6_tokenStart wsX6_tokenStart ({ frames := 0, cells := 0, slots := 0, locals := 0 } : Room) (pcR (dC, dI) (q_ty cI cB cZ) [.ref o0] (wcT cB o0 a0 s0)) (qiR r) 0 0 (fun _ => False) := by
  refine q_roM (cc := cX6_tokenStart) (maxL := 1) (ret := (some .int)) (by decide +kernel) rfl (Nat.le_of_ble_eq_true rfl) ?_
  intro p e s m below meth c hx hb hr hlk hml hown hts hK hP ls hl
  have hown : s.vm.findClass RX6 = some m.cls := hown
  have hl : lv_has ls 1 [(0, .ref o0)] := hl
  unfold fX6_tokenStart at hf
  refine lv_aload_n hx hb dX6_tokenStart_0 rfl (lv_at hl 0 rfl) ?_
  refine va_get (D := (dC, dI)) (ci := 6) (v := .int (s0 2 0)) (C := RX6) (T := TX6) (N := 5) hx hb hts nX6_tokenStart_6 hown hK hP 0 rfl rfl 2 (by decide) (hts _ qX6_tokenStart_1) (fun _ h9 => h9) rfl dX6_tokenStart_1 ?_
  have ee0 := q_s1 hf
  exact q_retI hx hb hr hlk ee0 dX6_tokenStart_4
theorem hdX6_isSort : yX6_isSort.cls = RX6 ∧ yX6_isSort.cls ≠ "java/lang/invoke/MethodHandle" ∧ yX6_isSort.cls ≠ "java/lang/invoke/VarHandle" ∧ (parseMethodDescriptor yX6_isSort.desc).map (fun d => d.parameters.length) = some 1 := by decide +kernel
theorem qX6_isSort_1 : (Cond.fieldLink RX6 30 "DeadAsked$Tape" "sort" "I") ∈ wsX6_isSort := List.mem_of_getElem? (i := 1) (by decide +kernel)
theorem nX6_isSort_6 : ∀ w ∈ u_ws RX6 TX6 5, w ∈ wsX6_isSort := fun _ h => (List.mem_cons_of_mem _ (List.mem_append_right _ h))
set_option maxHeartbeats 4000000 in
set_option maxRecDepth 100000 in
theorem kX6_isSort (o0 : Nat) (a0 : Nat → Nat) (s0 : St) (p1 : Int32) (r : Int32) (hf : fX6_isSort s0 p1 = some r) : Met l yX6_isSort wsX6_isSort ({ frames := 0, cells := 0, slots := 0, locals := 0 } : Room) (pcR (dC, dI) (q_ty cI cB cZ) [.ref o0, .int p1] (wcT cB o0 a0 s0)) (qiR r) 0 0 (fun _ => False) := by
  refine q_roM (cc := cX6_isSort) (maxL := 2) (ret := (some .boolean)) (by decide +kernel) rfl (Nat.le_of_ble_eq_true rfl) ?_
  intro p e s m below meth c hx hb hr hlk hml hown hts hK hP ls hl
  have hown : s.vm.findClass RX6 = some m.cls := hown
  have hl : lv_has ls 2 [(0, .ref o0), (1, .int p1)] := hl
  unfold fX6_isSort at hf
  refine lv_aload_n hx hb dX6_isSort_0 rfl (lv_at hl 0 rfl) ?_
  refine va_get (D := (dC, dI)) (ci := 6) (v := .int (s0 4 0)) (C := RX6) (T := TX6) (N := 5) hx hb hts nX6_isSort_6 hown hK hP 0 rfl rfl 4 (by decide) (hts _ qX6_isSort_1) (fun _ h9 => h9) rfl dX6_isSort_1 ?_
  refine lv_iload_n hx hb dX6_isSort_4 rfl (lv_at hl 1 rfl) ?_
  refine lv_icmp_ne (tgt := 12) hx hb dX6_isSort_5 (by decide) (fun c1 => ?_) (fun c1 => ?_)
  · have hf := q_f c1 hf
    refine lv_iconst (v := 0) hx hb dX6_isSort_12 (by decide) ?_
    have ee0 := q_s1 hf
    exact q_retZ hx hb hr hlk rfl ee0 dX6_isSort_13
  · have hf := q_t c1 hf
    refine lv_iconst (v := 1) hx hb dX6_isSort_8 (by decide) ?_
    refine lv_goto (tgt := 13) hx hb dX6_isSort_9 (by decide) ?_
    have ee0 := q_s1 hf
    exact q_retZ hx hb hr hlk rfl ee0 dX6_isSort_13
theorem hdX6_number : yX6_number.cls = RX6 ∧ yX6_number.cls ≠ "java/lang/invoke/MethodHandle" ∧ yX6_number.cls ≠ "java/lang/invoke/VarHandle" ∧ (parseMethodDescriptor yX6_number.desc).map (fun d => d.parameters.length) = some 0 := by decide +kernel
theorem qX6_number_1 : (Cond.fieldLink RX6 23 "DeadAsked$Tape" "start" "I") ∈ wsX6_number := List.mem_of_getElem? (i := 1) (by decide +kernel)
theorem qX6_number_2 : (Cond.fieldLink RX6 17 "DeadAsked$Tape" "behind" "I") ∈ wsX6_number := List.mem_of_getElem? (i := 2) (by decide +kernel)
theorem qX6_number_3 : (Cond.fieldLink RX6 13 "DeadAsked$Tape" "used" "I") ∈ wsX6_number := List.mem_of_getElem? (i := 3) (by decide +kernel)
theorem qX6_number_4 : (Cond.fieldLink RX6 9 "DeadAsked$Tape" "bytes" "[B") ∈ wsX6_number := List.mem_of_getElem? (i := 4) (by decide +kernel)
theorem nX6_number_6 : ∀ w ∈ u_ws RX6 TX6 5, w ∈ wsX6_number := fun _ h => (List.mem_cons_of_mem _ (List.mem_append_right _ h))
set_option maxHeartbeats 4000000 in
set_option maxRecDepth 100000 in
theorem kX6_number (o0 : Nat) (a0 : Nat → Nat) (s0 : St) (r : Int32) (hf : fX6_number s0 = some r) : Met l yX6_number wsX6_number ({ frames := 0, cells := 0, slots := 0, locals := 0 } : Room) (pcR (dC, dI) (q_ty cI cB cZ) [.ref o0] (wcT cB o0 a0 s0)) (qiR r) 0 0 (fun _ => False) := by
  refine q_roM (cc := cX6_number) (maxL := 3) (ret := (some .int)) (by decide +kernel) rfl (Nat.le_of_ble_eq_true rfl) ?_
  intro p e s m below meth c hx hb hr hlk hml hown hts hK hP ls hl
  have hown : s.vm.findClass RX6 = some m.cls := hown
  have hl : lv_has ls 3 [(0, .ref o0)] := hl
  unfold fX6_number at hf
  refine lv_iconst (v := 0) hx hb dX6_number_0 (by decide) ?_
  refine lv_istore_n (lv' := [(1, .int (0 : Int32)), (0, .ref o0)]) hx hb dX6_number_1 rfl hl (by decide) rfl (fun ls hl => ?_)
  refine lv_aload_n hx hb dX6_number_2 rfl (lv_at hl 1 rfl) ?_
  refine va_get (D := (dC, dI)) (ci := 6) (v := .int (s0 2 0)) (C := RX6) (T := TX6) (N := 5) hx hb hts nX6_number_6 hown hK hP 0 rfl rfl 2 (by decide) (hts _ qX6_number_1) (fun _ h9 => h9) rfl dX6_number_3 ?_
  refine lv_istore_n (lv' := [(2, .int (s0 2 0)), (1, .int (0 : Int32)), (0, .ref o0)]) hx hb dX6_number_6 rfl hl (by decide) rfl (fun ls hl => ?_)
  obtain ⟨oz4, hqn3, hf⟩ := q_b1o hf
  have kxn3 : ∀ z4 : Int32, z4 = oz4 → ∀ ls : Array Slot, lv_has ls 3 [(1, .int z4)] → W p l e ({ frames := 0, cells := 0, slots := 0, locals := 0 } : Room) s m [.ref o0].toArray below meth c s.heap [] 0 0 (MQ below (qiR r) [.ref o0].toArray s 0 0 (fun _ => False)) (F0 m 44 ls []) := by
    intro z4 ez4 ls hl
    subst ez4
    refine lv_iload_n hx hb dX6_number_44 rfl (lv_at hl 0 rfl) ?_
    have ee0 := q_s1 hf
    exact q_retI hx hb hr hlk ee0 dX6_number_45
  have aihn3 : ∀ n3 : Nat, ∀ l1_1 : Int32, ∀ l2_2 : Int32, fX6_number_L7 s0 n3 l1_1 l2_2 = some oz4 → ∀ ls : Array Slot, lv_has ls 3 [(2, .int l2_2), (1, .int l1_1), (0, .ref o0)] → W p l e ({ frames := 0, cells := 0, slots := 0, locals := 0 } : Room) s m [.ref o0].toArray below meth c s.heap [] 0 0 (MQ below (qiR r) [.ref o0].toArray s 0 0 (fun _ => False)) (F0 m 7 ls []) := by
    intro n3
    induction n3 with
    | zero =>
      intro l1_1 l2_2 hf
      exact q_no hf
    | succ n3 ihn3 =>
      intro l1_1 l2_2 hf ls hl
      rw [fX6_number_L7] at hf
      refine lv_iload_n hx hb dX6_number_7 rfl (lv_at hl 0 rfl) ?_
      refine lv_aload_n hx hb dX6_number_8 rfl (lv_at hl 2 rfl) ?_
      refine va_get (D := (dC, dI)) (ci := 6) (v := .int (s0 3 0)) (C := RX6) (T := TX6) (N := 5) hx hb hts nX6_number_6 hown hK hP 0 rfl rfl 3 (by decide) (hts _ qX6_number_2) (fun _ h9 => h9) rfl dX6_number_9 ?_
      refine lv_icmp_ge (tgt := 44) hx hb dX6_number_12 (by decide) (fun c5 => ?_) (fun c5 => ?_)
      · have hf := q_t c5 hf
        exact kxn3 l1_1 (q_s1 hf) _ (lv_sub hl [1] rfl)
      · have hf := q_f c5 hf
        refine lv_iload_n hx hb dX6_number_15 rfl (lv_at hl 0 rfl) ?_
        refine lv_aload_n hx hb dX6_number_16 rfl (lv_at hl 2 rfl) ?_
        refine va_get (D := (dC, dI)) (ci := 6) (v := .int (s0 1 0)) (C := RX6) (T := TX6) (N := 5) hx hb hts nX6_number_6 hown hK hP 0 rfl rfl 1 (by decide) (hts _ qX6_number_3) (fun _ h9 => h9) rfl dX6_number_17 ?_
        refine lv_icmp_ge (tgt := 44) hx hb dX6_number_20 (by decide) (fun c6 => ?_) (fun c6 => ?_)
        · have hf := q_t c6 hf
          exact kxn3 l1_1 (q_s1 hf) _ (lv_sub hl [1] rfl)
        · have hf := q_f c6 hf
          refine lv_iload_n hx hb dX6_number_23 rfl (lv_at hl 1 rfl) ?_
          refine lv_bipush (v := 10) hx hb dX6_number_24 (by decide) ?_
          refine lv_imul hx hb dX6_number_26 ?_
          refine lv_aload_n hx hb dX6_number_27 rfl (lv_at hl 2 rfl) ?_
          refine va_get (D := (dC, dI)) (ci := 6) (v := .ref (a0 0)) (C := RX6) (T := TX6) (N := 5) hx hb hts nX6_number_6 hown hK hP 0 rfl rfl 0 (by decide) (hts _ qX6_number_4) (fun _ h9 => h9) rfl dX6_number_28 ?_
          refine lv_iload_n hx hb dX6_number_31 rfl (lv_at hl 0 rfl) ?_
          obtain ⟨c7, hf⟩ := q_ck hf
          refine va_bald hx hb hK hP 1 1 rfl rfl c7 dX6_number_32 ?_
          refine lv_bipush (v := 48) hx hb dX6_number_33 (by decide) ?_
          refine lv_isub hx hb dX6_number_35 ?_
          refine lv_iadd hx hb dX6_number_36 ?_
          obtain ⟨x8, ex8, hf⟩ := q_lto hf
          refine W.eq (g2 := F0 m 37 ls [.int x8]) (by rw [ex8]) ?_
          refine lv_istore_n (lv' := [(1, .int x8), (2, .int l2_2), (0, .ref o0)]) hx hb dX6_number_37 rfl hl (by decide) rfl (fun ls hl => ?_)
          refine lv_iinc (v := l2_2 + (1 : Int32)) (lv' := [(2, .int (l2_2 + (1 : Int32))), (1, .int x8), (0, .ref o0)]) hx hb dX6_number_38 hl (k := 1) rfl rfl (by decide) rfl (fun ls hl => ?_)
          refine lv_goto (tgt := 7) hx hb dX6_number_41 (by decide) ?_
          exact ihn3 x8 (l2_2 + (1 : Int32)) hf _ hl
  exact aihn3 5000 (0 : Int32) (s0 2 0) hqn3 _ hl
theorem hdX5_isRow : yX5_isRow.cls = RX5 ∧ yX5_isRow.cls ≠ "java/lang/invoke/MethodHandle" ∧ yX5_isRow.cls ≠ "java/lang/invoke/VarHandle" ∧ (parseMethodDescriptor yX5_isRow.desc).map (fun d => d.parameters.length) = some 1 := by decide +kernel
set_option maxHeartbeats 4000000 in
set_option maxRecDepth 100000 in
theorem kX5_isRow (o0 : Nat) (a0 : Nat → Nat) (s0 : St) (p1 : Int32) (r : Int32) (hf : fX5_isRow p1 = some r) : Met l yX5_isRow wsX5_isRow ({ frames := 0, cells := 0, slots := 0, locals := 0 } : Room) (pcR (dC, dI) (q_ty cI cB cZ) [.ref o0, .int p1] (wcR cI o0 a0 s0)) (qiR r) 0 0 (fun _ => False) := by
  refine q_roM (cc := cX5_isRow) (maxL := 2) (ret := (some .boolean)) (by decide +kernel) rfl (Nat.le_of_ble_eq_true rfl) ?_
  intro p e s m below meth c hx hb hr hlk hml hown hts hK hP ls hl
  have hown : s.vm.findClass RX5 = some m.cls := hown
  have hl : lv_has ls 2 [(0, .ref o0), (1, .int p1)] := hl
  unfold fX5_isRow at hf
  refine lv_iload_n hx hb dX5_isRow_0 rfl (lv_at hl 1 rfl) ?_
  refine lv_if_lt (tgt := 14) hx hb dX5_isRow_1 (by decide) (fun c1 => ?_) (fun c1 => ?_)
  · have hf := q_t c1 hf
    refine lv_iconst (v := 0) hx hb dX5_isRow_14 (by decide) ?_
    have ee0 := q_s1 hf
    exact q_retZ hx hb hr hlk rfl ee0 dX5_isRow_15
  · have hf := q_f c1 hf
    refine lv_iload_n hx hb dX5_isRow_4 rfl (lv_at hl 1 rfl) ?_
    refine lv_bipush (v := 8) hx hb dX5_isRow_5 (by decide) ?_
    refine lv_icmp_ge (tgt := 14) hx hb dX5_isRow_7 (by decide) (fun c2 => ?_) (fun c2 => ?_)
    · have hf := q_t c2 hf
      refine lv_iconst (v := 0) hx hb dX5_isRow_14 (by decide) ?_
      have ee0 := q_s1 hf
      exact q_retZ hx hb hr hlk rfl ee0 dX5_isRow_15
    · have hf := q_f c2 hf
      refine lv_iconst (v := 1) hx hb dX5_isRow_10 (by decide) ?_
      refine lv_goto (tgt := 15) hx hb dX5_isRow_11 (by decide) ?_
      have ee0 := q_s1 hf
      exact q_retZ hx hb hr hlk rfl ee0 dX5_isRow_15
theorem hdX5_isLane : yX5_isLane.cls = RX5 ∧ yX5_isLane.cls ≠ "java/lang/invoke/MethodHandle" ∧ yX5_isLane.cls ≠ "java/lang/invoke/VarHandle" ∧ (parseMethodDescriptor yX5_isLane.desc).map (fun d => d.parameters.length) = some 1 := by decide +kernel
set_option maxHeartbeats 4000000 in
set_option maxRecDepth 100000 in
theorem kX5_isLane (o0 : Nat) (a0 : Nat → Nat) (s0 : St) (p1 : Int32) (r : Int32) (hf : fX5_isLane p1 = some r) : Met l yX5_isLane wsX5_isLane ({ frames := 0, cells := 0, slots := 0, locals := 0 } : Room) (pcR (dC, dI) (q_ty cI cB cZ) [.ref o0, .int p1] (wcR cI o0 a0 s0)) (qiR r) 0 0 (fun _ => False) := by
  refine q_roM (cc := cX5_isLane) (maxL := 2) (ret := (some .boolean)) (by decide +kernel) rfl (Nat.le_of_ble_eq_true rfl) ?_
  intro p e s m below meth c hx hb hr hlk hml hown hts hK hP ls hl
  have hown : s.vm.findClass RX5 = some m.cls := hown
  have hl : lv_has ls 2 [(0, .ref o0), (1, .int p1)] := hl
  unfold fX5_isLane at hf
  refine lv_iload_n hx hb dX5_isLane_0 rfl (lv_at hl 1 rfl) ?_
  refine lv_if_lt (tgt := 13) hx hb dX5_isLane_1 (by decide) (fun c1 => ?_) (fun c1 => ?_)
  · have hf := q_t c1 hf
    refine lv_iconst (v := 0) hx hb dX5_isLane_13 (by decide) ?_
    have ee0 := q_s1 hf
    exact q_retZ hx hb hr hlk rfl ee0 dX5_isLane_14
  · have hf := q_f c1 hf
    refine lv_iload_n hx hb dX5_isLane_4 rfl (lv_at hl 1 rfl) ?_
    refine lv_iconst (v := 3) hx hb dX5_isLane_5 (by decide) ?_
    refine lv_icmp_ge (tgt := 13) hx hb dX5_isLane_6 (by decide) (fun c2 => ?_) (fun c2 => ?_)
    · have hf := q_t c2 hf
      refine lv_iconst (v := 0) hx hb dX5_isLane_13 (by decide) ?_
      have ee0 := q_s1 hf
      exact q_retZ hx hb hr hlk rfl ee0 dX5_isLane_14
    · have hf := q_f c2 hf
      refine lv_iconst (v := 1) hx hb dX5_isLane_9 (by decide) ?_
      refine lv_goto (tgt := 14) hx hb dX5_isLane_10 (by decide) ?_
      have ee0 := q_s1 hf
      exact q_retZ hx hb hr hlk rfl ee0 dX5_isLane_14
theorem hdX5_isMissing : yX5_isMissing.cls = RX5 ∧ yX5_isMissing.cls ≠ "java/lang/invoke/MethodHandle" ∧ yX5_isMissing.cls ≠ "java/lang/invoke/VarHandle" ∧ (parseMethodDescriptor yX5_isMissing.desc).map (fun d => d.parameters.length) = some 1 := by decide +kernel
theorem qX5_isMissing_1 : (Cond.fieldLink RX5 9 "DeadAsked$Rows" "lanes" "[I") ∈ wsX5_isMissing := List.mem_of_getElem? (i := 1) (by decide +kernel)
theorem nX5_isMissing_5 : ∀ w ∈ u_ws RX5 TX5 3, w ∈ wsX5_isMissing := fun _ h => (List.mem_cons_of_mem _ (List.mem_append_right _ h))
set_option maxHeartbeats 4000000 in
set_option maxRecDepth 100000 in
theorem kX5_isMissing (o0 : Nat) (a0 : Nat → Nat) (s0 : St) (p1 : Int32) (r : Int32) (hf : fX5_isMissing s0 p1 = some r) : Met l yX5_isMissing wsX5_isMissing ({ frames := 1, cells := 0, slots := 0, locals := 21 } : Room) (pcR (dC, dI) (q_ty cI cB cZ) [.ref o0, .int p1] (wcR cI o0 a0 s0)) (qiR r) 0 0 (fun _ => False) := by
  refine q_roM (cc := cX5_isMissing) (maxL := 2) (ret := (some .boolean)) (by decide +kernel) rfl (Nat.le_of_ble_eq_true rfl) ?_
  intro p e s m below meth c hx hb hr hlk hml hown hts hK hP ls hl
  have hown : s.vm.findClass RX5 = some m.cls := hown
  have hl : lv_has ls 2 [(0, .ref o0), (1, .int p1)] := hl
  unfold fX5_isMissing at hf
  refine lv_aload_n hx hb dX5_isMissing_0 rfl (lv_at hl 0 rfl) ?_
  refine lv_iload_n hx hb dX5_isMissing_1 rfl (lv_at hl 1 rfl) ?_
  obtain ⟨r1, h2, hf⟩ := q_b1o hf
  refine q_roVi (As := [.int p1]) (rest := []) (ci := 5) ⟨hx, hb, hml, hown, hts⟩ (kX5_isRow l dC dI cI cB cZ o0 a0 s0 p1 r1 h2) (cwV 1 hts gX5_isMissing_X5_isRow rfl rfl rfl hdX5_isRow ⟨Nat.le_of_ble_eq_true rfl, Nat.le_of_ble_eq_true rfl⟩) hK hP rfl rfl rfl hl.1 rfl (Nat.le_of_ble_eq_true rfl) dX5_isMissing_2 ⟨Nat.zero_le _, Nat.zero_le _⟩ ?_
  refine lv_if_eq (tgt := 18) hx hb dX5_isMissing_5 (by decide) (fun c3 => ?_) (fun c3 => ?_)
  · have hf := q_t c3 hf
    refine lv_iconst (v := 1) hx hb dX5_isMissing_18 (by decide) ?_
    refine lv_goto (tgt := 23) hx hb dX5_isMissing_19 (by decide) ?_
    have ee0 := q_s1 hf
    exact q_retZ hx hb hr hlk rfl ee0 dX5_isMissing_23
  · have hf := q_f c3 hf
    refine lv_aload_n hx hb dX5_isMissing_8 rfl (lv_at hl 0 rfl) ?_
    refine va_get (D := (dC, dI)) (ci := 5) (v := .ref (a0 0)) (C := RX5) (T := TX5) (N := 3) hx hb hts nX5_isMissing_5 hown hK hP 0 rfl rfl 0 (by decide) (hts _ qX5_isMissing_1) (fun _ h9 => h9) rfl dX5_isMissing_9 ?_
    refine lv_iload_n hx hb dX5_isMissing_12 rfl (lv_at hl 1 rfl) ?_
    obtain ⟨c4, hf⟩ := q_ck hf
    refine va_iald hx hb hK hP 1 0 rfl rfl c4 dX5_isMissing_13 ?_
    refine lv_iconst (v := -1) hx hb dX5_isMissing_14 (by decide) ?_
    refine lv_icmp_ne (tgt := 22) hx hb dX5_isMissing_15 (by decide) (fun c5 => ?_) (fun c5 => ?_)
    · have hf := q_f c5 hf
      refine lv_iconst (v := 0) hx hb dX5_isMissing_22 (by decide) ?_
      have ee0 := q_s1 hf
      exact q_retZ hx hb hr hlk rfl ee0 dX5_isMissing_23
    · have hf := q_t c5 hf
      refine lv_iconst (v := 1) hx hb dX5_isMissing_18 (by decide) ?_
      refine lv_goto (tgt := 23) hx hb dX5_isMissing_19 (by decide) ?_
      have ee0 := q_s1 hf
      exact q_retZ hx hb hr hlk rfl ee0 dX5_isMissing_23
theorem hdX5_areOfOneLane : yX5_areOfOneLane.cls = RX5 ∧ yX5_areOfOneLane.cls ≠ "java/lang/invoke/MethodHandle" ∧ yX5_areOfOneLane.cls ≠ "java/lang/invoke/VarHandle" ∧ (parseMethodDescriptor yX5_areOfOneLane.desc).map (fun d => d.parameters.length) = some 2 := by decide +kernel
theorem qX5_areOfOneLane_1 : (Cond.fieldLink RX5 9 "DeadAsked$Rows" "lanes" "[I") ∈ wsX5_areOfOneLane := List.mem_of_getElem? (i := 1) (by decide +kernel)
theorem nX5_areOfOneLane_5 : ∀ w ∈ u_ws RX5 TX5 3, w ∈ wsX5_areOfOneLane := fun _ h => (List.mem_cons_of_mem _ (List.mem_append_right _ h))
set_option maxHeartbeats 4000000 in
set_option maxRecDepth 100000 in
theorem kX5_areOfOneLane (o0 : Nat) (a0 : Nat → Nat) (s0 : St) (p1 : Int32) (p2 : Int32) (r : Int32) (hf : fX5_areOfOneLane s0 p1 p2 = some r) : Met l yX5_areOfOneLane wsX5_areOfOneLane ({ frames := 1, cells := 0, slots := 0, locals := 21 } : Room) (pcR (dC, dI) (q_ty cI cB cZ) [.ref o0, .int p1, .int p2] (wcR cI o0 a0 s0)) (qiR r) 0 0 (fun _ => False) := by
  refine q_roM (cc := cX5_areOfOneLane) (maxL := 3) (ret := (some .boolean)) (by decide +kernel) rfl (Nat.le_of_ble_eq_true rfl) ?_
  intro p e s m below meth c hx hb hr hlk hml hown hts hK hP ls hl
  have hown : s.vm.findClass RX5 = some m.cls := hown
  have hl : lv_has ls 3 [(0, .ref o0), (1, .int p1), (2, .int p2)] := hl
  unfold fX5_areOfOneLane at hf
  refine lv_aload_n hx hb dX5_areOfOneLane_0 rfl (lv_at hl 0 rfl) ?_
  refine lv_iload_n hx hb dX5_areOfOneLane_1 rfl (lv_at hl 1 rfl) ?_
  obtain ⟨r1, h2, hf⟩ := q_b1o hf
  refine q_roVi (As := [.int p1]) (rest := []) (ci := 5) ⟨hx, hb, hml, hown, hts⟩ (kX5_isRow l dC dI cI cB cZ o0 a0 s0 p1 r1 h2) (cwV 1 hts gX5_areOfOneLane_X5_isRow rfl rfl rfl hdX5_isRow ⟨Nat.le_of_ble_eq_true rfl, Nat.le_of_ble_eq_true rfl⟩) hK hP rfl rfl rfl hl.1 rfl (Nat.le_of_ble_eq_true rfl) dX5_areOfOneLane_2 ⟨Nat.zero_le _, Nat.zero_le _⟩ ?_
  refine lv_if_eq (tgt := 35) hx hb dX5_areOfOneLane_5 (by decide) (fun c3 => ?_) (fun c3 => ?_)
  · have hf := q_t c3 hf
    refine lv_iconst (v := 0) hx hb dX5_areOfOneLane_35 (by decide) ?_
    have ee0 := q_s1 hf
    exact q_retZ hx hb hr hlk rfl ee0 dX5_areOfOneLane_36
  · have hf := q_f c3 hf
    refine lv_aload_n hx hb dX5_areOfOneLane_8 rfl (lv_at hl 0 rfl) ?_
    refine lv_iload_n hx hb dX5_areOfOneLane_9 rfl (lv_at hl 2 rfl) ?_
    obtain ⟨r4, h5, hf⟩ := q_b1o hf
    refine q_roVi (As := [.int p2]) (rest := []) (ci := 5) ⟨hx, hb, hml, hown, hts⟩ (kX5_isRow l dC dI cI cB cZ o0 a0 s0 p2 r4 h5) (cwV 1 hts gX5_areOfOneLane_X5_isRow rfl rfl rfl hdX5_isRow ⟨Nat.le_of_ble_eq_true rfl, Nat.le_of_ble_eq_true rfl⟩) hK hP rfl rfl rfl hl.1 rfl (Nat.le_of_ble_eq_true rfl) dX5_areOfOneLane_10 ⟨Nat.zero_le _, Nat.zero_le _⟩ ?_
    refine lv_if_eq (tgt := 35) hx hb dX5_areOfOneLane_13 (by decide) (fun c6 => ?_) (fun c6 => ?_)
    · have hf := q_t c6 hf
      refine lv_iconst (v := 0) hx hb dX5_areOfOneLane_35 (by decide) ?_
      have ee0 := q_s1 hf
      exact q_retZ hx hb hr hlk rfl ee0 dX5_areOfOneLane_36
    · have hf := q_f c6 hf
      refine lv_aload_n hx hb dX5_areOfOneLane_16 rfl (lv_at hl 0 rfl) ?_
      refine va_get (D := (dC, dI)) (ci := 5) (v := .ref (a0 0)) (C := RX5) (T := TX5) (N := 3) hx hb hts nX5_areOfOneLane_5 hown hK hP 0 rfl rfl 0 (by decide) (hts _ qX5_areOfOneLane_1) (fun _ h9 => h9) rfl dX5_areOfOneLane_17 ?_
      refine lv_iload_n hx hb dX5_areOfOneLane_20 rfl (lv_at hl 1 rfl) ?_
      obtain ⟨c7, hf⟩ := q_ck hf
      refine va_iald hx hb hK hP 1 0 rfl rfl c7 dX5_areOfOneLane_21 ?_
      refine lv_aload_n hx hb dX5_areOfOneLane_22 rfl (lv_at hl 0 rfl) ?_
      refine va_get (D := (dC, dI)) (ci := 5) (v := .ref (a0 0)) (C := RX5) (T := TX5) (N := 3) hx hb hts nX5_areOfOneLane_5 hown hK hP 0 rfl rfl 0 (by decide) (hts _ qX5_areOfOneLane_1) (fun _ h9 => h9) rfl dX5_areOfOneLane_23 ?_
      refine lv_iload_n hx hb dX5_areOfOneLane_26 rfl (lv_at hl 2 rfl) ?_
      obtain ⟨c8, hf⟩ := q_ck hf
      refine va_iald hx hb hK hP 1 0 rfl rfl c8 dX5_areOfOneLane_27 ?_
      refine lv_icmp_ne (tgt := 35) hx hb dX5_areOfOneLane_28 (by decide) (fun c9 => ?_) (fun c9 => ?_)
      · have hf := q_f c9 hf
        refine lv_iconst (v := 0) hx hb dX5_areOfOneLane_35 (by decide) ?_
        have ee0 := q_s1 hf
        exact q_retZ hx hb hr hlk rfl ee0 dX5_areOfOneLane_36
      · have hf := q_t c9 hf
        refine lv_iconst (v := 1) hx hb dX5_areOfOneLane_31 (by decide) ?_
        refine lv_goto (tgt := 36) hx hb dX5_areOfOneLane_32 (by decide) ?_
        have ee0 := q_s1 hf
        exact q_retZ hx hb hr hlk rfl ee0 dX5_areOfOneLane_36
theorem hdX5_holds : yX5_holds.cls = RX5 ∧ yX5_holds.cls ≠ "java/lang/invoke/MethodHandle" ∧ yX5_holds.cls ≠ "java/lang/invoke/VarHandle" ∧ (parseMethodDescriptor yX5_holds.desc).map (fun d => d.parameters.length) = some 3 := by decide +kernel
theorem qX5_holds_1 : (Cond.fieldLink RX5 13 "DeadAsked$Rows" "sizes" "[I") ∈ wsX5_holds := List.mem_of_getElem? (i := 1) (by decide +kernel)
theorem nX5_holds_5 : ∀ w ∈ u_ws RX5 TX5 3, w ∈ wsX5_holds := fun _ h => (List.mem_cons_of_mem _ (List.mem_append_right _ h))
set_option maxHeartbeats 4000000 in
set_option maxRecDepth 100000 in
theorem kX5_holds (o0 : Nat) (a0 : Nat → Nat) (s0 : St) (p1 : Int32) (p2 : Int32) (p3 : Int32) (r : Int32) (hf : fX5_holds s0 p1 p2 p3 = some r) : Met l yX5_holds wsX5_holds ({ frames := 2, cells := 0, slots := 0, locals := 42 } : Room) (pcR (dC, dI) (q_ty cI cB cZ) [.ref o0, .int p1, .int p2, .int p3] (wcR cI o0 a0 s0)) (qiR r) 0 0 (fun _ => False) := by
  refine q_roM (cc := cX5_holds) (maxL := 4) (ret := (some .boolean)) (by decide +kernel) rfl (Nat.le_of_ble_eq_true rfl) ?_
  intro p e s m below meth c hx hb hr hlk hml hown hts hK hP ls hl
  have hown : s.vm.findClass RX5 = some m.cls := hown
  have hl : lv_has ls 4 [(0, .ref o0), (1, .int p1), (2, .int p2), (3, .int p3)] := hl
  unfold fX5_holds at hf
  refine lv_aload_n hx hb dX5_holds_0 rfl (lv_at hl 0 rfl) ?_
  refine lv_iload_n hx hb dX5_holds_1 rfl (lv_at hl 1 rfl) ?_
  obtain ⟨r1, h2, hf⟩ := q_b1o hf
  refine q_roVi (As := [.int p1]) (rest := []) (ci := 5) ⟨hx, hb, hml, hown, hts⟩ (kX5_isMissing l dC dI cI cB cZ o0 a0 s0 p1 r1 h2) (cwV 1 hts gX5_holds_X5_isMissing rfl rfl rfl hdX5_isMissing ⟨Nat.le_of_ble_eq_true rfl, Nat.le_of_ble_eq_true rfl⟩) hK hP rfl rfl rfl hl.1 rfl (Nat.le_of_ble_eq_true rfl) dX5_holds_2 ⟨Nat.zero_le _, Nat.zero_le _⟩ ?_
  refine lv_if_ne (tgt := 42) hx hb dX5_holds_5 (by decide) (fun c3 => ?_) (fun c3 => ?_)
  · have hf := q_f c3 hf
    refine lv_iconst (v := 0) hx hb dX5_holds_42 (by decide) ?_
    have ee0 := q_s1 hf
    exact q_retZ hx hb hr hlk rfl ee0 dX5_holds_43
  · have hf := q_t c3 hf
    refine lv_iload_n hx hb dX5_holds_8 rfl (lv_at hl 2 rfl) ?_
    refine lv_if_lt (tgt := 42) hx hb dX5_holds_9 (by decide) (fun c4 => ?_) (fun c4 => ?_)
    · have hf := q_t c4 hf
      refine lv_iconst (v := 0) hx hb dX5_holds_42 (by decide) ?_
      have ee0 := q_s1 hf
      exact q_retZ hx hb hr hlk rfl ee0 dX5_holds_43
    · have hf := q_f c4 hf
      refine lv_iload_n hx hb dX5_holds_12 rfl (lv_at hl 3 rfl) ?_
      refine lv_if_lt (tgt := 42) hx hb dX5_holds_13 (by decide) (fun c5 => ?_) (fun c5 => ?_)
      · have hf := q_t c5 hf
        refine lv_iconst (v := 0) hx hb dX5_holds_42 (by decide) ?_
        have ee0 := q_s1 hf
        exact q_retZ hx hb hr hlk rfl ee0 dX5_holds_43
      · have hf := q_f c5 hf
        refine lv_iload_n hx hb dX5_holds_16 rfl (lv_at hl 2 rfl) ?_
        refine lv_aload_n hx hb dX5_holds_17 rfl (lv_at hl 0 rfl) ?_
        refine va_get (D := (dC, dI)) (ci := 5) (v := .ref (a0 1)) (C := RX5) (T := TX5) (N := 3) hx hb hts nX5_holds_5 hown hK hP 0 rfl rfl 1 (by decide) (hts _ qX5_holds_1) (fun _ h9 => h9) rfl dX5_holds_18 ?_
        refine lv_iload_n hx hb dX5_holds_21 rfl (lv_at hl 1 rfl) ?_
        obtain ⟨c6, hf⟩ := q_ck hf
        refine va_iald hx hb hK hP 2 0 rfl rfl c6 dX5_holds_22 ?_
        refine lv_icmp_gt (tgt := 42) hx hb dX5_holds_23 (by decide) (fun c7 => ?_) (fun c7 => ?_)
        · have hf := q_t c7 hf
          refine lv_iconst (v := 0) hx hb dX5_holds_42 (by decide) ?_
          have ee0 := q_s1 hf
          exact q_retZ hx hb hr hlk rfl ee0 dX5_holds_43
        · have hf := q_f c7 hf
          refine lv_iload_n hx hb dX5_holds_26 rfl (lv_at hl 3 rfl) ?_
          refine lv_aload_n hx hb dX5_holds_27 rfl (lv_at hl 0 rfl) ?_
          refine va_get (D := (dC, dI)) (ci := 5) (v := .ref (a0 1)) (C := RX5) (T := TX5) (N := 3) hx hb hts nX5_holds_5 hown hK hP 0 rfl rfl 1 (by decide) (hts _ qX5_holds_1) (fun _ h9 => h9) rfl dX5_holds_28 ?_
          refine lv_iload_n hx hb dX5_holds_31 rfl (lv_at hl 1 rfl) ?_
          obtain ⟨c8, hf⟩ := q_ck hf
          refine va_iald hx hb hK hP 2 0 rfl rfl c8 dX5_holds_32 ?_
          refine lv_iload_n hx hb dX5_holds_33 rfl (lv_at hl 2 rfl) ?_
          refine lv_isub hx hb dX5_holds_34 ?_
          refine lv_icmp_gt (tgt := 42) hx hb dX5_holds_35 (by decide) (fun c9 => ?_) (fun c9 => ?_)
          · have hf := q_t c9 hf
            refine lv_iconst (v := 0) hx hb dX5_holds_42 (by decide) ?_
            have ee0 := q_s1 hf
            exact q_retZ hx hb hr hlk rfl ee0 dX5_holds_43
          · have hf := q_f c9 hf
            refine lv_iconst (v := 1) hx hb dX5_holds_38 (by decide) ?_
            refine lv_goto (tgt := 43) hx hb dX5_holds_39 (by decide) ?_
            have ee0 := q_s1 hf
            exact q_retZ hx hb hr hlk rfl ee0 dX5_holds_43
theorem hdX5_make : yX5_make.cls = RX5 ∧ yX5_make.cls ≠ "java/lang/invoke/MethodHandle" ∧ yX5_make.cls ≠ "java/lang/invoke/VarHandle" ∧ (parseMethodDescriptor yX5_make.desc).map (fun d => d.parameters.length) = some 3 := by decide +kernel
theorem qX5_make_1 : (Cond.fieldLink RX5 9 "DeadAsked$Rows" "lanes" "[I") ∈ wsX5_make := List.mem_of_getElem? (i := 1) (by decide +kernel)
theorem qX5_make_2 : (Cond.fieldLink RX5 13 "DeadAsked$Rows" "sizes" "[I") ∈ wsX5_make := List.mem_of_getElem? (i := 2) (by decide +kernel)
theorem qX5_make_3 : (Cond.fieldLink RX5 16 "DeadAsked$Rows" "items" "[I") ∈ wsX5_make := List.mem_of_getElem? (i := 3) (by decide +kernel)
theorem nX5_make_5 : ∀ w ∈ u_ws RX5 TX5 3, w ∈ wsX5_make := fun _ h => (List.mem_cons_of_mem _ (List.mem_append_right _ h))
set_option maxHeartbeats 4000000 in
set_option maxRecDepth 100000 in
theorem kX5_make (o0 : Nat) (a0 : Nat → Nat) (s0 : St) (p1 : Int32) (p2 : Int32) (p3 : Int32) (sz : Nat) (z0 : St) (hf : fX5_make s0 p1 p2 p3 = some z0) : Met l yX5_make wsX5_make ({ frames := 1, cells := 0, slots := 0, locals := 21 } : Room) (pcW (dC, dI) (q_ty cI cB cZ) [.ref o0, .int p1, .int p2, .int p3] (wcR cI o0 a0 s0) sz) (qvW (dC, dI) (q_ty cI cB cZ) (wcR cI o0 a0 s0) (wcR cI o0 a0 z0) sz) 0 0 (va_A (wcR cI o0 a0 s0) sz) := by
  refine q_rwM (cc := cX5_make) (maxL := 5) (ret := none) (by decide +kernel) rfl (Nat.le_of_ble_eq_true rfl) ?_
  intro p e s m below meth c hx hb hr hlk hml hown hts hK A H hAe hH hsz hP hD hA hS ls hl
  have hown : s.vm.findClass RX5 = some m.cls := hown
  have hl : lv_has ls 5 [(0, .ref o0), (1, .int p1), (2, .int p2), (3, .int p3)] := hl
  unfold fX5_make at hf
  refine lv_aload_n hx hb dX5_make_0 rfl (lv_at hl 0 rfl) ?_
  refine lv_iload_n hx hb dX5_make_1 rfl (lv_at hl 1 rfl) ?_
  obtain ⟨r1, h2, hf⟩ := q_b1o hf
  refine q_roVi (As := [.int p1]) (rest := []) (ci := 5) ⟨hx, hb, hml, hown, hts⟩ (kX5_isRow l dC dI cI cB cZ o0 a0 s0 p1 r1 h2) (cwV 1 hts gX5_make_X5_isRow rfl rfl rfl hdX5_isRow ⟨Nat.le_of_ble_eq_true rfl, Nat.le_of_ble_eq_true rfl⟩) hK hP rfl rfl rfl hl.1 rfl (Nat.le_of_ble_eq_true rfl) dX5_make_2 ⟨Nat.zero_le _, Nat.zero_le _⟩ ?_
  refine lv_if_eq (tgt := 26) hx hb dX5_make_5 (by decide) (fun c3 => ?_) (fun c3 => ?_)
  · have hf := q_t c3 hf
    have ee0 := q_s1 hf
    subst ee0
    exact q_wretV hx hb hr hlk hAe hK hP hD hS dX5_make_26
  · have hf := q_f c3 hf
    refine lv_aload_n hx hb dX5_make_8 rfl (lv_at hl 0 rfl) ?_
    refine lv_iload_n hx hb dX5_make_9 rfl (lv_at hl 2 rfl) ?_
    obtain ⟨r4, h5, hf⟩ := q_b1o hf
    refine q_roVi (As := [.int p2]) (rest := []) (ci := 5) ⟨hx, hb, hml, hown, hts⟩ (kX5_isLane l dC dI cI cB cZ o0 a0 s0 p2 r4 h5) (cwV 1 hts gX5_make_X5_isLane rfl rfl rfl hdX5_isLane ⟨Nat.le_of_ble_eq_true rfl, Nat.le_of_ble_eq_true rfl⟩) hK hP rfl rfl rfl hl.1 rfl (Nat.le_of_ble_eq_true rfl) dX5_make_10 ⟨Nat.zero_le _, Nat.zero_le _⟩ ?_
    refine lv_if_eq (tgt := 26) hx hb dX5_make_13 (by decide) (fun c6 => ?_) (fun c6 => ?_)
    · have hf := q_t c6 hf
      have ee0 := q_s1 hf
      subst ee0
      exact q_wretV hx hb hr hlk hAe hK hP hD hS dX5_make_26
    · have hf := q_f c6 hf
      refine lv_iload_n hx hb dX5_make_16 rfl (lv_at hl 3 rfl) ?_
      refine lv_if_lt (tgt := 26) hx hb dX5_make_17 (by decide) (fun c7 => ?_) (fun c7 => ?_)
      · have hf := q_t c7 hf
        have ee0 := q_s1 hf
        subst ee0
        exact q_wretV hx hb hr hlk hAe hK hP hD hS dX5_make_26
      · have hf := q_f c7 hf
        refine lv_iload_n hx hb dX5_make_20 rfl (lv_at hl 3 rfl) ?_
        refine lv_bipush (v := 40) hx hb dX5_make_21 (by decide) ?_
        refine lv_icmp_le (tgt := 27) hx hb dX5_make_23 (by decide) (fun c8 => ?_) (fun c8 => ?_)
        · have hf := q_t c8 hf
          refine lv_aload_n hx hb dX5_make_27 rfl (lv_at hl 0 rfl) ?_
          refine va_get (D := (dC, dI)) (ci := 5) (v := .ref (a0 0)) (C := RX5) (T := TX5) (N := 3) hx hb hts nX5_make_5 hown hK hP 0 rfl rfl 0 (by decide) (hts _ qX5_make_1) (fun _ h9 => h9) rfl dX5_make_28 ?_
          refine lv_iload_n hx hb dX5_make_31 rfl (lv_at hl 1 rfl) ?_
          refine lv_iload_n hx hb dX5_make_32 rfl (lv_at hl 2 rfl) ?_
          obtain ⟨c9, hf⟩ := q_ck hf
          obtain ⟨sn10, esn10, hf⟩ := q_lto hf
          refine va_iast hx hb hK hP hD hS 1 0 rfl rfl c9 dX5_make_33 (fun H locs hP hD hS => ?_)
          have hP : va_P (dC, dI) vwCl (wcR cI o0 a0 sn10) H := by rw [esn10]; exact hP
          have hD : va_D A (wcR cI o0 a0 sn10) := by rw [esn10]; exact hD
          refine lv_aload_n hx hb dX5_make_34 rfl (lv_at hl 0 rfl) ?_
          refine va_get (D := (dC, dI)) (ci := 5) (v := .ref (a0 1)) (C := RX5) (T := TX5) (N := 3) hx hb hts nX5_make_5 hown hK hP 0 rfl rfl 1 (by decide) (hts _ qX5_make_2) (fun _ h9 => h9) rfl dX5_make_35 ?_
          refine lv_iload_n hx hb dX5_make_38 rfl (lv_at hl 1 rfl) ?_
          refine lv_iload_n hx hb dX5_make_39 rfl (lv_at hl 3 rfl) ?_
          obtain ⟨c11, hf⟩ := q_ck hf
          obtain ⟨sn12, esn12, hf⟩ := q_lto hf
          refine va_iast hx hb hK hP hD hS 2 0 rfl rfl c11 dX5_make_40 (fun H locs hP hD hS => ?_)
          have hP : va_P (dC, dI) vwCl (wcR cI o0 a0 sn12) H := by rw [esn12]; exact hP
          have hD : va_D A (wcR cI o0 a0 sn12) := by rw [esn12]; exact hD
          refine lv_iconst (v := 0) hx hb dX5_make_41 (by decide) ?_
          refine lv_istore (lv' := [(4, .int (0 : Int32)), (0, .ref o0), (1, .int p1), (2, .int p2), (3, .int p3)]) hx hb dX5_make_42 hl (by decide) rfl (fun ls hl => ?_)
          obtain ⟨oz16, hqn15, hf⟩ := q_b1o hf
          have kxn15 : ∀ z16 : St, z16 = oz16 → ∀ (H : Heap) (locs : List Loc), va_P (dC, dI) vwCl (wcR cI o0 a0 z16) H → va_D A (wcR cI o0 a0 z16) → va_S A s.heap H locs → ∀ ls : Array Slot, lv_has ls 5 [] → W p l e ({ frames := 1, cells := 0, slots := 0, locals := 21 } : Room) s m [.ref o0, .int p1, .int p2, .int p3].toArray below meth c H locs 0 0 (MQ below (qvW (dC, dI) (q_ty cI cB cZ) (wcR cI o0 a0 s0) (wcR cI o0 a0 z0) sz) [.ref o0, .int p1, .int p2, .int p3].toArray s 0 0 (va_A (wcR cI o0 a0 s0) sz)) (F0 m 69 ls []) := by
            intro z16 ez16 H locs hP hD hS ls hl
            subst ez16
            have ee0 := q_s1 hf
            subst ee0
            exact q_wretV hx hb hr hlk hAe hK hP hD hS dX5_make_69
          have aihn15 : ∀ n15 : Nat, ∀ l4_13 : Int32, ∀ sl14 : St, fX5_make_L44 p1 p3 n15 l4_13 sl14 = some oz16 → ∀ (H : Heap) (locs : List Loc), va_P (dC, dI) vwCl (wcR cI o0 a0 sl14) H → va_D A (wcR cI o0 a0 sl14) → va_S A s.heap H locs → ∀ ls : Array Slot, lv_has ls 5 [(4, .int l4_13), (0, .ref o0), (1, .int p1), (3, .int p3)] → W p l e ({ frames := 1, cells := 0, slots := 0, locals := 21 } : Room) s m [.ref o0, .int p1, .int p2, .int p3].toArray below meth c H locs 0 0 (MQ below (qvW (dC, dI) (q_ty cI cB cZ) (wcR cI o0 a0 s0) (wcR cI o0 a0 z0) sz) [.ref o0, .int p1, .int p2, .int p3].toArray s 0 0 (va_A (wcR cI o0 a0 s0) sz)) (F0 m 44 ls []) := by
            intro n15
            induction n15 with
            | zero =>
              intro l4_13 sl14 hf
              exact q_no hf
            | succ n15 ihn15 =>
              intro l4_13 sl14 hf H locs hP hD hS ls hl
              rw [fX5_make_L44] at hf
              refine lv_iload hx hb dX5_make_44 (lv_at hl 0 rfl) ?_
              refine lv_iload_n hx hb dX5_make_46 rfl (lv_at hl 3 rfl) ?_
              refine lv_icmp_ge (tgt := 69) hx hb dX5_make_47 (by decide) (fun c17 => ?_) (fun c17 => ?_)
              · have hf := q_t c17 hf
                exact kxn15 sl14 (q_s1 hf) _ _ hP hD hS _ (lv_sub hl [] rfl)
              · have hf := q_f c17 hf
                refine lv_aload_n hx hb dX5_make_50 rfl (lv_at hl 1 rfl) ?_
                refine va_get (D := (dC, dI)) (ci := 5) (v := .ref (a0 2)) (C := RX5) (T := TX5) (N := 3) hx hb hts nX5_make_5 hown hK hP 0 rfl rfl 2 (by decide) (hts _ qX5_make_3) (fun _ h9 => h9) rfl dX5_make_51 ?_
                refine lv_iload_n hx hb dX5_make_54 rfl (lv_at hl 2 rfl) ?_
                refine lv_bipush (v := 40) hx hb dX5_make_55 (by decide) ?_
                refine lv_imul hx hb dX5_make_57 ?_
                refine lv_iload hx hb dX5_make_58 (lv_at hl 0 rfl) ?_
                refine lv_iadd hx hb dX5_make_60 ?_
                refine lv_iconst (v := 0) hx hb dX5_make_61 (by decide) ?_
                obtain ⟨c18, hf⟩ := q_ck hf
                obtain ⟨sn19, esn19, hf⟩ := q_lto hf
                refine va_iast hx hb hK hP hD hS 3 0 rfl rfl c18 dX5_make_62 (fun H locs hP hD hS => ?_)
                have hP : va_P (dC, dI) vwCl (wcR cI o0 a0 sn19) H := by rw [esn19]; exact hP
                have hD : va_D A (wcR cI o0 a0 sn19) := by rw [esn19]; exact hD
                refine lv_iinc (v := l4_13 + (1 : Int32)) (lv' := [(4, .int (l4_13 + (1 : Int32))), (0, .ref o0), (1, .int p1), (3, .int p3)]) hx hb dX5_make_63 hl (k := 0) rfl rfl (by decide) rfl (fun ls hl => ?_)
                refine lv_goto (tgt := 44) hx hb dX5_make_66 (by decide) ?_
                exact ihn15 (l4_13 + (1 : Int32)) sn19 hf _ _ hP hD hS _ hl
          exact aihn15 5000 (0 : Int32) sn12 hqn15 _ _ hP hD hS _ (lv_sub hl [0, 1, 2, 4] rfl)
        · have hf := q_f c8 hf
          have ee0 := q_s1 hf
          subst ee0
          exact q_wretV hx hb hr hlk hAe hK hP hD hS dX5_make_26
theorem hdX5_lose : yX5_lose.cls = RX5 ∧ yX5_lose.cls ≠ "java/lang/invoke/MethodHandle" ∧ yX5_lose.cls ≠ "java/lang/invoke/VarHandle" ∧ (parseMethodDescriptor yX5_lose.desc).map (fun d => d.parameters.length) = some 1 := by decide +kernel
theorem qX5_lose_1 : (Cond.fieldLink RX5 9 "DeadAsked$Rows" "lanes" "[I") ∈ wsX5_lose := List.mem_of_getElem? (i := 1) (by decide +kernel)
theorem qX5_lose_2 : (Cond.fieldLink RX5 13 "DeadAsked$Rows" "sizes" "[I") ∈ wsX5_lose := List.mem_of_getElem? (i := 2) (by decide +kernel)
theorem nX5_lose_5 : ∀ w ∈ u_ws RX5 TX5 3, w ∈ wsX5_lose := fun _ h => (List.mem_cons_of_mem _ (List.mem_append_right _ h))
set_option maxHeartbeats 4000000 in
set_option maxRecDepth 100000 in
theorem kX5_lose (o0 : Nat) (a0 : Nat → Nat) (s0 : St) (p1 : Int32) (sz : Nat) (r : Int32) (z0 : St) (hf : fX5_lose s0 p1 = some (r, z0)) : Met l yX5_lose wsX5_lose ({ frames := 2, cells := 0, slots := 0, locals := 42 } : Room) (pcW (dC, dI) (q_ty cI cB cZ) [.ref o0, .int p1] (wcR cI o0 a0 s0) sz) (qiW (dC, dI) (q_ty cI cB cZ) (wcR cI o0 a0 s0) (wcR cI o0 a0 z0) sz r) 0 0 (va_A (wcR cI o0 a0 s0) sz) := by
  refine q_rwM (cc := cX5_lose) (maxL := 2) (ret := (some .int)) (by decide +kernel) rfl (Nat.le_of_ble_eq_true rfl) ?_
  intro p e s m below meth c hx hb hr hlk hml hown hts hK A H hAe hH hsz hP hD hA hS ls hl
  have hown : s.vm.findClass RX5 = some m.cls := hown
  have hl : lv_has ls 2 [(0, .ref o0), (1, .int p1)] := hl
  unfold fX5_lose at hf
  refine lv_aload_n hx hb dX5_lose_0 rfl (lv_at hl 0 rfl) ?_
  refine lv_iload_n hx hb dX5_lose_1 rfl (lv_at hl 1 rfl) ?_
  obtain ⟨r1, h2, hf⟩ := q_b1o hf
  refine q_roVi (As := [.int p1]) (rest := []) (ci := 5) ⟨hx, hb, hml, hown, hts⟩ (kX5_isMissing l dC dI cI cB cZ o0 a0 s0 p1 r1 h2) (cwV 1 hts gX5_lose_X5_isMissing rfl rfl rfl hdX5_isMissing ⟨Nat.le_of_ble_eq_true rfl, Nat.le_of_ble_eq_true rfl⟩) hK hP rfl rfl rfl hl.1 rfl (Nat.le_of_ble_eq_true rfl) dX5_lose_2 ⟨Nat.zero_le _, Nat.zero_le _⟩ ?_
  refine lv_if_eq (tgt := 10) hx hb dX5_lose_5 (by decide) (fun c3 => ?_) (fun c3 => ?_)
  · have hf := q_t c3 hf
    refine lv_aload_n hx hb dX5_lose_10 rfl (lv_at hl 0 rfl) ?_
    refine va_get (D := (dC, dI)) (ci := 5) (v := .ref (a0 0)) (C := RX5) (T := TX5) (N := 3) hx hb hts nX5_lose_5 hown hK hP 0 rfl rfl 0 (by decide) (hts _ qX5_lose_1) (fun _ h9 => h9) rfl dX5_lose_11 ?_
    refine lv_iload_n hx hb dX5_lose_14 rfl (lv_at hl 1 rfl) ?_
    refine lv_iconst (v := -1) hx hb dX5_lose_15 (by decide) ?_
    obtain ⟨c4, hf⟩ := q_ck hf
    obtain ⟨sn5, esn5, hf⟩ := q_lto hf
    refine va_iast hx hb hK hP hD hS 1 0 rfl rfl c4 dX5_lose_16 (fun H locs hP hD hS => ?_)
    have hP : va_P (dC, dI) vwCl (wcR cI o0 a0 sn5) H := by rw [esn5]; exact hP
    have hD : va_D A (wcR cI o0 a0 sn5) := by rw [esn5]; exact hD
    refine lv_aload_n hx hb dX5_lose_17 rfl (lv_at hl 0 rfl) ?_
    refine va_get (D := (dC, dI)) (ci := 5) (v := .ref (a0 1)) (C := RX5) (T := TX5) (N := 3) hx hb hts nX5_lose_5 hown hK hP 0 rfl rfl 1 (by decide) (hts _ qX5_lose_2) (fun _ h9 => h9) rfl dX5_lose_18 ?_
    refine lv_iload_n hx hb dX5_lose_21 rfl (lv_at hl 1 rfl) ?_
    obtain ⟨c6, hf⟩ := q_ck hf
    refine va_iald hx hb hK hP 2 0 rfl rfl c6 dX5_lose_22 ?_
    obtain ⟨ee0, ee1⟩ := q_s2 hf
    subst ee1
    exact q_wretI hx hb hr hlk hAe hK hP hD hS ee0 dX5_lose_23
  · have hf := q_f c3 hf
    refine lv_iconst (v := 0) hx hb dX5_lose_8 (by decide) ?_
    obtain ⟨ee0, ee1⟩ := q_s2 hf
    subst ee1
    exact q_wretI hx hb hr hlk hAe hK hP hD hS ee0 dX5_lose_9
theorem hdX5_item : yX5_item.cls = RX5 ∧ yX5_item.cls ≠ "java/lang/invoke/MethodHandle" ∧ yX5_item.cls ≠ "java/lang/invoke/VarHandle" ∧ (parseMethodDescriptor yX5_item.desc).map (fun d => d.parameters.length) = some 2 := by decide +kernel
theorem qX5_item_1 : (Cond.fieldLink RX5 16 "DeadAsked$Rows" "items" "[I") ∈ wsX5_item := List.mem_of_getElem? (i := 1) (by decide +kernel)
theorem nX5_item_5 : ∀ w ∈ u_ws RX5 TX5 3, w ∈ wsX5_item := fun _ h => (List.mem_cons_of_mem _ (List.mem_append_right _ h))
set_option maxHeartbeats 4000000 in
set_option maxRecDepth 100000 in
theorem kX5_item (o0 : Nat) (a0 : Nat → Nat) (s0 : St) (p1 : Int32) (p2 : Int32) (r : Int32) (hf : fX5_item s0 p1 p2 = some r) : Met l yX5_item wsX5_item ({ frames := 3, cells := 0, slots := 0, locals := 65 } : Room) (pcR (dC, dI) (q_ty cI cB cZ) [.ref o0, .int p1, .int p2] (wcR cI o0 a0 s0)) (qiR r) 0 0 (fun _ => False) := by
  refine q_roM (cc := cX5_item) (maxL := 3) (ret := (some .int)) (by decide +kernel) rfl (Nat.le_of_ble_eq_true rfl) ?_
  intro p e s m below meth c hx hb hr hlk hml hown hts hK hP ls hl
  have hown : s.vm.findClass RX5 = some m.cls := hown
  have hl : lv_has ls 3 [(0, .ref o0), (1, .int p1), (2, .int p2)] := hl
  unfold fX5_item at hf
  refine lv_aload_n hx hb dX5_item_0 rfl (lv_at hl 0 rfl) ?_
  refine lv_iload_n hx hb dX5_item_1 rfl (lv_at hl 1 rfl) ?_
  refine lv_iload_n hx hb dX5_item_2 rfl (lv_at hl 2 rfl) ?_
  refine lv_iconst (v := 1) hx hb dX5_item_3 (by decide) ?_
  obtain ⟨r1, h2, hf⟩ := q_b1o hf
  refine q_roVi (As := [.int p1, .int p2, .int (1 : Int32)]) (rest := []) (ci := 5) ⟨hx, hb, hml, hown, hts⟩ (kX5_holds l dC dI cI cB cZ o0 a0 s0 p1 p2 (1 : Int32) r1 h2) (cwV 3 hts gX5_item_X5_holds rfl rfl rfl hdX5_holds ⟨Nat.le_of_ble_eq_true rfl, Nat.le_of_ble_eq_true rfl⟩) hK hP rfl rfl rfl hl.1 rfl (Nat.le_of_ble_eq_true rfl) dX5_item_4 ⟨Nat.zero_le _, Nat.zero_le _⟩ ?_
  refine lv_if_eq (tgt := 24) hx hb dX5_item_7 (by decide) (fun c3 => ?_) (fun c3 => ?_)
  · have hf := q_t c3 hf
    refine lv_iconst (v := 0) hx hb dX5_item_24 (by decide) ?_
    have ee0 := q_s1 hf
    exact q_retI hx hb hr hlk ee0 dX5_item_25
  · have hf := q_f c3 hf
    refine lv_aload_n hx hb dX5_item_10 rfl (lv_at hl 0 rfl) ?_
    refine va_get (D := (dC, dI)) (ci := 5) (v := .ref (a0 2)) (C := RX5) (T := TX5) (N := 3) hx hb hts nX5_item_5 hown hK hP 0 rfl rfl 2 (by decide) (hts _ qX5_item_1) (fun _ h9 => h9) rfl dX5_item_11 ?_
    refine lv_iload_n hx hb dX5_item_14 rfl (lv_at hl 1 rfl) ?_
    refine lv_bipush (v := 40) hx hb dX5_item_15 (by decide) ?_
    refine lv_imul hx hb dX5_item_17 ?_
    refine lv_iload_n hx hb dX5_item_18 rfl (lv_at hl 2 rfl) ?_
    refine lv_iadd hx hb dX5_item_19 ?_
    obtain ⟨c4, hf⟩ := q_ck hf
    refine va_iald hx hb hK hP 3 0 rfl rfl c4 dX5_item_20 ?_
    refine lv_goto (tgt := 25) hx hb dX5_item_21 (by decide) ?_
    have ee0 := q_s1 hf
    exact q_retI hx hb hr hlk ee0 dX5_item_25
theorem hdX5_cutToLane : yX5_cutToLane.cls ≠ "java/lang/invoke/MethodHandle" ∧ yX5_cutToLane.cls ≠ "java/lang/invoke/VarHandle" ∧ (parseMethodDescriptor yX5_cutToLane.desc).map (fun d => d.parameters.length) = some 2 := by decide +kernel
set_option maxHeartbeats 4000000 in
set_option maxRecDepth 100000 in
theorem kX5_cutToLane (p0 : Int32) (p1 : Int32) (r : Int32) (hf : fX5_cutToLane p0 p1 = some r) : Met l yX5_cutToLane wsX5_cutToLane ({ frames := 0, cells := 0, slots := 0, locals := 0 } : Room) (pcS [.int p0, .int p1]) (qiR r) 0 0 (fun _ => False) := by
  refine q_roS (cc := cX5_cutToLane) (maxL := 2) (ret := (some .int)) (by decide +kernel) rfl (Nat.le_of_ble_eq_true rfl) ?_
  intro p e s m below meth c hx hb hr hlk hml hown hts ls hl
  have hown : s.vm.findClass RX5 = some m.cls := hown
  have hl : lv_has ls 2 [(0, .int p0), (1, .int p1)] := hl
  unfold fX5_cutToLane at hf
  refine lv_iload_n hx hb dX5_cutToLane_0 rfl (lv_at hl 0 rfl) ?_
  refine lv_if_ne (tgt := 7) hx hb dX5_cutToLane_1 (by decide) (fun c1 => ?_) (fun c1 => ?_)
  · have hf := q_f c1 hf
    refine lv_iload_n hx hb dX5_cutToLane_7 rfl (lv_at hl 0 rfl) ?_
    refine lv_iconst (v := 1) hx hb dX5_cutToLane_8 (by decide) ?_
    refine lv_icmp_ne (tgt := 15) hx hb dX5_cutToLane_9 (by decide) (fun c2 => ?_) (fun c2 => ?_)
    · have hf := q_f c2 hf
      refine lv_iload_n hx hb dX5_cutToLane_15 rfl (lv_at hl 1 rfl) ?_
      have ee0 := q_s1 hf
      exact q_retI hx hb hr hlk ee0 dX5_cutToLane_16
    · have hf := q_t c2 hf
      refine lv_iload_n hx hb dX5_cutToLane_12 rfl (lv_at hl 1 rfl) ?_
      refine lv_i2s (v := p1.toInt16.toInt32) hx hb dX5_cutToLane_13 rfl ?_
      have ee0 := q_s1 hf
      exact q_retI hx hb hr hlk ee0 dX5_cutToLane_14
  · have hf := q_t c1 hf
    refine lv_iload_n hx hb dX5_cutToLane_4 rfl (lv_at hl 1 rfl) ?_
    refine lv_i2b (v := p1.toInt8.toInt32) hx hb dX5_cutToLane_5 rfl ?_
    have ee0 := q_s1 hf
    exact q_retI hx hb hr hlk ee0 dX5_cutToLane_6
theorem hdX5_put : yX5_put.cls = RX5 ∧ yX5_put.cls ≠ "java/lang/invoke/MethodHandle" ∧ yX5_put.cls ≠ "java/lang/invoke/VarHandle" ∧ (parseMethodDescriptor yX5_put.desc).map (fun d => d.parameters.length) = some 3 := by decide +kernel
theorem qX5_put_1 : (Cond.fieldLink RX5 9 "DeadAsked$Rows" "lanes" "[I") ∈ wsX5_put := List.mem_of_getElem? (i := 1) (by decide +kernel)
theorem qX5_put_2 : (Cond.fieldLink RX5 16 "DeadAsked$Rows" "items" "[I") ∈ wsX5_put := List.mem_of_getElem? (i := 2) (by decide +kernel)
theorem nX5_put_5 : ∀ w ∈ u_ws RX5 TX5 3, w ∈ wsX5_put := fun _ h => (List.mem_cons_of_mem _ (List.mem_append_right _ h))
set_option maxHeartbeats 4000000 in
set_option maxRecDepth 100000 in
theorem kX5_put (o0 : Nat) (a0 : Nat → Nat) (s0 : St) (p1 : Int32) (p2 : Int32) (p3 : Int32) (sz : Nat) (r : Int32) (z0 : St) (hf : fX5_put s0 p1 p2 p3 = some (r, z0)) : Met l yX5_put wsX5_put ({ frames := 3, cells := 0, slots := 0, locals := 65 } : Room) (pcW (dC, dI) (q_ty cI cB cZ) [.ref o0, .int p1, .int p2, .int p3] (wcR cI o0 a0 s0) sz) (qiW (dC, dI) (q_ty cI cB cZ) (wcR cI o0 a0 s0) (wcR cI o0 a0 z0) sz r) 0 0 (va_A (wcR cI o0 a0 s0) sz) := by
  refine q_rwM (cc := cX5_put) (maxL := 5) (ret := (some .int)) (by decide +kernel) rfl (Nat.le_of_ble_eq_true rfl) ?_
  intro p e s m below meth c hx hb hr hlk hml hown hts hK A H hAe hH hsz hP hD hA hS ls hl
  have hown : s.vm.findClass RX5 = some m.cls := hown
  have hl : lv_has ls 5 [(0, .ref o0), (1, .int p1), (2, .int p2), (3, .int p3)] := hl
  unfold fX5_put at hf
  refine lv_aload_n hx hb dX5_put_0 rfl (lv_at hl 0 rfl) ?_
  refine lv_iload_n hx hb dX5_put_1 rfl (lv_at hl 1 rfl) ?_
  refine lv_iload_n hx hb dX5_put_2 rfl (lv_at hl 2 rfl) ?_
  refine lv_iconst (v := 1) hx hb dX5_put_3 (by decide) ?_
  obtain ⟨r1, h2, hf⟩ := q_b1o hf
  refine q_roVi (As := [.int p1, .int p2, .int (1 : Int32)]) (rest := []) (ci := 5) ⟨hx, hb, hml, hown, hts⟩ (kX5_holds l dC dI cI cB cZ o0 a0 s0 p1 p2 (1 : Int32) r1 h2) (cwV 3 hts gX5_put_X5_holds rfl rfl rfl hdX5_holds ⟨Nat.le_of_ble_eq_true rfl, Nat.le_of_ble_eq_true rfl⟩) hK hP rfl rfl rfl hl.1 rfl (Nat.le_of_ble_eq_true rfl) dX5_put_4 ⟨Nat.zero_le _, Nat.zero_le _⟩ ?_
  refine lv_if_ne (tgt := 12) hx hb dX5_put_7 (by decide) (fun c3 => ?_) (fun c3 => ?_)
  · have hf := q_f c3 hf
    refine lv_aload_n hx hb dX5_put_12 rfl (lv_at hl 0 rfl) ?_
    refine va_get (D := (dC, dI)) (ci := 5) (v := .ref (a0 0)) (C := RX5) (T := TX5) (N := 3) hx hb hts nX5_put_5 hown hK hP 0 rfl rfl 0 (by decide) (hts _ qX5_put_1) (fun _ h9 => h9) rfl dX5_put_13 ?_
    refine lv_iload_n hx hb dX5_put_16 rfl (lv_at hl 1 rfl) ?_
    obtain ⟨c4, hf⟩ := q_ck hf
    refine va_iald hx hb hK hP 1 0 rfl rfl c4 dX5_put_17 ?_
    refine lv_iload_n hx hb dX5_put_18 rfl (lv_at hl 3 rfl) ?_
    obtain ⟨r5, h6, hf⟩ := q_b1o hf
    refine q_roSi (As := [.int (s0 0 p1.toNatClampNeg), .int p3]) (rest := []) ⟨hx, hb, hml, hown, hts⟩ (kX5_cutToLane l (s0 0 p1.toNatClampNeg) p3 r5 h6) (va_cwS 2 hts gX5_put_X5_cutToLane rfl rfl rfl hdX5_cutToLane ⟨Nat.le_of_ble_eq_true rfl, Nat.le_of_ble_eq_true rfl⟩) rfl hl.1 rfl (Nat.le_of_ble_eq_true rfl) dX5_put_19 ⟨Nat.zero_le _, Nat.zero_le _⟩ ?_
    refine lv_istore (lv' := [(4, .int r5), (0, .ref o0), (1, .int p1), (2, .int p2), (3, .int p3)]) hx hb dX5_put_22 hl (by decide) rfl (fun ls hl => ?_)
    refine lv_aload_n hx hb dX5_put_24 rfl (lv_at hl 1 rfl) ?_
    refine va_get (D := (dC, dI)) (ci := 5) (v := .ref (a0 2)) (C := RX5) (T := TX5) (N := 3) hx hb hts nX5_put_5 hown hK hP 0 rfl rfl 2 (by decide) (hts _ qX5_put_2) (fun _ h9 => h9) rfl dX5_put_25 ?_
    refine lv_iload_n hx hb dX5_put_28 rfl (lv_at hl 2 rfl) ?_
    refine lv_bipush (v := 40) hx hb dX5_put_29 (by decide) ?_
    refine lv_imul hx hb dX5_put_31 ?_
    refine lv_iload_n hx hb dX5_put_32 rfl (lv_at hl 3 rfl) ?_
    refine lv_iadd hx hb dX5_put_33 ?_
    refine lv_iload hx hb dX5_put_34 (lv_at hl 0 rfl) ?_
    obtain ⟨c7, hf⟩ := q_ck hf
    obtain ⟨sn8, esn8, hf⟩ := q_lto hf
    refine va_iast hx hb hK hP hD hS 3 0 rfl rfl c7 dX5_put_36 (fun H locs hP hD hS => ?_)
    have hP : va_P (dC, dI) vwCl (wcR cI o0 a0 sn8) H := by rw [esn8]; exact hP
    have hD : va_D A (wcR cI o0 a0 sn8) := by rw [esn8]; exact hD
    refine lv_iload hx hb dX5_put_37 (lv_at hl 0 rfl) ?_
    obtain ⟨ee0, ee1⟩ := q_s2 hf
    subst ee1
    exact q_wretI hx hb hr hlk hAe hK hP hD hS ee0 dX5_put_39
  · have hf := q_t c3 hf
    refine lv_iconst (v := 0) hx hb dX5_put_10 (by decide) ?_
    obtain ⟨ee0, ee1⟩ := q_s2 hf
    subst ee1
    exact q_wretI hx hb hr hlk hAe hK hP hD hS ee0 dX5_put_11
theorem hdX5_carry : yX5_carry.cls = RX5 ∧ yX5_carry.cls ≠ "java/lang/invoke/MethodHandle" ∧ yX5_carry.cls ≠ "java/lang/invoke/VarHandle" ∧ (parseMethodDescriptor yX5_carry.desc).map (fun d => d.parameters.length) = some 5 := by decide +kernel
theorem qX5_carry_1 : (Cond.fieldLink RX5 16 "DeadAsked$Rows" "items" "[I") ∈ wsX5_carry := List.mem_of_getElem? (i := 1) (by decide +kernel)
theorem qX5_carry_2 : (Cond.methodLink RX5 37 arraycopyName) ∈ wsX5_carry := List.mem_of_getElem? (i := 2) (by decide +kernel)
theorem qX5_carry_3 : (Cond.native arraycopyName) ∈ wsX5_carry := List.mem_of_getElem? (i := 3) (by decide +kernel)
theorem qX5_carry_4 : (Cond.static arraycopyName) ∈ wsX5_carry := List.mem_of_getElem? (i := 4) (by decide +kernel)
theorem qX5_carry_5 : (Cond.initialized "java/lang/System") ∈ wsX5_carry := List.mem_of_getElem? (i := 5) (by decide +kernel)
theorem nX5_carry_5 : ∀ w ∈ u_ws RX5 TX5 3, w ∈ wsX5_carry := fun _ h => (List.mem_cons_of_mem _ (List.mem_append_right _ h))
set_option maxHeartbeats 4000000 in
set_option maxRecDepth 100000 in
theorem kX5_carry (o0 : Nat) (a0 : Nat → Nat) (s0 : St) (p1 : Int32) (p2 : Int32) (p3 : Int32) (p4 : Int32) (p5 : Int32) (sz : Nat) (z0 : St) (hf : fX5_carry s0 p1 p2 p3 p4 p5 = some z0) : Met l yX5_carry wsX5_carry ({ frames := 3, cells := 0, slots := 0, locals := 65 } : Room) (pcW (dC, dI) (q_ty cI cB cZ) [.ref o0, .int p1, .int p2, .int p3, .int p4, .int p5] (wcR cI o0 a0 s0) sz) (qvW (dC, dI) (q_ty cI cB cZ) (wcR cI o0 a0 s0) (wcR cI o0 a0 z0) sz) 0 0 (va_A (wcR cI o0 a0 s0) sz) := by
  refine q_rwM (cc := cX5_carry) (maxL := 6) (ret := none) (by decide +kernel) rfl (Nat.le_of_ble_eq_true rfl) ?_
  intro p e s m below meth c hx hb hr hlk hml hown hts hK A H hAe hH hsz hP hD hA hS ls hl
  have hown : s.vm.findClass RX5 = some m.cls := hown
  have hl : lv_has ls 6 [(0, .ref o0), (1, .int p1), (2, .int p2), (3, .int p3), (4, .int p4), (5, .int p5)] := hl
  unfold fX5_carry at hf
  refine lv_aload_n hx hb dX5_carry_0 rfl (lv_at hl 0 rfl) ?_
  refine lv_iload_n hx hb dX5_carry_1 rfl (lv_at hl 1 rfl) ?_
  refine lv_iload_n hx hb dX5_carry_2 rfl (lv_at hl 2 rfl) ?_
  refine lv_iload hx hb dX5_carry_3 (lv_at hl 5 rfl) ?_
  obtain ⟨r1, h2, hf⟩ := q_b1o hf
  refine q_roVi (As := [.int p1, .int p2, .int p5]) (rest := []) (ci := 5) ⟨hx, hb, hml, hown, hts⟩ (kX5_holds l dC dI cI cB cZ o0 a0 s0 p1 p2 p5 r1 h2) (cwV 3 hts gX5_carry_X5_holds rfl rfl rfl hdX5_holds ⟨Nat.le_of_ble_eq_true rfl, Nat.le_of_ble_eq_true rfl⟩) hK hP rfl rfl rfl hl.1 rfl (Nat.le_of_ble_eq_true rfl) dX5_carry_5 ⟨Nat.zero_le _, Nat.zero_le _⟩ ?_
  refine lv_if_eq (tgt := 49) hx hb dX5_carry_8 (by decide) (fun c3 => ?_) (fun c3 => ?_)
  · have hf := q_t c3 hf
    have ee0 := q_s1 hf
    subst ee0
    exact q_wretV hx hb hr hlk hAe hK hP hD hS dX5_carry_49
  · have hf := q_f c3 hf
    refine lv_aload_n hx hb dX5_carry_11 rfl (lv_at hl 0 rfl) ?_
    refine lv_iload_n hx hb dX5_carry_12 rfl (lv_at hl 3 rfl) ?_
    refine lv_iload hx hb dX5_carry_13 (lv_at hl 4 rfl) ?_
    refine lv_iload hx hb dX5_carry_15 (lv_at hl 5 rfl) ?_
    obtain ⟨r4, h5, hf⟩ := q_b1o hf
    refine q_roVi (As := [.int p3, .int p4, .int p5]) (rest := []) (ci := 5) ⟨hx, hb, hml, hown, hts⟩ (kX5_holds l dC dI cI cB cZ o0 a0 s0 p3 p4 p5 r4 h5) (cwV 3 hts gX5_carry_X5_holds rfl rfl rfl hdX5_holds ⟨Nat.le_of_ble_eq_true rfl, Nat.le_of_ble_eq_true rfl⟩) hK hP rfl rfl rfl hl.1 rfl (Nat.le_of_ble_eq_true rfl) dX5_carry_17 ⟨Nat.zero_le _, Nat.zero_le _⟩ ?_
    refine lv_if_eq (tgt := 49) hx hb dX5_carry_20 (by decide) (fun c6 => ?_) (fun c6 => ?_)
    · have hf := q_t c6 hf
      have ee0 := q_s1 hf
      subst ee0
      exact q_wretV hx hb hr hlk hAe hK hP hD hS dX5_carry_49
    · have hf := q_f c6 hf
      refine lv_aload_n hx hb dX5_carry_23 rfl (lv_at hl 0 rfl) ?_
      refine va_get (D := (dC, dI)) (ci := 5) (v := .ref (a0 2)) (C := RX5) (T := TX5) (N := 3) hx hb hts nX5_carry_5 hown hK hP 0 rfl rfl 2 (by decide) (hts _ qX5_carry_1) (fun _ h9 => h9) rfl dX5_carry_24 ?_
      refine lv_iload_n hx hb dX5_carry_27 rfl (lv_at hl 1 rfl) ?_
      refine lv_bipush (v := 40) hx hb dX5_carry_28 (by decide) ?_
      refine lv_imul hx hb dX5_carry_30 ?_
      refine lv_iload_n hx hb dX5_carry_31 rfl (lv_at hl 2 rfl) ?_
      refine lv_iadd hx hb dX5_carry_32 ?_
      refine lv_aload_n hx hb dX5_carry_33 rfl (lv_at hl 0 rfl) ?_
      refine va_get (D := (dC, dI)) (ci := 5) (v := .ref (a0 2)) (C := RX5) (T := TX5) (N := 3) hx hb hts nX5_carry_5 hown hK hP 0 rfl rfl 2 (by decide) (hts _ qX5_carry_1) (fun _ h9 => h9) rfl dX5_carry_34 ?_
      refine lv_iload_n hx hb dX5_carry_37 rfl (lv_at hl 3 rfl) ?_
      refine lv_bipush (v := 40) hx hb dX5_carry_38 (by decide) ?_
      refine lv_imul hx hb dX5_carry_40 ?_
      refine lv_iload hx hb dX5_carry_41 (lv_at hl 4 rfl) ?_
      refine lv_iadd hx hb dX5_carry_43 ?_
      refine lv_iload hx hb dX5_carry_44 (lv_at hl 5 rfl) ?_
      obtain ⟨c7, hf⟩ := q_ck hf
      obtain ⟨c8, hf⟩ := q_ck hf
      obtain ⟨c9, hf⟩ := q_ck hf
      obtain ⟨c10, hf⟩ := q_ck hf
      obtain ⟨c11, hf⟩ := q_ck hf
      obtain ⟨sn12, esn12, hf⟩ := q_lto hf
      refine va_copyi hx hb (hml.trans hl.1.symm) hown (hts _ qX5_carry_2) (hts _ qX5_carry_3) (hts _ qX5_carry_4) (hts _ qX5_carry_5) hK hP hD hS 3 3 0 0 rfl rfl rfl rfl rfl c7 c8 c9 c10 c11 (fun _ _ => rfl) (Nat.le_of_ble_eq_true rfl) (Nat.le_of_ble_eq_true rfl) dX5_carry_46 (fun H locs hP hD hS => ?_)
      have hP : va_P (dC, dI) vwCl (wcR cI o0 a0 sn12) H := by rw [esn12]; exact hP
      have hD : va_D A (wcR cI o0 a0 sn12) := by rw [esn12]; exact hD
      have ee0 := q_s1 hf
      subst ee0
      exact q_wretV hx hb hr hlk hAe hK hP hD hS dX5_carry_49
theorem hdX5_present : yX5_present.cls = RX5 ∧ yX5_present.cls ≠ "java/lang/invoke/MethodHandle" ∧ yX5_present.cls ≠ "java/lang/invoke/VarHandle" ∧ (parseMethodDescriptor yX5_present.desc).map (fun d => d.parameters.length) = some 0 := by decide +kernel
theorem qX5_present_1 : (Cond.fieldLink RX5 9 "DeadAsked$Rows" "lanes" "[I") ∈ wsX5_present := List.mem_of_getElem? (i := 1) (by decide +kernel)
theorem nX5_present_5 : ∀ w ∈ u_ws RX5 TX5 3, w ∈ wsX5_present := fun _ h => (List.mem_cons_of_mem _ (List.mem_append_right _ h))
set_option maxHeartbeats 4000000 in
set_option maxRecDepth 100000 in
theorem kX5_present (o0 : Nat) (a0 : Nat → Nat) (s0 : St) (r : Int32) (hf : fX5_present s0 = some r) : Met l yX5_present wsX5_present ({ frames := 0, cells := 0, slots := 0, locals := 0 } : Room) (pcR (dC, dI) (q_ty cI cB cZ) [.ref o0] (wcR cI o0 a0 s0)) (qiR r) 0 0 (fun _ => False) := by
  refine q_roM (cc := cX5_present) (maxL := 3) (ret := (some .int)) (by decide +kernel) rfl (Nat.le_of_ble_eq_true rfl) ?_
  intro p e s m below meth c hx hb hr hlk hml hown hts hK hP ls hl
  have hown : s.vm.findClass RX5 = some m.cls := hown
  have hl : lv_has ls 3 [(0, .ref o0)] := hl
  unfold fX5_present at hf
  refine lv_iconst (v := 0) hx hb dX5_present_0 (by decide) ?_
  refine lv_istore_n (lv' := [(1, .int (0 : Int32)), (0, .ref o0)]) hx hb dX5_present_1 rfl hl (by decide) rfl (fun ls hl => ?_)
  refine lv_iconst (v := 0) hx hb dX5_present_2 (by decide) ?_
  refine lv_istore_n (lv' := [(2, .int (0 : Int32)), (1, .int (0 : Int32)), (0, .ref o0)]) hx hb dX5_present_3 rfl hl (by decide) rfl (fun ls hl => ?_)
  obtain ⟨oz4, hqn3, hf⟩ := q_b1o hf
  have kxn3 : ∀ z4 : Int32, z4 = oz4 → ∀ ls : Array Slot, lv_has ls 3 [(1, .int z4)] → W p l e ({ frames := 0, cells := 0, slots := 0, locals := 0 } : Room) s m [.ref o0].toArray below meth c s.heap [] 0 0 (MQ below (qiR r) [.ref o0].toArray s 0 0 (fun _ => False)) (F0 m 29 ls []) := by
    intro z4 ez4 ls hl
    subst ez4
    refine lv_iload_n hx hb dX5_present_29 rfl (lv_at hl 0 rfl) ?_
    have ee0 := q_s1 hf
    exact q_retI hx hb hr hlk ee0 dX5_present_30
  have aihn3 : ∀ n3 : Nat, ∀ l1_1 : Int32, ∀ l2_2 : Int32, fX5_present_L4 s0 n3 l1_1 l2_2 = some oz4 → ∀ ls : Array Slot, lv_has ls 3 [(2, .int l2_2), (1, .int l1_1), (0, .ref o0)] → W p l e ({ frames := 0, cells := 0, slots := 0, locals := 0 } : Room) s m [.ref o0].toArray below meth c s.heap [] 0 0 (MQ below (qiR r) [.ref o0].toArray s 0 0 (fun _ => False)) (F0 m 4 ls []) := by
    intro n3
    induction n3 with
    | zero =>
      intro l1_1 l2_2 hf
      exact q_no hf
    | succ n3 ihn3 =>
      intro l1_1 l2_2 hf ls hl
      rw [fX5_present_L4] at hf
      refine lv_iload_n hx hb dX5_present_4 rfl (lv_at hl 0 rfl) ?_
      refine lv_bipush (v := 8) hx hb dX5_present_5 (by decide) ?_
      refine lv_icmp_ge (tgt := 29) hx hb dX5_present_7 (by decide) (fun c5 => ?_) (fun c5 => ?_)
      · have hf := q_t c5 hf
        exact kxn3 l1_1 (q_s1 hf) _ (lv_sub hl [1] rfl)
      · have hf := q_f c5 hf
        refine lv_aload_n hx hb dX5_present_10 rfl (lv_at hl 2 rfl) ?_
        refine va_get (D := (dC, dI)) (ci := 5) (v := .ref (a0 0)) (C := RX5) (T := TX5) (N := 3) hx hb hts nX5_present_5 hown hK hP 0 rfl rfl 0 (by decide) (hts _ qX5_present_1) (fun _ h9 => h9) rfl dX5_present_11 ?_
        refine lv_iload_n hx hb dX5_present_14 rfl (lv_at hl 0 rfl) ?_
        obtain ⟨c6, hf⟩ := q_ck hf
        refine va_iald hx hb hK hP 1 0 rfl rfl c6 dX5_present_15 ?_
        refine lv_iconst (v := -1) hx hb dX5_present_16 (by decide) ?_
        obtain ⟨ov7, hqj8, hf⟩ := q_b1o hf
        have kj8 : ∀ v7 : Int32, v7 = ov7 → ∀ ls : Array Slot, lv_has ls 3 [(2, .int l2_2), (1, .int v7), (0, .ref o0)] → W p l e ({ frames := 0, cells := 0, slots := 0, locals := 0 } : Room) s m [.ref o0].toArray below meth c s.heap [] 0 0 (MQ below (qiR r) [.ref o0].toArray s 0 0 (fun _ => False)) (F0 m 23 ls []) := by
          intro v7 ev7 ls hl
          subst ev7
          refine lv_iinc (v := l2_2 + (1 : Int32)) (lv' := [(2, .int (l2_2 + (1 : Int32))), (1, .int v7), (0, .ref o0)]) hx hb dX5_present_23 hl (k := 0) rfl rfl (by decide) rfl (fun ls hl => ?_)
          refine lv_goto (tgt := 4) hx hb dX5_present_26 (by decide) ?_
          exact ihn3 v7 (l2_2 + (1 : Int32)) hf _ hl
        have hf := hqj8
        refine lv_icmp_eq (tgt := 23) hx hb dX5_present_17 (by decide) (fun c9 => ?_) (fun c9 => ?_)
        · have hf := q_t c9 hf
          exact kj8 l1_1 (q_s1 hf) _ hl
        · have hf := q_f c9 hf
          refine lv_iinc (v := l1_1 + (1 : Int32)) (lv' := [(1, .int (l1_1 + (1 : Int32))), (2, .int l2_2), (0, .ref o0)]) hx hb dX5_present_20 hl (k := 1) rfl rfl (by decide) rfl (fun ls hl => ?_)
          exact kj8 (l1_1 + (1 : Int32)) (q_s1 hf) _ (lv_sub hl [1, 0, 2] rfl)
  exact aihn3 5000 (0 : Int32) (0 : Int32) hqn3 _ hl
theorem hdX6_length : yX6_length.cls = RX6 ∧ yX6_length.cls ≠ "java/lang/invoke/MethodHandle" ∧ yX6_length.cls ≠ "java/lang/invoke/VarHandle" ∧ (parseMethodDescriptor yX6_length.desc).map (fun d => d.parameters.length) = some 0 := by decide +kernel
theorem qX6_length_1 : (Cond.fieldLink RX6 13 "DeadAsked$Tape" "used" "I") ∈ wsX6_length := List.mem_of_getElem? (i := 1) (by decide +kernel)
theorem nX6_length_6 : ∀ w ∈ u_ws RX6 TX6 5, w ∈ wsX6_length := fun _ h => (List.mem_cons_of_mem _ (List.mem_append_right _ h))
set_option maxHeartbeats 4000000 in
set_option maxRecDepth 100000 in
theorem kX6_length (o0 : Nat) (a0 : Nat → Nat) (s0 : St) (r : Int32) (hf : fX6_length s0 = some r) : Met l yX6_length wsX6_length ({ frames := 0, cells := 0, slots := 0, locals := 0 } : Room) (pcR (dC, dI) (q_ty cI cB cZ) [.ref o0] (wcT cB o0 a0 s0)) (qiR r) 0 0 (fun _ => False) := by
  refine q_roM (cc := cX6_length) (maxL := 1) (ret := (some .int)) (by decide +kernel) rfl (Nat.le_of_ble_eq_true rfl) ?_
  intro p e s m below meth c hx hb hr hlk hml hown hts hK hP ls hl
  have hown : s.vm.findClass RX6 = some m.cls := hown
  have hl : lv_has ls 1 [(0, .ref o0)] := hl
  unfold fX6_length at hf
  refine lv_aload_n hx hb dX6_length_0 rfl (lv_at hl 0 rfl) ?_
  refine va_get (D := (dC, dI)) (ci := 6) (v := .int (s0 1 0)) (C := RX6) (T := TX6) (N := 5) hx hb hts nX6_length_6 hown hK hP 0 rfl rfl 1 (by decide) (hts _ qX6_length_1) (fun _ h9 => h9) rfl dX6_length_1 ?_
  have ee0 := q_s1 hf
  exact q_retI hx hb hr hlk ee0 dX6_length_4
theorem hdX6_hasRoomFor : yX6_hasRoomFor.cls = RX6 ∧ yX6_hasRoomFor.cls ≠ "java/lang/invoke/MethodHandle" ∧ yX6_hasRoomFor.cls ≠ "java/lang/invoke/VarHandle" ∧ (parseMethodDescriptor yX6_hasRoomFor.desc).map (fun d => d.parameters.length) = some 1 := by decide +kernel
theorem qX6_hasRoomFor_1 : (Cond.fieldLink RX6 13 "DeadAsked$Tape" "used" "I") ∈ wsX6_hasRoomFor := List.mem_of_getElem? (i := 1) (by decide +kernel)
theorem nX6_hasRoomFor_6 : ∀ w ∈ u_ws RX6 TX6 5, w ∈ wsX6_hasRoomFor := fun _ h => (List.mem_cons_of_mem _ (List.mem_append_right _ h))
set_option maxHeartbeats 4000000 in
set_option maxRecDepth 100000 in
theorem kX6_hasRoomFor (o0 : Nat) (a0 : Nat → Nat) (s0 : St) (p1 : Int32) (r : Int32) (hf : fX6_hasRoomFor s0 p1 = some r) : Met l yX6_hasRoomFor wsX6_hasRoomFor ({ frames := 0, cells := 0, slots := 0, locals := 0 } : Room) (pcR (dC, dI) (q_ty cI cB cZ) [.ref o0, .int p1] (wcT cB o0 a0 s0)) (qiR r) 0 0 (fun _ => False) := by
  refine q_roM (cc := cX6_hasRoomFor) (maxL := 2) (ret := (some .boolean)) (by decide +kernel) rfl (Nat.le_of_ble_eq_true rfl) ?_
  intro p e s m below meth c hx hb hr hlk hml hown hts hK hP ls hl
  have hown : s.vm.findClass RX6 = some m.cls := hown
  have hl : lv_has ls 2 [(0, .ref o0), (1, .int p1)] := hl
  unfold fX6_hasRoomFor at hf
  refine lv_iload_n hx hb dX6_hasRoomFor_0 rfl (lv_at hl 1 rfl) ?_
  refine lv_sipush (v := 400) hx hb dX6_hasRoomFor_1 (by decide) ?_
  refine lv_aload_n hx hb dX6_hasRoomFor_4 rfl (lv_at hl 0 rfl) ?_
  refine va_get (D := (dC, dI)) (ci := 6) (v := .int (s0 1 0)) (C := RX6) (T := TX6) (N := 5) hx hb hts nX6_hasRoomFor_6 hown hK hP 0 rfl rfl 1 (by decide) (hts _ qX6_hasRoomFor_1) (fun _ h9 => h9) rfl dX6_hasRoomFor_5 ?_
  refine lv_isub hx hb dX6_hasRoomFor_8 ?_
  refine lv_icmp_gt (tgt := 16) hx hb dX6_hasRoomFor_9 (by decide) (fun c1 => ?_) (fun c1 => ?_)
  · have hf := q_t c1 hf
    refine lv_iconst (v := 0) hx hb dX6_hasRoomFor_16 (by decide) ?_
    have ee0 := q_s1 hf
    exact q_retZ hx hb hr hlk rfl ee0 dX6_hasRoomFor_17
  · have hf := q_f c1 hf
    refine lv_iconst (v := 1) hx hb dX6_hasRoomFor_12 (by decide) ?_
    refine lv_goto (tgt := 17) hx hb dX6_hasRoomFor_13 (by decide) ?_
    have ee0 := q_s1 hf
    exact q_retZ hx hb hr hlk rfl ee0 dX6_hasRoomFor_17
theorem hdX6_append : yX6_append.cls = RX6 ∧ yX6_append.cls ≠ "java/lang/invoke/MethodHandle" ∧ yX6_append.cls ≠ "java/lang/invoke/VarHandle" ∧ (parseMethodDescriptor yX6_append.desc).map (fun d => d.parameters.length) = some 2 := by decide +kernel
theorem qX6_append_1 : (Cond.fieldLink RX6 13 "DeadAsked$Tape" "used" "I") ∈ wsX6_append := List.mem_of_getElem? (i := 1) (by decide +kernel)
theorem qX6_append_2 : (Cond.fieldLink RX6 9 "DeadAsked$Tape" "bytes" "[B") ∈ wsX6_append := List.mem_of_getElem? (i := 2) (by decide +kernel)
theorem nX6_append_6 : ∀ w ∈ u_ws RX6 TX6 5, w ∈ wsX6_append := fun _ h => (List.mem_cons_of_mem _ (List.mem_append_right _ h))
set_option maxHeartbeats 4000000 in
set_option maxRecDepth 100000 in
theorem kX6_append (o0 : Nat) (a0 : Nat → Nat) (s0 : St) (p1 : Int64) (p3 : Int32) (sz : Nat) (z0 : St) (hf : fX6_append s0 p1 p3 = some z0) : Met l yX6_append wsX6_append ({ frames := 0, cells := 0, slots := 0, locals := 0 } : Room) (pcW (dC, dI) (q_ty cI cB cZ) [.ref o0, .long p1, .int p3] (wcT cB o0 a0 s0) sz) (qvW (dC, dI) (q_ty cI cB cZ) (wcT cB o0 a0 s0) (wcT cB o0 a0 z0) sz) 0 0 (va_A (wcT cB o0 a0 s0) sz) := by
  refine q_rwM (cc := cX6_append) (maxL := 5) (ret := none) (by decide +kernel) rfl (Nat.le_of_ble_eq_true rfl) ?_
  intro p e s m below meth c hx hb hr hlk hml hown hts hK A H hAe hH hsz hP hD hA hS ls hl
  have hown : s.vm.findClass RX6 = some m.cls := hown
  have hl : lv_has ls 5 [(0, .ref o0), (1, .long p1), (3, .int p3)] := hl
  unfold fX6_append at hf
  refine lv_iload_n hx hb dX6_append_0 rfl (lv_at hl 2 rfl) ?_
  refine lv_iconst (v := 1) hx hb dX6_append_1 (by decide) ?_
  refine lv_isub hx hb dX6_append_2 ?_
  obtain ⟨x1, ex1, hf⟩ := q_lto hf
  refine W.eq (g2 := F0 m 3 ls [.int x1]) (by rw [ex1]) ?_
  refine lv_istore (lv' := [(4, .int x1), (0, .ref o0), (1, .long p1), (3, .int p3)]) hx hb dX6_append_3 hl (by decide) rfl (fun ls hl => ?_)
  obtain ⟨oz5, hqn4, hf⟩ := q_b1o hf
  have kxn4 : ∀ z5 : St, z5 = oz5 → ∀ (H : Heap) (locs : List Loc), va_P (dC, dI) vwCl (wcT cB o0 a0 z5) H → va_D A (wcT cB o0 a0 z5) → va_S A s.heap H locs → ∀ ls : Array Slot, lv_has ls 5 [] → W p l e ({ frames := 0, cells := 0, slots := 0, locals := 0 } : Room) s m [.ref o0, .long p1, .int p3].toArray below meth c H locs 0 0 (MQ below (qvW (dC, dI) (q_ty cI cB cZ) (wcT cB o0 a0 s0) (wcT cB o0 a0 z0) sz) [.ref o0, .long p1, .int p3].toArray s 0 0 (va_A (wcT cB o0 a0 s0) sz)) (F0 m 54 ls []) := by
    intro z5 ez5 H locs hP hD hS ls hl
    subst ez5
    have ee0 := q_s1 hf
    subst ee0
    exact q_wretV hx hb hr hlk hAe hK hP hD hS dX6_append_54
  have aihn4 : ∀ n4 : Nat, ∀ l4_2 : Int32, ∀ sl3 : St, fX6_append_L5 p1 n4 l4_2 sl3 = some oz5 → ∀ (H : Heap) (locs : List Loc), va_P (dC, dI) vwCl (wcT cB o0 a0 sl3) H → va_D A (wcT cB o0 a0 sl3) → va_S A s.heap H locs → ∀ ls : Array Slot, lv_has ls 5 [(4, .int l4_2), (0, .ref o0), (1, .long p1)] → W p l e ({ frames := 0, cells := 0, slots := 0, locals := 0 } : Room) s m [.ref o0, .long p1, .int p3].toArray below meth c H locs 0 0 (MQ below (qvW (dC, dI) (q_ty cI cB cZ) (wcT cB o0 a0 s0) (wcT cB o0 a0 z0) sz) [.ref o0, .long p1, .int p3].toArray s 0 0 (va_A (wcT cB o0 a0 s0) sz)) (F0 m 5 ls []) := by
    intro n4
    induction n4 with
    | zero =>
      intro l4_2 sl3 hf
      exact q_no hf
    | succ n4 ihn4 =>
      intro l4_2 sl3 hf H locs hP hD hS ls hl
      rw [fX6_append_L5] at hf
      refine lv_iload hx hb dX6_append_5 (lv_at hl 0 rfl) ?_
      refine lv_if_lt (tgt := 54) hx hb dX6_append_7 (by decide) (fun c6 => ?_) (fun c6 => ?_)
      · have hf := q_t c6 hf
        exact kxn4 sl3 (q_s1 hf) _ _ hP hD hS _ (lv_sub hl [] rfl)
      · have hf := q_f c6 hf
        refine lv_aload_n hx hb dX6_append_10 rfl (lv_at hl 1 rfl) ?_
        refine va_get (D := (dC, dI)) (ci := 6) (v := .int (sl3 1 0)) (C := RX6) (T := TX6) (N := 5) hx hb hts nX6_append_6 hown hK hP 0 rfl rfl 1 (by decide) (hts _ qX6_append_1) (fun _ h9 => h9) rfl dX6_append_11 ?_
        refine lv_sipush (v := 400) hx hb dX6_append_14 (by decide) ?_
        refine lv_icmp_ge (tgt := 54) hx hb dX6_append_17 (by decide) (fun c7 => ?_) (fun c7 => ?_)
        · have hf := q_t c7 hf
          exact kxn4 sl3 (q_s1 hf) _ _ hP hD hS _ (lv_sub hl [] rfl)
        · have hf := q_f c7 hf
          refine lv_aload_n hx hb dX6_append_20 rfl (lv_at hl 1 rfl) ?_
          refine va_get (D := (dC, dI)) (ci := 6) (v := .ref (a0 0)) (C := RX6) (T := TX6) (N := 5) hx hb hts nX6_append_6 hown hK hP 0 rfl rfl 0 (by decide) (hts _ qX6_append_2) (fun _ h9 => h9) rfl dX6_append_21 ?_
          refine lv_aload_n hx hb dX6_append_24 rfl (lv_at hl 1 rfl) ?_
          refine va_get (D := (dC, dI)) (ci := 6) (v := .int (sl3 1 0)) (C := RX6) (T := TX6) (N := 5) hx hb hts nX6_append_6 hown hK hP 0 rfl rfl 1 (by decide) (hts _ qX6_append_1) (fun _ h9 => h9) rfl dX6_append_25 ?_
          refine lv_lload_n hx hb dX6_append_28 rfl (lv_at hl 2 rfl) ?_
          refine lv_bipush (v := 8) hx hb dX6_append_29 (by decide) ?_
          refine lv_iload hx hb dX6_append_31 (lv_at hl 0 rfl) ?_
          refine lv_imul hx hb dX6_append_33 ?_
          refine lv_lushr (v := (p1.toUInt64 >>> (((8 : Int32) * l4_2).toInt64.toUInt64 &&& Int64.toUInt64 63)).toInt64) hx hb dX6_append_34 rfl ?_
          refine lv_l2i (v := ((p1.toUInt64 >>> (((8 : Int32) * l4_2).toInt64.toUInt64 &&& Int64.toUInt64 63)).toInt64).toInt32) hx hb dX6_append_35 rfl ?_
          refine lv_i2b (v := (((p1.toUInt64 >>> (((8 : Int32) * l4_2).toInt64.toUInt64 &&& Int64.toUInt64 63)).toInt64).toInt32).toInt8.toInt32) hx hb dX6_append_36 rfl ?_
          obtain ⟨c8, hf⟩ := q_ck hf
          obtain ⟨sn9, esn9, hf⟩ := q_lto hf
          refine va_bast hx hb hK hP hD hS 1 1 rfl rfl c8 dX6_append_37 (fun H locs hP hD hS => ?_)
          have hP : va_P (dC, dI) vwCl (wcT cB o0 a0 sn9) H := by rw [esn9]; exact hP
          have hD : va_D A (wcT cB o0 a0 sn9) := by rw [esn9]; exact hD
          refine lv_aload_n hx hb dX6_append_38 rfl (lv_at hl 1 rfl) ?_
          refine lv_dup hx hb dX6_append_39 rfl ?_
          refine va_get (D := (dC, dI)) (ci := 6) (v := .int (sn9 1 0)) (C := RX6) (T := TX6) (N := 5) hx hb hts nX6_append_6 hown hK hP 0 rfl rfl 1 (by decide) (hts _ qX6_append_1) (fun _ h9 => h9) rfl dX6_append_40 ?_
          refine lv_iconst (v := 1) hx hb dX6_append_43 (by decide) ?_
          refine lv_iadd hx hb dX6_append_44 ?_
          obtain ⟨sn10, esn10, hf⟩ := q_lto hf
          refine va_put (D := (dC, dI)) (ci := 6) (v := .int ((sn9 1 0) + (1 : Int32))) (ty := .int) (C := RX6) (T := TX6) (N := 5) hx hb hts nX6_append_6 tyX6 tyX6_ok nmX6 hown hK hP hD hS 0 rfl rfl 1 (by decide) (hts _ qX6_append_1) (fun _ h9 => h9) rfl (by decide +kernel) rfl rfl (Nat.le_of_ble_eq_true rfl) dX6_append_45 (fun H locs hP hD hS => ?_)
          have hP : va_P (dC, dI) vwCl (wcT cB o0 a0 sn10) H := by rw [esn10]; exact hP
          have hD : va_D A (wcT cB o0 a0 sn10) := by rw [esn10]; exact hD
          refine lv_iinc (v := l4_2 + (-1 : Int32)) (lv' := [(4, .int (l4_2 + (-1 : Int32))), (0, .ref o0), (1, .long p1)]) hx hb dX6_append_48 hl (k := 0) rfl rfl (by decide) rfl (fun ls hl => ?_)
          refine lv_goto (tgt := 5) hx hb dX6_append_51 (by decide) ?_
          exact ihn4 (l4_2 + (-1 : Int32)) sn10 hf _ _ hP hD hS _ hl
  exact aihn4 5000 x1 s0 hqn4 _ _ hP hD hS _ (lv_sub hl [0, 1, 2] rfl)
theorem hdX6_clear : yX6_clear.cls = RX6 ∧ yX6_clear.cls ≠ "java/lang/invoke/MethodHandle" ∧ yX6_clear.cls ≠ "java/lang/invoke/VarHandle" ∧ (parseMethodDescriptor yX6_clear.desc).map (fun d => d.parameters.length) = some 0 := by decide +kernel
theorem qX6_clear_1 : (Cond.fieldLink RX6 13 "DeadAsked$Tape" "used" "I") ∈ wsX6_clear := List.mem_of_getElem? (i := 1) (by decide +kernel)
theorem nX6_clear_6 : ∀ w ∈ u_ws RX6 TX6 5, w ∈ wsX6_clear := fun _ h => (List.mem_cons_of_mem _ (List.mem_append_right _ h))
set_option maxHeartbeats 4000000 in
set_option maxRecDepth 100000 in
theorem kX6_clear (o0 : Nat) (a0 : Nat → Nat) (s0 : St) (sz : Nat) (z0 : St) (hf : fX6_clear s0 = some z0) : Met l yX6_clear wsX6_clear ({ frames := 0, cells := 0, slots := 0, locals := 0 } : Room) (pcW (dC, dI) (q_ty cI cB cZ) [.ref o0] (wcT cB o0 a0 s0) sz) (qvW (dC, dI) (q_ty cI cB cZ) (wcT cB o0 a0 s0) (wcT cB o0 a0 z0) sz) 0 0 (va_A (wcT cB o0 a0 s0) sz) := by
  refine q_rwM (cc := cX6_clear) (maxL := 1) (ret := none) (by decide +kernel) rfl (Nat.le_of_ble_eq_true rfl) ?_
  intro p e s m below meth c hx hb hr hlk hml hown hts hK A H hAe hH hsz hP hD hA hS ls hl
  have hown : s.vm.findClass RX6 = some m.cls := hown
  have hl : lv_has ls 1 [(0, .ref o0)] := hl
  unfold fX6_clear at hf
  refine lv_aload_n hx hb dX6_clear_0 rfl (lv_at hl 0 rfl) ?_
  refine lv_iconst (v := 0) hx hb dX6_clear_1 (by decide) ?_
  obtain ⟨sn1, esn1, hf⟩ := q_lto hf
  refine va_put (D := (dC, dI)) (ci := 6) (v := .int (0 : Int32)) (ty := .int) (C := RX6) (T := TX6) (N := 5) hx hb hts nX6_clear_6 tyX6 tyX6_ok nmX6 hown hK hP hD hS 0 rfl rfl 1 (by decide) (hts _ qX6_clear_1) (fun _ h9 => h9) rfl (by decide +kernel) rfl rfl (Nat.le_of_ble_eq_true rfl) dX6_clear_2 (fun H locs hP hD hS => ?_)
  have hP : va_P (dC, dI) vwCl (wcT cB o0 a0 sn1) H := by rw [esn1]; exact hP
  have hD : va_D A (wcT cB o0 a0 sn1) := by rw [esn1]; exact hD
  have ee0 := q_s1 hf
  subst ee0
  exact q_wretV hx hb hr hlk hAe hK hP hD hS dX6_clear_5
