variable (l : Launch) (dC : Nat → ClassId) (dI : Nat → Nat → Nat) (cI cB cZ : ClassId)
theorem hdX4_faultNumber : yX4_faultNumber.cls = RX4 ∧ yX4_faultNumber.cls ≠ "java/lang/invoke/MethodHandle" ∧ yX4_faultNumber.cls ≠ "java/lang/invoke/VarHandle" ∧ (parseMethodDescriptor yX4_faultNumber.desc).map (fun d => d.parameters.length) = some 0 := by decide +kernel
theorem qX4_faultNumber_1 : (Cond.fieldLink RX4 15 "DeadAsked$HillReader" "faultNumber" "I") ∈ wsX4_faultNumber := List.mem_of_getElem? (i := 1) (by decide +kernel)
theorem nX4_faultNumber_4 : ∀ w ∈ u_ws RX4 TX4 4, w ∈ wsX4_faultNumber := fun _ h => (List.mem_cons_of_mem _ (List.mem_append_right _ h))
set_option maxHeartbeats 4000000 in
set_option maxRecDepth 100000 in
theorem kX4_faultNumber (o0 : Nat) (tp0 : Nat) (s0 : St) (r : Int32) (hf : fX4_faultNumber s0 = some r) : Met l yX4_faultNumber wsX4_faultNumber ({ frames := 0, cells := 0, slots := 0, locals := 0 } : Room) (pcR (dC, dI) (q_ty cI cB cZ) [.ref o0] (wcE o0 tp0 s0)) (qiR r) 0 0 (fun _ => False) := by
  refine q_roM (cc := cX4_faultNumber) (maxL := 1) (ret := (some .int)) (by decide +kernel) rfl (Nat.le_of_ble_eq_true rfl) ?_
  intro p e s m below meth c hx hb hr hlk hml hown hts hK hP ls hl
  have hown : s.vm.findClass RX4 = some m.cls := hown
  have hl : lv_has ls 1 [(0, .ref o0)] := hl
  unfold fX4_faultNumber at hf
  refine lv_aload_n hx hb dX4_faultNumber_0 rfl (lv_at hl 0 rfl) ?_
  refine va_get (D := (dC, dI)) (ci := 4) (v := .int (s0 2 0)) (C := RX4) (T := TX4) (N := 4) hx hb hts nX4_faultNumber_4 hown hK hP 0 rfl rfl 2 (by decide) (hts _ qX4_faultNumber_1) (fun _ h9 => h9) rfl dX4_faultNumber_1 ?_
  have ee0 := q_s1 hf
  exact q_retI hx hb hr hlk ee0 dX4_faultNumber_4
theorem hdX4_faultPlace : yX4_faultPlace.cls = RX4 ∧ yX4_faultPlace.cls ≠ "java/lang/invoke/MethodHandle" ∧ yX4_faultPlace.cls ≠ "java/lang/invoke/VarHandle" ∧ (parseMethodDescriptor yX4_faultPlace.desc).map (fun d => d.parameters.length) = some 0 := by decide +kernel
theorem qX4_faultPlace_1 : (Cond.fieldLink RX4 19 "DeadAsked$HillReader" "faultPlace" "I") ∈ wsX4_faultPlace := List.mem_of_getElem? (i := 1) (by decide +kernel)
theorem nX4_faultPlace_4 : ∀ w ∈ u_ws RX4 TX4 4, w ∈ wsX4_faultPlace := fun _ h => (List.mem_cons_of_mem _ (List.mem_append_right _ h))
set_option maxHeartbeats 4000000 in
set_option maxRecDepth 100000 in
theorem kX4_faultPlace (o0 : Nat) (tp0 : Nat) (s0 : St) (r : Int32) (hf : fX4_faultPlace s0 = some r) : Met l yX4_faultPlace wsX4_faultPlace ({ frames := 0, cells := 0, slots := 0, locals := 0 } : Room) (pcR (dC, dI) (q_ty cI cB cZ) [.ref o0] (wcE o0 tp0 s0)) (qiR r) 0 0 (fun _ => False) := by
  refine q_roM (cc := cX4_faultPlace) (maxL := 1) (ret := (some .int)) (by decide +kernel) rfl (Nat.le_of_ble_eq_true rfl) ?_
  intro p e s m below meth c hx hb hr hlk hml hown hts hK hP ls hl
  have hown : s.vm.findClass RX4 = some m.cls := hown
  have hl : lv_has ls 1 [(0, .ref o0)] := hl
  unfold fX4_faultPlace at hf
  refine lv_aload_n hx hb dX4_faultPlace_0 rfl (lv_at hl 0 rfl) ?_
  refine va_get (D := (dC, dI)) (ci := 4) (v := .int (s0 3 0)) (C := RX4) (T := TX4) (N := 4) hx hb hts nX4_faultPlace_4 hown hK hP 0 rfl rfl 3 (by decide) (hts _ qX4_faultPlace_1) (fun _ h9 => h9) rfl dX4_faultPlace_1 ?_
  have ee0 := q_s1 hf
  exact q_retI hx hb hr hlk ee0 dX4_faultPlace_4
theorem hdX4_refuse : yX4_refuse.cls = RX4 ∧ yX4_refuse.cls ≠ "java/lang/invoke/MethodHandle" ∧ yX4_refuse.cls ≠ "java/lang/invoke/VarHandle" ∧ (parseMethodDescriptor yX4_refuse.desc).map (fun d => d.parameters.length) = some 1 := by decide +kernel
theorem qX4_refuse_1 : (Cond.fieldLink RX4 15 "DeadAsked$HillReader" "faultNumber" "I") ∈ wsX4_refuse := List.mem_of_getElem? (i := 1) (by decide +kernel)
theorem qX4_refuse_2 : (Cond.fieldLink RX4 9 "DeadAsked$HillReader" "tape" "LDeadAsked$Tape;") ∈ wsX4_refuse := List.mem_of_getElem? (i := 2) (by decide +kernel)
theorem qX4_refuse_3 : (Cond.fieldLink RX4 19 "DeadAsked$HillReader" "faultPlace" "I") ∈ wsX4_refuse := List.mem_of_getElem? (i := 3) (by decide +kernel)
theorem nX4_refuse_4 : ∀ w ∈ u_ws RX4 TX4 4, w ∈ wsX4_refuse := fun _ h => (List.mem_cons_of_mem _ (List.mem_append_left _ (List.mem_append_right _ h)))
set_option maxHeartbeats 4000000 in
set_option maxRecDepth 100000 in
theorem kX4_refuse (o0 : Nat) (o1 : Nat) (a1 : Nat → Nat) (s0 : St) (s1 : St) (p1 : Int32) (sz : Nat) (r : Int32) (z0 : St) (hf : fX4_refuse s0 s1 p1 = some (r, z0)) : Met l yX4_refuse wsX4_refuse ({ frames := 1, cells := 0, slots := 0, locals := 20 } : Room) (pcW (dC, dI) (q_ty cI cB cZ) [.ref o0, .int p1] ((wcE o0 o1 s0) ++ (wcT cB o1 a1 s1)) sz) (qiW (dC, dI) (q_ty cI cB cZ) ((wcE o0 o1 s0) ++ (wcT cB o1 a1 s1)) ((wcE o0 o1 z0) ++ (wcT cB o1 a1 s1)) sz r) 0 0 (va_A ((wcE o0 o1 s0) ++ (wcT cB o1 a1 s1)) sz) := by
  refine q_rwM (cc := cX4_refuse) (maxL := 2) (ret := (some .boolean)) (by decide +kernel) rfl (Nat.le_of_ble_eq_true rfl) ?_
  intro p e s m below meth c hx hb hr hlk hml hown hts hK A H hAe hH hsz hP hD hA hS ls hl
  have hown : s.vm.findClass RX4 = some m.cls := hown
  have hl : lv_has ls 2 [(0, .ref o0), (1, .int p1)] := hl
  unfold fX4_refuse at hf
  refine lv_aload_n hx hb dX4_refuse_0 rfl (lv_at hl 0 rfl) ?_
  refine lv_iload_n hx hb dX4_refuse_1 rfl (lv_at hl 1 rfl) ?_
  obtain ⟨sn1, esn1, hf⟩ := q_lto hf
  refine va_put (D := (dC, dI)) (ci := 4) (v := .int p1) (ty := .int) (C := RX4) (T := TX4) (N := 4) hx hb hts nX4_refuse_4 tyX4 tyX4_ok nmX4 hown hK hP hD hS 0 rfl rfl 2 (by decide) (hts _ qX4_refuse_1) (fun _ h9 => h9) rfl (by decide +kernel) rfl rfl (Nat.le_of_ble_eq_true rfl) dX4_refuse_2 (fun H locs hP hD hS => ?_)
  have hP : va_P (dC, dI) vwCl ((wcE o0 o1 sn1) ++ (wcT cB o1 a1 s1)) H := by rw [esn1]; exact hP
  have hD : va_D A ((wcE o0 o1 sn1) ++ (wcT cB o1 a1 s1)) := by rw [esn1]; exact hD
  refine lv_aload_n hx hb dX4_refuse_5 rfl (lv_at hl 0 rfl) ?_
  refine lv_aload_n hx hb dX4_refuse_6 rfl (lv_at hl 0 rfl) ?_
  refine va_get (D := (dC, dI)) (ci := 4) (v := .ref o1) (C := RX4) (T := TX4) (N := 4) hx hb hts nX4_refuse_4 hown hK hP 0 rfl rfl 0 (by decide) (hts _ qX4_refuse_2) (fun _ h9 => h9) rfl dX4_refuse_7 ?_
  obtain ⟨r2, h3, hf⟩ := q_b1o hf
  refine q_roVi (As := []) (rest := [.ref o0]) (ci := 6) ⟨hx, hb, hml, hown, hts⟩ (kX6_tokenStart l dC dI cI cB cZ o1 a1 s1 r2 h3) (cwV 0 hts gX4_refuse_X6_tokenStart rfl rfl rfl hdX6_tokenStart ⟨Nat.le_of_ble_eq_true rfl, Nat.le_of_ble_eq_true rfl⟩) hK (hP.sub [1, 2] rfl) rfl rfl rfl hl.1 rfl (Nat.le_of_ble_eq_true rfl) dX4_refuse_10 ⟨Nat.zero_le _, Nat.zero_le _⟩ ?_
  obtain ⟨sn4, esn4, hf⟩ := q_lto hf
  refine va_put (D := (dC, dI)) (ci := 4) (v := .int r2) (ty := .int) (C := RX4) (T := TX4) (N := 4) hx hb hts nX4_refuse_4 tyX4 tyX4_ok nmX4 hown hK hP hD hS 0 rfl rfl 3 (by decide) (hts _ qX4_refuse_3) (fun _ h9 => h9) rfl (by decide +kernel) rfl rfl (Nat.le_of_ble_eq_true rfl) dX4_refuse_13 (fun H locs hP hD hS => ?_)
  have hP : va_P (dC, dI) vwCl ((wcE o0 o1 sn4) ++ (wcT cB o1 a1 s1)) H := by rw [esn4]; exact hP
  have hD : va_D A ((wcE o0 o1 sn4) ++ (wcT cB o1 a1 s1)) := by rw [esn4]; exact hD
  refine lv_iconst (v := 0) hx hb dX4_refuse_16 (by decide) ?_
  obtain ⟨ee0, ee1⟩ := q_s2 hf
  subst ee1
  exact q_wretZ hx hb hr hlk rfl hAe hK hP hD hS ee0 dX4_refuse_17
theorem hdX4_takeNumber : yX4_takeNumber.cls = RX4 ∧ yX4_takeNumber.cls ≠ "java/lang/invoke/MethodHandle" ∧ yX4_takeNumber.cls ≠ "java/lang/invoke/VarHandle" ∧ (parseMethodDescriptor yX4_takeNumber.desc).map (fun d => d.parameters.length) = some 2 := by decide +kernel
theorem qX4_takeNumber_1 : (Cond.fieldLink RX4 9 "DeadAsked$HillReader" "tape" "LDeadAsked$Tape;") ∈ wsX4_takeNumber := List.mem_of_getElem? (i := 1) (by decide +kernel)
theorem qX4_takeNumber_2 : (Cond.fieldLink RX4 68 "DeadAsked$HillReader" "number" "I") ∈ wsX4_takeNumber := List.mem_of_getElem? (i := 2) (by decide +kernel)
theorem nX4_takeNumber_4 : ∀ w ∈ u_ws RX4 TX4 4, w ∈ wsX4_takeNumber := fun _ h => (List.mem_cons_of_mem _ (List.mem_append_left _ (List.mem_append_right _ h)))
set_option maxHeartbeats 4000000 in
set_option maxRecDepth 100000 in
theorem kX4_takeNumber (o0 : Nat) (o1 : Nat) (a1 : Nat → Nat) (s0 : St) (s1 : St) (p1 : Int32) (p2 : Int32) (sz : Nat) (r : Int32) (z0 : St) (z1 : St) (hf : fX4_takeNumber s0 s1 p1 p2 = some (r, z0, z1)) : Met l yX4_takeNumber wsX4_takeNumber ({ frames := 3, cells := 0, slots := 0, locals := 60 } : Room) (pcW (dC, dI) (q_ty cI cB cZ) [.ref o0, .int p1, .int p2] ((wcE o0 o1 s0) ++ (wcT cB o1 a1 s1)) sz) (qiW (dC, dI) (q_ty cI cB cZ) ((wcE o0 o1 s0) ++ (wcT cB o1 a1 s1)) ((wcE o0 o1 z0) ++ (wcT cB o1 a1 z1)) sz r) 0 0 (va_A ((wcE o0 o1 s0) ++ (wcT cB o1 a1 s1)) sz) := by
  refine q_rwM (cc := cX4_takeNumber) (maxL := 3) (ret := (some .boolean)) (by decide +kernel) rfl (Nat.le_of_ble_eq_true rfl) ?_
  intro p e s m below meth c hx hb hr hlk hml hown hts hK A H hAe hH hsz hP hD hA hS ls hl
  have hown : s.vm.findClass RX4 = some m.cls := hown
  have hl : lv_has ls 3 [(0, .ref o0), (1, .int p1), (2, .int p2)] := hl
  unfold fX4_takeNumber at hf
  refine lv_aload_n hx hb dX4_takeNumber_0 rfl (lv_at hl 0 rfl) ?_
  refine va_get (D := (dC, dI)) (ci := 4) (v := .ref o1) (C := RX4) (T := TX4) (N := 4) hx hb hts nX4_takeNumber_4 hown hK hP 0 rfl rfl 0 (by decide) (hts _ qX4_takeNumber_1) (fun _ h9 => h9) rfl dX4_takeNumber_1 ?_
  refine lv_iconst (v := 2) hx hb dX4_takeNumber_4 (by decide) ?_
  obtain ⟨r1, h2, hf⟩ := q_b1o hf
  refine q_roVi (As := [.int (2 : Int32)]) (rest := []) (ci := 6) ⟨hx, hb, hml, hown, hts⟩ (kX6_isSort l dC dI cI cB cZ o1 a1 s1 (2 : Int32) r1 h2) (cwV 1 hts gX4_takeNumber_X6_isSort rfl rfl rfl hdX6_isSort ⟨Nat.le_of_ble_eq_true rfl, Nat.le_of_ble_eq_true rfl⟩) hK (hP.sub [1, 2] rfl) rfl rfl rfl hl.1 rfl (Nat.le_of_ble_eq_true rfl) dX4_takeNumber_5 ⟨Nat.zero_le _, Nat.zero_le _⟩ ?_
  refine lv_if_ne (tgt := 17) hx hb dX4_takeNumber_8 (by decide) (fun c3 => ?_) (fun c3 => ?_)
  · have hf := q_f c3 hf
    refine lv_aload_n hx hb dX4_takeNumber_17 rfl (lv_at hl 0 rfl) ?_
    refine lv_aload_n hx hb dX4_takeNumber_18 rfl (lv_at hl 0 rfl) ?_
    refine va_get (D := (dC, dI)) (ci := 4) (v := .ref o1) (C := RX4) (T := TX4) (N := 4) hx hb hts nX4_takeNumber_4 hown hK hP 0 rfl rfl 0 (by decide) (hts _ qX4_takeNumber_1) (fun _ h9 => h9) rfl dX4_takeNumber_19 ?_
    obtain ⟨r4, h5, hf⟩ := q_b1o hf
    refine q_roVi (As := []) (rest := [.ref o0]) (ci := 6) ⟨hx, hb, hml, hown, hts⟩ (kX6_number l dC dI cI cB cZ o1 a1 s1 r4 h5) (cwV 0 hts gX4_takeNumber_X6_number rfl rfl rfl hdX6_number ⟨Nat.le_of_ble_eq_true rfl, Nat.le_of_ble_eq_true rfl⟩) hK (hP.sub [1, 2] rfl) rfl rfl rfl hl.1 rfl (Nat.le_of_ble_eq_true rfl) dX4_takeNumber_22 ⟨Nat.zero_le _, Nat.zero_le _⟩ ?_
    obtain ⟨sn6, esn6, hf⟩ := q_lto hf
    refine va_put (D := (dC, dI)) (ci := 4) (v := .int r4) (ty := .int) (C := RX4) (T := TX4) (N := 4) hx hb hts nX4_takeNumber_4 tyX4 tyX4_ok nmX4 hown hK hP hD hS 0 rfl rfl 1 (by decide) (hts _ qX4_takeNumber_2) (fun _ h9 => h9) rfl (by decide +kernel) rfl rfl (Nat.le_of_ble_eq_true rfl) dX4_takeNumber_25 (fun H locs hP hD hS => ?_)
    have hP : va_P (dC, dI) vwCl ((wcE o0 o1 sn6) ++ (wcT cB o1 a1 s1)) H := by rw [esn6]; exact hP
    have hD : va_D A ((wcE o0 o1 sn6) ++ (wcT cB o1 a1 s1)) := by rw [esn6]; exact hD
    refine lv_aload_n hx hb dX4_takeNumber_28 rfl (lv_at hl 0 rfl) ?_
    refine va_get (D := (dC, dI)) (ci := 4) (v := .int (sn6 1 0)) (C := RX4) (T := TX4) (N := 4) hx hb hts nX4_takeNumber_4 hown hK hP 0 rfl rfl 1 (by decide) (hts _ qX4_takeNumber_2) (fun _ h9 => h9) rfl dX4_takeNumber_29 ?_
    refine lv_iload_n hx hb dX4_takeNumber_32 rfl (lv_at hl 1 rfl) ?_
    refine lv_icmp_lt (tgt := 44) hx hb dX4_takeNumber_33 (by decide) (fun c7 => ?_) (fun c7 => ?_)
    · have hf := q_t c7 hf
      refine lv_aload_n hx hb dX4_takeNumber_44 rfl (lv_at hl 0 rfl) ?_
      refine lv_iconst (v := 2) hx hb dX4_takeNumber_45 (by decide) ?_
      obtain ⟨r8, sc9, h10, hf⟩ := q_b2o hf
      refine q_rwVi (As := [.int (2 : Int32)]) (rest := []) (ci := 4) (wr := []) (w2 := ((wcE o0 o1 sc9) ++ (wcT cB o1 a1 s1))) ⟨hx, hb, hml, hown, hts⟩ (kX4_refuse l dC dI cI cB cZ o0 o1 a1 sn6 s1 (2 : Int32) H.size r8 sc9 h10) (cwV 1 hts gX4_takeNumber_X4_refuse rfl rfl rfl hdX4_refuse ⟨Nat.le_of_ble_eq_true rfl, Nat.le_of_ble_eq_true rfl⟩) hK hP hD hS hA [0, 1, 2] [] [0, 1, 2] rfl rfl (by decide) (by decide) (by decide) rfl (by decide) rfl rfl rfl hl.1 rfl (Nat.le_of_ble_eq_true rfl) dX4_takeNumber_46 ⟨Nat.zero_le _, Nat.zero_le _⟩ (fun H locs hP hD hS => ?_)
      obtain ⟨c11, hf⟩ := q_ck hf
      obtain ⟨ee0, ee1, ee2⟩ := q_s3 hf
      subst ee1
      subst ee2
      exact q_wretZ hx hb hr hlk (q_nb c11) hAe hK hP hD hS ee0 dX4_takeNumber_49
    · have hf := q_f c7 hf
      refine lv_aload_n hx hb dX4_takeNumber_36 rfl (lv_at hl 0 rfl) ?_
      refine va_get (D := (dC, dI)) (ci := 4) (v := .int (sn6 1 0)) (C := RX4) (T := TX4) (N := 4) hx hb hts nX4_takeNumber_4 hown hK hP 0 rfl rfl 1 (by decide) (hts _ qX4_takeNumber_2) (fun _ h9 => h9) rfl dX4_takeNumber_37 ?_
      refine lv_iload_n hx hb dX4_takeNumber_40 rfl (lv_at hl 2 rfl) ?_
      refine lv_icmp_le (tgt := 50) hx hb dX4_takeNumber_41 (by decide) (fun c12 => ?_) (fun c12 => ?_)
      · have hf := q_t c12 hf
        refine lv_aload_n hx hb dX4_takeNumber_50 rfl (lv_at hl 0 rfl) ?_
        refine va_get (D := (dC, dI)) (ci := 4) (v := .ref o1) (C := RX4) (T := TX4) (N := 4) hx hb hts nX4_takeNumber_4 hown hK hP 0 rfl rfl 0 (by decide) (hts _ qX4_takeNumber_1) (fun _ h9 => h9) rfl dX4_takeNumber_51 ?_
        obtain ⟨sc13, h14, hf⟩ := q_b1o hf
        refine q_rwVv (As := []) (rest := []) (ci := 6) (wr := ((wcE o0 o1 sn6))) (w2 := ((wcE o0 o1 sn6) ++ (wcT cB o1 a1 sc13))) ⟨hx, hb, hml, hown, hts⟩ (kX6_readNext l dC dI cI cB cZ o1 a1 s1 H.size sc13 h14) (cwV 0 hts gX4_takeNumber_X6_readNext rfl rfl rfl hdX6_readNext ⟨Nat.le_of_ble_eq_true rfl, Nat.le_of_ble_eq_true rfl⟩) hK hP hD hS hA [1, 2] [0] [0, 1, 2] rfl rfl (by decide) (by decide) (by decide) rfl (by decide) rfl rfl rfl hl.1 rfl (Nat.le_of_ble_eq_true rfl) dX4_takeNumber_54 ⟨Nat.zero_le _, Nat.zero_le _⟩ (fun H locs hP hD hS => ?_)
        refine lv_iconst (v := 1) hx hb dX4_takeNumber_57 (by decide) ?_
        obtain ⟨ee0, ee1, ee2⟩ := q_s3 hf
        subst ee1
        subst ee2
        exact q_wretZ hx hb hr hlk rfl hAe hK hP hD hS ee0 dX4_takeNumber_58
      · have hf := q_f c12 hf
        refine lv_aload_n hx hb dX4_takeNumber_44 rfl (lv_at hl 0 rfl) ?_
        refine lv_iconst (v := 2) hx hb dX4_takeNumber_45 (by decide) ?_
        obtain ⟨r15, sc16, h17, hf⟩ := q_b2o hf
        refine q_rwVi (As := [.int (2 : Int32)]) (rest := []) (ci := 4) (wr := []) (w2 := ((wcE o0 o1 sc16) ++ (wcT cB o1 a1 s1))) ⟨hx, hb, hml, hown, hts⟩ (kX4_refuse l dC dI cI cB cZ o0 o1 a1 sn6 s1 (2 : Int32) H.size r15 sc16 h17) (cwV 1 hts gX4_takeNumber_X4_refuse rfl rfl rfl hdX4_refuse ⟨Nat.le_of_ble_eq_true rfl, Nat.le_of_ble_eq_true rfl⟩) hK hP hD hS hA [0, 1, 2] [] [0, 1, 2] rfl rfl (by decide) (by decide) (by decide) rfl (by decide) rfl rfl rfl hl.1 rfl (Nat.le_of_ble_eq_true rfl) dX4_takeNumber_46 ⟨Nat.zero_le _, Nat.zero_le _⟩ (fun H locs hP hD hS => ?_)
        obtain ⟨c18, hf⟩ := q_ck hf
        obtain ⟨ee0, ee1, ee2⟩ := q_s3 hf
        subst ee1
        subst ee2
        exact q_wretZ hx hb hr hlk (q_nb c18) hAe hK hP hD hS ee0 dX4_takeNumber_49
  · have hf := q_t c3 hf
    refine lv_aload_n hx hb dX4_takeNumber_11 rfl (lv_at hl 0 rfl) ?_
    refine lv_iconst (v := 1) hx hb dX4_takeNumber_12 (by decide) ?_
    obtain ⟨r19, sc20, h21, hf⟩ := q_b2o hf
    refine q_rwVi (As := [.int (1 : Int32)]) (rest := []) (ci := 4) (wr := []) (w2 := ((wcE o0 o1 sc20) ++ (wcT cB o1 a1 s1))) ⟨hx, hb, hml, hown, hts⟩ (kX4_refuse l dC dI cI cB cZ o0 o1 a1 s0 s1 (1 : Int32) H.size r19 sc20 h21) (cwV 1 hts gX4_takeNumber_X4_refuse rfl rfl rfl hdX4_refuse ⟨Nat.le_of_ble_eq_true rfl, Nat.le_of_ble_eq_true rfl⟩) hK hP hD hS hA [0, 1, 2] [] [0, 1, 2] rfl rfl (by decide) (by decide) (by decide) rfl (by decide) rfl rfl rfl hl.1 rfl (Nat.le_of_ble_eq_true rfl) dX4_takeNumber_13 ⟨Nat.zero_le _, Nat.zero_le _⟩ (fun H locs hP hD hS => ?_)
    obtain ⟨c22, hf⟩ := q_ck hf
    obtain ⟨ee0, ee1, ee2⟩ := q_s3 hf
    subst ee1
    subst ee2
    exact q_wretZ hx hb hr hlk (q_nb c22) hAe hK hP hD hS ee0 dX4_takeNumber_16
theorem hdX4_takeSign : yX4_takeSign.cls = RX4 ∧ yX4_takeSign.cls ≠ "java/lang/invoke/MethodHandle" ∧ yX4_takeSign.cls ≠ "java/lang/invoke/VarHandle" ∧ (parseMethodDescriptor yX4_takeSign.desc).map (fun d => d.parameters.length) = some 0 := by decide +kernel
theorem qX4_takeSign_1 : (Cond.fieldLink RX4 9 "DeadAsked$HillReader" "tape" "LDeadAsked$Tape;") ∈ wsX4_takeSign := List.mem_of_getElem? (i := 1) (by decide +kernel)
theorem nX4_takeSign_4 : ∀ w ∈ u_ws RX4 TX4 4, w ∈ wsX4_takeSign := fun _ h => (List.mem_cons_of_mem _ (List.mem_append_left _ (List.mem_append_right _ h)))
set_option maxHeartbeats 4000000 in
set_option maxRecDepth 100000 in
theorem kX4_takeSign (o0 : Nat) (o1 : Nat) (a1 : Nat → Nat) (s0 : St) (s1 : St) (sz : Nat) (r : Int32) (z0 : St) (z1 : St) (hf : fX4_takeSign s0 s1 = some (r, z0, z1)) : Met l yX4_takeSign wsX4_takeSign ({ frames := 3, cells := 0, slots := 0, locals := 60 } : Room) (pcW (dC, dI) (q_ty cI cB cZ) [.ref o0] ((wcE o0 o1 s0) ++ (wcT cB o1 a1 s1)) sz) (qiW (dC, dI) (q_ty cI cB cZ) ((wcE o0 o1 s0) ++ (wcT cB o1 a1 s1)) ((wcE o0 o1 z0) ++ (wcT cB o1 a1 z1)) sz r) 0 0 (va_A ((wcE o0 o1 s0) ++ (wcT cB o1 a1 s1)) sz) := by
  refine q_rwM (cc := cX4_takeSign) (maxL := 1) (ret := (some .boolean)) (by decide +kernel) rfl (Nat.le_of_ble_eq_true rfl) ?_
  intro p e s m below meth c hx hb hr hlk hml hown hts hK A H hAe hH hsz hP hD hA hS ls hl
  have hown : s.vm.findClass RX4 = some m.cls := hown
  have hl : lv_has ls 1 [(0, .ref o0)] := hl
  unfold fX4_takeSign at hf
  refine lv_aload_n hx hb dX4_takeSign_0 rfl (lv_at hl 0 rfl) ?_
  refine va_get (D := (dC, dI)) (ci := 4) (v := .ref o1) (C := RX4) (T := TX4) (N := 4) hx hb hts nX4_takeSign_4 hown hK hP 0 rfl rfl 0 (by decide) (hts _ qX4_takeSign_1) (fun _ h9 => h9) rfl dX4_takeSign_1 ?_
  refine lv_iconst (v := 3) hx hb dX4_takeSign_4 (by decide) ?_
  obtain ⟨r1, h2, hf⟩ := q_b1o hf
  refine q_roVi (As := [.int (3 : Int32)]) (rest := []) (ci := 6) ⟨hx, hb, hml, hown, hts⟩ (kX6_isSort l dC dI cI cB cZ o1 a1 s1 (3 : Int32) r1 h2) (cwV 1 hts gX4_takeSign_X6_isSort rfl rfl rfl hdX6_isSort ⟨Nat.le_of_ble_eq_true rfl, Nat.le_of_ble_eq_true rfl⟩) hK (hP.sub [1, 2] rfl) rfl rfl rfl hl.1 rfl (Nat.le_of_ble_eq_true rfl) dX4_takeSign_5 ⟨Nat.zero_le _, Nat.zero_le _⟩ ?_
  refine lv_if_ne (tgt := 17) hx hb dX4_takeSign_8 (by decide) (fun c3 => ?_) (fun c3 => ?_)
  · have hf := q_f c3 hf
    refine lv_aload_n hx hb dX4_takeSign_17 rfl (lv_at hl 0 rfl) ?_
    refine va_get (D := (dC, dI)) (ci := 4) (v := .ref o1) (C := RX4) (T := TX4) (N := 4) hx hb hts nX4_takeSign_4 hown hK hP 0 rfl rfl 0 (by decide) (hts _ qX4_takeSign_1) (fun _ h9 => h9) rfl dX4_takeSign_18 ?_
    obtain ⟨sc4, h5, hf⟩ := q_b1o hf
    refine q_rwVv (As := []) (rest := []) (ci := 6) (wr := ((wcE o0 o1 s0))) (w2 := ((wcE o0 o1 s0) ++ (wcT cB o1 a1 sc4))) ⟨hx, hb, hml, hown, hts⟩ (kX6_readNext l dC dI cI cB cZ o1 a1 s1 H.size sc4 h5) (cwV 0 hts gX4_takeSign_X6_readNext rfl rfl rfl hdX6_readNext ⟨Nat.le_of_ble_eq_true rfl, Nat.le_of_ble_eq_true rfl⟩) hK hP hD hS hA [1, 2] [0] [0, 1, 2] rfl rfl (by decide) (by decide) (by decide) rfl (by decide) rfl rfl rfl hl.1 rfl (Nat.le_of_ble_eq_true rfl) dX4_takeSign_21 ⟨Nat.zero_le _, Nat.zero_le _⟩ (fun H locs hP hD hS => ?_)
    refine lv_iconst (v := 1) hx hb dX4_takeSign_24 (by decide) ?_
    obtain ⟨ee0, ee1, ee2⟩ := q_s3 hf
    subst ee1
    subst ee2
    exact q_wretZ hx hb hr hlk rfl hAe hK hP hD hS ee0 dX4_takeSign_25
  · have hf := q_t c3 hf
    refine lv_aload_n hx hb dX4_takeSign_11 rfl (lv_at hl 0 rfl) ?_
    refine lv_iconst (v := 1) hx hb dX4_takeSign_12 (by decide) ?_
    obtain ⟨r6, sc7, h8, hf⟩ := q_b2o hf
    refine q_rwVi (As := [.int (1 : Int32)]) (rest := []) (ci := 4) (wr := []) (w2 := ((wcE o0 o1 sc7) ++ (wcT cB o1 a1 s1))) ⟨hx, hb, hml, hown, hts⟩ (kX4_refuse l dC dI cI cB cZ o0 o1 a1 s0 s1 (1 : Int32) H.size r6 sc7 h8) (cwV 1 hts gX4_takeSign_X4_refuse rfl rfl rfl hdX4_refuse ⟨Nat.le_of_ble_eq_true rfl, Nat.le_of_ble_eq_true rfl⟩) hK hP hD hS hA [0, 1, 2] [] [0, 1, 2] rfl rfl (by decide) (by decide) (by decide) rfl (by decide) rfl rfl rfl hl.1 rfl (Nat.le_of_ble_eq_true rfl) dX4_takeSign_13 ⟨Nat.zero_le _, Nat.zero_le _⟩ (fun H locs hP hD hS => ?_)
    obtain ⟨c9, hf⟩ := q_ck hf
    obtain ⟨ee0, ee1, ee2⟩ := q_s3 hf
    subst ee1
    subst ee2
    exact q_wretZ hx hb hr hlk (q_nb c9) hAe hK hP hD hS ee0 dX4_takeSign_16
theorem hdX4_readGrave : yX4_readGrave.cls = RX4 ∧ yX4_readGrave.cls ≠ "java/lang/invoke/MethodHandle" ∧ yX4_readGrave.cls ≠ "java/lang/invoke/VarHandle" ∧ (parseMethodDescriptor yX4_readGrave.desc).map (fun d => d.parameters.length) = some 2 := by decide +kernel
theorem qX4_readGrave_1 : (Cond.fieldLink RX4 84 "DeadAsked$Hill" "graveX" "[I") ∈ wsX4_readGrave := List.mem_of_getElem? (i := 1) (by decide +kernel)
theorem qX4_readGrave_2 : (Cond.fieldLink RX4 68 "DeadAsked$HillReader" "number" "I") ∈ wsX4_readGrave := List.mem_of_getElem? (i := 2) (by decide +kernel)
theorem qX4_readGrave_3 : (Cond.fieldLink RX4 87 "DeadAsked$Hill" "hears" "[I") ∈ wsX4_readGrave := List.mem_of_getElem? (i := 3) (by decide +kernel)
theorem qX4_readGrave_4 : (Cond.fieldLink RX4 90 "DeadAsked$Hill" "temper" "[I") ∈ wsX4_readGrave := List.mem_of_getElem? (i := 4) (by decide +kernel)
theorem qX4_readGrave_5 : (Cond.fieldLink RX4 93 "DeadAsked$Hill" "against" "[I") ∈ wsX4_readGrave := List.mem_of_getElem? (i := 5) (by decide +kernel)
theorem nX4_readGrave_3 : ∀ w ∈ u_ws RX3 TX3 14, w ∈ wsX4_readGrave := fun _ h => (List.mem_cons_of_mem _ (List.mem_append_left _ (List.mem_append_left _ (List.mem_append_right _ h))))
theorem nX4_readGrave_4 : ∀ w ∈ u_ws RX4 TX4 4, w ∈ wsX4_readGrave := fun _ h => (List.mem_cons_of_mem _ (List.mem_append_left _ (List.mem_append_right _ h)))
set_option maxHeartbeats 4000000 in
set_option maxRecDepth 100000 in
theorem kX4_readGrave (o0 : Nat) (o1 : Nat) (a1 : Nat → Nat) (o2 : Nat) (a2 : Nat → Nat) (s0 : St) (s1 : St) (s2 : St) (p2 : Int32) (sz : Nat) (r : Int32) (z0 : St) (z1 : St) (z2 : St) (hf : fX4_readGrave s0 s1 s2 p2 = some (r, z0, z1, z2)) : Met l yX4_readGrave wsX4_readGrave ({ frames := 4, cells := 0, slots := 0, locals := 82 } : Room) (pcW (dC, dI) (q_ty cI cB cZ) [.ref o0, .ref o2, .int p2] ((wcE o0 o1 s0) ++ (wcT cB o1 a1 s1) ++ (wcH cI o2 a2 s2)) sz) (qiW (dC, dI) (q_ty cI cB cZ) ((wcE o0 o1 s0) ++ (wcT cB o1 a1 s1) ++ (wcH cI o2 a2 s2)) ((wcE o0 o1 z0) ++ (wcT cB o1 a1 z1) ++ (wcH cI o2 a2 z2)) sz r) 0 0 (va_A ((wcE o0 o1 s0) ++ (wcT cB o1 a1 s1) ++ (wcH cI o2 a2 s2)) sz) := by
  refine q_rwM (cc := cX4_readGrave) (maxL := 3) (ret := (some .boolean)) (by decide +kernel) rfl (Nat.le_of_ble_eq_true rfl) ?_
  intro p e s m below meth c hx hb hr hlk hml hown hts hK A H hAe hH hsz hP hD hA hS ls hl
  have hown : s.vm.findClass RX4 = some m.cls := hown
  have hl : lv_has ls 3 [(0, .ref o0), (1, .ref o2), (2, .int p2)] := hl
  unfold fX4_readGrave at hf
  refine lv_aload_n hx hb dX4_readGrave_0 rfl (lv_at hl 0 rfl) ?_
  refine lv_iconst (v := 0) hx hb dX4_readGrave_1 (by decide) ?_
  refine lv_bipush (v := 30) hx hb dX4_readGrave_2 (by decide) ?_
  obtain ⟨r1, sc2, sc3, h4, hf⟩ := q_b3o hf
  refine q_rwVi (As := [.int (0 : Int32), .int (30 : Int32)]) (rest := []) (ci := 4) (wr := ((wcH cI o2 a2 s2))) (w2 := ((wcE o0 o1 sc2) ++ (wcT cB o1 a1 sc3) ++ (wcH cI o2 a2 s2))) ⟨hx, hb, hml, hown, hts⟩ (kX4_takeNumber l dC dI cI cB cZ o0 o1 a1 s0 s1 (0 : Int32) (30 : Int32) H.size r1 sc2 sc3 h4) (cwV 2 hts gX4_readGrave_X4_takeNumber rfl rfl rfl hdX4_takeNumber ⟨Nat.le_of_ble_eq_true rfl, Nat.le_of_ble_eq_true rfl⟩) hK hP hD hS hA [0, 1, 2] [3, 4, 5, 6, 7, 8, 9, 10, 11, 12, 13] [11, 12, 13, 0, 1, 2, 3, 4, 5, 6, 7, 8, 9, 10] rfl rfl (by decide) (by decide) (by decide) rfl (by decide) rfl rfl rfl hl.1 rfl (Nat.le_of_ble_eq_true rfl) dX4_readGrave_4 ⟨Nat.zero_le _, Nat.zero_le _⟩ (fun H locs hP hD hS => ?_)
  refine lv_if_ne (tgt := 12) hx hb dX4_readGrave_7 (by decide) (fun c5 => ?_) (fun c5 => ?_)
  · have hf := q_f c5 hf
    refine lv_aload_n hx hb dX4_readGrave_12 rfl (lv_at hl 1 rfl) ?_
    refine va_get (D := (dC, dI)) (ci := 3) (v := .ref (a2 1)) (C := RX3) (T := TX3) (N := 14) hx hb hts nX4_readGrave_3 hown hK hP 3 rfl rfl 1 (by decide) (hts _ qX4_readGrave_1) (fun _ h9 => h9) rfl dX4_readGrave_13 ?_
    refine lv_iload_n hx hb dX4_readGrave_16 rfl (lv_at hl 2 rfl) ?_
    refine lv_aload_n hx hb dX4_readGrave_17 rfl (lv_at hl 0 rfl) ?_
    refine va_get (D := (dC, dI)) (ci := 4) (v := .int (sc2 1 0)) (C := RX4) (T := TX4) (N := 4) hx hb hts nX4_readGrave_4 hown hK hP 0 rfl rfl 1 (by decide) (hts _ qX4_readGrave_2) (fun _ h9 => h9) rfl dX4_readGrave_18 ?_
    obtain ⟨c6, hf⟩ := q_ck hf
    obtain ⟨sn7, esn7, hf⟩ := q_lto hf
    refine va_iast hx hb hK hP hD hS 5 0 rfl rfl c6 dX4_readGrave_21 (fun H locs hP hD hS => ?_)
    have hP : va_P (dC, dI) vwCl ((wcE o0 o1 sc2) ++ (wcT cB o1 a1 sc3) ++ (wcH cI o2 a2 sn7)) H := by rw [esn7]; exact hP
    have hD : va_D A ((wcE o0 o1 sc2) ++ (wcT cB o1 a1 sc3) ++ (wcH cI o2 a2 sn7)) := by rw [esn7]; exact hD
    refine lv_aload_n hx hb dX4_readGrave_22 rfl (lv_at hl 0 rfl) ?_
    refine lv_iconst (v := 0) hx hb dX4_readGrave_23 (by decide) ?_
    refine lv_bipush (v := 9) hx hb dX4_readGrave_24 (by decide) ?_
    obtain ⟨r8, sc9, sc10, h11, hf⟩ := q_b3o hf
    refine q_rwVi (As := [.int (0 : Int32), .int (9 : Int32)]) (rest := []) (ci := 4) (wr := ((wcH cI o2 a2 sn7))) (w2 := ((wcE o0 o1 sc9) ++ (wcT cB o1 a1 sc10) ++ (wcH cI o2 a2 sn7))) ⟨hx, hb, hml, hown, hts⟩ (kX4_takeNumber l dC dI cI cB cZ o0 o1 a1 sc2 sc3 (0 : Int32) (9 : Int32) H.size r8 sc9 sc10 h11) (cwV 2 hts gX4_readGrave_X4_takeNumber rfl rfl rfl hdX4_takeNumber ⟨Nat.le_of_ble_eq_true rfl, Nat.le_of_ble_eq_true rfl⟩) hK hP hD hS hA [0, 1, 2] [3, 4, 5, 6, 7, 8, 9, 10, 11, 12, 13] [11, 12, 13, 0, 1, 2, 3, 4, 5, 6, 7, 8, 9, 10] rfl rfl (by decide) (by decide) (by decide) rfl (by decide) rfl rfl rfl hl.1 rfl (Nat.le_of_ble_eq_true rfl) dX4_readGrave_26 ⟨Nat.zero_le _, Nat.zero_le _⟩ (fun H locs hP hD hS => ?_)
    refine lv_if_ne (tgt := 34) hx hb dX4_readGrave_29 (by decide) (fun c12 => ?_) (fun c12 => ?_)
    · have hf := q_f c12 hf
      refine lv_aload_n hx hb dX4_readGrave_34 rfl (lv_at hl 1 rfl) ?_
      refine va_get (D := (dC, dI)) (ci := 3) (v := .ref (a2 2)) (C := RX3) (T := TX3) (N := 14) hx hb hts nX4_readGrave_3 hown hK hP 3 rfl rfl 2 (by decide) (hts _ qX4_readGrave_3) (fun _ h9 => h9) rfl dX4_readGrave_35 ?_
      refine lv_iload_n hx hb dX4_readGrave_38 rfl (lv_at hl 2 rfl) ?_
      refine lv_aload_n hx hb dX4_readGrave_39 rfl (lv_at hl 0 rfl) ?_
      refine va_get (D := (dC, dI)) (ci := 4) (v := .int (sc9 1 0)) (C := RX4) (T := TX4) (N := 4) hx hb hts nX4_readGrave_4 hown hK hP 0 rfl rfl 1 (by decide) (hts _ qX4_readGrave_2) (fun _ h9 => h9) rfl dX4_readGrave_40 ?_
      obtain ⟨c13, hf⟩ := q_ck hf
      obtain ⟨sn14, esn14, hf⟩ := q_lto hf
      refine va_iast hx hb hK hP hD hS 6 0 rfl rfl c13 dX4_readGrave_43 (fun H locs hP hD hS => ?_)
      have hP : va_P (dC, dI) vwCl ((wcE o0 o1 sc9) ++ (wcT cB o1 a1 sc10) ++ (wcH cI o2 a2 sn14)) H := by rw [esn14]; exact hP
      have hD : va_D A ((wcE o0 o1 sc9) ++ (wcT cB o1 a1 sc10) ++ (wcH cI o2 a2 sn14)) := by rw [esn14]; exact hD
      refine lv_aload_n hx hb dX4_readGrave_44 rfl (lv_at hl 0 rfl) ?_
      refine lv_iconst (v := 0) hx hb dX4_readGrave_45 (by decide) ?_
      refine lv_bipush (v := 9) hx hb dX4_readGrave_46 (by decide) ?_
      obtain ⟨r15, sc16, sc17, h18, hf⟩ := q_b3o hf
      refine q_rwVi (As := [.int (0 : Int32), .int (9 : Int32)]) (rest := []) (ci := 4) (wr := ((wcH cI o2 a2 sn14))) (w2 := ((wcE o0 o1 sc16) ++ (wcT cB o1 a1 sc17) ++ (wcH cI o2 a2 sn14))) ⟨hx, hb, hml, hown, hts⟩ (kX4_takeNumber l dC dI cI cB cZ o0 o1 a1 sc9 sc10 (0 : Int32) (9 : Int32) H.size r15 sc16 sc17 h18) (cwV 2 hts gX4_readGrave_X4_takeNumber rfl rfl rfl hdX4_takeNumber ⟨Nat.le_of_ble_eq_true rfl, Nat.le_of_ble_eq_true rfl⟩) hK hP hD hS hA [0, 1, 2] [3, 4, 5, 6, 7, 8, 9, 10, 11, 12, 13] [11, 12, 13, 0, 1, 2, 3, 4, 5, 6, 7, 8, 9, 10] rfl rfl (by decide) (by decide) (by decide) rfl (by decide) rfl rfl rfl hl.1 rfl (Nat.le_of_ble_eq_true rfl) dX4_readGrave_48 ⟨Nat.zero_le _, Nat.zero_le _⟩ (fun H locs hP hD hS => ?_)
      refine lv_if_ne (tgt := 56) hx hb dX4_readGrave_51 (by decide) (fun c19 => ?_) (fun c19 => ?_)
      · have hf := q_f c19 hf
        refine lv_aload_n hx hb dX4_readGrave_56 rfl (lv_at hl 1 rfl) ?_
        refine va_get (D := (dC, dI)) (ci := 3) (v := .ref (a2 3)) (C := RX3) (T := TX3) (N := 14) hx hb hts nX4_readGrave_3 hown hK hP 3 rfl rfl 3 (by decide) (hts _ qX4_readGrave_4) (fun _ h9 => h9) rfl dX4_readGrave_57 ?_
        refine lv_iload_n hx hb dX4_readGrave_60 rfl (lv_at hl 2 rfl) ?_
        refine lv_aload_n hx hb dX4_readGrave_61 rfl (lv_at hl 0 rfl) ?_
        refine va_get (D := (dC, dI)) (ci := 4) (v := .int (sc16 1 0)) (C := RX4) (T := TX4) (N := 4) hx hb hts nX4_readGrave_4 hown hK hP 0 rfl rfl 1 (by decide) (hts _ qX4_readGrave_2) (fun _ h9 => h9) rfl dX4_readGrave_62 ?_
        obtain ⟨c20, hf⟩ := q_ck hf
        obtain ⟨sn21, esn21, hf⟩ := q_lto hf
        refine va_iast hx hb hK hP hD hS 7 0 rfl rfl c20 dX4_readGrave_65 (fun H locs hP hD hS => ?_)
        have hP : va_P (dC, dI) vwCl ((wcE o0 o1 sc16) ++ (wcT cB o1 a1 sc17) ++ (wcH cI o2 a2 sn21)) H := by rw [esn21]; exact hP
        have hD : va_D A ((wcE o0 o1 sc16) ++ (wcT cB o1 a1 sc17) ++ (wcH cI o2 a2 sn21)) := by rw [esn21]; exact hD
        refine lv_aload_n hx hb dX4_readGrave_66 rfl (lv_at hl 0 rfl) ?_
        refine lv_iconst (v := 0) hx hb dX4_readGrave_67 (by decide) ?_
        refine lv_bipush (v := 15) hx hb dX4_readGrave_68 (by decide) ?_
        obtain ⟨r22, sc23, sc24, h25, hf⟩ := q_b3o hf
        refine q_rwVi (As := [.int (0 : Int32), .int (15 : Int32)]) (rest := []) (ci := 4) (wr := ((wcH cI o2 a2 sn21))) (w2 := ((wcE o0 o1 sc23) ++ (wcT cB o1 a1 sc24) ++ (wcH cI o2 a2 sn21))) ⟨hx, hb, hml, hown, hts⟩ (kX4_takeNumber l dC dI cI cB cZ o0 o1 a1 sc16 sc17 (0 : Int32) (15 : Int32) H.size r22 sc23 sc24 h25) (cwV 2 hts gX4_readGrave_X4_takeNumber rfl rfl rfl hdX4_takeNumber ⟨Nat.le_of_ble_eq_true rfl, Nat.le_of_ble_eq_true rfl⟩) hK hP hD hS hA [0, 1, 2] [3, 4, 5, 6, 7, 8, 9, 10, 11, 12, 13] [11, 12, 13, 0, 1, 2, 3, 4, 5, 6, 7, 8, 9, 10] rfl rfl (by decide) (by decide) (by decide) rfl (by decide) rfl rfl rfl hl.1 rfl (Nat.le_of_ble_eq_true rfl) dX4_readGrave_70 ⟨Nat.zero_le _, Nat.zero_le _⟩ (fun H locs hP hD hS => ?_)
        refine lv_if_ne (tgt := 78) hx hb dX4_readGrave_73 (by decide) (fun c26 => ?_) (fun c26 => ?_)
        · have hf := q_f c26 hf
          refine lv_aload_n hx hb dX4_readGrave_78 rfl (lv_at hl 1 rfl) ?_
          refine va_get (D := (dC, dI)) (ci := 3) (v := .ref (a2 4)) (C := RX3) (T := TX3) (N := 14) hx hb hts nX4_readGrave_3 hown hK hP 3 rfl rfl 4 (by decide) (hts _ qX4_readGrave_5) (fun _ h9 => h9) rfl dX4_readGrave_79 ?_
          refine lv_iload_n hx hb dX4_readGrave_82 rfl (lv_at hl 2 rfl) ?_
          refine lv_aload_n hx hb dX4_readGrave_83 rfl (lv_at hl 0 rfl) ?_
          refine va_get (D := (dC, dI)) (ci := 4) (v := .int (sc23 1 0)) (C := RX4) (T := TX4) (N := 4) hx hb hts nX4_readGrave_4 hown hK hP 0 rfl rfl 1 (by decide) (hts _ qX4_readGrave_2) (fun _ h9 => h9) rfl dX4_readGrave_84 ?_
          obtain ⟨c27, hf⟩ := q_ck hf
          obtain ⟨sn28, esn28, hf⟩ := q_lto hf
          refine va_iast hx hb hK hP hD hS 8 0 rfl rfl c27 dX4_readGrave_87 (fun H locs hP hD hS => ?_)
          have hP : va_P (dC, dI) vwCl ((wcE o0 o1 sc23) ++ (wcT cB o1 a1 sc24) ++ (wcH cI o2 a2 sn28)) H := by rw [esn28]; exact hP
          have hD : va_D A ((wcE o0 o1 sc23) ++ (wcT cB o1 a1 sc24) ++ (wcH cI o2 a2 sn28)) := by rw [esn28]; exact hD
          refine lv_aload_n hx hb dX4_readGrave_88 rfl (lv_at hl 0 rfl) ?_
          obtain ⟨r29, sc30, sc31, h32, hf⟩ := q_b3o hf
          refine q_rwVi (As := []) (rest := []) (ci := 4) (wr := ((wcH cI o2 a2 sn28))) (w2 := ((wcE o0 o1 sc30) ++ (wcT cB o1 a1 sc31) ++ (wcH cI o2 a2 sn28))) ⟨hx, hb, hml, hown, hts⟩ (kX4_takeSign l dC dI cI cB cZ o0 o1 a1 sc23 sc24 H.size r29 sc30 sc31 h32) (cwV 0 hts gX4_readGrave_X4_takeSign rfl rfl rfl hdX4_takeSign ⟨Nat.le_of_ble_eq_true rfl, Nat.le_of_ble_eq_true rfl⟩) hK hP hD hS hA [0, 1, 2] [3, 4, 5, 6, 7, 8, 9, 10, 11, 12, 13] [11, 12, 13, 0, 1, 2, 3, 4, 5, 6, 7, 8, 9, 10] rfl rfl (by decide) (by decide) (by decide) rfl (by decide) rfl rfl rfl hl.1 rfl (Nat.le_of_ble_eq_true rfl) dX4_readGrave_89 ⟨Nat.zero_le _, Nat.zero_le _⟩ (fun H locs hP hD hS => ?_)
          obtain ⟨c33, hf⟩ := q_ck hf
          obtain ⟨ee0, ee1, ee2, ee3⟩ := q_s4 hf
          subst ee1
          subst ee2
          subst ee3
          exact q_wretZ hx hb hr hlk (q_nb c33) hAe hK hP hD hS ee0 dX4_readGrave_92
        · have hf := q_t c26 hf
          refine lv_iconst (v := 0) hx hb dX4_readGrave_76 (by decide) ?_
          obtain ⟨ee0, ee1, ee2, ee3⟩ := q_s4 hf
          subst ee1
          subst ee2
          subst ee3
          exact q_wretZ hx hb hr hlk rfl hAe hK hP hD hS ee0 dX4_readGrave_77
      · have hf := q_t c19 hf
        refine lv_iconst (v := 0) hx hb dX4_readGrave_54 (by decide) ?_
        obtain ⟨ee0, ee1, ee2, ee3⟩ := q_s4 hf
        subst ee1
        subst ee2
        subst ee3
        exact q_wretZ hx hb hr hlk rfl hAe hK hP hD hS ee0 dX4_readGrave_55
    · have hf := q_t c12 hf
      refine lv_iconst (v := 0) hx hb dX4_readGrave_32 (by decide) ?_
      obtain ⟨ee0, ee1, ee2, ee3⟩ := q_s4 hf
      subst ee1
      subst ee2
      subst ee3
      exact q_wretZ hx hb hr hlk rfl hAe hK hP hD hS ee0 dX4_readGrave_33
  · have hf := q_t c5 hf
    refine lv_iconst (v := 0) hx hb dX4_readGrave_10 (by decide) ?_
    obtain ⟨ee0, ee1, ee2, ee3⟩ := q_s4 hf
    subst ee1
    subst ee2
    subst ee3
    exact q_wretZ hx hb hr hlk rfl hAe hK hP hD hS ee0 dX4_readGrave_11
theorem hdX4_readHorn : yX4_readHorn.cls = RX4 ∧ yX4_readHorn.cls ≠ "java/lang/invoke/MethodHandle" ∧ yX4_readHorn.cls ≠ "java/lang/invoke/VarHandle" ∧ (parseMethodDescriptor yX4_readHorn.desc).map (fun d => d.parameters.length) = some 2 := by decide +kernel
theorem qX4_readHorn_1 : (Cond.fieldLink RX4 104 "DeadAsked$Hill" "hornX" "[I") ∈ wsX4_readHorn := List.mem_of_getElem? (i := 1) (by decide +kernel)
theorem qX4_readHorn_2 : (Cond.fieldLink RX4 68 "DeadAsked$HillReader" "number" "I") ∈ wsX4_readHorn := List.mem_of_getElem? (i := 2) (by decide +kernel)
theorem qX4_readHorn_3 : (Cond.fieldLink RX4 107 "DeadAsked$Hill" "loud" "[I") ∈ wsX4_readHorn := List.mem_of_getElem? (i := 3) (by decide +kernel)
theorem nX4_readHorn_3 : ∀ w ∈ u_ws RX3 TX3 14, w ∈ wsX4_readHorn := fun _ h => (List.mem_cons_of_mem _ (List.mem_append_left _ (List.mem_append_left _ (List.mem_append_right _ h))))
theorem nX4_readHorn_4 : ∀ w ∈ u_ws RX4 TX4 4, w ∈ wsX4_readHorn := fun _ h => (List.mem_cons_of_mem _ (List.mem_append_left _ (List.mem_append_right _ h)))
set_option maxHeartbeats 4000000 in
set_option maxRecDepth 100000 in
theorem kX4_readHorn (o0 : Nat) (o1 : Nat) (a1 : Nat → Nat) (o2 : Nat) (a2 : Nat → Nat) (s0 : St) (s1 : St) (s2 : St) (p2 : Int32) (sz : Nat) (r : Int32) (z0 : St) (z1 : St) (z2 : St) (hf : fX4_readHorn s0 s1 s2 p2 = some (r, z0, z1, z2)) : Met l yX4_readHorn wsX4_readHorn ({ frames := 4, cells := 0, slots := 0, locals := 82 } : Room) (pcW (dC, dI) (q_ty cI cB cZ) [.ref o0, .ref o2, .int p2] ((wcE o0 o1 s0) ++ (wcT cB o1 a1 s1) ++ (wcH cI o2 a2 s2)) sz) (qiW (dC, dI) (q_ty cI cB cZ) ((wcE o0 o1 s0) ++ (wcT cB o1 a1 s1) ++ (wcH cI o2 a2 s2)) ((wcE o0 o1 z0) ++ (wcT cB o1 a1 z1) ++ (wcH cI o2 a2 z2)) sz r) 0 0 (va_A ((wcE o0 o1 s0) ++ (wcT cB o1 a1 s1) ++ (wcH cI o2 a2 s2)) sz) := by
  refine q_rwM (cc := cX4_readHorn) (maxL := 3) (ret := (some .boolean)) (by decide +kernel) rfl (Nat.le_of_ble_eq_true rfl) ?_
  intro p e s m below meth c hx hb hr hlk hml hown hts hK A H hAe hH hsz hP hD hA hS ls hl
  have hown : s.vm.findClass RX4 = some m.cls := hown
  have hl : lv_has ls 3 [(0, .ref o0), (1, .ref o2), (2, .int p2)] := hl
  unfold fX4_readHorn at hf
  refine lv_aload_n hx hb dX4_readHorn_0 rfl (lv_at hl 0 rfl) ?_
  refine lv_iconst (v := 0) hx hb dX4_readHorn_1 (by decide) ?_
  refine lv_bipush (v := 30) hx hb dX4_readHorn_2 (by decide) ?_
  obtain ⟨r1, sc2, sc3, h4, hf⟩ := q_b3o hf
  refine q_rwVi (As := [.int (0 : Int32), .int (30 : Int32)]) (rest := []) (ci := 4) (wr := ((wcH cI o2 a2 s2))) (w2 := ((wcE o0 o1 sc2) ++ (wcT cB o1 a1 sc3) ++ (wcH cI o2 a2 s2))) ⟨hx, hb, hml, hown, hts⟩ (kX4_takeNumber l dC dI cI cB cZ o0 o1 a1 s0 s1 (0 : Int32) (30 : Int32) H.size r1 sc2 sc3 h4) (cwV 2 hts gX4_readHorn_X4_takeNumber rfl rfl rfl hdX4_takeNumber ⟨Nat.le_of_ble_eq_true rfl, Nat.le_of_ble_eq_true rfl⟩) hK hP hD hS hA [0, 1, 2] [3, 4, 5, 6, 7, 8, 9, 10, 11, 12, 13] [11, 12, 13, 0, 1, 2, 3, 4, 5, 6, 7, 8, 9, 10] rfl rfl (by decide) (by decide) (by decide) rfl (by decide) rfl rfl rfl hl.1 rfl (Nat.le_of_ble_eq_true rfl) dX4_readHorn_4 ⟨Nat.zero_le _, Nat.zero_le _⟩ (fun H locs hP hD hS => ?_)
  refine lv_if_ne (tgt := 12) hx hb dX4_readHorn_7 (by decide) (fun c5 => ?_) (fun c5 => ?_)
  · have hf := q_f c5 hf
    refine lv_aload_n hx hb dX4_readHorn_12 rfl (lv_at hl 1 rfl) ?_
    refine va_get (D := (dC, dI)) (ci := 3) (v := .ref (a2 5)) (C := RX3) (T := TX3) (N := 14) hx hb hts nX4_readHorn_3 hown hK hP 3 rfl rfl 5 (by decide) (hts _ qX4_readHorn_1) (fun _ h9 => h9) rfl dX4_readHorn_13 ?_
    refine lv_iload_n hx hb dX4_readHorn_16 rfl (lv_at hl 2 rfl) ?_
    refine lv_aload_n hx hb dX4_readHorn_17 rfl (lv_at hl 0 rfl) ?_
    refine va_get (D := (dC, dI)) (ci := 4) (v := .int (sc2 1 0)) (C := RX4) (T := TX4) (N := 4) hx hb hts nX4_readHorn_4 hown hK hP 0 rfl rfl 1 (by decide) (hts _ qX4_readHorn_2) (fun _ h9 => h9) rfl dX4_readHorn_18 ?_
    obtain ⟨c6, hf⟩ := q_ck hf
    obtain ⟨sn7, esn7, hf⟩ := q_lto hf
    refine va_iast hx hb hK hP hD hS 9 0 rfl rfl c6 dX4_readHorn_21 (fun H locs hP hD hS => ?_)
    have hP : va_P (dC, dI) vwCl ((wcE o0 o1 sc2) ++ (wcT cB o1 a1 sc3) ++ (wcH cI o2 a2 sn7)) H := by rw [esn7]; exact hP
    have hD : va_D A ((wcE o0 o1 sc2) ++ (wcT cB o1 a1 sc3) ++ (wcH cI o2 a2 sn7)) := by rw [esn7]; exact hD
    refine lv_aload_n hx hb dX4_readHorn_22 rfl (lv_at hl 0 rfl) ?_
    refine lv_iconst (v := 1) hx hb dX4_readHorn_23 (by decide) ?_
    refine lv_bipush (v := 40) hx hb dX4_readHorn_24 (by decide) ?_
    obtain ⟨r8, sc9, sc10, h11, hf⟩ := q_b3o hf
    refine q_rwVi (As := [.int (1 : Int32), .int (40 : Int32)]) (rest := []) (ci := 4) (wr := ((wcH cI o2 a2 sn7))) (w2 := ((wcE o0 o1 sc9) ++ (wcT cB o1 a1 sc10) ++ (wcH cI o2 a2 sn7))) ⟨hx, hb, hml, hown, hts⟩ (kX4_takeNumber l dC dI cI cB cZ o0 o1 a1 sc2 sc3 (1 : Int32) (40 : Int32) H.size r8 sc9 sc10 h11) (cwV 2 hts gX4_readHorn_X4_takeNumber rfl rfl rfl hdX4_takeNumber ⟨Nat.le_of_ble_eq_true rfl, Nat.le_of_ble_eq_true rfl⟩) hK hP hD hS hA [0, 1, 2] [3, 4, 5, 6, 7, 8, 9, 10, 11, 12, 13] [11, 12, 13, 0, 1, 2, 3, 4, 5, 6, 7, 8, 9, 10] rfl rfl (by decide) (by decide) (by decide) rfl (by decide) rfl rfl rfl hl.1 rfl (Nat.le_of_ble_eq_true rfl) dX4_readHorn_26 ⟨Nat.zero_le _, Nat.zero_le _⟩ (fun H locs hP hD hS => ?_)
    refine lv_if_ne (tgt := 34) hx hb dX4_readHorn_29 (by decide) (fun c12 => ?_) (fun c12 => ?_)
    · have hf := q_f c12 hf
      refine lv_aload_n hx hb dX4_readHorn_34 rfl (lv_at hl 1 rfl) ?_
      refine va_get (D := (dC, dI)) (ci := 3) (v := .ref (a2 6)) (C := RX3) (T := TX3) (N := 14) hx hb hts nX4_readHorn_3 hown hK hP 3 rfl rfl 6 (by decide) (hts _ qX4_readHorn_3) (fun _ h9 => h9) rfl dX4_readHorn_35 ?_
      refine lv_iload_n hx hb dX4_readHorn_38 rfl (lv_at hl 2 rfl) ?_
      refine lv_aload_n hx hb dX4_readHorn_39 rfl (lv_at hl 0 rfl) ?_
      refine va_get (D := (dC, dI)) (ci := 4) (v := .int (sc9 1 0)) (C := RX4) (T := TX4) (N := 4) hx hb hts nX4_readHorn_4 hown hK hP 0 rfl rfl 1 (by decide) (hts _ qX4_readHorn_2) (fun _ h9 => h9) rfl dX4_readHorn_40 ?_
      obtain ⟨c13, hf⟩ := q_ck hf
      obtain ⟨sn14, esn14, hf⟩ := q_lto hf
      refine va_iast hx hb hK hP hD hS 10 0 rfl rfl c13 dX4_readHorn_43 (fun H locs hP hD hS => ?_)
      have hP : va_P (dC, dI) vwCl ((wcE o0 o1 sc9) ++ (wcT cB o1 a1 sc10) ++ (wcH cI o2 a2 sn14)) H := by rw [esn14]; exact hP
      have hD : va_D A ((wcE o0 o1 sc9) ++ (wcT cB o1 a1 sc10) ++ (wcH cI o2 a2 sn14)) := by rw [esn14]; exact hD
      refine lv_aload_n hx hb dX4_readHorn_44 rfl (lv_at hl 0 rfl) ?_
      obtain ⟨r15, sc16, sc17, h18, hf⟩ := q_b3o hf
      refine q_rwVi (As := []) (rest := []) (ci := 4) (wr := ((wcH cI o2 a2 sn14))) (w2 := ((wcE o0 o1 sc16) ++ (wcT cB o1 a1 sc17) ++ (wcH cI o2 a2 sn14))) ⟨hx, hb, hml, hown, hts⟩ (kX4_takeSign l dC dI cI cB cZ o0 o1 a1 sc9 sc10 H.size r15 sc16 sc17 h18) (cwV 0 hts gX4_readHorn_X4_takeSign rfl rfl rfl hdX4_takeSign ⟨Nat.le_of_ble_eq_true rfl, Nat.le_of_ble_eq_true rfl⟩) hK hP hD hS hA [0, 1, 2] [3, 4, 5, 6, 7, 8, 9, 10, 11, 12, 13] [11, 12, 13, 0, 1, 2, 3, 4, 5, 6, 7, 8, 9, 10] rfl rfl (by decide) (by decide) (by decide) rfl (by decide) rfl rfl rfl hl.1 rfl (Nat.le_of_ble_eq_true rfl) dX4_readHorn_45 ⟨Nat.zero_le _, Nat.zero_le _⟩ (fun H locs hP hD hS => ?_)
      obtain ⟨c19, hf⟩ := q_ck hf
      obtain ⟨ee0, ee1, ee2, ee3⟩ := q_s4 hf
      subst ee1
      subst ee2
      subst ee3
      exact q_wretZ hx hb hr hlk (q_nb c19) hAe hK hP hD hS ee0 dX4_readHorn_48
    · have hf := q_t c12 hf
      refine lv_iconst (v := 0) hx hb dX4_readHorn_32 (by decide) ?_
      obtain ⟨ee0, ee1, ee2, ee3⟩ := q_s4 hf
      subst ee1
      subst ee2
      subst ee3
      exact q_wretZ hx hb hr hlk rfl hAe hK hP hD hS ee0 dX4_readHorn_33
  · have hf := q_t c5 hf
    refine lv_iconst (v := 0) hx hb dX4_readHorn_10 (by decide) ?_
    obtain ⟨ee0, ee1, ee2, ee3⟩ := q_s4 hf
    subst ee1
    subst ee2
    subst ee3
    exact q_wretZ hx hb hr hlk rfl hAe hK hP hD hS ee0 dX4_readHorn_11
