variable (l : Launch) (dC : Nat → ClassId) (dI : Nat → Nat → Nat) (cI cB cZ : ClassId) (adK adV : Nat → Nat)
theorem hdX6_isWord : yX6_isWord.cls = RX6 ∧ yX6_isWord.cls ≠ "java/lang/invoke/MethodHandle" ∧ yX6_isWord.cls ≠ "java/lang/invoke/VarHandle" ∧ (parseMethodDescriptor yX6_isWord.desc).map (fun d => d.parameters.length) = some 1 := by decide +kernel
theorem qX6_isWord_1 : (Cond.fieldLink RX6 30 "DeadAsked$Tape" "sort" "I") ∈ wsX6_isWord := List.mem_of_getElem? (i := 1) (by decide +kernel)
theorem qX6_isWord_2 : (Cond.fieldLink RX6 17 "DeadAsked$Tape" "behind" "I") ∈ wsX6_isWord := List.mem_of_getElem? (i := 2) (by decide +kernel)
theorem qX6_isWord_3 : (Cond.fieldLink RX6 23 "DeadAsked$Tape" "start" "I") ∈ wsX6_isWord := List.mem_of_getElem? (i := 3) (by decide +kernel)
theorem qX6_isWord_4 : (Cond.fieldLink RX6 13 "DeadAsked$Tape" "used" "I") ∈ wsX6_isWord := List.mem_of_getElem? (i := 4) (by decide +kernel)
theorem qX6_isWord_5 : (Cond.fieldLink RX6 9 "DeadAsked$Tape" "bytes" "[B") ∈ wsX6_isWord := List.mem_of_getElem? (i := 5) (by decide +kernel)
theorem nX6_isWord_6 : ∀ w ∈ u_ws RX6 TX6 5, w ∈ wsX6_isWord := fun _ h => (List.mem_cons_of_mem _ (List.mem_append_right _ h))
set_option maxHeartbeats 4000000 in
set_option maxRecDepth 100000 in
theorem kX6_isWord (o0 : Nat) (a0 : Nat → Nat) (s0 : St) (wi : Nat) (hwi : wi < 9) (r : Int32) (hf : fX6_isWord s0 wi = some r) : Met l yX6_isWord wsX6_isWord ({ frames := 4, cells := 0, slots := 0, locals := 120 } : Room) (pcE [.ref o0, .ref (adK wi)] (eW (dC, dI) (q_ty cI cB cZ) adK adV (wcT cB o0 a0 s0))) (qiR r) 0 0 (fun _ => False) := by
  refine q_eM (cc := cX6_isWord) (maxL := 3) (ret := (some .boolean)) (by decide +kernel) rfl (Nat.le_of_ble_eq_true rfl) ?_
  intro p e s m below meth c hx hb hr hlk hml hown hts hE0 ls hl
  obtain ⟨hP, hK, hE⟩ := hE0
  have hown : s.vm.findClass RX6 = some m.cls := hown
  have hl : lv_has ls 3 [(0, .ref o0), (1, .ref (adK wi))] := hl
  unfold fX6_isWord at hf
  refine lv_aload_n hx hb dX6_isWord_0 rfl (lv_at hl 0 rfl) ?_
  refine va_get (D := (dC, dI)) (ci := 6) (v := .int (s0 4 0)) (C := RX6) (T := TX6) (N := 5) hx hb hts nX6_isWord_6 hown hK hP 0 rfl rfl 4 (by decide) (hts _ qX6_isWord_1) (fun _ h9 => h9) rfl dX6_isWord_1 ?_
  refine lv_iconst (v := 1) hx hb dX6_isWord_4 (by decide) ?_
  refine lv_icmp_ne (tgt := 24) hx hb dX6_isWord_5 (by decide) (fun c1 => ?_) (fun c1 => ?_)
  · have hf := q_f c1 hf
    refine lv_iconst (v := 0) hx hb dX6_isWord_24 (by decide) ?_
    have ee0 := q_s1 hf
    exact q_retZ hx hb hr hlk rfl ee0 dX6_isWord_25
  · have hf := q_t c1 hf
    refine lv_aload_n hx hb dX6_isWord_8 rfl (lv_at hl 0 rfl) ?_
    refine va_get (D := (dC, dI)) (ci := 6) (v := .int (s0 3 0)) (C := RX6) (T := TX6) (N := 5) hx hb hts nX6_isWord_6 hown hK hP 0 rfl rfl 3 (by decide) (hts _ qX6_isWord_2) (fun _ h9 => h9) rfl dX6_isWord_9 ?_
    refine lv_aload_n hx hb dX6_isWord_12 rfl (lv_at hl 0 rfl) ?_
    refine va_get (D := (dC, dI)) (ci := 6) (v := .int (s0 2 0)) (C := RX6) (T := TX6) (N := 5) hx hb hts nX6_isWord_6 hown hK hP 0 rfl rfl 2 (by decide) (hts _ qX6_isWord_3) (fun _ h9 => h9) rfl dX6_isWord_13 ?_
    refine lv_isub hx hb dX6_isWord_16 ?_
    refine lv_aload_n hx hb dX6_isWord_17 rfl (lv_at hl 1 rfl) ?_
    refine q_eVi (As := []) (rest := [.int ((s0 3 0) - (s0 2 0))]) ⟨hx, hb, hml, hown, hts⟩ (kJ0_length l (adK wi) (adV wi) (sLen.getD wi 0) (fun j => (sByt.getD wi []).getD j 0)) (cwV 0 hts gX6_isWord_J0_length_8abf5 rfl rfl rfl hdJ0_length ⟨Nat.le_of_ble_eq_true rfl, Nat.le_of_ble_eq_true rfl⟩) q_mvStr (hE.str hwi) (q_recvO (hE.str hwi).2.2.2.2.1) rfl hl.1 rfl (Nat.le_of_ble_eq_true rfl) dX6_isWord_18 ⟨Nat.zero_le _, Nat.zero_le _⟩ ?_
    refine W.eq (g2 := F0 m 21 ls [.int (sN wi), .int ((s0 3 0) - (s0 2 0))]) rfl ?_
    refine lv_icmp_eq (tgt := 26) hx hb dX6_isWord_21 (by decide) (fun c2 => ?_) (fun c2 => ?_)
    · have hf := q_t c2 hf
      refine lv_iconst (v := 0) hx hb dX6_isWord_26 (by decide) ?_
      refine lv_istore_n (lv' := [(2, .int (0 : Int32)), (0, .ref o0), (1, .ref (adK wi))]) hx hb dX6_isWord_27 rfl hl (by decide) rfl (fun ls hl => ?_)
      have aihn4 : ∀ n4 : Nat, ∀ l2_3 : Int32, fX6_isWord_L28 s0 wi n4 l2_3 = some r → ∀ ls : Array Slot, lv_has ls 3 [(2, .int l2_3), (0, .ref o0), (1, .ref (adK wi))] → W p l e ({ frames := 4, cells := 0, slots := 0, locals := 120 } : Room) s m [.ref o0, .ref (adK wi)].toArray below meth c s.heap [] 0 0 (MQ below (qiR r) [.ref o0, .ref (adK wi)].toArray s 0 0 (fun _ => False)) (F0 m 28 ls []) := by
        intro n4
        induction n4 with
        | zero =>
          intro l2_3 hf
          exact q_no hf
        | succ n4 ihn4 =>
          intro l2_3 hf ls hl
          rw [fX6_isWord_L28] at hf
          refine lv_iload_n hx hb dX6_isWord_28 rfl (lv_at hl 0 rfl) ?_
          refine lv_aload_n hx hb dX6_isWord_29 rfl (lv_at hl 2 rfl) ?_
          refine q_eVi (As := []) (rest := [.int l2_3]) ⟨hx, hb, hml, hown, hts⟩ (kJ0_length l (adK wi) (adV wi) (sLen.getD wi 0) (fun j => (sByt.getD wi []).getD j 0)) (cwV 0 hts gX6_isWord_J0_length_8abf5 rfl rfl rfl hdJ0_length ⟨Nat.le_of_ble_eq_true rfl, Nat.le_of_ble_eq_true rfl⟩) q_mvStr (hE.str hwi) (q_recvO (hE.str hwi).2.2.2.2.1) rfl hl.1 rfl (Nat.le_of_ble_eq_true rfl) dX6_isWord_30 ⟨Nat.zero_le _, Nat.zero_le _⟩ ?_
          refine W.eq (g2 := F0 m 33 ls [.int (sN wi), .int l2_3]) rfl ?_
          refine lv_icmp_ge (tgt := 76) hx hb dX6_isWord_33 (by decide) (fun c5 => ?_) (fun c5 => ?_)
          · have hf := q_t c5 hf
            refine lv_iconst (v := 1) hx hb dX6_isWord_76 (by decide) ?_
            have ee0 := q_s1 hf
            exact q_retZ hx hb hr hlk rfl ee0 dX6_isWord_77
          · have hf := q_f c5 hf
            refine lv_aload_n hx hb dX6_isWord_36 rfl (lv_at hl 1 rfl) ?_
            refine va_get (D := (dC, dI)) (ci := 6) (v := .int (s0 2 0)) (C := RX6) (T := TX6) (N := 5) hx hb hts nX6_isWord_6 hown hK hP 0 rfl rfl 2 (by decide) (hts _ qX6_isWord_3) (fun _ h9 => h9) rfl dX6_isWord_37 ?_
            refine lv_iload_n hx hb dX6_isWord_40 rfl (lv_at hl 0 rfl) ?_
            refine lv_iadd hx hb dX6_isWord_41 ?_
            refine lv_aload_n hx hb dX6_isWord_42 rfl (lv_at hl 1 rfl) ?_
            refine va_get (D := (dC, dI)) (ci := 6) (v := .int (s0 1 0)) (C := RX6) (T := TX6) (N := 5) hx hb hts nX6_isWord_6 hown hK hP 0 rfl rfl 1 (by decide) (hts _ qX6_isWord_4) (fun _ h9 => h9) rfl dX6_isWord_43 ?_
            refine lv_icmp_ge (tgt := 76) hx hb dX6_isWord_46 (by decide) (fun c6 => ?_) (fun c6 => ?_)
            · have hf := q_t c6 hf
              refine lv_iconst (v := 1) hx hb dX6_isWord_76 (by decide) ?_
              have ee0 := q_s1 hf
              exact q_retZ hx hb hr hlk rfl ee0 dX6_isWord_77
            · have hf := q_f c6 hf
              refine lv_aload_n hx hb dX6_isWord_49 rfl (lv_at hl 1 rfl) ?_
              refine va_get (D := (dC, dI)) (ci := 6) (v := .ref (a0 0)) (C := RX6) (T := TX6) (N := 5) hx hb hts nX6_isWord_6 hown hK hP 0 rfl rfl 0 (by decide) (hts _ qX6_isWord_5) (fun _ h9 => h9) rfl dX6_isWord_50 ?_
              refine lv_aload_n hx hb dX6_isWord_53 rfl (lv_at hl 1 rfl) ?_
              refine va_get (D := (dC, dI)) (ci := 6) (v := .int (s0 2 0)) (C := RX6) (T := TX6) (N := 5) hx hb hts nX6_isWord_6 hown hK hP 0 rfl rfl 2 (by decide) (hts _ qX6_isWord_3) (fun _ h9 => h9) rfl dX6_isWord_54 ?_
              refine lv_iload_n hx hb dX6_isWord_57 rfl (lv_at hl 0 rfl) ?_
              refine lv_iadd hx hb dX6_isWord_58 ?_
              obtain ⟨c7, hf⟩ := q_ck hf
              refine va_bald hx hb hK hP 1 1 rfl rfl c7 dX6_isWord_59 ?_
              refine lv_aload_n hx hb dX6_isWord_60 rfl (lv_at hl 2 rfl) ?_
              refine lv_iload_n hx hb dX6_isWord_61 rfl (lv_at hl 0 rfl) ?_
              obtain ⟨c8, hf⟩ := q_ck hf
              refine q_eVi (As := [.int l2_3]) (rest := [.int (s0 0 ((s0 2 0) + l2_3).toNatClampNeg)]) ⟨hx, hb, hml, hown, hts⟩ (kJ0_charAt l (adK wi) (adV wi) (sLen.getD wi 0) (fun j => (sByt.getD wi []).getD j 0) l2_3 c8 (sLen_lt _)) (cwV 1 hts gX6_isWord_J0_charAt_5068e rfl rfl rfl hdJ0_charAt ⟨Nat.le_of_ble_eq_true rfl, Nat.le_of_ble_eq_true rfl⟩) q_mvStr (hE.str hwi) (q_recvO (hE.str hwi).2.2.2.2.1) rfl hl.1 rfl (Nat.le_of_ble_eq_true rfl) dX6_isWord_62 ⟨Nat.zero_le _, Nat.zero_le _⟩ ?_
              refine W.eq (g2 := F0 m 65 ls [.int (sC wi l2_3), .int (s0 0 ((s0 2 0) + l2_3).toNatClampNeg)]) rfl ?_
              refine lv_icmp_eq (tgt := 70) hx hb dX6_isWord_65 (by decide) (fun c9 => ?_) (fun c9 => ?_)
              · have hf := q_t c9 hf
                refine lv_iinc (v := l2_3 + (1 : Int32)) (lv' := [(2, .int (l2_3 + (1 : Int32))), (0, .ref o0), (1, .ref (adK wi))]) hx hb dX6_isWord_70 hl (k := 0) rfl rfl (by decide) rfl (fun ls hl => ?_)
                refine lv_goto (tgt := 28) hx hb dX6_isWord_73 (by decide) ?_
                exact ihn4 (l2_3 + (1 : Int32)) hf _ hl
              · have hf := q_f c9 hf
                refine lv_iconst (v := 0) hx hb dX6_isWord_68 (by decide) ?_
                have ee0 := q_s1 hf
                exact q_retZ hx hb hr hlk rfl ee0 dX6_isWord_69
      exact aihn4 5000 (0 : Int32) hf _ hl
    · have hf := q_f c2 hf
      refine lv_iconst (v := 0) hx hb dX6_isWord_24 (by decide) ?_
      have ee0 := q_s1 hf
      exact q_retZ hx hb hr hlk rfl ee0 dX6_isWord_25
theorem hdX4_kindNamed : yX4_kindNamed.cls = RX4 ∧ yX4_kindNamed.cls ≠ "java/lang/invoke/MethodHandle" ∧ yX4_kindNamed.cls ≠ "java/lang/invoke/VarHandle" ∧ (parseMethodDescriptor yX4_kindNamed.desc).map (fun d => d.parameters.length) = some 0 := by decide +kernel
theorem qX4_kindNamed_1 : (Cond.fieldLink RX4 9 "DeadAsked$HillReader" "tape" "LDeadAsked$Tape;") ∈ wsX4_kindNamed := List.mem_of_getElem? (i := 1) (by decide +kernel)
theorem qX4_kindNamed_2 : (Cond.constant RX4 122 (-1000000)) ∈ wsX4_kindNamed := List.mem_of_getElem? (i := 2) (by decide +kernel)
theorem nX4_kindNamed_4 : ∀ w ∈ u_ws RX4 TX4 4, w ∈ wsX4_kindNamed := fun _ h => (List.mem_cons_of_mem _ (List.mem_append_left _ (List.mem_append_right _ h)))
set_option maxHeartbeats 4000000 in
set_option maxRecDepth 100000 in
theorem kX4_kindNamed (o0 : Nat) (o1 : Nat) (a1 : Nat → Nat) (s0 : St) (s1 : St) (r : Int32) (hf : fX4_kindNamed s1 = some r) : Met l yX4_kindNamed wsX4_kindNamed ({ frames := 5, cells := 0, slots := 0, locals := 142 } : Room) (pcE [.ref o0] (eW (dC, dI) (q_ty cI cB cZ) adK adV ((wcE o0 o1 s0) ++ (wcT cB o1 a1 s1)))) (qiR r) 0 0 (fun _ => False) := by
  refine q_eM (cc := cX4_kindNamed) (maxL := 1) (ret := (some .int)) (by decide +kernel) rfl (Nat.le_of_ble_eq_true rfl) ?_
  intro p e s m below meth c hx hb hr hlk hml hown hts hE0 ls hl
  obtain ⟨hP, hK, hE⟩ := hE0
  have hown : s.vm.findClass RX4 = some m.cls := hown
  have hl : lv_has ls 1 [(0, .ref o0)] := hl
  unfold fX4_kindNamed at hf
  refine lv_aload_n hx hb dX4_kindNamed_0 rfl (lv_at hl 0 rfl) ?_
  refine va_get (D := (dC, dI)) (ci := 4) (v := .ref o1) (C := RX4) (T := TX4) (N := 4) hx hb hts nX4_kindNamed_4 hown hK hP 0 rfl rfl 0 (by decide) (hts _ qX4_kindNamed_1) (fun _ h9 => h9) rfl dX4_kindNamed_1 ?_
  refine va_ldcS (q := adK 4) hx hb hown (hE.2.2.2 4 (by decide)) dX4_kindNamed_4 ?_
  obtain ⟨r1, h2, hf⟩ := q_b1o hf
  refine q_eVi (As := [.ref (adK 4)]) (rest := []) ⟨hx, hb, hml, hown, hts⟩ (kX6_isWord l dC dI cI cB cZ adK adV o1 a1 s1 4 (by decide) r1 h2) (cwV 1 hts gX4_kindNamed_X6_isWord rfl rfl rfl hdX6_isWord ⟨Nat.le_of_ble_eq_true rfl, Nat.le_of_ble_eq_true rfl⟩) q_mvW ⟨(hP.sub [1, 2] rfl), hK, hE⟩ (va_recv hK (hP.sub [1, 2] rfl) (ci := 6) (q0 := 0) rfl rfl) rfl hl.1 rfl (Nat.le_of_ble_eq_true rfl) dX4_kindNamed_6 ⟨Nat.zero_le _, Nat.zero_le _⟩ ?_
  refine lv_if_eq (tgt := 14) hx hb dX4_kindNamed_9 (by decide) (fun c3 => ?_) (fun c3 => ?_)
  · have hf := q_t c3 hf
    refine lv_aload_n hx hb dX4_kindNamed_14 rfl (lv_at hl 0 rfl) ?_
    refine va_get (D := (dC, dI)) (ci := 4) (v := .ref o1) (C := RX4) (T := TX4) (N := 4) hx hb hts nX4_kindNamed_4 hown hK hP 0 rfl rfl 0 (by decide) (hts _ qX4_kindNamed_1) (fun _ h9 => h9) rfl dX4_kindNamed_15 ?_
    refine va_ldcS (q := adK 5) hx hb hown (hE.2.2.2 5 (by decide)) dX4_kindNamed_18 ?_
    obtain ⟨r4, h5, hf⟩ := q_b1o hf
    refine q_eVi (As := [.ref (adK 5)]) (rest := []) ⟨hx, hb, hml, hown, hts⟩ (kX6_isWord l dC dI cI cB cZ adK adV o1 a1 s1 5 (by decide) r4 h5) (cwV 1 hts gX4_kindNamed_X6_isWord rfl rfl rfl hdX6_isWord ⟨Nat.le_of_ble_eq_true rfl, Nat.le_of_ble_eq_true rfl⟩) q_mvW ⟨(hP.sub [1, 2] rfl), hK, hE⟩ (va_recv hK (hP.sub [1, 2] rfl) (ci := 6) (q0 := 0) rfl rfl) rfl hl.1 rfl (Nat.le_of_ble_eq_true rfl) dX4_kindNamed_20 ⟨Nat.zero_le _, Nat.zero_le _⟩ ?_
    refine lv_if_eq (tgt := 28) hx hb dX4_kindNamed_23 (by decide) (fun c6 => ?_) (fun c6 => ?_)
    · have hf := q_t c6 hf
      refine lv_aload_n hx hb dX4_kindNamed_28 rfl (lv_at hl 0 rfl) ?_
      refine va_get (D := (dC, dI)) (ci := 4) (v := .ref o1) (C := RX4) (T := TX4) (N := 4) hx hb hts nX4_kindNamed_4 hown hK hP 0 rfl rfl 0 (by decide) (hts _ qX4_kindNamed_1) (fun _ h9 => h9) rfl dX4_kindNamed_29 ?_
      refine va_ldcS (q := adK 6) hx hb hown (hE.2.2.2 6 (by decide)) dX4_kindNamed_32 ?_
      obtain ⟨r7, h8, hf⟩ := q_b1o hf
      refine q_eVi (As := [.ref (adK 6)]) (rest := []) ⟨hx, hb, hml, hown, hts⟩ (kX6_isWord l dC dI cI cB cZ adK adV o1 a1 s1 6 (by decide) r7 h8) (cwV 1 hts gX4_kindNamed_X6_isWord rfl rfl rfl hdX6_isWord ⟨Nat.le_of_ble_eq_true rfl, Nat.le_of_ble_eq_true rfl⟩) q_mvW ⟨(hP.sub [1, 2] rfl), hK, hE⟩ (va_recv hK (hP.sub [1, 2] rfl) (ci := 6) (q0 := 0) rfl rfl) rfl hl.1 rfl (Nat.le_of_ble_eq_true rfl) dX4_kindNamed_34 ⟨Nat.zero_le _, Nat.zero_le _⟩ ?_
      refine lv_if_eq (tgt := 42) hx hb dX4_kindNamed_37 (by decide) (fun c9 => ?_) (fun c9 => ?_)
      · have hf := q_t c9 hf
        refine lv_aload_n hx hb dX4_kindNamed_42 rfl (lv_at hl 0 rfl) ?_
        refine va_get (D := (dC, dI)) (ci := 4) (v := .ref o1) (C := RX4) (T := TX4) (N := 4) hx hb hts nX4_kindNamed_4 hown hK hP 0 rfl rfl 0 (by decide) (hts _ qX4_kindNamed_1) (fun _ h9 => h9) rfl dX4_kindNamed_43 ?_
        refine va_ldcS (q := adK 7) hx hb hown (hE.2.2.2 7 (by decide)) dX4_kindNamed_46 ?_
        obtain ⟨r10, h11, hf⟩ := q_b1o hf
        refine q_eVi (As := [.ref (adK 7)]) (rest := []) ⟨hx, hb, hml, hown, hts⟩ (kX6_isWord l dC dI cI cB cZ adK adV o1 a1 s1 7 (by decide) r10 h11) (cwV 1 hts gX4_kindNamed_X6_isWord rfl rfl rfl hdX6_isWord ⟨Nat.le_of_ble_eq_true rfl, Nat.le_of_ble_eq_true rfl⟩) q_mvW ⟨(hP.sub [1, 2] rfl), hK, hE⟩ (va_recv hK (hP.sub [1, 2] rfl) (ci := 6) (q0 := 0) rfl rfl) rfl hl.1 rfl (Nat.le_of_ble_eq_true rfl) dX4_kindNamed_48 ⟨Nat.zero_le _, Nat.zero_le _⟩ ?_
        refine lv_if_eq (tgt := 56) hx hb dX4_kindNamed_51 (by decide) (fun c12 => ?_) (fun c12 => ?_)
        · have hf := q_t c12 hf
          refine lv_aload_n hx hb dX4_kindNamed_56 rfl (lv_at hl 0 rfl) ?_
          refine va_get (D := (dC, dI)) (ci := 4) (v := .ref o1) (C := RX4) (T := TX4) (N := 4) hx hb hts nX4_kindNamed_4 hown hK hP 0 rfl rfl 0 (by decide) (hts _ qX4_kindNamed_1) (fun _ h9 => h9) rfl dX4_kindNamed_57 ?_
          refine va_ldcS (q := adK 8) hx hb hown (hE.2.2.2 8 (by decide)) dX4_kindNamed_60 ?_
          obtain ⟨r13, h14, hf⟩ := q_b1o hf
          refine q_eVi (As := [.ref (adK 8)]) (rest := []) ⟨hx, hb, hml, hown, hts⟩ (kX6_isWord l dC dI cI cB cZ adK adV o1 a1 s1 8 (by decide) r13 h14) (cwV 1 hts gX4_kindNamed_X6_isWord rfl rfl rfl hdX6_isWord ⟨Nat.le_of_ble_eq_true rfl, Nat.le_of_ble_eq_true rfl⟩) q_mvW ⟨(hP.sub [1, 2] rfl), hK, hE⟩ (va_recv hK (hP.sub [1, 2] rfl) (ci := 6) (q0 := 0) rfl rfl) rfl hl.1 rfl (Nat.le_of_ble_eq_true rfl) dX4_kindNamed_62 ⟨Nat.zero_le _, Nat.zero_le _⟩ ?_
          refine lv_if_eq (tgt := 72) hx hb dX4_kindNamed_65 (by decide) (fun c15 => ?_) (fun c15 => ?_)
          · have hf := q_t c15 hf
            refine lv_ldc (v := -1000000) hx hb hown (hts _ qX4_kindNamed_2) dX4_kindNamed_72 ?_
            have ee0 := q_s1 hf
            exact q_retI hx hb hr hlk ee0 dX4_kindNamed_74
          · have hf := q_f c15 hf
            refine lv_iconst (v := 5) hx hb dX4_kindNamed_68 (by decide) ?_
            refine lv_goto (tgt := 74) hx hb dX4_kindNamed_69 (by decide) ?_
            have ee0 := q_s1 hf
            exact q_retI hx hb hr hlk ee0 dX4_kindNamed_74
        · have hf := q_f c12 hf
          refine lv_iconst (v := 4) hx hb dX4_kindNamed_54 (by decide) ?_
          have ee0 := q_s1 hf
          exact q_retI hx hb hr hlk ee0 dX4_kindNamed_55
      · have hf := q_f c9 hf
        refine lv_iconst (v := 3) hx hb dX4_kindNamed_40 (by decide) ?_
        have ee0 := q_s1 hf
        exact q_retI hx hb hr hlk ee0 dX4_kindNamed_41
    · have hf := q_f c6 hf
      refine lv_iconst (v := 2) hx hb dX4_kindNamed_26 (by decide) ?_
      have ee0 := q_s1 hf
      exact q_retI hx hb hr hlk ee0 dX4_kindNamed_27
  · have hf := q_f c3 hf
    refine lv_iconst (v := 1) hx hb dX4_kindNamed_12 (by decide) ?_
    have ee0 := q_s1 hf
    exact q_retI hx hb hr hlk ee0 dX4_kindNamed_13
theorem hdX4_readWinds : yX4_readWinds.cls = RX4 ∧ yX4_readWinds.cls ≠ "java/lang/invoke/MethodHandle" ∧ yX4_readWinds.cls ≠ "java/lang/invoke/VarHandle" ∧ (parseMethodDescriptor yX4_readWinds.desc).map (fun d => d.parameters.length) = some 1 := by decide +kernel
theorem qX4_readWinds_1 : (Cond.fieldLink RX4 9 "DeadAsked$HillReader" "tape" "LDeadAsked$Tape;") ∈ wsX4_readWinds := List.mem_of_getElem? (i := 1) (by decide +kernel)
theorem qX4_readWinds_2 : (Cond.fieldLink RX4 65 "DeadAsked$Hill" "winds" "[I") ∈ wsX4_readWinds := List.mem_of_getElem? (i := 2) (by decide +kernel)
theorem qX4_readWinds_3 : (Cond.fieldLink RX4 68 "DeadAsked$HillReader" "number" "I") ∈ wsX4_readWinds := List.mem_of_getElem? (i := 3) (by decide +kernel)
theorem nX4_readWinds_3 : ∀ w ∈ u_ws RX3 TX3 14, w ∈ wsX4_readWinds := fun _ h => (List.mem_cons_of_mem _ (List.mem_append_left _ (List.mem_append_right _ h)))
theorem nX4_readWinds_4 : ∀ w ∈ u_ws RX4 TX4 4, w ∈ wsX4_readWinds := fun _ h => (List.mem_cons_of_mem _ (List.mem_append_left _ (List.mem_append_left _ (List.mem_append_right _ h))))
set_option maxHeartbeats 4000000 in
set_option maxRecDepth 100000 in
theorem kX4_readWinds (o0 : Nat) (o1 : Nat) (a1 : Nat → Nat) (o2 : Nat) (a2 : Nat → Nat) (s0 : St) (s1 : St) (s2 : St) (sz : Nat) (r : Int32) (z0 : St) (z1 : St) (z2 : St) (hf : fX4_readWinds s0 s1 s2 = some (r, z0, z1, z2)) : Met l yX4_readWinds wsX4_readWinds ({ frames := 5, cells := 0, slots := 0, locals := 142 } : Room) (pcK (dC, dI) (q_ty cI cB cZ) adK adV [.ref o0, .ref o2] ((wcE o0 o1 s0) ++ (wcT cB o1 a1 s1) ++ (wcH cI o2 a2 s2)) sz) (qiW (dC, dI) (q_ty cI cB cZ) ((wcE o0 o1 s0) ++ (wcT cB o1 a1 s1) ++ (wcH cI o2 a2 s2)) ((wcE o0 o1 z0) ++ (wcT cB o1 a1 z1) ++ (wcH cI o2 a2 z2)) sz r) 0 0 (va_A ((wcE o0 o1 s0) ++ (wcT cB o1 a1 s1) ++ (wcH cI o2 a2 s2)) sz) := by
  refine q_rwMk (cc := cX4_readWinds) (maxL := 3) (ret := (some .boolean)) (by decide +kernel) rfl (Nat.le_of_ble_eq_true rfl) ?_
  intro p e s m below meth c hx hb hr hlk hml hown hts hK A H hAe hH hsz hP hD hA hS hE ls hl
  have hown : s.vm.findClass RX4 = some m.cls := hown
  have hl : lv_has ls 3 [(0, .ref o0), (1, .ref o2)] := hl
  unfold fX4_readWinds at hf
  refine lv_aload_n hx hb dX4_readWinds_0 rfl (lv_at hl 0 rfl) ?_
  refine va_get (D := (dC, dI)) (ci := 4) (v := .ref o1) (C := RX4) (T := TX4) (N := 4) hx hb hts nX4_readWinds_4 hown hK hP 0 rfl rfl 0 (by decide) (hts _ qX4_readWinds_1) (fun _ h9 => h9) rfl dX4_readWinds_1 ?_
  refine va_ldcS (q := adK 0) hx hb hown (hE.2.2.2 0 (by decide)) dX4_readWinds_4 ?_
  obtain ⟨r1, h2, hf⟩ := q_b1o hf
  refine q_eVi (As := [.ref (adK 0)]) (rest := []) ⟨hx, hb, hml, hown, hts⟩ (kX6_isWord l dC dI cI cB cZ adK adV o1 a1 s1 0 (by decide) r1 h2) (cwV 1 hts gX4_readWinds_X6_isWord rfl rfl rfl hdX6_isWord ⟨Nat.le_of_ble_eq_true rfl, Nat.le_of_ble_eq_true rfl⟩) q_mvW ⟨(hP.sub [1, 2] rfl), hK, (hE.at hS)⟩ (va_recv hK (hP.sub [1, 2] rfl) (ci := 6) (q0 := 0) rfl rfl) rfl hl.1 rfl (Nat.le_of_ble_eq_true rfl) dX4_readWinds_6 ⟨Nat.zero_le _, Nat.zero_le _⟩ ?_
  refine lv_if_ne (tgt := 18) hx hb dX4_readWinds_9 (by decide) (fun c3 => ?_) (fun c3 => ?_)
  · have hf := q_f c3 hf
    refine lv_aload_n hx hb dX4_readWinds_18 rfl (lv_at hl 0 rfl) ?_
    refine va_get (D := (dC, dI)) (ci := 4) (v := .ref o1) (C := RX4) (T := TX4) (N := 4) hx hb hts nX4_readWinds_4 hown hK hP 0 rfl rfl 0 (by decide) (hts _ qX4_readWinds_1) (fun _ h9 => h9) rfl dX4_readWinds_19 ?_
    obtain ⟨sc4, h5, hf⟩ := q_b1o hf
    refine q_rwVv (As := []) (rest := []) (ci := 6) (wr := ((wcE o0 o1 s0) ++ (wcH cI o2 a2 s2))) (w2 := ((wcE o0 o1 s0) ++ (wcT cB o1 a1 sc4) ++ (wcH cI o2 a2 s2))) ⟨hx, hb, hml, hown, hts⟩ (kX6_readNext l dC dI cI cB cZ o1 a1 s1 H.size sc4 h5) (cwV 0 hts gX4_readWinds_X6_readNext rfl rfl rfl hdX6_readNext ⟨Nat.le_of_ble_eq_true rfl, Nat.le_of_ble_eq_true rfl⟩) hK hP hD hS hA [1, 2] [0, 3, 4, 5, 6, 7, 8, 9, 10, 11, 12, 13] [0, 12, 13, 1, 2, 3, 4, 5, 6, 7, 8, 9, 10, 11] rfl rfl (by decide) (by decide) (by decide) rfl (by decide) rfl rfl rfl hl.1 rfl (Nat.le_of_ble_eq_true rfl) dX4_readWinds_22 ⟨Nat.zero_le _, Nat.zero_le _⟩ (fun H locs hP hD hS => ?_)
    refine lv_iconst (v := 0) hx hb dX4_readWinds_25 (by decide) ?_
    refine lv_istore_n (lv' := [(2, .int (0 : Int32)), (0, .ref o0), (1, .ref o2)]) hx hb dX4_readWinds_26 rfl hl (by decide) rfl (fun ls hl => ?_)
    have aihn10 : ∀ n10 : Nat, ∀ l2_6 : Int32, ∀ sl7 : St, ∀ sl8 : St, ∀ sl9 : St, fX4_readWinds_L27 n10 l2_6 sl7 sl8 sl9 = some (r, z0, z1, z2) → ∀ (H : Heap) (locs : List Loc), va_P (dC, dI) vwCl ((wcE o0 o1 sl7) ++ (wcT cB o1 a1 sl8) ++ (wcH cI o2 a2 sl9)) H → va_D A ((wcE o0 o1 sl7) ++ (wcT cB o1 a1 sl8) ++ (wcH cI o2 a2 sl9)) → va_S A s.heap H locs → ∀ ls : Array Slot, lv_has ls 3 [(2, .int l2_6), (0, .ref o0), (1, .ref o2)] → W p l e ({ frames := 5, cells := 0, slots := 0, locals := 142 } : Room) s m [.ref o0, .ref o2].toArray below meth c H locs 0 0 (MQ below (qiW (dC, dI) (q_ty cI cB cZ) ((wcE o0 o1 s0) ++ (wcT cB o1 a1 s1) ++ (wcH cI o2 a2 s2)) ((wcE o0 o1 z0) ++ (wcT cB o1 a1 z1) ++ (wcH cI o2 a2 z2)) sz r) [.ref o0, .ref o2].toArray s 0 0 (va_A ((wcE o0 o1 s0) ++ (wcT cB o1 a1 s1) ++ (wcH cI o2 a2 s2)) sz)) (F0 m 27 ls []) := by
      intro n10
      induction n10 with
      | zero =>
        intro l2_6 sl7 sl8 sl9 hf
        exact q_no hf
      | succ n10 ihn10 =>
        intro l2_6 sl7 sl8 sl9 hf H locs hP hD hS ls hl
        rw [fX4_readWinds_L27] at hf
        refine lv_iload_n hx hb dX4_readWinds_27 rfl (lv_at hl 0 rfl) ?_
        refine lv_bipush (v := 12) hx hb dX4_readWinds_28 (by decide) ?_
        refine lv_icmp_ge (tgt := 60) hx hb dX4_readWinds_30 (by decide) (fun c11 => ?_) (fun c11 => ?_)
        · have hf := q_t c11 hf
          refine lv_aload_n hx hb dX4_readWinds_60 rfl (lv_at hl 1 rfl) ?_
          obtain ⟨r12, sc13, sc14, h15, hf⟩ := q_b3o hf
          refine q_rwVi (As := []) (rest := []) (ci := 4) (wr := ((wcH cI o2 a2 sl9))) (w2 := ((wcE o0 o1 sc13) ++ (wcT cB o1 a1 sc14) ++ (wcH cI o2 a2 sl9))) ⟨hx, hb, hml, hown, hts⟩ (kX4_takeSign l dC dI cI cB cZ o0 o1 a1 sl7 sl8 H.size r12 sc13 sc14 h15) (cwV 0 hts gX4_readWinds_X4_takeSign rfl rfl rfl hdX4_takeSign ⟨Nat.le_of_ble_eq_true rfl, Nat.le_of_ble_eq_true rfl⟩) hK hP hD hS hA [0, 1, 2] [3, 4, 5, 6, 7, 8, 9, 10, 11, 12, 13] [11, 12, 13, 0, 1, 2, 3, 4, 5, 6, 7, 8, 9, 10] rfl rfl (by decide) (by decide) (by decide) rfl (by decide) rfl rfl rfl hl.1 rfl (Nat.le_of_ble_eq_true rfl) dX4_readWinds_61 ⟨Nat.zero_le _, Nat.zero_le _⟩ (fun H locs hP hD hS => ?_)
          obtain ⟨c16, hf⟩ := q_ck hf
          obtain ⟨ee0, ee1, ee2, ee3⟩ := q_s4 hf
          subst ee1
          subst ee2
          subst ee3
          exact q_wretZ hx hb hr hlk (q_nb c16) hAe hK hP hD hS ee0 dX4_readWinds_64
        · have hf := q_f c11 hf
          refine lv_aload_n hx hb dX4_readWinds_33 rfl (lv_at hl 1 rfl) ?_
          refine lv_iconst (v := 0) hx hb dX4_readWinds_34 (by decide) ?_
          refine lv_iconst (v := 3) hx hb dX4_readWinds_35 (by decide) ?_
          obtain ⟨r17, sc18, sc19, h20, hf⟩ := q_b3o hf
          refine q_rwVi (As := [.int (0 : Int32), .int (3 : Int32)]) (rest := []) (ci := 4) (wr := ((wcH cI o2 a2 sl9))) (w2 := ((wcE o0 o1 sc18) ++ (wcT cB o1 a1 sc19) ++ (wcH cI o2 a2 sl9))) ⟨hx, hb, hml, hown, hts⟩ (kX4_takeNumber l dC dI cI cB cZ o0 o1 a1 sl7 sl8 (0 : Int32) (3 : Int32) H.size r17 sc18 sc19 h20) (cwV 2 hts gX4_readWinds_X4_takeNumber rfl rfl rfl hdX4_takeNumber ⟨Nat.le_of_ble_eq_true rfl, Nat.le_of_ble_eq_true rfl⟩) hK hP hD hS hA [0, 1, 2] [3, 4, 5, 6, 7, 8, 9, 10, 11, 12, 13] [11, 12, 13, 0, 1, 2, 3, 4, 5, 6, 7, 8, 9, 10] rfl rfl (by decide) (by decide) (by decide) rfl (by decide) rfl rfl rfl hl.1 rfl (Nat.le_of_ble_eq_true rfl) dX4_readWinds_36 ⟨Nat.zero_le _, Nat.zero_le _⟩ (fun H locs hP hD hS => ?_)
          refine lv_if_ne (tgt := 44) hx hb dX4_readWinds_39 (by decide) (fun c21 => ?_) (fun c21 => ?_)
          · have hf := q_f c21 hf
            refine lv_aload_n hx hb dX4_readWinds_44 rfl (lv_at hl 2 rfl) ?_
            refine va_get (D := (dC, dI)) (ci := 3) (v := .ref (a2 0)) (C := RX3) (T := TX3) (N := 14) hx hb hts nX4_readWinds_3 hown hK hP 3 rfl rfl 0 (by decide) (hts _ qX4_readWinds_2) (fun _ h9 => h9) rfl dX4_readWinds_45 ?_
            refine lv_iload_n hx hb dX4_readWinds_48 rfl (lv_at hl 0 rfl) ?_
            refine lv_aload_n hx hb dX4_readWinds_49 rfl (lv_at hl 1 rfl) ?_
            refine va_get (D := (dC, dI)) (ci := 4) (v := .int (sc18 1 0)) (C := RX4) (T := TX4) (N := 4) hx hb hts nX4_readWinds_4 hown hK hP 0 rfl rfl 1 (by decide) (hts _ qX4_readWinds_3) (fun _ h9 => h9) rfl dX4_readWinds_50 ?_
            obtain ⟨c22, hf⟩ := q_ck hf
            obtain ⟨sn23, esn23, hf⟩ := q_lto hf
            refine va_iast hx hb hK hP hD hS 4 0 rfl rfl c22 dX4_readWinds_53 (fun H locs hP hD hS => ?_)
            have hP : va_P (dC, dI) vwCl ((wcE o0 o1 sc18) ++ (wcT cB o1 a1 sc19) ++ (wcH cI o2 a2 sn23)) H := by rw [esn23]; exact hP
            have hD : va_D A ((wcE o0 o1 sc18) ++ (wcT cB o1 a1 sc19) ++ (wcH cI o2 a2 sn23)) := by rw [esn23]; exact hD
            refine lv_iinc (v := l2_6 + (1 : Int32)) (lv' := [(2, .int (l2_6 + (1 : Int32))), (0, .ref o0), (1, .ref o2)]) hx hb dX4_readWinds_54 hl (k := 0) rfl rfl (by decide) rfl (fun ls hl => ?_)
            refine lv_goto (tgt := 27) hx hb dX4_readWinds_57 (by decide) ?_
            exact ihn10 (l2_6 + (1 : Int32)) sc18 sc19 sn23 hf _ _ hP hD hS _ hl
          · have hf := q_t c21 hf
            refine lv_iconst (v := 0) hx hb dX4_readWinds_42 (by decide) ?_
            obtain ⟨ee0, ee1, ee2, ee3⟩ := q_s4 hf
            subst ee1
            subst ee2
            subst ee3
            exact q_wretZ hx hb hr hlk rfl hAe hK hP hD hS ee0 dX4_readWinds_43
    exact aihn10 5000 (0 : Int32) s0 sc4 s2 hf _ _ hP hD hS _ hl
  · have hf := q_t c3 hf
    refine lv_aload_n hx hb dX4_readWinds_12 rfl (lv_at hl 0 rfl) ?_
    refine lv_iconst (v := 1) hx hb dX4_readWinds_13 (by decide) ?_
    obtain ⟨r24, sc25, h26, hf⟩ := q_b2o hf
    refine q_rwVi (As := [.int (1 : Int32)]) (rest := []) (ci := 4) (wr := ((wcH cI o2 a2 s2))) (w2 := ((wcE o0 o1 sc25) ++ (wcT cB o1 a1 s1) ++ (wcH cI o2 a2 s2))) ⟨hx, hb, hml, hown, hts⟩ (kX4_refuse l dC dI cI cB cZ o0 o1 a1 s0 s1 (1 : Int32) H.size r24 sc25 h26) (cwV 1 hts gX4_readWinds_X4_refuse rfl rfl rfl hdX4_refuse ⟨Nat.le_of_ble_eq_true rfl, Nat.le_of_ble_eq_true rfl⟩) hK hP hD hS hA [0, 1, 2] [3, 4, 5, 6, 7, 8, 9, 10, 11, 12, 13] [11, 12, 13, 0, 1, 2, 3, 4, 5, 6, 7, 8, 9, 10] rfl rfl (by decide) (by decide) (by decide) rfl (by decide) rfl rfl rfl hl.1 rfl (Nat.le_of_ble_eq_true rfl) dX4_readWinds_14 ⟨Nat.zero_le _, Nat.zero_le _⟩ (fun H locs hP hD hS => ?_)
    obtain ⟨c27, hf⟩ := q_ck hf
    obtain ⟨ee0, ee1, ee2, ee3⟩ := q_s4 hf
    subst ee1
    subst ee2
    subst ee3
    exact q_wretZ hx hb hr hlk (q_nb c27) hAe hK hP hD hS ee0 dX4_readWinds_17
theorem hdX4_readGraves : yX4_readGraves.cls = RX4 ∧ yX4_readGraves.cls ≠ "java/lang/invoke/MethodHandle" ∧ yX4_readGraves.cls ≠ "java/lang/invoke/VarHandle" ∧ (parseMethodDescriptor yX4_readGraves.desc).map (fun d => d.parameters.length) = some 1 := by decide +kernel
theorem qX4_readGraves_1 : (Cond.fieldLink RX4 9 "DeadAsked$HillReader" "tape" "LDeadAsked$Tape;") ∈ wsX4_readGraves := List.mem_of_getElem? (i := 1) (by decide +kernel)
theorem qX4_readGraves_2 : (Cond.fieldLink RX4 81 "DeadAsked$Hill" "graves" "I") ∈ wsX4_readGraves := List.mem_of_getElem? (i := 2) (by decide +kernel)
theorem nX4_readGraves_3 : ∀ w ∈ u_ws RX3 TX3 14, w ∈ wsX4_readGraves := fun _ h => (List.mem_cons_of_mem _ (List.mem_append_left _ (List.mem_append_right _ h)))
theorem nX4_readGraves_4 : ∀ w ∈ u_ws RX4 TX4 4, w ∈ wsX4_readGraves := fun _ h => (List.mem_cons_of_mem _ (List.mem_append_left _ (List.mem_append_left _ (List.mem_append_right _ h))))
set_option maxHeartbeats 4000000 in
set_option maxRecDepth 100000 in
theorem kX4_readGraves (o0 : Nat) (o1 : Nat) (a1 : Nat → Nat) (o2 : Nat) (a2 : Nat → Nat) (s0 : St) (s1 : St) (s2 : St) (sz : Nat) (r : Int32) (z0 : St) (z1 : St) (z2 : St) (hf : fX4_readGraves s0 s1 s2 = some (r, z0, z1, z2)) : Met l yX4_readGraves wsX4_readGraves ({ frames := 5, cells := 0, slots := 0, locals := 142 } : Room) (pcK (dC, dI) (q_ty cI cB cZ) adK adV [.ref o0, .ref o2] ((wcE o0 o1 s0) ++ (wcT cB o1 a1 s1) ++ (wcH cI o2 a2 s2)) sz) (qiW (dC, dI) (q_ty cI cB cZ) ((wcE o0 o1 s0) ++ (wcT cB o1 a1 s1) ++ (wcH cI o2 a2 s2)) ((wcE o0 o1 z0) ++ (wcT cB o1 a1 z1) ++ (wcH cI o2 a2 z2)) sz r) 0 0 (va_A ((wcE o0 o1 s0) ++ (wcT cB o1 a1 s1) ++ (wcH cI o2 a2 s2)) sz) := by
  refine q_rwMk (cc := cX4_readGraves) (maxL := 3) (ret := (some .boolean)) (by decide +kernel) rfl (Nat.le_of_ble_eq_true rfl) ?_
  intro p e s m below meth c hx hb hr hlk hml hown hts hK A H hAe hH hsz hP hD hA hS hE ls hl
  have hown : s.vm.findClass RX4 = some m.cls := hown
  have hl : lv_has ls 3 [(0, .ref o0), (1, .ref o2)] := hl
  unfold fX4_readGraves at hf
  refine lv_iconst (v := 0) hx hb dX4_readGraves_0 (by decide) ?_
  refine lv_istore_n (lv' := [(2, .int (0 : Int32)), (0, .ref o0), (1, .ref o2)]) hx hb dX4_readGraves_1 rfl hl (by decide) rfl (fun ls hl => ?_)
  have aihn5 : ∀ n5 : Nat, ∀ l2_1 : Int32, ∀ sl2 : St, ∀ sl3 : St, ∀ sl4 : St, fX4_readGraves_L2 n5 l2_1 sl2 sl3 sl4 = some (r, z0, z1, z2) → ∀ (H : Heap) (locs : List Loc), va_P (dC, dI) vwCl ((wcE o0 o1 sl2) ++ (wcT cB o1 a1 sl3) ++ (wcH cI o2 a2 sl4)) H → va_D A ((wcE o0 o1 sl2) ++ (wcT cB o1 a1 sl3) ++ (wcH cI o2 a2 sl4)) → va_S A s.heap H locs → ∀ ls : Array Slot, lv_has ls 3 [(2, .int l2_1), (0, .ref o0), (1, .ref o2)] → W p l e ({ frames := 5, cells := 0, slots := 0, locals := 142 } : Room) s m [.ref o0, .ref o2].toArray below meth c H locs 0 0 (MQ below (qiW (dC, dI) (q_ty cI cB cZ) ((wcE o0 o1 s0) ++ (wcT cB o1 a1 s1) ++ (wcH cI o2 a2 s2)) ((wcE o0 o1 z0) ++ (wcT cB o1 a1 z1) ++ (wcH cI o2 a2 z2)) sz r) [.ref o0, .ref o2].toArray s 0 0 (va_A ((wcE o0 o1 s0) ++ (wcT cB o1 a1 s1) ++ (wcH cI o2 a2 s2)) sz)) (F0 m 2 ls []) := by
    intro n5
    induction n5 with
    | zero =>
      intro l2_1 sl2 sl3 sl4 hf
      exact q_no hf
    | succ n5 ihn5 =>
      intro l2_1 sl2 sl3 sl4 hf H locs hP hD hS ls hl
      rw [fX4_readGraves_L2] at hf
      refine lv_iload_n hx hb dX4_readGraves_2 rfl (lv_at hl 0 rfl) ?_
      refine lv_iconst (v := 5) hx hb dX4_readGraves_3 (by decide) ?_
      refine lv_icmp_ge (tgt := 50) hx hb dX4_readGraves_4 (by decide) (fun c6 => ?_) (fun c6 => ?_)
      · have hf := q_t c6 hf
        refine lv_aload_n hx hb dX4_readGraves_50 rfl (lv_at hl 1 rfl) ?_
        refine va_get (D := (dC, dI)) (ci := 4) (v := .ref o1) (C := RX4) (T := TX4) (N := 4) hx hb hts nX4_readGraves_4 hown hK hP 0 rfl rfl 0 (by decide) (hts _ qX4_readGraves_1) (fun _ h9 => h9) rfl dX4_readGraves_51 ?_
        refine va_ldcS (q := adK 1) hx hb hown (hE.2.2.2 1 (by decide)) dX4_readGraves_54 ?_
        obtain ⟨r7, h8, hf⟩ := q_b1o hf
        refine q_eVi (As := [.ref (adK 1)]) (rest := []) ⟨hx, hb, hml, hown, hts⟩ (kX6_isWord l dC dI cI cB cZ adK adV o1 a1 sl3 1 (by decide) r7 h8) (cwV 1 hts gX4_readGraves_X6_isWord rfl rfl rfl hdX6_isWord ⟨Nat.le_of_ble_eq_true rfl, Nat.le_of_ble_eq_true rfl⟩) q_mvW ⟨(hP.sub [1, 2] rfl), hK, (hE.at hS)⟩ (va_recv hK (hP.sub [1, 2] rfl) (ci := 6) (q0 := 0) rfl rfl) rfl hl.1 rfl (Nat.le_of_ble_eq_true rfl) dX4_readGraves_56 ⟨Nat.zero_le _, Nat.zero_le _⟩ ?_
        refine lv_if_eq (tgt := 70) hx hb dX4_readGraves_59 (by decide) (fun c9 => ?_) (fun c9 => ?_)
        · have hf := q_t c9 hf
          refine lv_iconst (v := 1) hx hb dX4_readGraves_70 (by decide) ?_
          refine lv_goto (tgt := 75) hx hb dX4_readGraves_71 (by decide) ?_
          obtain ⟨ee0, ee1, ee2, ee3⟩ := q_s4 hf
          subst ee1
          subst ee2
          subst ee3
          exact q_wretZ hx hb hr hlk rfl hAe hK hP hD hS ee0 dX4_readGraves_75
        · have hf := q_f c9 hf
          refine lv_aload_n hx hb dX4_readGraves_62 rfl (lv_at hl 1 rfl) ?_
          refine lv_iconst (v := 3) hx hb dX4_readGraves_63 (by decide) ?_
          obtain ⟨r10, sc11, h12, hf⟩ := q_b2o hf
          refine q_rwVi (As := [.int (3 : Int32)]) (rest := []) (ci := 4) (wr := ((wcH cI o2 a2 sl4))) (w2 := ((wcE o0 o1 sc11) ++ (wcT cB o1 a1 sl3) ++ (wcH cI o2 a2 sl4))) ⟨hx, hb, hml, hown, hts⟩ (kX4_refuse l dC dI cI cB cZ o0 o1 a1 sl2 sl3 (3 : Int32) H.size r10 sc11 h12) (cwV 1 hts gX4_readGraves_X4_refuse rfl rfl rfl hdX4_refuse ⟨Nat.le_of_ble_eq_true rfl, Nat.le_of_ble_eq_true rfl⟩) hK hP hD hS hA [0, 1, 2] [3, 4, 5, 6, 7, 8, 9, 10, 11, 12, 13] [11, 12, 13, 0, 1, 2, 3, 4, 5, 6, 7, 8, 9, 10] rfl rfl (by decide) (by decide) (by decide) rfl (by decide) rfl rfl rfl hl.1 rfl (Nat.le_of_ble_eq_true rfl) dX4_readGraves_64 ⟨Nat.zero_le _, Nat.zero_le _⟩ (fun H locs hP hD hS => ?_)
          refine lv_if_eq (tgt := 74) hx hb dX4_readGraves_67 (by decide) (fun c13 => ?_) (fun c13 => ?_)
          · have hf := q_t c13 hf
            refine lv_iconst (v := 0) hx hb dX4_readGraves_74 (by decide) ?_
            obtain ⟨ee0, ee1, ee2, ee3⟩ := q_s4 hf
            subst ee1
            subst ee2
            subst ee3
            exact q_wretZ hx hb hr hlk rfl hAe hK hP hD hS ee0 dX4_readGraves_75
          · have hf := q_f c13 hf
            refine lv_iconst (v := 1) hx hb dX4_readGraves_70 (by decide) ?_
            refine lv_goto (tgt := 75) hx hb dX4_readGraves_71 (by decide) ?_
            obtain ⟨ee0, ee1, ee2, ee3⟩ := q_s4 hf
            subst ee1
            subst ee2
            subst ee3
            exact q_wretZ hx hb hr hlk rfl hAe hK hP hD hS ee0 dX4_readGraves_75
      · have hf := q_f c6 hf
        refine lv_aload_n hx hb dX4_readGraves_7 rfl (lv_at hl 1 rfl) ?_
        refine va_get (D := (dC, dI)) (ci := 4) (v := .ref o1) (C := RX4) (T := TX4) (N := 4) hx hb hts nX4_readGraves_4 hown hK hP 0 rfl rfl 0 (by decide) (hts _ qX4_readGraves_1) (fun _ h9 => h9) rfl dX4_readGraves_8 ?_
        refine va_ldcS (q := adK 1) hx hb hown (hE.2.2.2 1 (by decide)) dX4_readGraves_11 ?_
        obtain ⟨r14, h15, hf⟩ := q_b1o hf
        refine q_eVi (As := [.ref (adK 1)]) (rest := []) ⟨hx, hb, hml, hown, hts⟩ (kX6_isWord l dC dI cI cB cZ adK adV o1 a1 sl3 1 (by decide) r14 h15) (cwV 1 hts gX4_readGraves_X6_isWord rfl rfl rfl hdX6_isWord ⟨Nat.le_of_ble_eq_true rfl, Nat.le_of_ble_eq_true rfl⟩) q_mvW ⟨(hP.sub [1, 2] rfl), hK, (hE.at hS)⟩ (va_recv hK (hP.sub [1, 2] rfl) (ci := 6) (q0 := 0) rfl rfl) rfl hl.1 rfl (Nat.le_of_ble_eq_true rfl) dX4_readGraves_13 ⟨Nat.zero_le _, Nat.zero_le _⟩ ?_
        refine lv_if_eq (tgt := 50) hx hb dX4_readGraves_16 (by decide) (fun c16 => ?_) (fun c16 => ?_)
        · have hf := q_t c16 hf
          refine lv_aload_n hx hb dX4_readGraves_50 rfl (lv_at hl 1 rfl) ?_
          refine va_get (D := (dC, dI)) (ci := 4) (v := .ref o1) (C := RX4) (T := TX4) (N := 4) hx hb hts nX4_readGraves_4 hown hK hP 0 rfl rfl 0 (by decide) (hts _ qX4_readGraves_1) (fun _ h9 => h9) rfl dX4_readGraves_51 ?_
          refine va_ldcS (q := adK 1) hx hb hown (hE.2.2.2 1 (by decide)) dX4_readGraves_54 ?_
          obtain ⟨r17, h18, hf⟩ := q_b1o hf
          refine q_eVi (As := [.ref (adK 1)]) (rest := []) ⟨hx, hb, hml, hown, hts⟩ (kX6_isWord l dC dI cI cB cZ adK adV o1 a1 sl3 1 (by decide) r17 h18) (cwV 1 hts gX4_readGraves_X6_isWord rfl rfl rfl hdX6_isWord ⟨Nat.le_of_ble_eq_true rfl, Nat.le_of_ble_eq_true rfl⟩) q_mvW ⟨(hP.sub [1, 2] rfl), hK, (hE.at hS)⟩ (va_recv hK (hP.sub [1, 2] rfl) (ci := 6) (q0 := 0) rfl rfl) rfl hl.1 rfl (Nat.le_of_ble_eq_true rfl) dX4_readGraves_56 ⟨Nat.zero_le _, Nat.zero_le _⟩ ?_
          refine lv_if_eq (tgt := 70) hx hb dX4_readGraves_59 (by decide) (fun c19 => ?_) (fun c19 => ?_)
          · have hf := q_t c19 hf
            refine lv_iconst (v := 1) hx hb dX4_readGraves_70 (by decide) ?_
            refine lv_goto (tgt := 75) hx hb dX4_readGraves_71 (by decide) ?_
            obtain ⟨ee0, ee1, ee2, ee3⟩ := q_s4 hf
            subst ee1
            subst ee2
            subst ee3
            exact q_wretZ hx hb hr hlk rfl hAe hK hP hD hS ee0 dX4_readGraves_75
          · have hf := q_f c19 hf
            refine lv_aload_n hx hb dX4_readGraves_62 rfl (lv_at hl 1 rfl) ?_
            refine lv_iconst (v := 3) hx hb dX4_readGraves_63 (by decide) ?_
            obtain ⟨r20, sc21, h22, hf⟩ := q_b2o hf
            refine q_rwVi (As := [.int (3 : Int32)]) (rest := []) (ci := 4) (wr := ((wcH cI o2 a2 sl4))) (w2 := ((wcE o0 o1 sc21) ++ (wcT cB o1 a1 sl3) ++ (wcH cI o2 a2 sl4))) ⟨hx, hb, hml, hown, hts⟩ (kX4_refuse l dC dI cI cB cZ o0 o1 a1 sl2 sl3 (3 : Int32) H.size r20 sc21 h22) (cwV 1 hts gX4_readGraves_X4_refuse rfl rfl rfl hdX4_refuse ⟨Nat.le_of_ble_eq_true rfl, Nat.le_of_ble_eq_true rfl⟩) hK hP hD hS hA [0, 1, 2] [3, 4, 5, 6, 7, 8, 9, 10, 11, 12, 13] [11, 12, 13, 0, 1, 2, 3, 4, 5, 6, 7, 8, 9, 10] rfl rfl (by decide) (by decide) (by decide) rfl (by decide) rfl rfl rfl hl.1 rfl (Nat.le_of_ble_eq_true rfl) dX4_readGraves_64 ⟨Nat.zero_le _, Nat.zero_le _⟩ (fun H locs hP hD hS => ?_)
            refine lv_if_eq (tgt := 74) hx hb dX4_readGraves_67 (by decide) (fun c23 => ?_) (fun c23 => ?_)
            · have hf := q_t c23 hf
              refine lv_iconst (v := 0) hx hb dX4_readGraves_74 (by decide) ?_
              obtain ⟨ee0, ee1, ee2, ee3⟩ := q_s4 hf
              subst ee1
              subst ee2
              subst ee3
              exact q_wretZ hx hb hr hlk rfl hAe hK hP hD hS ee0 dX4_readGraves_75
            · have hf := q_f c23 hf
              refine lv_iconst (v := 1) hx hb dX4_readGraves_70 (by decide) ?_
              refine lv_goto (tgt := 75) hx hb dX4_readGraves_71 (by decide) ?_
              obtain ⟨ee0, ee1, ee2, ee3⟩ := q_s4 hf
              subst ee1
              subst ee2
              subst ee3
              exact q_wretZ hx hb hr hlk rfl hAe hK hP hD hS ee0 dX4_readGraves_75
        · have hf := q_f c16 hf
          refine lv_aload_n hx hb dX4_readGraves_19 rfl (lv_at hl 1 rfl) ?_
          refine va_get (D := (dC, dI)) (ci := 4) (v := .ref o1) (C := RX4) (T := TX4) (N := 4) hx hb hts nX4_readGraves_4 hown hK hP 0 rfl rfl 0 (by decide) (hts _ qX4_readGraves_1) (fun _ h9 => h9) rfl dX4_readGraves_20 ?_
          obtain ⟨sc24, h25, hf⟩ := q_b1o hf
          refine q_rwVv (As := []) (rest := []) (ci := 6) (wr := ((wcE o0 o1 sl2) ++ (wcH cI o2 a2 sl4))) (w2 := ((wcE o0 o1 sl2) ++ (wcT cB o1 a1 sc24) ++ (wcH cI o2 a2 sl4))) ⟨hx, hb, hml, hown, hts⟩ (kX6_readNext l dC dI cI cB cZ o1 a1 sl3 H.size sc24 h25) (cwV 0 hts gX4_readGraves_X6_readNext rfl rfl rfl hdX6_readNext ⟨Nat.le_of_ble_eq_true rfl, Nat.le_of_ble_eq_true rfl⟩) hK hP hD hS hA [1, 2] [0, 3, 4, 5, 6, 7, 8, 9, 10, 11, 12, 13] [0, 12, 13, 1, 2, 3, 4, 5, 6, 7, 8, 9, 10, 11] rfl rfl (by decide) (by decide) (by decide) rfl (by decide) rfl rfl rfl hl.1 rfl (Nat.le_of_ble_eq_true rfl) dX4_readGraves_23 ⟨Nat.zero_le _, Nat.zero_le _⟩ (fun H locs hP hD hS => ?_)
          refine lv_aload_n hx hb dX4_readGraves_26 rfl (lv_at hl 1 rfl) ?_
          refine lv_aload_n hx hb dX4_readGraves_27 rfl (lv_at hl 2 rfl) ?_
          refine lv_iload_n hx hb dX4_readGraves_28 rfl (lv_at hl 0 rfl) ?_
          obtain ⟨r26, sc27, sc28, sc29, h30, hf⟩ := q_b4o hf
          refine q_rwVi (As := [.ref o2, .int l2_1]) (rest := []) (ci := 4) (wr := []) (w2 := ((wcE o0 o1 sc27) ++ (wcT cB o1 a1 sc28) ++ (wcH cI o2 a2 sc29))) ⟨hx, hb, hml, hown, hts⟩ (kX4_readGrave l dC dI cI cB cZ o0 o1 a1 o2 a2 sl2 sc24 sl4 l2_1 H.size r26 sc27 sc28 sc29 h30) (cwV 2 hts gX4_readGraves_X4_readGrave rfl rfl rfl hdX4_readGrave ⟨Nat.le_of_ble_eq_true rfl, Nat.le_of_ble_eq_true rfl⟩) hK hP hD hS hA [0, 1, 2, 3, 4, 5, 6, 7, 8, 9, 10, 11, 12, 13] [] [0, 1, 2, 3, 4, 5, 6, 7, 8, 9, 10, 11, 12, 13] rfl rfl (by decide) (by decide) (by decide) rfl (by decide) rfl rfl rfl hl.1 rfl (Nat.le_of_ble_eq_true rfl) dX4_readGraves_29 ⟨Nat.zero_le _, Nat.zero_le _⟩ (fun H locs hP hD hS => ?_)
          refine lv_if_ne (tgt := 37) hx hb dX4_readGraves_32 (by decide) (fun c31 => ?_) (fun c31 => ?_)
          · have hf := q_f c31 hf
            refine lv_aload_n hx hb dX4_readGraves_37 rfl (lv_at hl 2 rfl) ?_
            refine lv_iload_n hx hb dX4_readGraves_38 rfl (lv_at hl 0 rfl) ?_
            refine lv_iconst (v := 1) hx hb dX4_readGraves_39 (by decide) ?_
            refine lv_iadd hx hb dX4_readGraves_40 ?_
            obtain ⟨sn32, esn32, hf⟩ := q_lto hf
            refine va_put (D := (dC, dI)) (ci := 3) (v := .int (l2_1 + (1 : Int32))) (ty := .int) (C := RX3) (T := TX3) (N := 14) hx hb hts nX4_readGraves_3 tyX3 tyX3_ok nmX3 hown hK hP hD hS 3 rfl rfl 10 (by decide) (hts _ qX4_readGraves_2) (fun _ h9 => h9) rfl (by decide +kernel) rfl rfl (Nat.le_of_ble_eq_true rfl) dX4_readGraves_41 (fun H locs hP hD hS => ?_)
            have hP : va_P (dC, dI) vwCl ((wcE o0 o1 sc27) ++ (wcT cB o1 a1 sc28) ++ (wcH cI o2 a2 sn32)) H := by rw [esn32]; exact hP
            have hD : va_D A ((wcE o0 o1 sc27) ++ (wcT cB o1 a1 sc28) ++ (wcH cI o2 a2 sn32)) := by rw [esn32]; exact hD
            refine lv_iinc (v := l2_1 + (1 : Int32)) (lv' := [(2, .int (l2_1 + (1 : Int32))), (0, .ref o0), (1, .ref o2)]) hx hb dX4_readGraves_44 hl (k := 0) rfl rfl (by decide) rfl (fun ls hl => ?_)
            refine lv_goto (tgt := 2) hx hb dX4_readGraves_47 (by decide) ?_
            exact ihn5 (l2_1 + (1 : Int32)) sc27 sc28 sn32 hf _ _ hP hD hS _ hl
          · have hf := q_t c31 hf
            refine lv_iconst (v := 0) hx hb dX4_readGraves_35 (by decide) ?_
            obtain ⟨ee0, ee1, ee2, ee3⟩ := q_s4 hf
            subst ee1
            subst ee2
            subst ee3
            exact q_wretZ hx hb hr hlk rfl hAe hK hP hD hS ee0 dX4_readGraves_36
  exact aihn5 5000 (0 : Int32) s0 s1 s2 hf _ _ hP hD hS _ hl
theorem hdX4_readHorns : yX4_readHorns.cls = RX4 ∧ yX4_readHorns.cls ≠ "java/lang/invoke/MethodHandle" ∧ yX4_readHorns.cls ≠ "java/lang/invoke/VarHandle" ∧ (parseMethodDescriptor yX4_readHorns.desc).map (fun d => d.parameters.length) = some 1 := by decide +kernel
theorem qX4_readHorns_1 : (Cond.fieldLink RX4 9 "DeadAsked$HillReader" "tape" "LDeadAsked$Tape;") ∈ wsX4_readHorns := List.mem_of_getElem? (i := 1) (by decide +kernel)
theorem qX4_readHorns_2 : (Cond.fieldLink RX4 101 "DeadAsked$Hill" "horns" "I") ∈ wsX4_readHorns := List.mem_of_getElem? (i := 2) (by decide +kernel)
theorem nX4_readHorns_3 : ∀ w ∈ u_ws RX3 TX3 14, w ∈ wsX4_readHorns := fun _ h => (List.mem_cons_of_mem _ (List.mem_append_left _ (List.mem_append_right _ h)))
theorem nX4_readHorns_4 : ∀ w ∈ u_ws RX4 TX4 4, w ∈ wsX4_readHorns := fun _ h => (List.mem_cons_of_mem _ (List.mem_append_left _ (List.mem_append_left _ (List.mem_append_right _ h))))
set_option maxHeartbeats 4000000 in
set_option maxRecDepth 100000 in
theorem kX4_readHorns (o0 : Nat) (o1 : Nat) (a1 : Nat → Nat) (o2 : Nat) (a2 : Nat → Nat) (s0 : St) (s1 : St) (s2 : St) (sz : Nat) (r : Int32) (z0 : St) (z1 : St) (z2 : St) (hf : fX4_readHorns s0 s1 s2 = some (r, z0, z1, z2)) : Met l yX4_readHorns wsX4_readHorns ({ frames := 5, cells := 0, slots := 0, locals := 142 } : Room) (pcK (dC, dI) (q_ty cI cB cZ) adK adV [.ref o0, .ref o2] ((wcE o0 o1 s0) ++ (wcT cB o1 a1 s1) ++ (wcH cI o2 a2 s2)) sz) (qiW (dC, dI) (q_ty cI cB cZ) ((wcE o0 o1 s0) ++ (wcT cB o1 a1 s1) ++ (wcH cI o2 a2 s2)) ((wcE o0 o1 z0) ++ (wcT cB o1 a1 z1) ++ (wcH cI o2 a2 z2)) sz r) 0 0 (va_A ((wcE o0 o1 s0) ++ (wcT cB o1 a1 s1) ++ (wcH cI o2 a2 s2)) sz) := by
  refine q_rwMk (cc := cX4_readHorns) (maxL := 3) (ret := (some .boolean)) (by decide +kernel) rfl (Nat.le_of_ble_eq_true rfl) ?_
  intro p e s m below meth c hx hb hr hlk hml hown hts hK A H hAe hH hsz hP hD hA hS hE ls hl
  have hown : s.vm.findClass RX4 = some m.cls := hown
  have hl : lv_has ls 3 [(0, .ref o0), (1, .ref o2)] := hl
  unfold fX4_readHorns at hf
  refine lv_iconst (v := 0) hx hb dX4_readHorns_0 (by decide) ?_
  refine lv_istore_n (lv' := [(2, .int (0 : Int32)), (0, .ref o0), (1, .ref o2)]) hx hb dX4_readHorns_1 rfl hl (by decide) rfl (fun ls hl => ?_)
  have aihn5 : ∀ n5 : Nat, ∀ l2_1 : Int32, ∀ sl2 : St, ∀ sl3 : St, ∀ sl4 : St, fX4_readHorns_L2 n5 l2_1 sl2 sl3 sl4 = some (r, z0, z1, z2) → ∀ (H : Heap) (locs : List Loc), va_P (dC, dI) vwCl ((wcE o0 o1 sl2) ++ (wcT cB o1 a1 sl3) ++ (wcH cI o2 a2 sl4)) H → va_D A ((wcE o0 o1 sl2) ++ (wcT cB o1 a1 sl3) ++ (wcH cI o2 a2 sl4)) → va_S A s.heap H locs → ∀ ls : Array Slot, lv_has ls 3 [(2, .int l2_1), (0, .ref o0), (1, .ref o2)] → W p l e ({ frames := 5, cells := 0, slots := 0, locals := 142 } : Room) s m [.ref o0, .ref o2].toArray below meth c H locs 0 0 (MQ below (qiW (dC, dI) (q_ty cI cB cZ) ((wcE o0 o1 s0) ++ (wcT cB o1 a1 s1) ++ (wcH cI o2 a2 s2)) ((wcE o0 o1 z0) ++ (wcT cB o1 a1 z1) ++ (wcH cI o2 a2 z2)) sz r) [.ref o0, .ref o2].toArray s 0 0 (va_A ((wcE o0 o1 s0) ++ (wcT cB o1 a1 s1) ++ (wcH cI o2 a2 s2)) sz)) (F0 m 2 ls []) := by
    intro n5
    induction n5 with
    | zero =>
      intro l2_1 sl2 sl3 sl4 hf
      exact q_no hf
    | succ n5 ihn5 =>
      intro l2_1 sl2 sl3 sl4 hf H locs hP hD hS ls hl
      rw [fX4_readHorns_L2] at hf
      refine lv_iload_n hx hb dX4_readHorns_2 rfl (lv_at hl 0 rfl) ?_
      refine lv_iconst (v := 4) hx hb dX4_readHorns_3 (by decide) ?_
      refine lv_icmp_ge (tgt := 50) hx hb dX4_readHorns_4 (by decide) (fun c6 => ?_) (fun c6 => ?_)
      · have hf := q_t c6 hf
        refine lv_aload_n hx hb dX4_readHorns_50 rfl (lv_at hl 1 rfl) ?_
        refine va_get (D := (dC, dI)) (ci := 4) (v := .ref o1) (C := RX4) (T := TX4) (N := 4) hx hb hts nX4_readHorns_4 hown hK hP 0 rfl rfl 0 (by decide) (hts _ qX4_readHorns_1) (fun _ h9 => h9) rfl dX4_readHorns_51 ?_
        refine va_ldcS (q := adK 2) hx hb hown (hE.2.2.2 2 (by decide)) dX4_readHorns_54 ?_
        obtain ⟨r7, h8, hf⟩ := q_b1o hf
        refine q_eVi (As := [.ref (adK 2)]) (rest := []) ⟨hx, hb, hml, hown, hts⟩ (kX6_isWord l dC dI cI cB cZ adK adV o1 a1 sl3 2 (by decide) r7 h8) (cwV 1 hts gX4_readHorns_X6_isWord rfl rfl rfl hdX6_isWord ⟨Nat.le_of_ble_eq_true rfl, Nat.le_of_ble_eq_true rfl⟩) q_mvW ⟨(hP.sub [1, 2] rfl), hK, (hE.at hS)⟩ (va_recv hK (hP.sub [1, 2] rfl) (ci := 6) (q0 := 0) rfl rfl) rfl hl.1 rfl (Nat.le_of_ble_eq_true rfl) dX4_readHorns_56 ⟨Nat.zero_le _, Nat.zero_le _⟩ ?_
        refine lv_if_eq (tgt := 70) hx hb dX4_readHorns_59 (by decide) (fun c9 => ?_) (fun c9 => ?_)
        · have hf := q_t c9 hf
          refine lv_iconst (v := 1) hx hb dX4_readHorns_70 (by decide) ?_
          refine lv_goto (tgt := 75) hx hb dX4_readHorns_71 (by decide) ?_
          obtain ⟨ee0, ee1, ee2, ee3⟩ := q_s4 hf
          subst ee1
          subst ee2
          subst ee3
          exact q_wretZ hx hb hr hlk rfl hAe hK hP hD hS ee0 dX4_readHorns_75
        · have hf := q_f c9 hf
          refine lv_aload_n hx hb dX4_readHorns_62 rfl (lv_at hl 1 rfl) ?_
          refine lv_iconst (v := 3) hx hb dX4_readHorns_63 (by decide) ?_
          obtain ⟨r10, sc11, h12, hf⟩ := q_b2o hf
          refine q_rwVi (As := [.int (3 : Int32)]) (rest := []) (ci := 4) (wr := ((wcH cI o2 a2 sl4))) (w2 := ((wcE o0 o1 sc11) ++ (wcT cB o1 a1 sl3) ++ (wcH cI o2 a2 sl4))) ⟨hx, hb, hml, hown, hts⟩ (kX4_refuse l dC dI cI cB cZ o0 o1 a1 sl2 sl3 (3 : Int32) H.size r10 sc11 h12) (cwV 1 hts gX4_readHorns_X4_refuse rfl rfl rfl hdX4_refuse ⟨Nat.le_of_ble_eq_true rfl, Nat.le_of_ble_eq_true rfl⟩) hK hP hD hS hA [0, 1, 2] [3, 4, 5, 6, 7, 8, 9, 10, 11, 12, 13] [11, 12, 13, 0, 1, 2, 3, 4, 5, 6, 7, 8, 9, 10] rfl rfl (by decide) (by decide) (by decide) rfl (by decide) rfl rfl rfl hl.1 rfl (Nat.le_of_ble_eq_true rfl) dX4_readHorns_64 ⟨Nat.zero_le _, Nat.zero_le _⟩ (fun H locs hP hD hS => ?_)
          refine lv_if_eq (tgt := 74) hx hb dX4_readHorns_67 (by decide) (fun c13 => ?_) (fun c13 => ?_)
          · have hf := q_t c13 hf
            refine lv_iconst (v := 0) hx hb dX4_readHorns_74 (by decide) ?_
            obtain ⟨ee0, ee1, ee2, ee3⟩ := q_s4 hf
            subst ee1
            subst ee2
            subst ee3
            exact q_wretZ hx hb hr hlk rfl hAe hK hP hD hS ee0 dX4_readHorns_75
          · have hf := q_f c13 hf
            refine lv_iconst (v := 1) hx hb dX4_readHorns_70 (by decide) ?_
            refine lv_goto (tgt := 75) hx hb dX4_readHorns_71 (by decide) ?_
            obtain ⟨ee0, ee1, ee2, ee3⟩ := q_s4 hf
            subst ee1
            subst ee2
            subst ee3
            exact q_wretZ hx hb hr hlk rfl hAe hK hP hD hS ee0 dX4_readHorns_75
      · have hf := q_f c6 hf
        refine lv_aload_n hx hb dX4_readHorns_7 rfl (lv_at hl 1 rfl) ?_
        refine va_get (D := (dC, dI)) (ci := 4) (v := .ref o1) (C := RX4) (T := TX4) (N := 4) hx hb hts nX4_readHorns_4 hown hK hP 0 rfl rfl 0 (by decide) (hts _ qX4_readHorns_1) (fun _ h9 => h9) rfl dX4_readHorns_8 ?_
        refine va_ldcS (q := adK 2) hx hb hown (hE.2.2.2 2 (by decide)) dX4_readHorns_11 ?_
        obtain ⟨r14, h15, hf⟩ := q_b1o hf
        refine q_eVi (As := [.ref (adK 2)]) (rest := []) ⟨hx, hb, hml, hown, hts⟩ (kX6_isWord l dC dI cI cB cZ adK adV o1 a1 sl3 2 (by decide) r14 h15) (cwV 1 hts gX4_readHorns_X6_isWord rfl rfl rfl hdX6_isWord ⟨Nat.le_of_ble_eq_true rfl, Nat.le_of_ble_eq_true rfl⟩) q_mvW ⟨(hP.sub [1, 2] rfl), hK, (hE.at hS)⟩ (va_recv hK (hP.sub [1, 2] rfl) (ci := 6) (q0 := 0) rfl rfl) rfl hl.1 rfl (Nat.le_of_ble_eq_true rfl) dX4_readHorns_13 ⟨Nat.zero_le _, Nat.zero_le _⟩ ?_
        refine lv_if_eq (tgt := 50) hx hb dX4_readHorns_16 (by decide) (fun c16 => ?_) (fun c16 => ?_)
        · have hf := q_t c16 hf
          refine lv_aload_n hx hb dX4_readHorns_50 rfl (lv_at hl 1 rfl) ?_
          refine va_get (D := (dC, dI)) (ci := 4) (v := .ref o1) (C := RX4) (T := TX4) (N := 4) hx hb hts nX4_readHorns_4 hown hK hP 0 rfl rfl 0 (by decide) (hts _ qX4_readHorns_1) (fun _ h9 => h9) rfl dX4_readHorns_51 ?_
          refine va_ldcS (q := adK 2) hx hb hown (hE.2.2.2 2 (by decide)) dX4_readHorns_54 ?_
          obtain ⟨r17, h18, hf⟩ := q_b1o hf
          refine q_eVi (As := [.ref (adK 2)]) (rest := []) ⟨hx, hb, hml, hown, hts⟩ (kX6_isWord l dC dI cI cB cZ adK adV o1 a1 sl3 2 (by decide) r17 h18) (cwV 1 hts gX4_readHorns_X6_isWord rfl rfl rfl hdX6_isWord ⟨Nat.le_of_ble_eq_true rfl, Nat.le_of_ble_eq_true rfl⟩) q_mvW ⟨(hP.sub [1, 2] rfl), hK, (hE.at hS)⟩ (va_recv hK (hP.sub [1, 2] rfl) (ci := 6) (q0 := 0) rfl rfl) rfl hl.1 rfl (Nat.le_of_ble_eq_true rfl) dX4_readHorns_56 ⟨Nat.zero_le _, Nat.zero_le _⟩ ?_
          refine lv_if_eq (tgt := 70) hx hb dX4_readHorns_59 (by decide) (fun c19 => ?_) (fun c19 => ?_)
          · have hf := q_t c19 hf
            refine lv_iconst (v := 1) hx hb dX4_readHorns_70 (by decide) ?_
            refine lv_goto (tgt := 75) hx hb dX4_readHorns_71 (by decide) ?_
            obtain ⟨ee0, ee1, ee2, ee3⟩ := q_s4 hf
            subst ee1
            subst ee2
            subst ee3
            exact q_wretZ hx hb hr hlk rfl hAe hK hP hD hS ee0 dX4_readHorns_75
          · have hf := q_f c19 hf
            refine lv_aload_n hx hb dX4_readHorns_62 rfl (lv_at hl 1 rfl) ?_
            refine lv_iconst (v := 3) hx hb dX4_readHorns_63 (by decide) ?_
            obtain ⟨r20, sc21, h22, hf⟩ := q_b2o hf
            refine q_rwVi (As := [.int (3 : Int32)]) (rest := []) (ci := 4) (wr := ((wcH cI o2 a2 sl4))) (w2 := ((wcE o0 o1 sc21) ++ (wcT cB o1 a1 sl3) ++ (wcH cI o2 a2 sl4))) ⟨hx, hb, hml, hown, hts⟩ (kX4_refuse l dC dI cI cB cZ o0 o1 a1 sl2 sl3 (3 : Int32) H.size r20 sc21 h22) (cwV 1 hts gX4_readHorns_X4_refuse rfl rfl rfl hdX4_refuse ⟨Nat.le_of_ble_eq_true rfl, Nat.le_of_ble_eq_true rfl⟩) hK hP hD hS hA [0, 1, 2] [3, 4, 5, 6, 7, 8, 9, 10, 11, 12, 13] [11, 12, 13, 0, 1, 2, 3, 4, 5, 6, 7, 8, 9, 10] rfl rfl (by decide) (by decide) (by decide) rfl (by decide) rfl rfl rfl hl.1 rfl (Nat.le_of_ble_eq_true rfl) dX4_readHorns_64 ⟨Nat.zero_le _, Nat.zero_le _⟩ (fun H locs hP hD hS => ?_)
            refine lv_if_eq (tgt := 74) hx hb dX4_readHorns_67 (by decide) (fun c23 => ?_) (fun c23 => ?_)
            · have hf := q_t c23 hf
              refine lv_iconst (v := 0) hx hb dX4_readHorns_74 (by decide) ?_
              obtain ⟨ee0, ee1, ee2, ee3⟩ := q_s4 hf
              subst ee1
              subst ee2
              subst ee3
              exact q_wretZ hx hb hr hlk rfl hAe hK hP hD hS ee0 dX4_readHorns_75
            · have hf := q_f c23 hf
              refine lv_iconst (v := 1) hx hb dX4_readHorns_70 (by decide) ?_
              refine lv_goto (tgt := 75) hx hb dX4_readHorns_71 (by decide) ?_
              obtain ⟨ee0, ee1, ee2, ee3⟩ := q_s4 hf
              subst ee1
              subst ee2
              subst ee3
              exact q_wretZ hx hb hr hlk rfl hAe hK hP hD hS ee0 dX4_readHorns_75
        · have hf := q_f c16 hf
          refine lv_aload_n hx hb dX4_readHorns_19 rfl (lv_at hl 1 rfl) ?_
          refine va_get (D := (dC, dI)) (ci := 4) (v := .ref o1) (C := RX4) (T := TX4) (N := 4) hx hb hts nX4_readHorns_4 hown hK hP 0 rfl rfl 0 (by decide) (hts _ qX4_readHorns_1) (fun _ h9 => h9) rfl dX4_readHorns_20 ?_
          obtain ⟨sc24, h25, hf⟩ := q_b1o hf
          refine q_rwVv (As := []) (rest := []) (ci := 6) (wr := ((wcE o0 o1 sl2) ++ (wcH cI o2 a2 sl4))) (w2 := ((wcE o0 o1 sl2) ++ (wcT cB o1 a1 sc24) ++ (wcH cI o2 a2 sl4))) ⟨hx, hb, hml, hown, hts⟩ (kX6_readNext l dC dI cI cB cZ o1 a1 sl3 H.size sc24 h25) (cwV 0 hts gX4_readHorns_X6_readNext rfl rfl rfl hdX6_readNext ⟨Nat.le_of_ble_eq_true rfl, Nat.le_of_ble_eq_true rfl⟩) hK hP hD hS hA [1, 2] [0, 3, 4, 5, 6, 7, 8, 9, 10, 11, 12, 13] [0, 12, 13, 1, 2, 3, 4, 5, 6, 7, 8, 9, 10, 11] rfl rfl (by decide) (by decide) (by decide) rfl (by decide) rfl rfl rfl hl.1 rfl (Nat.le_of_ble_eq_true rfl) dX4_readHorns_23 ⟨Nat.zero_le _, Nat.zero_le _⟩ (fun H locs hP hD hS => ?_)
          refine lv_aload_n hx hb dX4_readHorns_26 rfl (lv_at hl 1 rfl) ?_
          refine lv_aload_n hx hb dX4_readHorns_27 rfl (lv_at hl 2 rfl) ?_
          refine lv_iload_n hx hb dX4_readHorns_28 rfl (lv_at hl 0 rfl) ?_
          obtain ⟨r26, sc27, sc28, sc29, h30, hf⟩ := q_b4o hf
          refine q_rwVi (As := [.ref o2, .int l2_1]) (rest := []) (ci := 4) (wr := []) (w2 := ((wcE o0 o1 sc27) ++ (wcT cB o1 a1 sc28) ++ (wcH cI o2 a2 sc29))) ⟨hx, hb, hml, hown, hts⟩ (kX4_readHorn l dC dI cI cB cZ o0 o1 a1 o2 a2 sl2 sc24 sl4 l2_1 H.size r26 sc27 sc28 sc29 h30) (cwV 2 hts gX4_readHorns_X4_readHorn rfl rfl rfl hdX4_readHorn ⟨Nat.le_of_ble_eq_true rfl, Nat.le_of_ble_eq_true rfl⟩) hK hP hD hS hA [0, 1, 2, 3, 4, 5, 6, 7, 8, 9, 10, 11, 12, 13] [] [0, 1, 2, 3, 4, 5, 6, 7, 8, 9, 10, 11, 12, 13] rfl rfl (by decide) (by decide) (by decide) rfl (by decide) rfl rfl rfl hl.1 rfl (Nat.le_of_ble_eq_true rfl) dX4_readHorns_29 ⟨Nat.zero_le _, Nat.zero_le _⟩ (fun H locs hP hD hS => ?_)
          refine lv_if_ne (tgt := 37) hx hb dX4_readHorns_32 (by decide) (fun c31 => ?_) (fun c31 => ?_)
          · have hf := q_f c31 hf
            refine lv_aload_n hx hb dX4_readHorns_37 rfl (lv_at hl 2 rfl) ?_
            refine lv_iload_n hx hb dX4_readHorns_38 rfl (lv_at hl 0 rfl) ?_
            refine lv_iconst (v := 1) hx hb dX4_readHorns_39 (by decide) ?_
            refine lv_iadd hx hb dX4_readHorns_40 ?_
            obtain ⟨sn32, esn32, hf⟩ := q_lto hf
            refine va_put (D := (dC, dI)) (ci := 3) (v := .int (l2_1 + (1 : Int32))) (ty := .int) (C := RX3) (T := TX3) (N := 14) hx hb hts nX4_readHorns_3 tyX3 tyX3_ok nmX3 hown hK hP hD hS 3 rfl rfl 11 (by decide) (hts _ qX4_readHorns_2) (fun _ h9 => h9) rfl (by decide +kernel) rfl rfl (Nat.le_of_ble_eq_true rfl) dX4_readHorns_41 (fun H locs hP hD hS => ?_)
            have hP : va_P (dC, dI) vwCl ((wcE o0 o1 sc27) ++ (wcT cB o1 a1 sc28) ++ (wcH cI o2 a2 sn32)) H := by rw [esn32]; exact hP
            have hD : va_D A ((wcE o0 o1 sc27) ++ (wcT cB o1 a1 sc28) ++ (wcH cI o2 a2 sn32)) := by rw [esn32]; exact hD
            refine lv_iinc (v := l2_1 + (1 : Int32)) (lv' := [(2, .int (l2_1 + (1 : Int32))), (0, .ref o0), (1, .ref o2)]) hx hb dX4_readHorns_44 hl (k := 0) rfl rfl (by decide) rfl (fun ls hl => ?_)
            refine lv_goto (tgt := 2) hx hb dX4_readHorns_47 (by decide) ?_
            exact ihn5 (l2_1 + (1 : Int32)) sc27 sc28 sn32 hf _ _ hP hD hS _ hl
          · have hf := q_t c31 hf
            refine lv_iconst (v := 0) hx hb dX4_readHorns_35 (by decide) ?_
            obtain ⟨ee0, ee1, ee2, ee3⟩ := q_s4 hf
            subst ee1
            subst ee2
            subst ee3
            exact q_wretZ hx hb hr hlk rfl hAe hK hP hD hS ee0 dX4_readHorns_36
  exact aihn5 5000 (0 : Int32) s0 s1 s2 hf _ _ hP hD hS _ hl
theorem hdX4_readTree : yX4_readTree.cls = RX4 ∧ yX4_readTree.cls ≠ "java/lang/invoke/MethodHandle" ∧ yX4_readTree.cls ≠ "java/lang/invoke/VarHandle" ∧ (parseMethodDescriptor yX4_readTree.desc).map (fun d => d.parameters.length) = some 2 := by decide +kernel
theorem qX4_readTree_1 : (Cond.constant RX4 122 (-1000000)) ∈ wsX4_readTree := List.mem_of_getElem? (i := 1) (by decide +kernel)
theorem qX4_readTree_2 : (Cond.fieldLink RX4 123 "DeadAsked$Hill" "kinds" "[I") ∈ wsX4_readTree := List.mem_of_getElem? (i := 2) (by decide +kernel)
theorem qX4_readTree_3 : (Cond.fieldLink RX4 9 "DeadAsked$HillReader" "tape" "LDeadAsked$Tape;") ∈ wsX4_readTree := List.mem_of_getElem? (i := 3) (by decide +kernel)
theorem qX4_readTree_4 : (Cond.fieldLink RX4 131 "DeadAsked$Hill" "treeX" "[I") ∈ wsX4_readTree := List.mem_of_getElem? (i := 4) (by decide +kernel)
theorem qX4_readTree_5 : (Cond.fieldLink RX4 68 "DeadAsked$HillReader" "number" "I") ∈ wsX4_readTree := List.mem_of_getElem? (i := 5) (by decide +kernel)
theorem qX4_readTree_6 : (Cond.fieldLink RX4 134 "DeadAsked$Hill" "fruit" "[I") ∈ wsX4_readTree := List.mem_of_getElem? (i := 6) (by decide +kernel)
theorem nX4_readTree_3 : ∀ w ∈ u_ws RX3 TX3 14, w ∈ wsX4_readTree := fun _ h => (List.mem_cons_of_mem _ (List.mem_append_left _ (List.mem_append_left _ (List.mem_append_right _ h))))
theorem nX4_readTree_4 : ∀ w ∈ u_ws RX4 TX4 4, w ∈ wsX4_readTree := fun _ h => (List.mem_cons_of_mem _ (List.mem_append_left _ (List.mem_append_right _ h)))
set_option maxHeartbeats 4000000 in
set_option maxRecDepth 100000 in
theorem kX4_readTree (o0 : Nat) (o1 : Nat) (a1 : Nat → Nat) (o2 : Nat) (a2 : Nat → Nat) (s0 : St) (s1 : St) (s2 : St) (p2 : Int32) (sz : Nat) (r : Int32) (z0 : St) (z1 : St) (z2 : St) (hf : fX4_readTree s0 s1 s2 p2 = some (r, z0, z1, z2)) : Met l yX4_readTree wsX4_readTree ({ frames := 6, cells := 0, slots := 0, locals := 162 } : Room) (pcK (dC, dI) (q_ty cI cB cZ) adK adV [.ref o0, .ref o2, .int p2] ((wcE o0 o1 s0) ++ (wcT cB o1 a1 s1) ++ (wcH cI o2 a2 s2)) sz) (qiW (dC, dI) (q_ty cI cB cZ) ((wcE o0 o1 s0) ++ (wcT cB o1 a1 s1) ++ (wcH cI o2 a2 s2)) ((wcE o0 o1 z0) ++ (wcT cB o1 a1 z1) ++ (wcH cI o2 a2 z2)) sz r) 0 0 (va_A ((wcE o0 o1 s0) ++ (wcT cB o1 a1 s1) ++ (wcH cI o2 a2 s2)) sz) := by
  refine q_rwMk (cc := cX4_readTree) (maxL := 4) (ret := (some .boolean)) (by decide +kernel) rfl (Nat.le_of_ble_eq_true rfl) ?_
  intro p e s m below meth c hx hb hr hlk hml hown hts hK A H hAe hH hsz hP hD hA hS hE ls hl
  have hown : s.vm.findClass RX4 = some m.cls := hown
  have hl : lv_has ls 4 [(0, .ref o0), (1, .ref o2), (2, .int p2)] := hl
  unfold fX4_readTree at hf
  refine lv_aload_n hx hb dX4_readTree_0 rfl (lv_at hl 0 rfl) ?_
  obtain ⟨r1, h2, hf⟩ := q_b1o hf
  refine q_eVi (As := []) (rest := []) ⟨hx, hb, hml, hown, hts⟩ (kX4_kindNamed l dC dI cI cB cZ adK adV o0 o1 a1 s0 s1 r1 h2) (cwV 0 hts gX4_readTree_X4_kindNamed rfl rfl rfl hdX4_kindNamed ⟨Nat.le_of_ble_eq_true rfl, Nat.le_of_ble_eq_true rfl⟩) q_mvW ⟨(hP.sub [0, 1, 2] rfl), hK, (hE.at hS)⟩ (va_recv hK (hP.sub [0, 1, 2] rfl) (ci := 4) (q0 := 0) rfl rfl) rfl hl.1 rfl (Nat.le_of_ble_eq_true rfl) dX4_readTree_1 ⟨Nat.zero_le _, Nat.zero_le _⟩ ?_
  refine lv_istore_n (lv' := [(3, .int r1), (0, .ref o0), (1, .ref o2), (2, .int p2)]) hx hb dX4_readTree_4 rfl hl (by decide) rfl (fun ls hl => ?_)
  refine lv_iload_n hx hb dX4_readTree_5 rfl (lv_at hl 0 rfl) ?_
  refine lv_ldc (v := -1000000) hx hb hown (hts _ qX4_readTree_1) dX4_readTree_6 ?_
  refine lv_icmp_ne (tgt := 17) hx hb dX4_readTree_8 (by decide) (fun c3 => ?_) (fun c3 => ?_)
  · have hf := q_f c3 hf
    refine lv_aload_n hx hb dX4_readTree_17 rfl (lv_at hl 2 rfl) ?_
    refine va_get (D := (dC, dI)) (ci := 3) (v := .ref (a2 7)) (C := RX3) (T := TX3) (N := 14) hx hb hts nX4_readTree_3 hown hK hP 3 rfl rfl 7 (by decide) (hts _ qX4_readTree_2) (fun _ h9 => h9) rfl dX4_readTree_18 ?_
    refine lv_iload_n hx hb dX4_readTree_21 rfl (lv_at hl 3 rfl) ?_
    refine lv_iload_n hx hb dX4_readTree_22 rfl (lv_at hl 0 rfl) ?_
    obtain ⟨c4, hf⟩ := q_ck hf
    obtain ⟨sn5, esn5, hf⟩ := q_lto hf
    refine va_iast hx hb hK hP hD hS 11 0 rfl rfl c4 dX4_readTree_23 (fun H locs hP hD hS => ?_)
    have hP : va_P (dC, dI) vwCl ((wcE o0 o1 s0) ++ (wcT cB o1 a1 s1) ++ (wcH cI o2 a2 sn5)) H := by rw [esn5]; exact hP
    have hD : va_D A ((wcE o0 o1 s0) ++ (wcT cB o1 a1 s1) ++ (wcH cI o2 a2 sn5)) := by rw [esn5]; exact hD
    refine lv_aload_n hx hb dX4_readTree_24 rfl (lv_at hl 1 rfl) ?_
    refine va_get (D := (dC, dI)) (ci := 4) (v := .ref o1) (C := RX4) (T := TX4) (N := 4) hx hb hts nX4_readTree_4 hown hK hP 0 rfl rfl 0 (by decide) (hts _ qX4_readTree_3) (fun _ h9 => h9) rfl dX4_readTree_25 ?_
    obtain ⟨sc6, h7, hf⟩ := q_b1o hf
    refine q_rwVv (As := []) (rest := []) (ci := 6) (wr := ((wcE o0 o1 s0) ++ (wcH cI o2 a2 sn5))) (w2 := ((wcE o0 o1 s0) ++ (wcT cB o1 a1 sc6) ++ (wcH cI o2 a2 sn5))) ⟨hx, hb, hml, hown, hts⟩ (kX6_readNext l dC dI cI cB cZ o1 a1 s1 H.size sc6 h7) (cwV 0 hts gX4_readTree_X6_readNext rfl rfl rfl hdX6_readNext ⟨Nat.le_of_ble_eq_true rfl, Nat.le_of_ble_eq_true rfl⟩) hK hP hD hS hA [1, 2] [0, 3, 4, 5, 6, 7, 8, 9, 10, 11, 12, 13] [0, 12, 13, 1, 2, 3, 4, 5, 6, 7, 8, 9, 10, 11] rfl rfl (by decide) (by decide) (by decide) rfl (by decide) rfl rfl rfl hl.1 rfl (Nat.le_of_ble_eq_true rfl) dX4_readTree_28 ⟨Nat.zero_le _, Nat.zero_le _⟩ (fun H locs hP hD hS => ?_)
    refine lv_aload_n hx hb dX4_readTree_31 rfl (lv_at hl 1 rfl) ?_
    refine va_get (D := (dC, dI)) (ci := 4) (v := .ref o1) (C := RX4) (T := TX4) (N := 4) hx hb hts nX4_readTree_4 hown hK hP 0 rfl rfl 0 (by decide) (hts _ qX4_readTree_3) (fun _ h9 => h9) rfl dX4_readTree_32 ?_
    refine lv_iconst (v := 2) hx hb dX4_readTree_35 (by decide) ?_
    obtain ⟨r8, h9, hf⟩ := q_b1o hf
    refine q_roVi (As := [.int (2 : Int32)]) (rest := []) (ci := 6) ⟨hx, hb, hml, hown, hts⟩ (kX6_isSort l dC dI cI cB cZ o1 a1 sc6 (2 : Int32) r8 h9) (cwV 1 hts gX4_readTree_X6_isSort rfl rfl rfl hdX6_isSort ⟨Nat.le_of_ble_eq_true rfl, Nat.le_of_ble_eq_true rfl⟩) hK (hP.sub [1, 2] rfl) rfl rfl rfl hl.1 rfl (Nat.le_of_ble_eq_true rfl) dX4_readTree_36 ⟨Nat.zero_le _, Nat.zero_le _⟩ ?_
    refine lv_if_eq (tgt := 62) hx hb dX4_readTree_39 (by decide) (fun c10 => ?_) (fun c10 => ?_)
    · have hf := q_t c10 hf
      refine lv_aload_n hx hb dX4_readTree_62 rfl (lv_at hl 1 rfl) ?_
      refine lv_iconst (v := 0) hx hb dX4_readTree_63 (by decide) ?_
      refine lv_bipush (v := 30) hx hb dX4_readTree_64 (by decide) ?_
      obtain ⟨r11, sc12, sc13, h14, hf⟩ := q_b3o hf
      refine q_rwVi (As := [.int (0 : Int32), .int (30 : Int32)]) (rest := []) (ci := 4) (wr := ((wcH cI o2 a2 sn5))) (w2 := ((wcE o0 o1 sc12) ++ (wcT cB o1 a1 sc13) ++ (wcH cI o2 a2 sn5))) ⟨hx, hb, hml, hown, hts⟩ (kX4_takeNumber l dC dI cI cB cZ o0 o1 a1 s0 sc6 (0 : Int32) (30 : Int32) H.size r11 sc12 sc13 h14) (cwV 2 hts gX4_readTree_X4_takeNumber rfl rfl rfl hdX4_takeNumber ⟨Nat.le_of_ble_eq_true rfl, Nat.le_of_ble_eq_true rfl⟩) hK hP hD hS hA [0, 1, 2] [3, 4, 5, 6, 7, 8, 9, 10, 11, 12, 13] [11, 12, 13, 0, 1, 2, 3, 4, 5, 6, 7, 8, 9, 10] rfl rfl (by decide) (by decide) (by decide) rfl (by decide) rfl rfl rfl hl.1 rfl (Nat.le_of_ble_eq_true rfl) dX4_readTree_66 ⟨Nat.zero_le _, Nat.zero_le _⟩ (fun H locs hP hD hS => ?_)
      refine lv_if_ne (tgt := 74) hx hb dX4_readTree_69 (by decide) (fun c15 => ?_) (fun c15 => ?_)
      · have hf := q_f c15 hf
        refine lv_aload_n hx hb dX4_readTree_74 rfl (lv_at hl 2 rfl) ?_
        refine va_get (D := (dC, dI)) (ci := 3) (v := .ref (a2 8)) (C := RX3) (T := TX3) (N := 14) hx hb hts nX4_readTree_3 hown hK hP 3 rfl rfl 8 (by decide) (hts _ qX4_readTree_4) (fun _ h9 => h9) rfl dX4_readTree_75 ?_
        refine lv_iload_n hx hb dX4_readTree_78 rfl (lv_at hl 3 rfl) ?_
        refine lv_aload_n hx hb dX4_readTree_79 rfl (lv_at hl 1 rfl) ?_
        refine va_get (D := (dC, dI)) (ci := 4) (v := .int (sc12 1 0)) (C := RX4) (T := TX4) (N := 4) hx hb hts nX4_readTree_4 hown hK hP 0 rfl rfl 1 (by decide) (hts _ qX4_readTree_5) (fun _ h9 => h9) rfl dX4_readTree_80 ?_
        obtain ⟨c16, hf⟩ := q_ck hf
        obtain ⟨sn17, esn17, hf⟩ := q_lto hf
        refine va_iast hx hb hK hP hD hS 12 0 rfl rfl c16 dX4_readTree_83 (fun H locs hP hD hS => ?_)
        have hP : va_P (dC, dI) vwCl ((wcE o0 o1 sc12) ++ (wcT cB o1 a1 sc13) ++ (wcH cI o2 a2 sn17)) H := by rw [esn17]; exact hP
        have hD : va_D A ((wcE o0 o1 sc12) ++ (wcT cB o1 a1 sc13) ++ (wcH cI o2 a2 sn17)) := by rw [esn17]; exact hD
        refine lv_aload_n hx hb dX4_readTree_84 rfl (lv_at hl 1 rfl) ?_
        refine lv_iconst (v := 0) hx hb dX4_readTree_85 (by decide) ?_
        refine lv_bipush (v := 9) hx hb dX4_readTree_86 (by decide) ?_
        obtain ⟨r18, sc19, sc20, h21, hf⟩ := q_b3o hf
        refine q_rwVi (As := [.int (0 : Int32), .int (9 : Int32)]) (rest := []) (ci := 4) (wr := ((wcH cI o2 a2 sn17))) (w2 := ((wcE o0 o1 sc19) ++ (wcT cB o1 a1 sc20) ++ (wcH cI o2 a2 sn17))) ⟨hx, hb, hml, hown, hts⟩ (kX4_takeNumber l dC dI cI cB cZ o0 o1 a1 sc12 sc13 (0 : Int32) (9 : Int32) H.size r18 sc19 sc20 h21) (cwV 2 hts gX4_readTree_X4_takeNumber rfl rfl rfl hdX4_takeNumber ⟨Nat.le_of_ble_eq_true rfl, Nat.le_of_ble_eq_true rfl⟩) hK hP hD hS hA [0, 1, 2] [3, 4, 5, 6, 7, 8, 9, 10, 11, 12, 13] [11, 12, 13, 0, 1, 2, 3, 4, 5, 6, 7, 8, 9, 10] rfl rfl (by decide) (by decide) (by decide) rfl (by decide) rfl rfl rfl hl.1 rfl (Nat.le_of_ble_eq_true rfl) dX4_readTree_88 ⟨Nat.zero_le _, Nat.zero_le _⟩ (fun H locs hP hD hS => ?_)
        refine lv_if_ne (tgt := 96) hx hb dX4_readTree_91 (by decide) (fun c22 => ?_) (fun c22 => ?_)
        · have hf := q_f c22 hf
          refine lv_aload_n hx hb dX4_readTree_96 rfl (lv_at hl 2 rfl) ?_
          refine va_get (D := (dC, dI)) (ci := 3) (v := .ref (a2 9)) (C := RX3) (T := TX3) (N := 14) hx hb hts nX4_readTree_3 hown hK hP 3 rfl rfl 9 (by decide) (hts _ qX4_readTree_6) (fun _ h9 => h9) rfl dX4_readTree_97 ?_
          refine lv_iload_n hx hb dX4_readTree_100 rfl (lv_at hl 3 rfl) ?_
          refine lv_aload_n hx hb dX4_readTree_101 rfl (lv_at hl 1 rfl) ?_
          refine va_get (D := (dC, dI)) (ci := 4) (v := .int (sc19 1 0)) (C := RX4) (T := TX4) (N := 4) hx hb hts nX4_readTree_4 hown hK hP 0 rfl rfl 1 (by decide) (hts _ qX4_readTree_5) (fun _ h9 => h9) rfl dX4_readTree_102 ?_
          obtain ⟨c23, hf⟩ := q_ck hf
          obtain ⟨sn24, esn24, hf⟩ := q_lto hf
          refine va_iast hx hb hK hP hD hS 13 0 rfl rfl c23 dX4_readTree_105 (fun H locs hP hD hS => ?_)
          have hP : va_P (dC, dI) vwCl ((wcE o0 o1 sc19) ++ (wcT cB o1 a1 sc20) ++ (wcH cI o2 a2 sn24)) H := by rw [esn24]; exact hP
          have hD : va_D A ((wcE o0 o1 sc19) ++ (wcT cB o1 a1 sc20) ++ (wcH cI o2 a2 sn24)) := by rw [esn24]; exact hD
          refine lv_aload_n hx hb dX4_readTree_106 rfl (lv_at hl 1 rfl) ?_
          obtain ⟨r25, sc26, sc27, h28, hf⟩ := q_b3o hf
          refine q_rwVi (As := []) (rest := []) (ci := 4) (wr := ((wcH cI o2 a2 sn24))) (w2 := ((wcE o0 o1 sc26) ++ (wcT cB o1 a1 sc27) ++ (wcH cI o2 a2 sn24))) ⟨hx, hb, hml, hown, hts⟩ (kX4_takeSign l dC dI cI cB cZ o0 o1 a1 sc19 sc20 H.size r25 sc26 sc27 h28) (cwV 0 hts gX4_readTree_X4_takeSign rfl rfl rfl hdX4_takeSign ⟨Nat.le_of_ble_eq_true rfl, Nat.le_of_ble_eq_true rfl⟩) hK hP hD hS hA [0, 1, 2] [3, 4, 5, 6, 7, 8, 9, 10, 11, 12, 13] [11, 12, 13, 0, 1, 2, 3, 4, 5, 6, 7, 8, 9, 10] rfl rfl (by decide) (by decide) (by decide) rfl (by decide) rfl rfl rfl hl.1 rfl (Nat.le_of_ble_eq_true rfl) dX4_readTree_107 ⟨Nat.zero_le _, Nat.zero_le _⟩ (fun H locs hP hD hS => ?_)
          obtain ⟨c29, hf⟩ := q_ck hf
          obtain ⟨ee0, ee1, ee2, ee3⟩ := q_s4 hf
          subst ee1
          subst ee2
          subst ee3
          exact q_wretZ hx hb hr hlk (q_nb c29) hAe hK hP hD hS ee0 dX4_readTree_110
        · have hf := q_t c22 hf
          refine lv_iconst (v := 0) hx hb dX4_readTree_94 (by decide) ?_
          obtain ⟨ee0, ee1, ee2, ee3⟩ := q_s4 hf
          subst ee1
          subst ee2
          subst ee3
          exact q_wretZ hx hb hr hlk rfl hAe hK hP hD hS ee0 dX4_readTree_95
      · have hf := q_t c15 hf
        refine lv_iconst (v := 0) hx hb dX4_readTree_72 (by decide) ?_
        obtain ⟨ee0, ee1, ee2, ee3⟩ := q_s4 hf
        subst ee1
        subst ee2
        subst ee3
        exact q_wretZ hx hb hr hlk rfl hAe hK hP hD hS ee0 dX4_readTree_73
    · have hf := q_f c10 hf
      refine lv_aload_n hx hb dX4_readTree_42 rfl (lv_at hl 2 rfl) ?_
      refine lv_aload_n hx hb dX4_readTree_43 rfl (lv_at hl 1 rfl) ?_
      refine va_get (D := (dC, dI)) (ci := 4) (v := .ref o1) (C := RX4) (T := TX4) (N := 4) hx hb hts nX4_readTree_4 hown hK hP 0 rfl rfl 0 (by decide) (hts _ qX4_readTree_3) (fun _ h9 => h9) rfl dX4_readTree_44 ?_
      obtain ⟨r30, h31, hf⟩ := q_b1o hf
      refine q_roVi (As := []) (rest := [.ref o2]) (ci := 6) ⟨hx, hb, hml, hown, hts⟩ (kX6_number l dC dI cI cB cZ o1 a1 sc6 r30 h31) (cwV 0 hts gX4_readTree_X6_number rfl rfl rfl hdX6_number ⟨Nat.le_of_ble_eq_true rfl, Nat.le_of_ble_eq_true rfl⟩) hK (hP.sub [1, 2] rfl) rfl rfl rfl hl.1 rfl (Nat.le_of_ble_eq_true rfl) dX4_readTree_47 ⟨Nat.zero_le _, Nat.zero_le _⟩ ?_
      obtain ⟨r32, h33, hf⟩ := q_b1o hf
      refine q_roVi (As := [.int r30]) (rest := []) (ci := 3) ⟨hx, hb, hml, hown, hts⟩ (kX3_hasTreeAt l dC dI cI cB cZ o2 a2 sn5 r30 r32 h33) (cwV 1 hts gX4_readTree_X3_hasTreeAt rfl rfl rfl hdX3_hasTreeAt ⟨Nat.le_of_ble_eq_true rfl, Nat.le_of_ble_eq_true rfl⟩) hK (hP.sub [3, 4, 5, 6, 7, 8, 9, 10, 11, 12, 13] rfl) rfl rfl rfl hl.1 rfl (Nat.le_of_ble_eq_true rfl) dX4_readTree_50 ⟨Nat.zero_le _, Nat.zero_le _⟩ ?_
      refine lv_if_eq (tgt := 62) hx hb dX4_readTree_53 (by decide) (fun c34 => ?_) (fun c34 => ?_)
      · have hf := q_t c34 hf
        refine lv_aload_n hx hb dX4_readTree_62 rfl (lv_at hl 1 rfl) ?_
        refine lv_iconst (v := 0) hx hb dX4_readTree_63 (by decide) ?_
        refine lv_bipush (v := 30) hx hb dX4_readTree_64 (by decide) ?_
        obtain ⟨r35, sc36, sc37, h38, hf⟩ := q_b3o hf
        refine q_rwVi (As := [.int (0 : Int32), .int (30 : Int32)]) (rest := []) (ci := 4) (wr := ((wcH cI o2 a2 sn5))) (w2 := ((wcE o0 o1 sc36) ++ (wcT cB o1 a1 sc37) ++ (wcH cI o2 a2 sn5))) ⟨hx, hb, hml, hown, hts⟩ (kX4_takeNumber l dC dI cI cB cZ o0 o1 a1 s0 sc6 (0 : Int32) (30 : Int32) H.size r35 sc36 sc37 h38) (cwV 2 hts gX4_readTree_X4_takeNumber rfl rfl rfl hdX4_takeNumber ⟨Nat.le_of_ble_eq_true rfl, Nat.le_of_ble_eq_true rfl⟩) hK hP hD hS hA [0, 1, 2] [3, 4, 5, 6, 7, 8, 9, 10, 11, 12, 13] [11, 12, 13, 0, 1, 2, 3, 4, 5, 6, 7, 8, 9, 10] rfl rfl (by decide) (by decide) (by decide) rfl (by decide) rfl rfl rfl hl.1 rfl (Nat.le_of_ble_eq_true rfl) dX4_readTree_66 ⟨Nat.zero_le _, Nat.zero_le _⟩ (fun H locs hP hD hS => ?_)
        refine lv_if_ne (tgt := 74) hx hb dX4_readTree_69 (by decide) (fun c39 => ?_) (fun c39 => ?_)
        · have hf := q_f c39 hf
          refine lv_aload_n hx hb dX4_readTree_74 rfl (lv_at hl 2 rfl) ?_
          refine va_get (D := (dC, dI)) (ci := 3) (v := .ref (a2 8)) (C := RX3) (T := TX3) (N := 14) hx hb hts nX4_readTree_3 hown hK hP 3 rfl rfl 8 (by decide) (hts _ qX4_readTree_4) (fun _ h9 => h9) rfl dX4_readTree_75 ?_
          refine lv_iload_n hx hb dX4_readTree_78 rfl (lv_at hl 3 rfl) ?_
          refine lv_aload_n hx hb dX4_readTree_79 rfl (lv_at hl 1 rfl) ?_
          refine va_get (D := (dC, dI)) (ci := 4) (v := .int (sc36 1 0)) (C := RX4) (T := TX4) (N := 4) hx hb hts nX4_readTree_4 hown hK hP 0 rfl rfl 1 (by decide) (hts _ qX4_readTree_5) (fun _ h9 => h9) rfl dX4_readTree_80 ?_
          obtain ⟨c40, hf⟩ := q_ck hf
          obtain ⟨sn41, esn41, hf⟩ := q_lto hf
          refine va_iast hx hb hK hP hD hS 12 0 rfl rfl c40 dX4_readTree_83 (fun H locs hP hD hS => ?_)
          have hP : va_P (dC, dI) vwCl ((wcE o0 o1 sc36) ++ (wcT cB o1 a1 sc37) ++ (wcH cI o2 a2 sn41)) H := by rw [esn41]; exact hP
          have hD : va_D A ((wcE o0 o1 sc36) ++ (wcT cB o1 a1 sc37) ++ (wcH cI o2 a2 sn41)) := by rw [esn41]; exact hD
          refine lv_aload_n hx hb dX4_readTree_84 rfl (lv_at hl 1 rfl) ?_
          refine lv_iconst (v := 0) hx hb dX4_readTree_85 (by decide) ?_
          refine lv_bipush (v := 9) hx hb dX4_readTree_86 (by decide) ?_
          obtain ⟨r42, sc43, sc44, h45, hf⟩ := q_b3o hf
          refine q_rwVi (As := [.int (0 : Int32), .int (9 : Int32)]) (rest := []) (ci := 4) (wr := ((wcH cI o2 a2 sn41))) (w2 := ((wcE o0 o1 sc43) ++ (wcT cB o1 a1 sc44) ++ (wcH cI o2 a2 sn41))) ⟨hx, hb, hml, hown, hts⟩ (kX4_takeNumber l dC dI cI cB cZ o0 o1 a1 sc36 sc37 (0 : Int32) (9 : Int32) H.size r42 sc43 sc44 h45) (cwV 2 hts gX4_readTree_X4_takeNumber rfl rfl rfl hdX4_takeNumber ⟨Nat.le_of_ble_eq_true rfl, Nat.le_of_ble_eq_true rfl⟩) hK hP hD hS hA [0, 1, 2] [3, 4, 5, 6, 7, 8, 9, 10, 11, 12, 13] [11, 12, 13, 0, 1, 2, 3, 4, 5, 6, 7, 8, 9, 10] rfl rfl (by decide) (by decide) (by decide) rfl (by decide) rfl rfl rfl hl.1 rfl (Nat.le_of_ble_eq_true rfl) dX4_readTree_88 ⟨Nat.zero_le _, Nat.zero_le _⟩ (fun H locs hP hD hS => ?_)
          refine lv_if_ne (tgt := 96) hx hb dX4_readTree_91 (by decide) (fun c46 => ?_) (fun c46 => ?_)
          · have hf := q_f c46 hf
            refine lv_aload_n hx hb dX4_readTree_96 rfl (lv_at hl 2 rfl) ?_
            refine va_get (D := (dC, dI)) (ci := 3) (v := .ref (a2 9)) (C := RX3) (T := TX3) (N := 14) hx hb hts nX4_readTree_3 hown hK hP 3 rfl rfl 9 (by decide) (hts _ qX4_readTree_6) (fun _ h9 => h9) rfl dX4_readTree_97 ?_
            refine lv_iload_n hx hb dX4_readTree_100 rfl (lv_at hl 3 rfl) ?_
            refine lv_aload_n hx hb dX4_readTree_101 rfl (lv_at hl 1 rfl) ?_
            refine va_get (D := (dC, dI)) (ci := 4) (v := .int (sc43 1 0)) (C := RX4) (T := TX4) (N := 4) hx hb hts nX4_readTree_4 hown hK hP 0 rfl rfl 1 (by decide) (hts _ qX4_readTree_5) (fun _ h9 => h9) rfl dX4_readTree_102 ?_
            obtain ⟨c47, hf⟩ := q_ck hf
            obtain ⟨sn48, esn48, hf⟩ := q_lto hf
            refine va_iast hx hb hK hP hD hS 13 0 rfl rfl c47 dX4_readTree_105 (fun H locs hP hD hS => ?_)
            have hP : va_P (dC, dI) vwCl ((wcE o0 o1 sc43) ++ (wcT cB o1 a1 sc44) ++ (wcH cI o2 a2 sn48)) H := by rw [esn48]; exact hP
            have hD : va_D A ((wcE o0 o1 sc43) ++ (wcT cB o1 a1 sc44) ++ (wcH cI o2 a2 sn48)) := by rw [esn48]; exact hD
            refine lv_aload_n hx hb dX4_readTree_106 rfl (lv_at hl 1 rfl) ?_
            obtain ⟨r49, sc50, sc51, h52, hf⟩ := q_b3o hf
            refine q_rwVi (As := []) (rest := []) (ci := 4) (wr := ((wcH cI o2 a2 sn48))) (w2 := ((wcE o0 o1 sc50) ++ (wcT cB o1 a1 sc51) ++ (wcH cI o2 a2 sn48))) ⟨hx, hb, hml, hown, hts⟩ (kX4_takeSign l dC dI cI cB cZ o0 o1 a1 sc43 sc44 H.size r49 sc50 sc51 h52) (cwV 0 hts gX4_readTree_X4_takeSign rfl rfl rfl hdX4_takeSign ⟨Nat.le_of_ble_eq_true rfl, Nat.le_of_ble_eq_true rfl⟩) hK hP hD hS hA [0, 1, 2] [3, 4, 5, 6, 7, 8, 9, 10, 11, 12, 13] [11, 12, 13, 0, 1, 2, 3, 4, 5, 6, 7, 8, 9, 10] rfl rfl (by decide) (by decide) (by decide) rfl (by decide) rfl rfl rfl hl.1 rfl (Nat.le_of_ble_eq_true rfl) dX4_readTree_107 ⟨Nat.zero_le _, Nat.zero_le _⟩ (fun H locs hP hD hS => ?_)
            obtain ⟨c53, hf⟩ := q_ck hf
            obtain ⟨ee0, ee1, ee2, ee3⟩ := q_s4 hf
            subst ee1
            subst ee2
            subst ee3
            exact q_wretZ hx hb hr hlk (q_nb c53) hAe hK hP hD hS ee0 dX4_readTree_110
          · have hf := q_t c46 hf
            refine lv_iconst (v := 0) hx hb dX4_readTree_94 (by decide) ?_
            obtain ⟨ee0, ee1, ee2, ee3⟩ := q_s4 hf
            subst ee1
            subst ee2
            subst ee3
            exact q_wretZ hx hb hr hlk rfl hAe hK hP hD hS ee0 dX4_readTree_95
        · have hf := q_t c39 hf
          refine lv_iconst (v := 0) hx hb dX4_readTree_72 (by decide) ?_
          obtain ⟨ee0, ee1, ee2, ee3⟩ := q_s4 hf
          subst ee1
          subst ee2
          subst ee3
          exact q_wretZ hx hb hr hlk rfl hAe hK hP hD hS ee0 dX4_readTree_73
      · have hf := q_f c34 hf
        refine lv_aload_n hx hb dX4_readTree_56 rfl (lv_at hl 1 rfl) ?_
        refine lv_iconst (v := 2) hx hb dX4_readTree_57 (by decide) ?_
        obtain ⟨r54, sc55, h56, hf⟩ := q_b2o hf
        refine q_rwVi (As := [.int (2 : Int32)]) (rest := []) (ci := 4) (wr := ((wcH cI o2 a2 sn5))) (w2 := ((wcE o0 o1 sc55) ++ (wcT cB o1 a1 sc6) ++ (wcH cI o2 a2 sn5))) ⟨hx, hb, hml, hown, hts⟩ (kX4_refuse l dC dI cI cB cZ o0 o1 a1 s0 sc6 (2 : Int32) H.size r54 sc55 h56) (cwV 1 hts gX4_readTree_X4_refuse rfl rfl rfl hdX4_refuse ⟨Nat.le_of_ble_eq_true rfl, Nat.le_of_ble_eq_true rfl⟩) hK hP hD hS hA [0, 1, 2] [3, 4, 5, 6, 7, 8, 9, 10, 11, 12, 13] [11, 12, 13, 0, 1, 2, 3, 4, 5, 6, 7, 8, 9, 10] rfl rfl (by decide) (by decide) (by decide) rfl (by decide) rfl rfl rfl hl.1 rfl (Nat.le_of_ble_eq_true rfl) dX4_readTree_58 ⟨Nat.zero_le _, Nat.zero_le _⟩ (fun H locs hP hD hS => ?_)
        obtain ⟨c57, hf⟩ := q_ck hf
        obtain ⟨ee0, ee1, ee2, ee3⟩ := q_s4 hf
        subst ee1
        subst ee2
        subst ee3
        exact q_wretZ hx hb hr hlk (q_nb c57) hAe hK hP hD hS ee0 dX4_readTree_61
  · have hf := q_t c3 hf
    refine lv_aload_n hx hb dX4_readTree_11 rfl (lv_at hl 1 rfl) ?_
    refine lv_iconst (v := 1) hx hb dX4_readTree_12 (by decide) ?_
    obtain ⟨r58, sc59, h60, hf⟩ := q_b2o hf
    refine q_rwVi (As := [.int (1 : Int32)]) (rest := []) (ci := 4) (wr := ((wcH cI o2 a2 s2))) (w2 := ((wcE o0 o1 sc59) ++ (wcT cB o1 a1 s1) ++ (wcH cI o2 a2 s2))) ⟨hx, hb, hml, hown, hts⟩ (kX4_refuse l dC dI cI cB cZ o0 o1 a1 s0 s1 (1 : Int32) H.size r58 sc59 h60) (cwV 1 hts gX4_readTree_X4_refuse rfl rfl rfl hdX4_refuse ⟨Nat.le_of_ble_eq_true rfl, Nat.le_of_ble_eq_true rfl⟩) hK hP hD hS hA [0, 1, 2] [3, 4, 5, 6, 7, 8, 9, 10, 11, 12, 13] [11, 12, 13, 0, 1, 2, 3, 4, 5, 6, 7, 8, 9, 10] rfl rfl (by decide) (by decide) (by decide) rfl (by decide) rfl rfl rfl hl.1 rfl (Nat.le_of_ble_eq_true rfl) dX4_readTree_13 ⟨Nat.zero_le _, Nat.zero_le _⟩ (fun H locs hP hD hS => ?_)
    obtain ⟨c61, hf⟩ := q_ck hf
    obtain ⟨ee0, ee1, ee2, ee3⟩ := q_s4 hf
    subst ee1
    subst ee2
    subst ee3
    exact q_wretZ hx hb hr hlk (q_nb c61) hAe hK hP hD hS ee0 dX4_readTree_16
theorem hdX4_readTrees : yX4_readTrees.cls = RX4 ∧ yX4_readTrees.cls ≠ "java/lang/invoke/MethodHandle" ∧ yX4_readTrees.cls ≠ "java/lang/invoke/VarHandle" ∧ (parseMethodDescriptor yX4_readTrees.desc).map (fun d => d.parameters.length) = some 1 := by decide +kernel
theorem qX4_readTrees_1 : (Cond.fieldLink RX4 9 "DeadAsked$HillReader" "tape" "LDeadAsked$Tape;") ∈ wsX4_readTrees := List.mem_of_getElem? (i := 1) (by decide +kernel)
theorem qX4_readTrees_2 : (Cond.fieldLink RX4 115 "DeadAsked$Hill" "trees" "I") ∈ wsX4_readTrees := List.mem_of_getElem? (i := 2) (by decide +kernel)
theorem nX4_readTrees_3 : ∀ w ∈ u_ws RX3 TX3 14, w ∈ wsX4_readTrees := fun _ h => (List.mem_cons_of_mem _ (List.mem_append_left _ (List.mem_append_right _ h)))
theorem nX4_readTrees_4 : ∀ w ∈ u_ws RX4 TX4 4, w ∈ wsX4_readTrees := fun _ h => (List.mem_cons_of_mem _ (List.mem_append_left _ (List.mem_append_left _ (List.mem_append_right _ h))))
set_option maxHeartbeats 4000000 in
set_option maxRecDepth 100000 in
theorem kX4_readTrees (o0 : Nat) (o1 : Nat) (a1 : Nat → Nat) (o2 : Nat) (a2 : Nat → Nat) (s0 : St) (s1 : St) (s2 : St) (sz : Nat) (r : Int32) (z0 : St) (z1 : St) (z2 : St) (hf : fX4_readTrees s0 s1 s2 = some (r, z0, z1, z2)) : Met l yX4_readTrees wsX4_readTrees ({ frames := 7, cells := 0, slots := 0, locals := 185 } : Room) (pcK (dC, dI) (q_ty cI cB cZ) adK adV [.ref o0, .ref o2] ((wcE o0 o1 s0) ++ (wcT cB o1 a1 s1) ++ (wcH cI o2 a2 s2)) sz) (qiW (dC, dI) (q_ty cI cB cZ) ((wcE o0 o1 s0) ++ (wcT cB o1 a1 s1) ++ (wcH cI o2 a2 s2)) ((wcE o0 o1 z0) ++ (wcT cB o1 a1 z1) ++ (wcH cI o2 a2 z2)) sz r) 0 0 (va_A ((wcE o0 o1 s0) ++ (wcT cB o1 a1 s1) ++ (wcH cI o2 a2 s2)) sz) := by
  refine q_rwMk (cc := cX4_readTrees) (maxL := 3) (ret := (some .boolean)) (by decide +kernel) rfl (Nat.le_of_ble_eq_true rfl) ?_
  intro p e s m below meth c hx hb hr hlk hml hown hts hK A H hAe hH hsz hP hD hA hS hE ls hl
  have hown : s.vm.findClass RX4 = some m.cls := hown
  have hl : lv_has ls 3 [(0, .ref o0), (1, .ref o2)] := hl
  unfold fX4_readTrees at hf
  refine lv_iconst (v := 0) hx hb dX4_readTrees_0 (by decide) ?_
  refine lv_istore_n (lv' := [(2, .int (0 : Int32)), (0, .ref o0), (1, .ref o2)]) hx hb dX4_readTrees_1 rfl hl (by decide) rfl (fun ls hl => ?_)
  have aihn5 : ∀ n5 : Nat, ∀ l2_1 : Int32, ∀ sl2 : St, ∀ sl3 : St, ∀ sl4 : St, fX4_readTrees_L2 n5 l2_1 sl2 sl3 sl4 = some (r, z0, z1, z2) → ∀ (H : Heap) (locs : List Loc), va_P (dC, dI) vwCl ((wcE o0 o1 sl2) ++ (wcT cB o1 a1 sl3) ++ (wcH cI o2 a2 sl4)) H → va_D A ((wcE o0 o1 sl2) ++ (wcT cB o1 a1 sl3) ++ (wcH cI o2 a2 sl4)) → va_S A s.heap H locs → ∀ ls : Array Slot, lv_has ls 3 [(2, .int l2_1), (0, .ref o0), (1, .ref o2)] → W p l e ({ frames := 7, cells := 0, slots := 0, locals := 185 } : Room) s m [.ref o0, .ref o2].toArray below meth c H locs 0 0 (MQ below (qiW (dC, dI) (q_ty cI cB cZ) ((wcE o0 o1 s0) ++ (wcT cB o1 a1 s1) ++ (wcH cI o2 a2 s2)) ((wcE o0 o1 z0) ++ (wcT cB o1 a1 z1) ++ (wcH cI o2 a2 z2)) sz r) [.ref o0, .ref o2].toArray s 0 0 (va_A ((wcE o0 o1 s0) ++ (wcT cB o1 a1 s1) ++ (wcH cI o2 a2 s2)) sz)) (F0 m 2 ls []) := by
    intro n5
    induction n5 with
    | zero =>
      intro l2_1 sl2 sl3 sl4 hf
      exact q_no hf
    | succ n5 ihn5 =>
      intro l2_1 sl2 sl3 sl4 hf H locs hP hD hS ls hl
      rw [fX4_readTrees_L2] at hf
      refine lv_iload_n hx hb dX4_readTrees_2 rfl (lv_at hl 0 rfl) ?_
      refine lv_iconst (v := 4) hx hb dX4_readTrees_3 (by decide) ?_
      refine lv_icmp_ge (tgt := 50) hx hb dX4_readTrees_4 (by decide) (fun c6 => ?_) (fun c6 => ?_)
      · have hf := q_t c6 hf
        refine lv_aload_n hx hb dX4_readTrees_50 rfl (lv_at hl 1 rfl) ?_
        refine va_get (D := (dC, dI)) (ci := 4) (v := .ref o1) (C := RX4) (T := TX4) (N := 4) hx hb hts nX4_readTrees_4 hown hK hP 0 rfl rfl 0 (by decide) (hts _ qX4_readTrees_1) (fun _ h9 => h9) rfl dX4_readTrees_51 ?_
        refine va_ldcS (q := adK 3) hx hb hown (hE.2.2.2 3 (by decide)) dX4_readTrees_54 ?_
        obtain ⟨r7, h8, hf⟩ := q_b1o hf
        refine q_eVi (As := [.ref (adK 3)]) (rest := []) ⟨hx, hb, hml, hown, hts⟩ (kX6_isWord l dC dI cI cB cZ adK adV o1 a1 sl3 3 (by decide) r7 h8) (cwV 1 hts gX4_readTrees_X6_isWord rfl rfl rfl hdX6_isWord ⟨Nat.le_of_ble_eq_true rfl, Nat.le_of_ble_eq_true rfl⟩) q_mvW ⟨(hP.sub [1, 2] rfl), hK, (hE.at hS)⟩ (va_recv hK (hP.sub [1, 2] rfl) (ci := 6) (q0 := 0) rfl rfl) rfl hl.1 rfl (Nat.le_of_ble_eq_true rfl) dX4_readTrees_56 ⟨Nat.zero_le _, Nat.zero_le _⟩ ?_
        refine lv_if_eq (tgt := 70) hx hb dX4_readTrees_59 (by decide) (fun c9 => ?_) (fun c9 => ?_)
        · have hf := q_t c9 hf
          refine lv_iconst (v := 1) hx hb dX4_readTrees_70 (by decide) ?_
          refine lv_goto (tgt := 75) hx hb dX4_readTrees_71 (by decide) ?_
          obtain ⟨ee0, ee1, ee2, ee3⟩ := q_s4 hf
          subst ee1
          subst ee2
          subst ee3
          exact q_wretZ hx hb hr hlk rfl hAe hK hP hD hS ee0 dX4_readTrees_75
        · have hf := q_f c9 hf
          refine lv_aload_n hx hb dX4_readTrees_62 rfl (lv_at hl 1 rfl) ?_
          refine lv_iconst (v := 3) hx hb dX4_readTrees_63 (by decide) ?_
          obtain ⟨r10, sc11, h12, hf⟩ := q_b2o hf
          refine q_rwVi (As := [.int (3 : Int32)]) (rest := []) (ci := 4) (wr := ((wcH cI o2 a2 sl4))) (w2 := ((wcE o0 o1 sc11) ++ (wcT cB o1 a1 sl3) ++ (wcH cI o2 a2 sl4))) ⟨hx, hb, hml, hown, hts⟩ (kX4_refuse l dC dI cI cB cZ o0 o1 a1 sl2 sl3 (3 : Int32) H.size r10 sc11 h12) (cwV 1 hts gX4_readTrees_X4_refuse rfl rfl rfl hdX4_refuse ⟨Nat.le_of_ble_eq_true rfl, Nat.le_of_ble_eq_true rfl⟩) hK hP hD hS hA [0, 1, 2] [3, 4, 5, 6, 7, 8, 9, 10, 11, 12, 13] [11, 12, 13, 0, 1, 2, 3, 4, 5, 6, 7, 8, 9, 10] rfl rfl (by decide) (by decide) (by decide) rfl (by decide) rfl rfl rfl hl.1 rfl (Nat.le_of_ble_eq_true rfl) dX4_readTrees_64 ⟨Nat.zero_le _, Nat.zero_le _⟩ (fun H locs hP hD hS => ?_)
          refine lv_if_eq (tgt := 74) hx hb dX4_readTrees_67 (by decide) (fun c13 => ?_) (fun c13 => ?_)
          · have hf := q_t c13 hf
            refine lv_iconst (v := 0) hx hb dX4_readTrees_74 (by decide) ?_
            obtain ⟨ee0, ee1, ee2, ee3⟩ := q_s4 hf
            subst ee1
            subst ee2
            subst ee3
            exact q_wretZ hx hb hr hlk rfl hAe hK hP hD hS ee0 dX4_readTrees_75
          · have hf := q_f c13 hf
            refine lv_iconst (v := 1) hx hb dX4_readTrees_70 (by decide) ?_
            refine lv_goto (tgt := 75) hx hb dX4_readTrees_71 (by decide) ?_
            obtain ⟨ee0, ee1, ee2, ee3⟩ := q_s4 hf
            subst ee1
            subst ee2
            subst ee3
            exact q_wretZ hx hb hr hlk rfl hAe hK hP hD hS ee0 dX4_readTrees_75
      · have hf := q_f c6 hf
        refine lv_aload_n hx hb dX4_readTrees_7 rfl (lv_at hl 1 rfl) ?_
        refine va_get (D := (dC, dI)) (ci := 4) (v := .ref o1) (C := RX4) (T := TX4) (N := 4) hx hb hts nX4_readTrees_4 hown hK hP 0 rfl rfl 0 (by decide) (hts _ qX4_readTrees_1) (fun _ h9 => h9) rfl dX4_readTrees_8 ?_
        refine va_ldcS (q := adK 3) hx hb hown (hE.2.2.2 3 (by decide)) dX4_readTrees_11 ?_
        obtain ⟨r14, h15, hf⟩ := q_b1o hf
        refine q_eVi (As := [.ref (adK 3)]) (rest := []) ⟨hx, hb, hml, hown, hts⟩ (kX6_isWord l dC dI cI cB cZ adK adV o1 a1 sl3 3 (by decide) r14 h15) (cwV 1 hts gX4_readTrees_X6_isWord rfl rfl rfl hdX6_isWord ⟨Nat.le_of_ble_eq_true rfl, Nat.le_of_ble_eq_true rfl⟩) q_mvW ⟨(hP.sub [1, 2] rfl), hK, (hE.at hS)⟩ (va_recv hK (hP.sub [1, 2] rfl) (ci := 6) (q0 := 0) rfl rfl) rfl hl.1 rfl (Nat.le_of_ble_eq_true rfl) dX4_readTrees_13 ⟨Nat.zero_le _, Nat.zero_le _⟩ ?_
        refine lv_if_eq (tgt := 50) hx hb dX4_readTrees_16 (by decide) (fun c16 => ?_) (fun c16 => ?_)
        · have hf := q_t c16 hf
          refine lv_aload_n hx hb dX4_readTrees_50 rfl (lv_at hl 1 rfl) ?_
          refine va_get (D := (dC, dI)) (ci := 4) (v := .ref o1) (C := RX4) (T := TX4) (N := 4) hx hb hts nX4_readTrees_4 hown hK hP 0 rfl rfl 0 (by decide) (hts _ qX4_readTrees_1) (fun _ h9 => h9) rfl dX4_readTrees_51 ?_
          refine va_ldcS (q := adK 3) hx hb hown (hE.2.2.2 3 (by decide)) dX4_readTrees_54 ?_
          obtain ⟨r17, h18, hf⟩ := q_b1o hf
          refine q_eVi (As := [.ref (adK 3)]) (rest := []) ⟨hx, hb, hml, hown, hts⟩ (kX6_isWord l dC dI cI cB cZ adK adV o1 a1 sl3 3 (by decide) r17 h18) (cwV 1 hts gX4_readTrees_X6_isWord rfl rfl rfl hdX6_isWord ⟨Nat.le_of_ble_eq_true rfl, Nat.le_of_ble_eq_true rfl⟩) q_mvW ⟨(hP.sub [1, 2] rfl), hK, (hE.at hS)⟩ (va_recv hK (hP.sub [1, 2] rfl) (ci := 6) (q0 := 0) rfl rfl) rfl hl.1 rfl (Nat.le_of_ble_eq_true rfl) dX4_readTrees_56 ⟨Nat.zero_le _, Nat.zero_le _⟩ ?_
          refine lv_if_eq (tgt := 70) hx hb dX4_readTrees_59 (by decide) (fun c19 => ?_) (fun c19 => ?_)
          · have hf := q_t c19 hf
            refine lv_iconst (v := 1) hx hb dX4_readTrees_70 (by decide) ?_
            refine lv_goto (tgt := 75) hx hb dX4_readTrees_71 (by decide) ?_
            obtain ⟨ee0, ee1, ee2, ee3⟩ := q_s4 hf
            subst ee1
            subst ee2
            subst ee3
            exact q_wretZ hx hb hr hlk rfl hAe hK hP hD hS ee0 dX4_readTrees_75
          · have hf := q_f c19 hf
            refine lv_aload_n hx hb dX4_readTrees_62 rfl (lv_at hl 1 rfl) ?_
            refine lv_iconst (v := 3) hx hb dX4_readTrees_63 (by decide) ?_
            obtain ⟨r20, sc21, h22, hf⟩ := q_b2o hf
            refine q_rwVi (As := [.int (3 : Int32)]) (rest := []) (ci := 4) (wr := ((wcH cI o2 a2 sl4))) (w2 := ((wcE o0 o1 sc21) ++ (wcT cB o1 a1 sl3) ++ (wcH cI o2 a2 sl4))) ⟨hx, hb, hml, hown, hts⟩ (kX4_refuse l dC dI cI cB cZ o0 o1 a1 sl2 sl3 (3 : Int32) H.size r20 sc21 h22) (cwV 1 hts gX4_readTrees_X4_refuse rfl rfl rfl hdX4_refuse ⟨Nat.le_of_ble_eq_true rfl, Nat.le_of_ble_eq_true rfl⟩) hK hP hD hS hA [0, 1, 2] [3, 4, 5, 6, 7, 8, 9, 10, 11, 12, 13] [11, 12, 13, 0, 1, 2, 3, 4, 5, 6, 7, 8, 9, 10] rfl rfl (by decide) (by decide) (by decide) rfl (by decide) rfl rfl rfl hl.1 rfl (Nat.le_of_ble_eq_true rfl) dX4_readTrees_64 ⟨Nat.zero_le _, Nat.zero_le _⟩ (fun H locs hP hD hS => ?_)
            refine lv_if_eq (tgt := 74) hx hb dX4_readTrees_67 (by decide) (fun c23 => ?_) (fun c23 => ?_)
            · have hf := q_t c23 hf
              refine lv_iconst (v := 0) hx hb dX4_readTrees_74 (by decide) ?_
              obtain ⟨ee0, ee1, ee2, ee3⟩ := q_s4 hf
              subst ee1
              subst ee2
              subst ee3
              exact q_wretZ hx hb hr hlk rfl hAe hK hP hD hS ee0 dX4_readTrees_75
            · have hf := q_f c23 hf
              refine lv_iconst (v := 1) hx hb dX4_readTrees_70 (by decide) ?_
              refine lv_goto (tgt := 75) hx hb dX4_readTrees_71 (by decide) ?_
              obtain ⟨ee0, ee1, ee2, ee3⟩ := q_s4 hf
              subst ee1
              subst ee2
              subst ee3
              exact q_wretZ hx hb hr hlk rfl hAe hK hP hD hS ee0 dX4_readTrees_75
        · have hf := q_f c16 hf
          refine lv_aload_n hx hb dX4_readTrees_19 rfl (lv_at hl 1 rfl) ?_
          refine va_get (D := (dC, dI)) (ci := 4) (v := .ref o1) (C := RX4) (T := TX4) (N := 4) hx hb hts nX4_readTrees_4 hown hK hP 0 rfl rfl 0 (by decide) (hts _ qX4_readTrees_1) (fun _ h9 => h9) rfl dX4_readTrees_20 ?_
          obtain ⟨sc24, h25, hf⟩ := q_b1o hf
          refine q_rwVv (As := []) (rest := []) (ci := 6) (wr := ((wcE o0 o1 sl2) ++ (wcH cI o2 a2 sl4))) (w2 := ((wcE o0 o1 sl2) ++ (wcT cB o1 a1 sc24) ++ (wcH cI o2 a2 sl4))) ⟨hx, hb, hml, hown, hts⟩ (kX6_readNext l dC dI cI cB cZ o1 a1 sl3 H.size sc24 h25) (cwV 0 hts gX4_readTrees_X6_readNext rfl rfl rfl hdX6_readNext ⟨Nat.le_of_ble_eq_true rfl, Nat.le_of_ble_eq_true rfl⟩) hK hP hD hS hA [1, 2] [0, 3, 4, 5, 6, 7, 8, 9, 10, 11, 12, 13] [0, 12, 13, 1, 2, 3, 4, 5, 6, 7, 8, 9, 10, 11] rfl rfl (by decide) (by decide) (by decide) rfl (by decide) rfl rfl rfl hl.1 rfl (Nat.le_of_ble_eq_true rfl) dX4_readTrees_23 ⟨Nat.zero_le _, Nat.zero_le _⟩ (fun H locs hP hD hS => ?_)
          refine lv_aload_n hx hb dX4_readTrees_26 rfl (lv_at hl 1 rfl) ?_
          refine lv_aload_n hx hb dX4_readTrees_27 rfl (lv_at hl 2 rfl) ?_
          refine lv_iload_n hx hb dX4_readTrees_28 rfl (lv_at hl 0 rfl) ?_
          obtain ⟨r26, sc27, sc28, sc29, h30, hf⟩ := q_b4o hf
          refine q_rwVik (As := [.ref o2, .int l2_1]) (rest := []) (ci := 4) (wr := []) (w2 := ((wcE o0 o1 sc27) ++ (wcT cB o1 a1 sc28) ++ (wcH cI o2 a2 sc29))) ⟨hx, hb, hml, hown, hts⟩ (kX4_readTree l dC dI cI cB cZ adK adV o0 o1 a1 o2 a2 sl2 sc24 sl4 l2_1 H.size r26 sc27 sc28 sc29 h30) (cwV 2 hts gX4_readTrees_X4_readTree rfl rfl rfl hdX4_readTree ⟨Nat.le_of_ble_eq_true rfl, Nat.le_of_ble_eq_true rfl⟩) hE hK hP hD hS hA [0, 1, 2, 3, 4, 5, 6, 7, 8, 9, 10, 11, 12, 13] [] [0, 1, 2, 3, 4, 5, 6, 7, 8, 9, 10, 11, 12, 13] rfl rfl (by decide) (by decide) (by decide) rfl (by decide) rfl rfl rfl hl.1 rfl (Nat.le_of_ble_eq_true rfl) dX4_readTrees_29 ⟨Nat.zero_le _, Nat.zero_le _⟩ (fun H locs hP hD hS => ?_)
          refine lv_if_ne (tgt := 37) hx hb dX4_readTrees_32 (by decide) (fun c31 => ?_) (fun c31 => ?_)
          · have hf := q_f c31 hf
            refine lv_aload_n hx hb dX4_readTrees_37 rfl (lv_at hl 2 rfl) ?_
            refine lv_iload_n hx hb dX4_readTrees_38 rfl (lv_at hl 0 rfl) ?_
            refine lv_iconst (v := 1) hx hb dX4_readTrees_39 (by decide) ?_
            refine lv_iadd hx hb dX4_readTrees_40 ?_
            obtain ⟨sn32, esn32, hf⟩ := q_lto hf
            refine va_put (D := (dC, dI)) (ci := 3) (v := .int (l2_1 + (1 : Int32))) (ty := .int) (C := RX3) (T := TX3) (N := 14) hx hb hts nX4_readTrees_3 tyX3 tyX3_ok nmX3 hown hK hP hD hS 3 rfl rfl 12 (by decide) (hts _ qX4_readTrees_2) (fun _ h9 => h9) rfl (by decide +kernel) rfl rfl (Nat.le_of_ble_eq_true rfl) dX4_readTrees_41 (fun H locs hP hD hS => ?_)
            have hP : va_P (dC, dI) vwCl ((wcE o0 o1 sc27) ++ (wcT cB o1 a1 sc28) ++ (wcH cI o2 a2 sn32)) H := by rw [esn32]; exact hP
            have hD : va_D A ((wcE o0 o1 sc27) ++ (wcT cB o1 a1 sc28) ++ (wcH cI o2 a2 sn32)) := by rw [esn32]; exact hD
            refine lv_iinc (v := l2_1 + (1 : Int32)) (lv' := [(2, .int (l2_1 + (1 : Int32))), (0, .ref o0), (1, .ref o2)]) hx hb dX4_readTrees_44 hl (k := 0) rfl rfl (by decide) rfl (fun ls hl => ?_)
            refine lv_goto (tgt := 2) hx hb dX4_readTrees_47 (by decide) ?_
            exact ihn5 (l2_1 + (1 : Int32)) sc27 sc28 sn32 hf _ _ hP hD hS _ hl
          · have hf := q_t c31 hf
            refine lv_iconst (v := 0) hx hb dX4_readTrees_35 (by decide) ?_
            obtain ⟨ee0, ee1, ee2, ee3⟩ := q_s4 hf
            subst ee1
            subst ee2
            subst ee3
            exact q_wretZ hx hb hr hlk rfl hAe hK hP hD hS ee0 dX4_readTrees_36
  exact aihn5 5000 (0 : Int32) s0 s1 s2 hf _ _ hP hD hS _ hl
theorem hdX4_readInto : yX4_readInto.cls = RX4 ∧ yX4_readInto.cls ≠ "java/lang/invoke/MethodHandle" ∧ yX4_readInto.cls ≠ "java/lang/invoke/VarHandle" ∧ (parseMethodDescriptor yX4_readInto.desc).map (fun d => d.parameters.length) = some 1 := by decide +kernel
theorem qX4_readInto_1 : (Cond.fieldLink RX4 9 "DeadAsked$HillReader" "tape" "LDeadAsked$Tape;") ∈ wsX4_readInto := List.mem_of_getElem? (i := 1) (by decide +kernel)
theorem nX4_readInto_4 : ∀ w ∈ u_ws RX4 TX4 4, w ∈ wsX4_readInto := fun _ h => (List.mem_cons_of_mem _ (List.mem_append_left _ (List.mem_append_left _ (List.mem_append_right _ h))))
set_option maxHeartbeats 4000000 in
set_option maxRecDepth 100000 in
theorem kX4_readInto (o0 : Nat) (o1 : Nat) (a1 : Nat → Nat) (o2 : Nat) (a2 : Nat → Nat) (s0 : St) (s1 : St) (s2 : St) (sz : Nat) (r : Int32) (z0 : St) (z1 : St) (z2 : St) (hf : fX4_readInto s0 s1 s2 = some (r, z0, z1, z2)) : Met l yX4_readInto wsX4_readInto ({ frames := 8, cells := 0, slots := 0, locals := 207 } : Room) (pcK (dC, dI) (q_ty cI cB cZ) adK adV [.ref o0, .ref o2] ((wcE o0 o1 s0) ++ (wcT cB o1 a1 s1) ++ (wcH cI o2 a2 s2)) sz) (qiW (dC, dI) (q_ty cI cB cZ) ((wcE o0 o1 s0) ++ (wcT cB o1 a1 s1) ++ (wcH cI o2 a2 s2)) ((wcE o0 o1 z0) ++ (wcT cB o1 a1 z1) ++ (wcH cI o2 a2 z2)) sz r) 0 0 (va_A ((wcE o0 o1 s0) ++ (wcT cB o1 a1 s1) ++ (wcH cI o2 a2 s2)) sz) := by
  refine q_rwMk (cc := cX4_readInto) (maxL := 2) (ret := (some .boolean)) (by decide +kernel) rfl (Nat.le_of_ble_eq_true rfl) ?_
  intro p e s m below meth c hx hb hr hlk hml hown hts hK A H hAe hH hsz hP hD hA hS hE ls hl
  have hown : s.vm.findClass RX4 = some m.cls := hown
  have hl : lv_has ls 2 [(0, .ref o0), (1, .ref o2)] := hl
  unfold fX4_readInto at hf
  refine lv_aload_n hx hb dX4_readInto_0 rfl (lv_at hl 1 rfl) ?_
  obtain ⟨sc1, h2, hf⟩ := q_b1o hf
  refine q_rwVv (As := []) (rest := []) (ci := 3) (wr := ((wcE o0 o1 s0) ++ (wcT cB o1 a1 s1))) (w2 := ((wcE o0 o1 s0) ++ (wcT cB o1 a1 s1) ++ (wcH cI o2 a2 sc1))) ⟨hx, hb, hml, hown, hts⟩ (kX3_clear l dC dI cI cB cZ o2 a2 s2 H.size sc1 h2) (cwV 0 hts gX4_readInto_X3_clear rfl rfl rfl hdX3_clear ⟨Nat.le_of_ble_eq_true rfl, Nat.le_of_ble_eq_true rfl⟩) hK hP hD hS hA [3, 4, 5, 6, 7, 8, 9, 10, 11, 12, 13] [0, 1, 2] [0, 1, 2, 3, 4, 5, 6, 7, 8, 9, 10, 11, 12, 13] rfl rfl (by decide) (by decide) (by decide) rfl (by decide) rfl rfl rfl hl.1 rfl (Nat.le_of_ble_eq_true rfl) dX4_readInto_1 ⟨Nat.zero_le _, Nat.zero_le _⟩ (fun H locs hP hD hS => ?_)
  refine lv_aload_n hx hb dX4_readInto_4 rfl (lv_at hl 0 rfl) ?_
  refine va_get (D := (dC, dI)) (ci := 4) (v := .ref o1) (C := RX4) (T := TX4) (N := 4) hx hb hts nX4_readInto_4 hown hK hP 0 rfl rfl 0 (by decide) (hts _ qX4_readInto_1) (fun _ h9 => h9) rfl dX4_readInto_5 ?_
  obtain ⟨sc3, h4, hf⟩ := q_b1o hf
  refine q_rwVv (As := []) (rest := []) (ci := 6) (wr := ((wcE o0 o1 s0) ++ (wcH cI o2 a2 sc1))) (w2 := ((wcE o0 o1 s0) ++ (wcT cB o1 a1 sc3) ++ (wcH cI o2 a2 sc1))) ⟨hx, hb, hml, hown, hts⟩ (kX6_readFirst l dC dI cI cB cZ o1 a1 s1 H.size sc3 h4) (cwV 0 hts gX4_readInto_X6_readFirst rfl rfl rfl hdX6_readFirst ⟨Nat.le_of_ble_eq_true rfl, Nat.le_of_ble_eq_true rfl⟩) hK hP hD hS hA [1, 2] [0, 3, 4, 5, 6, 7, 8, 9, 10, 11, 12, 13] [0, 12, 13, 1, 2, 3, 4, 5, 6, 7, 8, 9, 10, 11] rfl rfl (by decide) (by decide) (by decide) rfl (by decide) rfl rfl rfl hl.1 rfl (Nat.le_of_ble_eq_true rfl) dX4_readInto_8 ⟨Nat.zero_le _, Nat.zero_le _⟩ (fun H locs hP hD hS => ?_)
  refine lv_aload_n hx hb dX4_readInto_11 rfl (lv_at hl 0 rfl) ?_
  refine lv_aload_n hx hb dX4_readInto_12 rfl (lv_at hl 1 rfl) ?_
  obtain ⟨r5, sc6, sc7, sc8, h9, hf⟩ := q_b4o hf
  refine q_rwVik (As := [.ref o2]) (rest := []) (ci := 4) (wr := []) (w2 := ((wcE o0 o1 sc6) ++ (wcT cB o1 a1 sc7) ++ (wcH cI o2 a2 sc8))) ⟨hx, hb, hml, hown, hts⟩ (kX4_readWinds l dC dI cI cB cZ adK adV o0 o1 a1 o2 a2 s0 sc3 sc1 H.size r5 sc6 sc7 sc8 h9) (cwV 1 hts gX4_readInto_X4_readWinds rfl rfl rfl hdX4_readWinds ⟨Nat.le_of_ble_eq_true rfl, Nat.le_of_ble_eq_true rfl⟩) hE hK hP hD hS hA [0, 1, 2, 3, 4, 5, 6, 7, 8, 9, 10, 11, 12, 13] [] [0, 1, 2, 3, 4, 5, 6, 7, 8, 9, 10, 11, 12, 13] rfl rfl (by decide) (by decide) (by decide) rfl (by decide) rfl rfl rfl hl.1 rfl (Nat.le_of_ble_eq_true rfl) dX4_readInto_13 ⟨Nat.zero_le _, Nat.zero_le _⟩ (fun H locs hP hD hS => ?_)
  refine lv_if_eq (tgt := 43) hx hb dX4_readInto_16 (by decide) (fun c10 => ?_) (fun c10 => ?_)
  · have hf := q_t c10 hf
    refine lv_iconst (v := 0) hx hb dX4_readInto_43 (by decide) ?_
    obtain ⟨ee0, ee1, ee2, ee3⟩ := q_s4 hf
    subst ee1
    subst ee2
    subst ee3
    exact q_wretZ hx hb hr hlk rfl hAe hK hP hD hS ee0 dX4_readInto_44
  · have hf := q_f c10 hf
    refine lv_aload_n hx hb dX4_readInto_19 rfl (lv_at hl 0 rfl) ?_
    refine lv_aload_n hx hb dX4_readInto_20 rfl (lv_at hl 1 rfl) ?_
    obtain ⟨r11, sc12, sc13, sc14, h15, hf⟩ := q_b4o hf
    refine q_rwVik (As := [.ref o2]) (rest := []) (ci := 4) (wr := []) (w2 := ((wcE o0 o1 sc12) ++ (wcT cB o1 a1 sc13) ++ (wcH cI o2 a2 sc14))) ⟨hx, hb, hml, hown, hts⟩ (kX4_readGraves l dC dI cI cB cZ adK adV o0 o1 a1 o2 a2 sc6 sc7 sc8 H.size r11 sc12 sc13 sc14 h15) (cwV 1 hts gX4_readInto_X4_readGraves rfl rfl rfl hdX4_readGraves ⟨Nat.le_of_ble_eq_true rfl, Nat.le_of_ble_eq_true rfl⟩) hE hK hP hD hS hA [0, 1, 2, 3, 4, 5, 6, 7, 8, 9, 10, 11, 12, 13] [] [0, 1, 2, 3, 4, 5, 6, 7, 8, 9, 10, 11, 12, 13] rfl rfl (by decide) (by decide) (by decide) rfl (by decide) rfl rfl rfl hl.1 rfl (Nat.le_of_ble_eq_true rfl) dX4_readInto_21 ⟨Nat.zero_le _, Nat.zero_le _⟩ (fun H locs hP hD hS => ?_)
    refine lv_if_eq (tgt := 43) hx hb dX4_readInto_24 (by decide) (fun c16 => ?_) (fun c16 => ?_)
    · have hf := q_t c16 hf
      refine lv_iconst (v := 0) hx hb dX4_readInto_43 (by decide) ?_
      obtain ⟨ee0, ee1, ee2, ee3⟩ := q_s4 hf
      subst ee1
      subst ee2
      subst ee3
      exact q_wretZ hx hb hr hlk rfl hAe hK hP hD hS ee0 dX4_readInto_44
    · have hf := q_f c16 hf
      refine lv_aload_n hx hb dX4_readInto_27 rfl (lv_at hl 0 rfl) ?_
      refine lv_aload_n hx hb dX4_readInto_28 rfl (lv_at hl 1 rfl) ?_
      obtain ⟨r17, sc18, sc19, sc20, h21, hf⟩ := q_b4o hf
      refine q_rwVik (As := [.ref o2]) (rest := []) (ci := 4) (wr := []) (w2 := ((wcE o0 o1 sc18) ++ (wcT cB o1 a1 sc19) ++ (wcH cI o2 a2 sc20))) ⟨hx, hb, hml, hown, hts⟩ (kX4_readHorns l dC dI cI cB cZ adK adV o0 o1 a1 o2 a2 sc12 sc13 sc14 H.size r17 sc18 sc19 sc20 h21) (cwV 1 hts gX4_readInto_X4_readHorns rfl rfl rfl hdX4_readHorns ⟨Nat.le_of_ble_eq_true rfl, Nat.le_of_ble_eq_true rfl⟩) hE hK hP hD hS hA [0, 1, 2, 3, 4, 5, 6, 7, 8, 9, 10, 11, 12, 13] [] [0, 1, 2, 3, 4, 5, 6, 7, 8, 9, 10, 11, 12, 13] rfl rfl (by decide) (by decide) (by decide) rfl (by decide) rfl rfl rfl hl.1 rfl (Nat.le_of_ble_eq_true rfl) dX4_readInto_29 ⟨Nat.zero_le _, Nat.zero_le _⟩ (fun H locs hP hD hS => ?_)
      refine lv_if_eq (tgt := 43) hx hb dX4_readInto_32 (by decide) (fun c22 => ?_) (fun c22 => ?_)
      · have hf := q_t c22 hf
        refine lv_iconst (v := 0) hx hb dX4_readInto_43 (by decide) ?_
        obtain ⟨ee0, ee1, ee2, ee3⟩ := q_s4 hf
        subst ee1
        subst ee2
        subst ee3
        exact q_wretZ hx hb hr hlk rfl hAe hK hP hD hS ee0 dX4_readInto_44
      · have hf := q_f c22 hf
        refine lv_aload_n hx hb dX4_readInto_35 rfl (lv_at hl 0 rfl) ?_
        refine lv_aload_n hx hb dX4_readInto_36 rfl (lv_at hl 1 rfl) ?_
        obtain ⟨r23, sc24, sc25, sc26, h27, hf⟩ := q_b4o hf
        refine q_rwVik (As := [.ref o2]) (rest := []) (ci := 4) (wr := []) (w2 := ((wcE o0 o1 sc24) ++ (wcT cB o1 a1 sc25) ++ (wcH cI o2 a2 sc26))) ⟨hx, hb, hml, hown, hts⟩ (kX4_readTrees l dC dI cI cB cZ adK adV o0 o1 a1 o2 a2 sc18 sc19 sc20 H.size r23 sc24 sc25 sc26 h27) (cwV 1 hts gX4_readInto_X4_readTrees rfl rfl rfl hdX4_readTrees ⟨Nat.le_of_ble_eq_true rfl, Nat.le_of_ble_eq_true rfl⟩) hE hK hP hD hS hA [0, 1, 2, 3, 4, 5, 6, 7, 8, 9, 10, 11, 12, 13] [] [0, 1, 2, 3, 4, 5, 6, 7, 8, 9, 10, 11, 12, 13] rfl rfl (by decide) (by decide) (by decide) rfl (by decide) rfl rfl rfl hl.1 rfl (Nat.le_of_ble_eq_true rfl) dX4_readInto_37 ⟨Nat.zero_le _, Nat.zero_le _⟩ (fun H locs hP hD hS => ?_)
        refine lv_if_ne (tgt := 45) hx hb dX4_readInto_40 (by decide) (fun c28 => ?_) (fun c28 => ?_)
        · have hf := q_f c28 hf
          refine lv_aload_n hx hb dX4_readInto_45 rfl (lv_at hl 0 rfl) ?_
          refine va_get (D := (dC, dI)) (ci := 4) (v := .ref o1) (C := RX4) (T := TX4) (N := 4) hx hb hts nX4_readInto_4 hown hK hP 0 rfl rfl 0 (by decide) (hts _ qX4_readInto_1) (fun _ h9 => h9) rfl dX4_readInto_46 ?_
          refine lv_iconst (v := 0) hx hb dX4_readInto_49 (by decide) ?_
          obtain ⟨r29, h30, hf⟩ := q_b1o hf
          refine q_roVi (As := [.int (0 : Int32)]) (rest := []) (ci := 6) ⟨hx, hb, hml, hown, hts⟩ (kX6_isSort l dC dI cI cB cZ o1 a1 sc25 (0 : Int32) r29 h30) (cwV 1 hts gX4_readInto_X6_isSort rfl rfl rfl hdX6_isSort ⟨Nat.le_of_ble_eq_true rfl, Nat.le_of_ble_eq_true rfl⟩) hK (hP.sub [1, 2] rfl) rfl rfl rfl hl.1 rfl (Nat.le_of_ble_eq_true rfl) dX4_readInto_50 ⟨Nat.zero_le _, Nat.zero_le _⟩ ?_
          refine lv_if_ne (tgt := 64) hx hb dX4_readInto_53 (by decide) (fun c31 => ?_) (fun c31 => ?_)
          · have hf := q_f c31 hf
            refine lv_iconst (v := 1) hx hb dX4_readInto_64 (by decide) ?_
            refine lv_goto (tgt := 69) hx hb dX4_readInto_65 (by decide) ?_
            obtain ⟨ee0, ee1, ee2, ee3⟩ := q_s4 hf
            subst ee1
            subst ee2
            subst ee3
            exact q_wretZ hx hb hr hlk rfl hAe hK hP hD hS ee0 dX4_readInto_69
          · have hf := q_t c31 hf
            refine lv_aload_n hx hb dX4_readInto_56 rfl (lv_at hl 0 rfl) ?_
            refine lv_iconst (v := 1) hx hb dX4_readInto_57 (by decide) ?_
            obtain ⟨r32, sc33, h34, hf⟩ := q_b2o hf
            refine q_rwVi (As := [.int (1 : Int32)]) (rest := []) (ci := 4) (wr := ((wcH cI o2 a2 sc26))) (w2 := ((wcE o0 o1 sc33) ++ (wcT cB o1 a1 sc25) ++ (wcH cI o2 a2 sc26))) ⟨hx, hb, hml, hown, hts⟩ (kX4_refuse l dC dI cI cB cZ o0 o1 a1 sc24 sc25 (1 : Int32) H.size r32 sc33 h34) (cwV 1 hts gX4_readInto_X4_refuse rfl rfl rfl hdX4_refuse ⟨Nat.le_of_ble_eq_true rfl, Nat.le_of_ble_eq_true rfl⟩) hK hP hD hS hA [0, 1, 2] [3, 4, 5, 6, 7, 8, 9, 10, 11, 12, 13] [11, 12, 13, 0, 1, 2, 3, 4, 5, 6, 7, 8, 9, 10] rfl rfl (by decide) (by decide) (by decide) rfl (by decide) rfl rfl rfl hl.1 rfl (Nat.le_of_ble_eq_true rfl) dX4_readInto_58 ⟨Nat.zero_le _, Nat.zero_le _⟩ (fun H locs hP hD hS => ?_)
            refine lv_if_eq (tgt := 68) hx hb dX4_readInto_61 (by decide) (fun c35 => ?_) (fun c35 => ?_)
            · have hf := q_t c35 hf
              refine lv_iconst (v := 0) hx hb dX4_readInto_68 (by decide) ?_
              obtain ⟨ee0, ee1, ee2, ee3⟩ := q_s4 hf
              subst ee1
              subst ee2
              subst ee3
              exact q_wretZ hx hb hr hlk rfl hAe hK hP hD hS ee0 dX4_readInto_69
            · have hf := q_f c35 hf
              refine lv_iconst (v := 1) hx hb dX4_readInto_64 (by decide) ?_
              refine lv_goto (tgt := 69) hx hb dX4_readInto_65 (by decide) ?_
              obtain ⟨ee0, ee1, ee2, ee3⟩ := q_s4 hf
              subst ee1
              subst ee2
              subst ee3
              exact q_wretZ hx hb hr hlk rfl hAe hK hP hD hS ee0 dX4_readInto_69
        · have hf := q_t c28 hf
          refine lv_iconst (v := 0) hx hb dX4_readInto_43 (by decide) ?_
          obtain ⟨ee0, ee1, ee2, ee3⟩ := q_s4 hf
          subst ee1
          subst ee2
          subst ee3
          exact q_wretZ hx hb hr hlk rfl hAe hK hP hD hS ee0 dX4_readInto_44
theorem hdX7_image : yX7_image.cls = RX7 ∧ yX7_image.cls ≠ "java/lang/invoke/MethodHandle" ∧ yX7_image.cls ≠ "java/lang/invoke/VarHandle" ∧ (parseMethodDescriptor yX7_image.desc).map (fun d => d.parameters.length) = some 1 := by decide +kernel
theorem qX7_image_1 : (Cond.constantLong RX7 76 (-9000000000000000001)) ∈ wsX7_image := List.mem_of_getElem? (i := 1) (by decide +kernel)
theorem qX7_image_2 : (Cond.fieldLink RX7 145 "DeadAsked" "hasHill" "Z") ∈ wsX7_image := List.mem_of_getElem? (i := 2) (by decide +kernel)
theorem qX7_image_3 : (Cond.constantLong RX7 155 (-9000000000000000002)) ∈ wsX7_image := List.mem_of_getElem? (i := 3) (by decide +kernel)
theorem qX7_image_4 : (Cond.fieldLink RX7 63 "DeadAsked" "standing" "LDeadAsked$Hill;") ∈ wsX7_image := List.mem_of_getElem? (i := 4) (by decide +kernel)
theorem qX7_image_5 : (Cond.fieldLink RX7 284 "DeadAsked" "imagesKept" "I") ∈ wsX7_image := List.mem_of_getElem? (i := 5) (by decide +kernel)
theorem nX7_image_7 : ∀ w ∈ u_ws RX7 TX7 14, w ∈ wsX7_image := fun _ h => (List.mem_cons_of_mem _ (List.mem_append_left _ (List.mem_append_right _ h)))
set_option maxHeartbeats 4000000 in
set_option maxRecDepth 100000 in
theorem kX7_image (o0 : Nat) (g0 : Nat → Nat) (a1 : Nat → Nat) (a2 : Nat → Nat) (a3 : Nat → Nat) (s0 : St) (s1 : St) (s2 : St) (s3 : St) (p1 : Int32) (sz : Nat) (r : Int64) (z0 : St) (z2 : St) (z3 : St) (hf : fX7_image s0 s1 s2 s3 p1 = some (r, z0, z2, z3)) : Met l yX7_image wsX7_image ({ frames := 2, cells := 0, slots := 0, locals := 61 } : Room) (pcW (dC, dI) (q_ty cI cB cZ) [.ref o0, .int p1] ((wcX o0 g0 s0) ++ (wcH cI (g0 8) a1 s1) ++ (wcH cI (g0 6) a2 s2) ++ (wcH cI (g0 7) a3 s3)) sz) (qlW (dC, dI) (q_ty cI cB cZ) ((wcX o0 g0 s0) ++ (wcH cI (g0 8) a1 s1) ++ (wcH cI (g0 6) a2 s2) ++ (wcH cI (g0 7) a3 s3)) ((wcX o0 g0 z0) ++ (wcH cI (g0 8) a1 s1) ++ (wcH cI (g0 6) a2 z2) ++ (wcH cI (g0 7) a3 z3)) sz r) 0 0 (va_A ((wcX o0 g0 s0) ++ (wcH cI (g0 8) a1 s1) ++ (wcH cI (g0 6) a2 s2) ++ (wcH cI (g0 7) a3 s3)) sz) := by
  refine q_rwM (cc := cX7_image) (maxL := 2) (ret := (some .long)) (by decide +kernel) rfl (Nat.le_of_ble_eq_true rfl) ?_
  intro p e s m below meth c hx hb hr hlk hml hown hts hK A H hAe hH hsz hP hD hA hS ls hl
  have hown : s.vm.findClass RX7 = some m.cls := hown
  have hl : lv_has ls 2 [(0, .ref o0), (1, .int p1)] := hl
  unfold fX7_image at hf
  refine lv_iload_n hx hb dX7_image_0 rfl (lv_at hl 1 rfl) ?_
  obtain ⟨r1, h2, hf⟩ := q_b1o hf
  refine q_roSi (As := [.int p1]) (rest := []) ⟨hx, hb, hml, hown, hts⟩ (kX7_isImage l p1 r1 h2) (va_cwS 1 hts gX7_image_X7_isImage rfl rfl rfl hdX7_isImage ⟨Nat.le_of_ble_eq_true rfl, Nat.le_of_ble_eq_true rfl⟩) rfl hl.1 rfl (Nat.le_of_ble_eq_true rfl) dX7_image_1 ⟨Nat.zero_le _, Nat.zero_le _⟩ ?_
  refine lv_if_ne (tgt := 11) hx hb dX7_image_4 (by decide) (fun c3 => ?_) (fun c3 => ?_)
  · have hf := q_f c3 hf
    refine lv_aload_n hx hb dX7_image_11 rfl (lv_at hl 0 rfl) ?_
    refine va_get (D := (dC, dI)) (ci := 7) (v := .int (s0 10 0)) (C := RX7) (T := TX7) (N := 14) hx hb hts nX7_image_7 hown hK hP 0 rfl rfl 10 (by decide) (hts _ qX7_image_2) (fun _ h9 => h9) rfl dX7_image_12 ?_
    refine lv_if_ne (tgt := 22) hx hb dX7_image_15 (by decide) (fun c4 => ?_) (fun c4 => ?_)
    · have hf := q_f c4 hf
      refine lv_aload_n hx hb dX7_image_22 rfl (lv_at hl 0 rfl) ?_
      refine lv_iload_n hx hb dX7_image_23 rfl (lv_at hl 1 rfl) ?_
      by_cases c5 : p1 = 0
      · have hf := q_t c5 hf
        refine q_roVr (As := [.int p1]) (rest := []) (ci := 7) ⟨hx, hb, hml, hown, hts⟩ (kX7_imageOf l dC dI cI cB cZ o0 g0 s0 p1 (g0 6) (by rw [if_pos c5])) (cwV 1 hts gX7_image_X7_imageOf rfl rfl rfl hdX7_imageOf ⟨Nat.le_of_ble_eq_true rfl, Nat.le_of_ble_eq_true rfl⟩) hK (hP.sub [0] rfl) rfl rfl rfl hl.1 rfl (Nat.le_of_ble_eq_true rfl) dX7_image_24 ⟨Nat.zero_le _, Nat.zero_le _⟩ ?_
        refine lv_aload_n hx hb dX7_image_27 rfl (lv_at hl 0 rfl) ?_
        refine va_get (D := (dC, dI)) (ci := 7) (v := .ref (g0 8)) (C := RX7) (T := TX7) (N := 14) hx hb hts nX7_image_7 hown hK hP 0 rfl rfl 8 (by decide) (hts _ qX7_image_4) (fun _ h9 => h9) rfl dX7_image_28 ?_
        obtain ⟨sc6, h7, hf⟩ := q_b1o hf
        refine q_rwVv (As := [.ref (g0 8)]) (rest := []) (ci := 3) (wr := ((wcX o0 g0 s0) ++ (wcH cI (g0 7) a3 s3))) (w2 := ((wcX o0 g0 s0) ++ (wcH cI (g0 8) a1 s1) ++ (wcH cI (g0 6) a2 sc6) ++ (wcH cI (g0 7) a3 s3))) ⟨hx, hb, hml, hown, hts⟩ (kX3_become l dC dI cI cB cZ (g0 6) a2 (g0 8) a1 s2 s1 H.size sc6 h7) (cwV 1 hts gX7_image_X3_become rfl rfl rfl hdX3_become ⟨Nat.le_of_ble_eq_true rfl, Nat.le_of_ble_eq_true rfl⟩) hK hP hD hS hA [12, 13, 14, 15, 16, 17, 18, 19, 20, 21, 22, 1, 2, 3, 4, 5, 6, 7, 8, 9, 10, 11] [0, 23, 24, 25, 26, 27, 28, 29, 30, 31, 32, 33] [0, 23, 24, 25, 26, 27, 28, 29, 30, 31, 32, 33, 12, 13, 14, 15, 16, 17, 18, 19, 20, 21, 22, 1, 2, 3, 4, 5, 6, 7, 8, 9, 10, 11] rfl rfl (by decide) (by decide) (by decide) rfl (by decide) rfl rfl rfl hl.1 rfl (Nat.le_of_ble_eq_true rfl) dX7_image_31 ⟨Nat.zero_le _, Nat.zero_le _⟩ (fun H locs hP hD hS => ?_)
        refine lv_aload_n hx hb dX7_image_34 rfl (lv_at hl 0 rfl) ?_
        refine lv_dup hx hb dX7_image_35 rfl ?_
        refine va_get (D := (dC, dI)) (ci := 7) (v := .int (s0 11 0)) (C := RX7) (T := TX7) (N := 14) hx hb hts nX7_image_7 hown hK hP 0 rfl rfl 11 (by decide) (hts _ qX7_image_5) (fun _ h9 => h9) rfl dX7_image_36 ?_
        refine lv_iconst (v := 1) hx hb dX7_image_39 (by decide) ?_
        refine lv_iload_n hx hb dX7_image_40 rfl (lv_at hl 1 rfl) ?_
        refine lv_ishl hx hb dX7_image_41 ?_
        refine lv_ior hx hb dX7_image_42 ?_
        obtain ⟨sn8, esn8, hf⟩ := q_lto hf
        refine va_put (D := (dC, dI)) (ci := 7) (v := .int ((s0 11 0) ||| ((1 : Int32) <<< (p1 &&& 31)))) (ty := .int) (C := RX7) (T := TX7) (N := 14) hx hb hts nX7_image_7 tyX7 tyX7_ok nmX7 hown hK hP hD hS 0 rfl rfl 11 (by decide) (hts _ qX7_image_5) (fun _ h9 => h9) rfl (by decide +kernel) rfl rfl (Nat.le_of_ble_eq_true rfl) dX7_image_43 (fun H locs hP hD hS => ?_)
        have hP : va_P (dC, dI) vwCl ((wcX o0 g0 sn8) ++ (wcH cI (g0 8) a1 s1) ++ (wcH cI (g0 6) a2 sc6) ++ (wcH cI (g0 7) a3 s3)) H := by rw [esn8]; exact hP
        have hD : va_D A ((wcX o0 g0 sn8) ++ (wcH cI (g0 8) a1 s1) ++ (wcH cI (g0 6) a2 sc6) ++ (wcH cI (g0 7) a3 s3)) := by rw [esn8]; exact hD
        refine lv_lconst (v := 1) hx hb dX7_image_46 (by decide) ?_
        obtain ⟨ee0, ee1, ee2, ee3⟩ := q_s4 hf
        subst ee1
        subst ee2
        subst ee3
        exact q_wretL hx hb hr hlk hAe hK hP hD hS ee0 dX7_image_47
      · have hf := q_f c5 hf
        refine q_roVr (As := [.int p1]) (rest := []) (ci := 7) ⟨hx, hb, hml, hown, hts⟩ (kX7_imageOf l dC dI cI cB cZ o0 g0 s0 p1 (g0 7) (by rw [if_neg c5])) (cwV 1 hts gX7_image_X7_imageOf rfl rfl rfl hdX7_imageOf ⟨Nat.le_of_ble_eq_true rfl, Nat.le_of_ble_eq_true rfl⟩) hK (hP.sub [0] rfl) rfl rfl rfl hl.1 rfl (Nat.le_of_ble_eq_true rfl) dX7_image_24 ⟨Nat.zero_le _, Nat.zero_le _⟩ ?_
        refine lv_aload_n hx hb dX7_image_27 rfl (lv_at hl 0 rfl) ?_
        refine va_get (D := (dC, dI)) (ci := 7) (v := .ref (g0 8)) (C := RX7) (T := TX7) (N := 14) hx hb hts nX7_image_7 hown hK hP 0 rfl rfl 8 (by decide) (hts _ qX7_image_4) (fun _ h9 => h9) rfl dX7_image_28 ?_
        obtain ⟨sc9, h10, hf⟩ := q_b1o hf
        refine q_rwVv (As := [.ref (g0 8)]) (rest := []) (ci := 3) (wr := ((wcX o0 g0 s0) ++ (wcH cI (g0 6) a2 s2))) (w2 := ((wcX o0 g0 s0) ++ (wcH cI (g0 8) a1 s1) ++ (wcH cI (g0 6) a2 s2) ++ (wcH cI (g0 7) a3 sc9))) ⟨hx, hb, hml, hown, hts⟩ (kX3_become l dC dI cI cB cZ (g0 7) a3 (g0 8) a1 s3 s1 H.size sc9 h10) (cwV 1 hts gX7_image_X3_become rfl rfl rfl hdX3_become ⟨Nat.le_of_ble_eq_true rfl, Nat.le_of_ble_eq_true rfl⟩) hK hP hD hS hA [23, 24, 25, 26, 27, 28, 29, 30, 31, 32, 33, 1, 2, 3, 4, 5, 6, 7, 8, 9, 10, 11] [0, 12, 13, 14, 15, 16, 17, 18, 19, 20, 21, 22] [0, 23, 24, 25, 26, 27, 28, 29, 30, 31, 32, 33, 1, 2, 3, 4, 5, 6, 7, 8, 9, 10, 11, 12, 13, 14, 15, 16, 17, 18, 19, 20, 21, 22] rfl rfl (by decide) (by decide) (by decide) rfl (by decide) rfl rfl rfl hl.1 rfl (Nat.le_of_ble_eq_true rfl) dX7_image_31 ⟨Nat.zero_le _, Nat.zero_le _⟩ (fun H locs hP hD hS => ?_)
        refine lv_aload_n hx hb dX7_image_34 rfl (lv_at hl 0 rfl) ?_
        refine lv_dup hx hb dX7_image_35 rfl ?_
        refine va_get (D := (dC, dI)) (ci := 7) (v := .int (s0 11 0)) (C := RX7) (T := TX7) (N := 14) hx hb hts nX7_image_7 hown hK hP 0 rfl rfl 11 (by decide) (hts _ qX7_image_5) (fun _ h9 => h9) rfl dX7_image_36 ?_
        refine lv_iconst (v := 1) hx hb dX7_image_39 (by decide) ?_
        refine lv_iload_n hx hb dX7_image_40 rfl (lv_at hl 1 rfl) ?_
        refine lv_ishl hx hb dX7_image_41 ?_
        refine lv_ior hx hb dX7_image_42 ?_
        obtain ⟨sn11, esn11, hf⟩ := q_lto hf
        refine va_put (D := (dC, dI)) (ci := 7) (v := .int ((s0 11 0) ||| ((1 : Int32) <<< (p1 &&& 31)))) (ty := .int) (C := RX7) (T := TX7) (N := 14) hx hb hts nX7_image_7 tyX7 tyX7_ok nmX7 hown hK hP hD hS 0 rfl rfl 11 (by decide) (hts _ qX7_image_5) (fun _ h9 => h9) rfl (by decide +kernel) rfl rfl (Nat.le_of_ble_eq_true rfl) dX7_image_43 (fun H locs hP hD hS => ?_)
        have hP : va_P (dC, dI) vwCl ((wcX o0 g0 sn11) ++ (wcH cI (g0 8) a1 s1) ++ (wcH cI (g0 6) a2 s2) ++ (wcH cI (g0 7) a3 sc9)) H := by rw [esn11]; exact hP
        have hD : va_D A ((wcX o0 g0 sn11) ++ (wcH cI (g0 8) a1 s1) ++ (wcH cI (g0 6) a2 s2) ++ (wcH cI (g0 7) a3 sc9)) := by rw [esn11]; exact hD
        refine lv_lconst (v := 1) hx hb dX7_image_46 (by decide) ?_
        obtain ⟨ee0, ee1, ee2, ee3⟩ := q_s4 hf
        subst ee1
        subst ee2
        subst ee3
        exact q_wretL hx hb hr hlk hAe hK hP hD hS ee0 dX7_image_47
    · have hf := q_t c4 hf
      refine lv_ldc2 (v := -9000000000000000002) hx hb hown (hts _ qX7_image_3) dX7_image_18 ?_
      obtain ⟨ee0, ee1, ee2, ee3⟩ := q_s4 hf
      subst ee1
      subst ee2
      subst ee3
      exact q_wretL hx hb hr hlk hAe hK hP hD hS ee0 dX7_image_21
  · have hf := q_t c3 hf
    refine lv_ldc2 (v := -9000000000000000001) hx hb hown (hts _ qX7_image_1) dX7_image_7 ?_
    obtain ⟨ee0, ee1, ee2, ee3⟩ := q_s4 hf
    subst ee1
    subst ee2
    subst ee3
    exact q_wretL hx hb hr hlk hAe hK hP hD hS ee0 dX7_image_10
theorem hdX7_restore : yX7_restore.cls = RX7 ∧ yX7_restore.cls ≠ "java/lang/invoke/MethodHandle" ∧ yX7_restore.cls ≠ "java/lang/invoke/VarHandle" ∧ (parseMethodDescriptor yX7_restore.desc).map (fun d => d.parameters.length) = some 1 := by decide +kernel
theorem qX7_restore_1 : (Cond.constantLong RX7 76 (-9000000000000000001)) ∈ wsX7_restore := List.mem_of_getElem? (i := 1) (by decide +kernel)
theorem qX7_restore_2 : (Cond.fieldLink RX7 284 "DeadAsked" "imagesKept" "I") ∈ wsX7_restore := List.mem_of_getElem? (i := 2) (by decide +kernel)
theorem qX7_restore_3 : (Cond.constantLong RX7 155 (-9000000000000000002)) ∈ wsX7_restore := List.mem_of_getElem? (i := 3) (by decide +kernel)
theorem qX7_restore_4 : (Cond.fieldLink RX7 63 "DeadAsked" "standing" "LDeadAsked$Hill;") ∈ wsX7_restore := List.mem_of_getElem? (i := 4) (by decide +kernel)
theorem qX7_restore_5 : (Cond.fieldLink RX7 35 "DeadAsked" "acts" "LDeadAsked$Acts;") ∈ wsX7_restore := List.mem_of_getElem? (i := 5) (by decide +kernel)
theorem nX7_restore_7 : ∀ w ∈ u_ws RX7 TX7 14, w ∈ wsX7_restore := fun _ h => (List.mem_cons_of_mem _ (List.mem_append_left _ (List.mem_append_left _ (List.mem_append_right _ h))))
set_option maxHeartbeats 4000000 in
set_option maxRecDepth 100000 in
theorem kX7_restore (o0 : Nat) (g0 : Nat → Nat) (a1 : Nat → Nat) (a2 : Nat → Nat) (a3 : Nat → Nat) (a4 : Nat → Nat) (s0 : St) (s1 : St) (s2 : St) (s3 : St) (s4 : St) (p1 : Int32) (sz : Nat) (r : Int64) (z1 : St) (z4 : St) (hf : fX7_restore s0 s1 s2 s3 s4 p1 = some (r, z1, z4)) : Met l yX7_restore wsX7_restore ({ frames := 2, cells := 0, slots := 0, locals := 61 } : Room) (pcW (dC, dI) (q_ty cI cB cZ) [.ref o0, .int p1] ((wcX o0 g0 s0) ++ (wcH cI (g0 8) a1 s1) ++ (wcH cI (g0 6) a2 s2) ++ (wcH cI (g0 7) a3 s3) ++ (wcA cI (g0 3) a4 s4)) sz) (qlW (dC, dI) (q_ty cI cB cZ) ((wcX o0 g0 s0) ++ (wcH cI (g0 8) a1 s1) ++ (wcH cI (g0 6) a2 s2) ++ (wcH cI (g0 7) a3 s3) ++ (wcA cI (g0 3) a4 s4)) ((wcX o0 g0 s0) ++ (wcH cI (g0 8) a1 z1) ++ (wcH cI (g0 6) a2 s2) ++ (wcH cI (g0 7) a3 s3) ++ (wcA cI (g0 3) a4 z4)) sz r) 0 0 (va_A ((wcX o0 g0 s0) ++ (wcH cI (g0 8) a1 s1) ++ (wcH cI (g0 6) a2 s2) ++ (wcH cI (g0 7) a3 s3) ++ (wcA cI (g0 3) a4 s4)) sz) := by
  refine q_rwM (cc := cX7_restore) (maxL := 2) (ret := (some .long)) (by decide +kernel) rfl (Nat.le_of_ble_eq_true rfl) ?_
  intro p e s m below meth c hx hb hr hlk hml hown hts hK A H hAe hH hsz hP hD hA hS ls hl
  have hown : s.vm.findClass RX7 = some m.cls := hown
  have hl : lv_has ls 2 [(0, .ref o0), (1, .int p1)] := hl
  unfold fX7_restore at hf
  refine lv_iload_n hx hb dX7_restore_0 rfl (lv_at hl 1 rfl) ?_
  obtain ⟨r1, h2, hf⟩ := q_b1o hf
  refine q_roSi (As := [.int p1]) (rest := []) ⟨hx, hb, hml, hown, hts⟩ (kX7_isImage l p1 r1 h2) (va_cwS 1 hts gX7_restore_X7_isImage rfl rfl rfl hdX7_isImage ⟨Nat.le_of_ble_eq_true rfl, Nat.le_of_ble_eq_true rfl⟩) rfl hl.1 rfl (Nat.le_of_ble_eq_true rfl) dX7_restore_1 ⟨Nat.zero_le _, Nat.zero_le _⟩ ?_
  refine lv_if_ne (tgt := 11) hx hb dX7_restore_4 (by decide) (fun c3 => ?_) (fun c3 => ?_)
  · have hf := q_f c3 hf
    refine lv_aload_n hx hb dX7_restore_11 rfl (lv_at hl 0 rfl) ?_
    refine va_get (D := (dC, dI)) (ci := 7) (v := .int (s0 11 0)) (C := RX7) (T := TX7) (N := 14) hx hb hts nX7_restore_7 hown hK hP 0 rfl rfl 11 (by decide) (hts _ qX7_restore_2) (fun _ h9 => h9) rfl dX7_restore_12 ?_
    refine lv_iload_n hx hb dX7_restore_15 rfl (lv_at hl 1 rfl) ?_
    refine lv_ishr hx hb dX7_restore_16 ?_
    refine lv_iconst (v := 1) hx hb dX7_restore_17 (by decide) ?_
    refine lv_iand hx hb dX7_restore_18 ?_
    refine lv_if_ne (tgt := 26) hx hb dX7_restore_19 (by decide) (fun c4 => ?_) (fun c4 => ?_)
    · have hf := q_f c4 hf
      refine lv_aload_n hx hb dX7_restore_26 rfl (lv_at hl 0 rfl) ?_
      refine va_get (D := (dC, dI)) (ci := 7) (v := .ref (g0 8)) (C := RX7) (T := TX7) (N := 14) hx hb hts nX7_restore_7 hown hK hP 0 rfl rfl 8 (by decide) (hts _ qX7_restore_4) (fun _ h9 => h9) rfl dX7_restore_27 ?_
      refine lv_aload_n hx hb dX7_restore_30 rfl (lv_at hl 0 rfl) ?_
      refine lv_iload_n hx hb dX7_restore_31 rfl (lv_at hl 1 rfl) ?_
      by_cases c5 : p1 = 0
      · have hf := q_t c5 hf
        refine q_roVr (As := [.int p1]) (rest := [.ref (g0 8)]) (ci := 7) ⟨hx, hb, hml, hown, hts⟩ (kX7_imageOf l dC dI cI cB cZ o0 g0 s0 p1 (g0 6) (by rw [if_pos c5])) (cwV 1 hts gX7_restore_X7_imageOf rfl rfl rfl hdX7_imageOf ⟨Nat.le_of_ble_eq_true rfl, Nat.le_of_ble_eq_true rfl⟩) hK (hP.sub [0] rfl) rfl rfl rfl hl.1 rfl (Nat.le_of_ble_eq_true rfl) dX7_restore_32 ⟨Nat.zero_le _, Nat.zero_le _⟩ ?_
        obtain ⟨sc6, h7, hf⟩ := q_b1o hf
        refine q_rwVv (As := [.ref (g0 6)]) (rest := []) (ci := 3) (wr := ((wcX o0 g0 s0) ++ (wcH cI (g0 7) a3 s3) ++ (wcA cI (g0 3) a4 s4))) (w2 := ((wcX o0 g0 s0) ++ (wcH cI (g0 8) a1 sc6) ++ (wcH cI (g0 6) a2 s2) ++ (wcH cI (g0 7) a3 s3) ++ (wcA cI (g0 3) a4 s4))) ⟨hx, hb, hml, hown, hts⟩ (kX3_become l dC dI cI cB cZ (g0 8) a1 (g0 6) a2 s1 s2 H.size sc6 h7) (cwV 1 hts gX7_restore_X3_become rfl rfl rfl hdX3_become ⟨Nat.le_of_ble_eq_true rfl, Nat.le_of_ble_eq_true rfl⟩) hK hP hD hS hA [1, 2, 3, 4, 5, 6, 7, 8, 9, 10, 11, 12, 13, 14, 15, 16, 17, 18, 19, 20, 21, 22] [0, 23, 24, 25, 26, 27, 28, 29, 30, 31, 32, 33, 34, 35, 36, 37] [0, 16, 17, 18, 19, 20, 21, 22, 23, 24, 25, 26, 27, 28, 29, 30, 31, 32, 33, 34, 35, 36, 37, 1, 2, 3, 4, 5, 6, 7, 8, 9, 10, 11, 12, 13, 14, 15] rfl rfl (by decide) (by decide) (by decide) rfl (by decide) rfl rfl rfl hl.1 rfl (Nat.le_of_ble_eq_true rfl) dX7_restore_35 ⟨Nat.zero_le _, Nat.zero_le _⟩ (fun H locs hP hD hS => ?_)
        refine lv_aload_n hx hb dX7_restore_38 rfl (lv_at hl 0 rfl) ?_
        refine va_get (D := (dC, dI)) (ci := 7) (v := .ref (g0 3)) (C := RX7) (T := TX7) (N := 14) hx hb hts nX7_restore_7 hown hK hP 0 rfl rfl 3 (by decide) (hts _ qX7_restore_5) (fun _ h9 => h9) rfl dX7_restore_39 ?_
        obtain ⟨sc8, h9, hf⟩ := q_b1o hf
        refine q_rwVv (As := []) (rest := []) (ci := 0) (wr := ((wcX o0 g0 s0) ++ (wcH cI (g0 8) a1 sc6) ++ (wcH cI (g0 6) a2 s2) ++ (wcH cI (g0 7) a3 s3))) (w2 := ((wcX o0 g0 s0) ++ (wcH cI (g0 8) a1 sc6) ++ (wcH cI (g0 6) a2 s2) ++ (wcH cI (g0 7) a3 s3) ++ (wcA cI (g0 3) a4 sc8))) ⟨hx, hb, hml, hown, hts⟩ (kX0_forgetAll l dC dI cI cB cZ (g0 3) a4 s4 H.size sc8 h9) (cwV 0 hts gX7_restore_X0_forgetAll rfl rfl rfl hdX0_forgetAll ⟨Nat.le_of_ble_eq_true rfl, Nat.le_of_ble_eq_true rfl⟩) hK hP hD hS hA [34, 35, 36, 37] [0, 1, 2, 3, 4, 5, 6, 7, 8, 9, 10, 11, 12, 13, 14, 15, 16, 17, 18, 19, 20, 21, 22, 23, 24, 25, 26, 27, 28, 29, 30, 31, 32, 33] [0, 1, 2, 3, 4, 5, 6, 7, 8, 9, 10, 11, 12, 13, 14, 15, 16, 17, 18, 19, 20, 21, 22, 23, 24, 25, 26, 27, 28, 29, 30, 31, 32, 33, 34, 35, 36, 37] rfl rfl (by decide) (by decide) (by decide) rfl (by decide) rfl rfl rfl hl.1 rfl (Nat.le_of_ble_eq_true rfl) dX7_restore_42 ⟨Nat.zero_le _, Nat.zero_le _⟩ (fun H locs hP hD hS => ?_)
        refine lv_lconst (v := 1) hx hb dX7_restore_45 (by decide) ?_
        obtain ⟨ee0, ee1, ee2⟩ := q_s3 hf
        subst ee1
        subst ee2
        exact q_wretL hx hb hr hlk hAe hK hP hD hS ee0 dX7_restore_46
      · have hf := q_f c5 hf
        refine q_roVr (As := [.int p1]) (rest := [.ref (g0 8)]) (ci := 7) ⟨hx, hb, hml, hown, hts⟩ (kX7_imageOf l dC dI cI cB cZ o0 g0 s0 p1 (g0 7) (by rw [if_neg c5])) (cwV 1 hts gX7_restore_X7_imageOf rfl rfl rfl hdX7_imageOf ⟨Nat.le_of_ble_eq_true rfl, Nat.le_of_ble_eq_true rfl⟩) hK (hP.sub [0] rfl) rfl rfl rfl hl.1 rfl (Nat.le_of_ble_eq_true rfl) dX7_restore_32 ⟨Nat.zero_le _, Nat.zero_le _⟩ ?_
        obtain ⟨sc10, h11, hf⟩ := q_b1o hf
        refine q_rwVv (As := [.ref (g0 7)]) (rest := []) (ci := 3) (wr := ((wcX o0 g0 s0) ++ (wcH cI (g0 6) a2 s2) ++ (wcA cI (g0 3) a4 s4))) (w2 := ((wcX o0 g0 s0) ++ (wcH cI (g0 8) a1 sc10) ++ (wcH cI (g0 6) a2 s2) ++ (wcH cI (g0 7) a3 s3) ++ (wcA cI (g0 3) a4 s4))) ⟨hx, hb, hml, hown, hts⟩ (kX3_become l dC dI cI cB cZ (g0 8) a1 (g0 7) a3 s1 s3 H.size sc10 h11) (cwV 1 hts gX7_restore_X3_become rfl rfl rfl hdX3_become ⟨Nat.le_of_ble_eq_true rfl, Nat.le_of_ble_eq_true rfl⟩) hK hP hD hS hA [1, 2, 3, 4, 5, 6, 7, 8, 9, 10, 11, 23, 24, 25, 26, 27, 28, 29, 30, 31, 32, 33] [0, 12, 13, 14, 15, 16, 17, 18, 19, 20, 21, 22, 34, 35, 36, 37] [0, 16, 17, 18, 19, 20, 21, 22, 23, 24, 25, 26, 1, 2, 3, 4, 5, 6, 7, 8, 9, 10, 11, 27, 28, 29, 30, 31, 32, 33, 34, 35, 36, 37, 12, 13, 14, 15] rfl rfl (by decide) (by decide) (by decide) rfl (by decide) rfl rfl rfl hl.1 rfl (Nat.le_of_ble_eq_true rfl) dX7_restore_35 ⟨Nat.zero_le _, Nat.zero_le _⟩ (fun H locs hP hD hS => ?_)
        refine lv_aload_n hx hb dX7_restore_38 rfl (lv_at hl 0 rfl) ?_
        refine va_get (D := (dC, dI)) (ci := 7) (v := .ref (g0 3)) (C := RX7) (T := TX7) (N := 14) hx hb hts nX7_restore_7 hown hK hP 0 rfl rfl 3 (by decide) (hts _ qX7_restore_5) (fun _ h9 => h9) rfl dX7_restore_39 ?_
        obtain ⟨sc12, h13, hf⟩ := q_b1o hf
        refine q_rwVv (As := []) (rest := []) (ci := 0) (wr := ((wcX o0 g0 s0) ++ (wcH cI (g0 8) a1 sc10) ++ (wcH cI (g0 6) a2 s2) ++ (wcH cI (g0 7) a3 s3))) (w2 := ((wcX o0 g0 s0) ++ (wcH cI (g0 8) a1 sc10) ++ (wcH cI (g0 6) a2 s2) ++ (wcH cI (g0 7) a3 s3) ++ (wcA cI (g0 3) a4 sc12))) ⟨hx, hb, hml, hown, hts⟩ (kX0_forgetAll l dC dI cI cB cZ (g0 3) a4 s4 H.size sc12 h13) (cwV 0 hts gX7_restore_X0_forgetAll rfl rfl rfl hdX0_forgetAll ⟨Nat.le_of_ble_eq_true rfl, Nat.le_of_ble_eq_true rfl⟩) hK hP hD hS hA [34, 35, 36, 37] [0, 1, 2, 3, 4, 5, 6, 7, 8, 9, 10, 11, 12, 13, 14, 15, 16, 17, 18, 19, 20, 21, 22, 23, 24, 25, 26, 27, 28, 29, 30, 31, 32, 33] [0, 1, 2, 3, 4, 5, 6, 7, 8, 9, 10, 11, 12, 13, 14, 15, 16, 17, 18, 19, 20, 21, 22, 23, 24, 25, 26, 27, 28, 29, 30, 31, 32, 33, 34, 35, 36, 37] rfl rfl (by decide) (by decide) (by decide) rfl (by decide) rfl rfl rfl hl.1 rfl (Nat.le_of_ble_eq_true rfl) dX7_restore_42 ⟨Nat.zero_le _, Nat.zero_le _⟩ (fun H locs hP hD hS => ?_)
        refine lv_lconst (v := 1) hx hb dX7_restore_45 (by decide) ?_
        obtain ⟨ee0, ee1, ee2⟩ := q_s3 hf
        subst ee1
        subst ee2
        exact q_wretL hx hb hr hlk hAe hK hP hD hS ee0 dX7_restore_46
    · have hf := q_t c4 hf
      refine lv_ldc2 (v := -9000000000000000002) hx hb hown (hts _ qX7_restore_3) dX7_restore_22 ?_
      obtain ⟨ee0, ee1, ee2⟩ := q_s3 hf
      subst ee1
      subst ee2
      exact q_wretL hx hb hr hlk hAe hK hP hD hS ee0 dX7_restore_25
  · have hf := q_t c3 hf
    refine lv_ldc2 (v := -9000000000000000001) hx hb hown (hts _ qX7_restore_1) dX7_restore_7 ?_
    obtain ⟨ee0, ee1, ee2⟩ := q_s3 hf
    subst ee1
    subst ee2
    exact q_wretL hx hb hr hlk hAe hK hP hD hS ee0 dX7_restore_10
theorem hdX7_hill : yX7_hill.cls = RX7 ∧ yX7_hill.cls ≠ "java/lang/invoke/MethodHandle" ∧ yX7_hill.cls ≠ "java/lang/invoke/VarHandle" ∧ (parseMethodDescriptor yX7_hill.desc).map (fun d => d.parameters.length) = some 0 := by decide +kernel
theorem qX7_hill_1 : (Cond.fieldLink RX7 28 "DeadAsked" "reader" "LDeadAsked$HillReader;") ∈ wsX7_hill := List.mem_of_getElem? (i := 1) (by decide +kernel)
theorem qX7_hill_2 : (Cond.fieldLink RX7 66 "DeadAsked" "spare" "LDeadAsked$Hill;") ∈ wsX7_hill := List.mem_of_getElem? (i := 2) (by decide +kernel)
theorem qX7_hill_3 : (Cond.fieldLink RX7 19 "DeadAsked" "tape" "LDeadAsked$Tape;") ∈ wsX7_hill := List.mem_of_getElem? (i := 3) (by decide +kernel)
theorem qX7_hill_4 : (Cond.fieldLink RX7 136 "DeadAsked" "latestFault" "I") ∈ wsX7_hill := List.mem_of_getElem? (i := 4) (by decide +kernel)
theorem qX7_hill_5 : (Cond.constantLong RX7 140 (-9000000000000000100)) ∈ wsX7_hill := List.mem_of_getElem? (i := 5) (by decide +kernel)
theorem qX7_hill_6 : (Cond.fieldLink RX7 63 "DeadAsked" "standing" "LDeadAsked$Hill;") ∈ wsX7_hill := List.mem_of_getElem? (i := 6) (by decide +kernel)
theorem qX7_hill_7 : (Cond.fieldLink RX7 145 "DeadAsked" "hasHill" "Z") ∈ wsX7_hill := List.mem_of_getElem? (i := 7) (by decide +kernel)
theorem qX7_hill_8 : (Cond.fieldLink RX7 35 "DeadAsked" "acts" "LDeadAsked$Acts;") ∈ wsX7_hill := List.mem_of_getElem? (i := 8) (by decide +kernel)
theorem qX7_hill_9 : (Cond.fieldLink RX7 152 "DeadAsked$Hill" "graves" "I") ∈ wsX7_hill := List.mem_of_getElem? (i := 9) (by decide +kernel)
theorem nX7_hill_3 : ∀ w ∈ u_ws RX3 TX3 14, w ∈ wsX7_hill := fun _ h => (List.mem_cons_of_mem _ (List.mem_append_left _ (List.mem_append_left _ (List.mem_append_left _ (List.mem_append_right _ h)))))
theorem nX7_hill_7 : ∀ w ∈ u_ws RX7 TX7 14, w ∈ wsX7_hill := fun _ h => (List.mem_cons_of_mem _ (List.mem_append_left _ (List.mem_append_left _ (List.mem_append_left _ (List.mem_append_left _ (List.mem_append_right _ h))))))
set_option maxHeartbeats 4000000 in
set_option maxRecDepth 100000 in
theorem kX7_hill (o0 : Nat) (g0 : Nat → Nat) (a2 : Nat → Nat) (a3 : Nat → Nat) (a4 : Nat → Nat) (a5 : Nat → Nat) (s0 : St) (s1 : St) (s2 : St) (s3 : St) (s4 : St) (s5 : St) (sz : Nat) (r : Int64) (h0 : (Nat → Nat)) (z0 : St) (z1 : St) (z2 : St) (z4 : St) (z5 : St) (hf : fX7_hill g0 s0 s1 s2 s4 s5 = some (r, h0, z0, z1, z2, z4, z5)) : Met l yX7_hill wsX7_hill ({ frames := 9, cells := 0, slots := 0, locals := 228 } : Room) (pcK (dC, dI) (q_ty cI cB cZ) adK adV [.ref o0] ((wcX o0 g0 s0) ++ (wcE (g0 2) (g0 1) s1) ++ (wcT cB (g0 1) a2 s2) ++ (wcH cI (g0 8) a3 s3) ++ (wcH cI (g0 9) a4 s4) ++ (wcA cI (g0 3) a5 s5)) sz) (qlW (dC, dI) (q_ty cI cB cZ) ((wcX o0 g0 s0) ++ (wcE (g0 2) (g0 1) s1) ++ (wcT cB (g0 1) a2 s2) ++ (wcH cI (g0 8) a3 s3) ++ (wcH cI (g0 9) a4 s4) ++ (wcA cI (g0 3) a5 s5)) ((wcX o0 h0 z0) ++ (wcE (g0 2) (g0 1) z1) ++ (wcT cB (g0 1) a2 z2) ++ (wcH cI (g0 8) a3 s3) ++ (wcH cI (g0 9) a4 z4) ++ (wcA cI (g0 3) a5 z5)) sz r) 0 0 (va_A ((wcX o0 g0 s0) ++ (wcE (g0 2) (g0 1) s1) ++ (wcT cB (g0 1) a2 s2) ++ (wcH cI (g0 8) a3 s3) ++ (wcH cI (g0 9) a4 s4) ++ (wcA cI (g0 3) a5 s5)) sz) := by
  refine q_rwMk (cc := cX7_hill) (maxL := 3) (ret := (some .long)) (by decide +kernel) rfl (Nat.le_of_ble_eq_true rfl) ?_
  intro p e s m below meth c hx hb hr hlk hml hown hts hK A H hAe hH hsz hP hD hA hS hE ls hl
  have hown : s.vm.findClass RX7 = some m.cls := hown
  have hl : lv_has ls 3 [(0, .ref o0)] := hl
  unfold fX7_hill at hf
  refine lv_aload_n hx hb dX7_hill_0 rfl (lv_at hl 0 rfl) ?_
  refine va_get (D := (dC, dI)) (ci := 7) (v := .ref (g0 2)) (C := RX7) (T := TX7) (N := 14) hx hb hts nX7_hill_7 hown hK hP 0 rfl rfl 2 (by decide) (hts _ qX7_hill_1) (fun _ h9 => h9) rfl dX7_hill_1 ?_
  refine lv_aload_n hx hb dX7_hill_4 rfl (lv_at hl 0 rfl) ?_
  refine va_get (D := (dC, dI)) (ci := 7) (v := .ref (g0 9)) (C := RX7) (T := TX7) (N := 14) hx hb hts nX7_hill_7 hown hK hP 0 rfl rfl 9 (by decide) (hts _ qX7_hill_2) (fun _ h9 => h9) rfl dX7_hill_5 ?_
  obtain ⟨r1, sc2, sc3, sc4, h5, hf⟩ := q_b4o hf
  refine q_rwVik (As := [.ref (g0 9)]) (rest := []) (ci := 4) (wr := ((wcX o0 g0 s0) ++ (wcH cI (g0 8) a3 s3) ++ (wcA cI (g0 3) a5 s5))) (w2 := ((wcX o0 g0 s0) ++ (wcE (g0 2) (g0 1) sc2) ++ (wcT cB (g0 1) a2 sc3) ++ (wcH cI (g0 8) a3 s3) ++ (wcH cI (g0 9) a4 sc4) ++ (wcA cI (g0 3) a5 s5))) ⟨hx, hb, hml, hown, hts⟩ (kX4_readInto l dC dI cI cB cZ adK adV (g0 2) (g0 1) a2 (g0 9) a4 s1 s2 s4 H.size r1 sc2 sc3 sc4 h5) (cwV 1 hts gX7_hill_X4_readInto rfl rfl rfl hdX4_readInto ⟨Nat.le_of_ble_eq_true rfl, Nat.le_of_ble_eq_true rfl⟩) hE hK hP hD hS hA [1, 2, 3, 15, 16, 17, 18, 19, 20, 21, 22, 23, 24, 25] [0, 4, 5, 6, 7, 8, 9, 10, 11, 12, 13, 14, 26, 27, 28, 29] [0, 16, 17, 18, 1, 2, 3, 4, 5, 6, 7, 8, 9, 10, 11, 19, 20, 21, 22, 23, 24, 25, 26, 27, 28, 29, 12, 13, 14, 15] rfl rfl (by decide) (by decide) (by decide) rfl (by decide) rfl rfl rfl hl.1 rfl (Nat.le_of_ble_eq_true rfl) dX7_hill_8 ⟨Nat.zero_le _, Nat.zero_le _⟩ (fun H locs hP hD hS => ?_)
  refine lv_istore_n (lv' := [(1, .int r1), (0, .ref o0)]) hx hb dX7_hill_11 rfl hl (by decide) rfl (fun ls hl => ?_)
  refine lv_aload_n hx hb dX7_hill_12 rfl (lv_at hl 1 rfl) ?_
  refine va_get (D := (dC, dI)) (ci := 7) (v := .ref (g0 1)) (C := RX7) (T := TX7) (N := 14) hx hb hts nX7_hill_7 hown hK hP 0 rfl rfl 1 (by decide) (hts _ qX7_hill_3) (fun _ h9 => h9) rfl dX7_hill_13 ?_
  obtain ⟨sc6, h7, hf⟩ := q_b1o hf
  refine q_rwVv (As := []) (rest := []) (ci := 6) (wr := ((wcX o0 g0 s0) ++ (wcE (g0 2) (g0 1) sc2) ++ (wcH cI (g0 8) a3 s3) ++ (wcH cI (g0 9) a4 sc4) ++ (wcA cI (g0 3) a5 s5))) (w2 := ((wcX o0 g0 s0) ++ (wcE (g0 2) (g0 1) sc2) ++ (wcT cB (g0 1) a2 sc6) ++ (wcH cI (g0 8) a3 s3) ++ (wcH cI (g0 9) a4 sc4) ++ (wcA cI (g0 3) a5 s5))) ⟨hx, hb, hml, hown, hts⟩ (kX6_clear l dC dI cI cB cZ (g0 1) a2 sc3 H.size sc6 h7) (cwV 0 hts gX7_hill_X6_clear rfl rfl rfl hdX6_clear ⟨Nat.le_of_ble_eq_true rfl, Nat.le_of_ble_eq_true rfl⟩) hK hP hD hS hA [2, 3] [0, 1, 4, 5, 6, 7, 8, 9, 10, 11, 12, 13, 14, 15, 16, 17, 18, 19, 20, 21, 22, 23, 24, 25, 26, 27, 28, 29] [0, 1, 28, 29, 2, 3, 4, 5, 6, 7, 8, 9, 10, 11, 12, 13, 14, 15, 16, 17, 18, 19, 20, 21, 22, 23, 24, 25, 26, 27] rfl rfl (by decide) (by decide) (by decide) rfl (by decide) rfl rfl rfl hl.1 rfl (Nat.le_of_ble_eq_true rfl) dX7_hill_16 ⟨Nat.zero_le _, Nat.zero_le _⟩ (fun H locs hP hD hS => ?_)
  refine lv_iload_n hx hb dX7_hill_19 rfl (lv_at hl 0 rfl) ?_
  refine lv_if_ne (tgt := 47) hx hb dX7_hill_20 (by decide) (fun c8 => ?_) (fun c8 => ?_)
  · have hf := q_f c8 hf
    refine lv_aload_n hx hb dX7_hill_47 rfl (lv_at hl 1 rfl) ?_
    refine va_get (D := (dC, dI)) (ci := 7) (v := .ref (g0 8)) (C := RX7) (T := TX7) (N := 14) hx hb hts nX7_hill_7 hown hK hP 0 rfl rfl 8 (by decide) (hts _ qX7_hill_6) (fun _ h9 => h9) rfl dX7_hill_48 ?_
    refine lv_astore_n (lv' := [(2, .ref (g0 8)), (1, .int r1), (0, .ref o0)]) hx hb dX7_hill_51 rfl hl (by decide) rfl (fun ls hl => ?_)
    refine lv_aload_n hx hb dX7_hill_52 rfl (lv_at hl 2 rfl) ?_
    refine lv_aload_n hx hb dX7_hill_53 rfl (lv_at hl 2 rfl) ?_
    refine va_get (D := (dC, dI)) (ci := 7) (v := .ref (g0 9)) (C := RX7) (T := TX7) (N := 14) hx hb hts nX7_hill_7 hown hK hP 0 rfl rfl 9 (by decide) (hts _ qX7_hill_2) (fun _ h9 => h9) rfl dX7_hill_54 ?_
    obtain ⟨gn9, egn9, hf⟩ := q_lto hf
    refine va_put (D := (dC, dI)) (ci := 7) (v := .ref (g0 9)) (ty := .object "DeadAsked$Hill") (C := RX7) (T := TX7) (N := 14) hx hb hts nX7_hill_7 tyX7 tyX7_ok nmX7 hown hK hP hD hS 0 rfl rfl 8 (by decide) (hts _ qX7_hill_6) (fun _ h9 => h9) rfl (by decide +kernel) rfl rfl (Nat.le_of_ble_eq_true rfl) dX7_hill_57 (fun H locs hP hD hS => ?_)
    have hP : va_P (dC, dI) vwCl ((wcX o0 gn9 s0) ++ (wcE (g0 2) (g0 1) sc2) ++ (wcT cB (g0 1) a2 sc6) ++ (wcH cI (g0 8) a3 s3) ++ (wcH cI (g0 9) a4 sc4) ++ (wcA cI (g0 3) a5 s5)) H := by rw [egn9]; exact hP
    have hD : va_D A ((wcX o0 gn9 s0) ++ (wcE (g0 2) (g0 1) sc2) ++ (wcT cB (g0 1) a2 sc6) ++ (wcH cI (g0 8) a3 s3) ++ (wcH cI (g0 9) a4 sc4) ++ (wcA cI (g0 3) a5 s5)) := by rw [egn9]; exact hD
    refine lv_aload_n hx hb dX7_hill_60 rfl (lv_at hl 2 rfl) ?_
    refine lv_aload_n hx hb dX7_hill_61 rfl (lv_at hl 0 rfl) ?_
    obtain ⟨gn10, egn10, hf⟩ := q_lto hf
    refine va_put (D := (dC, dI)) (ci := 7) (v := .ref (g0 8)) (ty := .object "DeadAsked$Hill") (C := RX7) (T := TX7) (N := 14) hx hb hts nX7_hill_7 tyX7 tyX7_ok nmX7 hown hK hP hD hS 0 rfl rfl 9 (by decide) (hts _ qX7_hill_2) (fun _ h9 => h9) rfl (by decide +kernel) rfl rfl (Nat.le_of_ble_eq_true rfl) dX7_hill_62 (fun H locs hP hD hS => ?_)
    have hP : va_P (dC, dI) vwCl ((wcX o0 gn10 s0) ++ (wcE (g0 2) (g0 1) sc2) ++ (wcT cB (g0 1) a2 sc6) ++ (wcH cI (g0 8) a3 s3) ++ (wcH cI (g0 9) a4 sc4) ++ (wcA cI (g0 3) a5 s5)) H := by rw [egn10]; exact hP
    have hD : va_D A ((wcX o0 gn10 s0) ++ (wcE (g0 2) (g0 1) sc2) ++ (wcT cB (g0 1) a2 sc6) ++ (wcH cI (g0 8) a3 s3) ++ (wcH cI (g0 9) a4 sc4) ++ (wcA cI (g0 3) a5 s5)) := by rw [egn10]; exact hD
    refine lv_aload_n hx hb dX7_hill_65 rfl (lv_at hl 2 rfl) ?_
    refine lv_iconst (v := 1) hx hb dX7_hill_66 (by decide) ?_
    obtain ⟨sn11, esn11, hf⟩ := q_lto hf
    refine va_put (D := (dC, dI)) (ci := 7) (v := .int (1 : Int32)) (ty := .boolean) (C := RX7) (T := TX7) (N := 14) hx hb hts nX7_hill_7 tyX7 tyX7_ok nmX7 hown hK hP hD hS 0 rfl rfl 10 (by decide) (hts _ qX7_hill_7) (fun _ h9 => h9) rfl (by decide +kernel) rfl rfl (Nat.le_of_ble_eq_true rfl) dX7_hill_67 (fun H locs hP hD hS => ?_)
    have hP : va_P (dC, dI) vwCl ((wcX o0 gn10 sn11) ++ (wcE (g0 2) (g0 1) sc2) ++ (wcT cB (g0 1) a2 sc6) ++ (wcH cI (g0 8) a3 s3) ++ (wcH cI (g0 9) a4 sc4) ++ (wcA cI (g0 3) a5 s5)) H := by rw [esn11]; exact hP
    have hD : va_D A ((wcX o0 gn10 sn11) ++ (wcE (g0 2) (g0 1) sc2) ++ (wcT cB (g0 1) a2 sc6) ++ (wcH cI (g0 8) a3 s3) ++ (wcH cI (g0 9) a4 sc4) ++ (wcA cI (g0 3) a5 s5)) := by rw [esn11]; exact hD
    refine lv_aload_n hx hb dX7_hill_70 rfl (lv_at hl 2 rfl) ?_
    refine va_get (D := (dC, dI)) (ci := 7) (v := .ref (g0 3)) (C := RX7) (T := TX7) (N := 14) hx hb hts nX7_hill_7 hown hK hP 0 rfl rfl 3 (by decide) (hts _ qX7_hill_8) (fun _ h9 => h9) (by rw [egn10, egn9]; rfl) dX7_hill_71 ?_
    obtain ⟨sc12, h13, hf⟩ := q_b1o hf
    refine q_rwVv (As := []) (rest := []) (ci := 0) (wr := ((wcX o0 gn10 sn11) ++ (wcE (g0 2) (g0 1) sc2) ++ (wcT cB (g0 1) a2 sc6) ++ (wcH cI (g0 8) a3 s3) ++ (wcH cI (g0 9) a4 sc4))) (w2 := ((wcX o0 gn10 sn11) ++ (wcE (g0 2) (g0 1) sc2) ++ (wcT cB (g0 1) a2 sc6) ++ (wcH cI (g0 8) a3 s3) ++ (wcH cI (g0 9) a4 sc4) ++ (wcA cI (g0 3) a5 sc12))) ⟨hx, hb, hml, hown, hts⟩ (kX0_forgetAll l dC dI cI cB cZ (g0 3) a5 s5 H.size sc12 h13) (cwV 0 hts gX7_hill_X0_forgetAll rfl rfl rfl hdX0_forgetAll ⟨Nat.le_of_ble_eq_true rfl, Nat.le_of_ble_eq_true rfl⟩) hK hP hD hS hA [26, 27, 28, 29] [0, 1, 2, 3, 4, 5, 6, 7, 8, 9, 10, 11, 12, 13, 14, 15, 16, 17, 18, 19, 20, 21, 22, 23, 24, 25] [0, 1, 2, 3, 4, 5, 6, 7, 8, 9, 10, 11, 12, 13, 14, 15, 16, 17, 18, 19, 20, 21, 22, 23, 24, 25, 26, 27, 28, 29] rfl rfl (by decide) (by decide) (by decide) rfl (by decide) rfl rfl rfl hl.1 rfl (Nat.le_of_ble_eq_true rfl) dX7_hill_74 ⟨Nat.zero_le _, Nat.zero_le _⟩ (fun H locs hP hD hS => ?_)
    refine lv_aload_n hx hb dX7_hill_77 rfl (lv_at hl 2 rfl) ?_
    refine va_get (D := (dC, dI)) (ci := 7) (v := .ref (g0 9)) (C := RX7) (T := TX7) (N := 14) hx hb hts nX7_hill_7 hown hK hP 0 rfl rfl 8 (by decide) (hts _ qX7_hill_6) (fun _ h9 => h9) (by rw [egn10, egn9]; rfl) dX7_hill_78 ?_
    refine va_get (D := (dC, dI)) (ci := 3) (v := .int (sc4 10 0)) (C := RX3) (T := TX3) (N := 14) hx hb hts nX7_hill_3 hown hK hP 15 rfl rfl 10 (by decide) (hts _ qX7_hill_9) (fun _ h9 => h9) rfl dX7_hill_81 ?_
    refine lv_i2l (v := (sc4 10 0).toInt64) hx hb dX7_hill_84 rfl ?_
    obtain ⟨ee0, ee1, ee2, ee3, ee4, ee5, ee6⟩ := q_s7 hf
    subst ee1
    subst ee2
    subst ee3
    subst ee4
    subst ee5
    subst ee6
    exact q_wretL hx hb hr hlk hAe hK hP hD hS ee0 dX7_hill_85
  · have hf := q_t c8 hf
    refine lv_aload_n hx hb dX7_hill_23 rfl (lv_at hl 1 rfl) ?_
    refine lv_aload_n hx hb dX7_hill_24 rfl (lv_at hl 1 rfl) ?_
    refine va_get (D := (dC, dI)) (ci := 7) (v := .ref (g0 2)) (C := RX7) (T := TX7) (N := 14) hx hb hts nX7_hill_7 hown hK hP 0 rfl rfl 2 (by decide) (hts _ qX7_hill_1) (fun _ h9 => h9) rfl dX7_hill_25 ?_
    obtain ⟨r14, h15, hf⟩ := q_b1o hf
    refine q_roVi (As := []) (rest := [.ref o0]) (ci := 4) ⟨hx, hb, hml, hown, hts⟩ (kX4_faultNumber l dC dI cI cB cZ (g0 2) (g0 1) sc2 r14 h15) (cwV 0 hts gX7_hill_X4_faultNumber rfl rfl rfl hdX4_faultNumber ⟨Nat.le_of_ble_eq_true rfl, Nat.le_of_ble_eq_true rfl⟩) hK (hP.sub [1] rfl) rfl rfl rfl hl.1 rfl (Nat.le_of_ble_eq_true rfl) dX7_hill_28 ⟨Nat.zero_le _, Nat.zero_le _⟩ ?_
    obtain ⟨sn16, esn16, hf⟩ := q_lto hf
    refine va_put (D := (dC, dI)) (ci := 7) (v := .int r14) (ty := .int) (C := RX7) (T := TX7) (N := 14) hx hb hts nX7_hill_7 tyX7 tyX7_ok nmX7 hown hK hP hD hS 0 rfl rfl 12 (by decide) (hts _ qX7_hill_4) (fun _ h9 => h9) rfl (by decide +kernel) rfl rfl (Nat.le_of_ble_eq_true rfl) dX7_hill_31 (fun H locs hP hD hS => ?_)
    have hP : va_P (dC, dI) vwCl ((wcX o0 g0 sn16) ++ (wcE (g0 2) (g0 1) sc2) ++ (wcT cB (g0 1) a2 sc6) ++ (wcH cI (g0 8) a3 s3) ++ (wcH cI (g0 9) a4 sc4) ++ (wcA cI (g0 3) a5 s5)) H := by rw [esn16]; exact hP
    have hD : va_D A ((wcX o0 g0 sn16) ++ (wcE (g0 2) (g0 1) sc2) ++ (wcT cB (g0 1) a2 sc6) ++ (wcH cI (g0 8) a3 s3) ++ (wcH cI (g0 9) a4 sc4) ++ (wcA cI (g0 3) a5 s5)) := by rw [esn16]; exact hD
    refine lv_ldc2 (v := -9000000000000000100) hx hb hown (hts _ qX7_hill_5) dX7_hill_34 ?_
    refine lv_aload_n hx hb dX7_hill_37 rfl (lv_at hl 1 rfl) ?_
    refine va_get (D := (dC, dI)) (ci := 7) (v := .ref (g0 2)) (C := RX7) (T := TX7) (N := 14) hx hb hts nX7_hill_7 hown hK hP 0 rfl rfl 2 (by decide) (hts _ qX7_hill_1) (fun _ h9 => h9) rfl dX7_hill_38 ?_
    obtain ⟨r17, h18, hf⟩ := q_b1o hf
    refine q_roVi (As := []) (rest := [.long (-9000000000000000100 : Int64)]) (ci := 4) ⟨hx, hb, hml, hown, hts⟩ (kX4_faultPlace l dC dI cI cB cZ (g0 2) (g0 1) sc2 r17 h18) (cwV 0 hts gX7_hill_X4_faultPlace rfl rfl rfl hdX4_faultPlace ⟨Nat.le_of_ble_eq_true rfl, Nat.le_of_ble_eq_true rfl⟩) hK (hP.sub [1] rfl) rfl rfl rfl hl.1 rfl (Nat.le_of_ble_eq_true rfl) dX7_hill_41 ⟨Nat.zero_le _, Nat.zero_le _⟩ ?_
    refine lv_i2l (v := r17.toInt64) hx hb dX7_hill_44 rfl ?_
    refine lv_lsub hx hb dX7_hill_45 ?_
    obtain ⟨ee0, ee1, ee2, ee3, ee4, ee5, ee6⟩ := q_s7 hf
    subst ee1
    subst ee2
    subst ee3
    subst ee4
    subst ee5
    subst ee6
    exact q_wretL hx hb hr hlk hAe hK hP hD hS ee0 dX7_hill_46
