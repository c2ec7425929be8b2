def R_law : String := "DeadAskedLaw"
def lw_P (b : Addr) (xs : List Int32) (args : Array Value) (s : State) : Prop := args = #[.ref b] ∧ s.IntsAt b xs ∧ xs.length ≤ 448 ∧ (Jvm.Cond.and given_1 narrow_1).before args s = true
def lw_Q (_ : Array Value) (s : State) (o : Outcome) (t : State) : Prop := o = .returned (some (.int 1)) ∧ Framed s o t [] 70 3561
def lw_Z (below : List Frame) (a : Array Value) (s : State) : State → Prop := fun t => ∃ o, t.status = .running ∧ Ended t below o ∧ lw_Q a s o t
/-- the law's own end, with 1 on the stack, nothing written that was there before, its room as the claim has it -/
theorem lw_ret {p : Program} {l : Launch} {e : Env} {s : State} {m : MethodId} {below : List Frame} {meth : Method} {c : Code} {b : Nat} (hx : p.tables.exec = Jvm.exec) (hb : c.code = code) (hr : meth.sig.returnType = ret) (hlocks : meth.locks = false) {pc : Nat} {H : Heap} {ls : Array Slot} (hdg : decode code pc = .ok (.ireturn, 1)) : W p l e room_1 s m #[Value.ref b] below meth c H [] 70 3561 (lw_Z below #[Value.ref b] s) (F0 m pc ls [.int 1]) := by
  intro T hT X
  obtain ⟨fs, hret, hrun, hended, hW, hframe⟩ := X.leave (v := some (.int 1)) (hlocks := hlocks) (fun h => by rw [hr] at h; cases h)
  have hmeth' : T.vm.method? m = some meth := X.method'
  refine ⟨T.setFrames fs, ?_, .returned (some (.int 1)), hrun, hended, rfl, ⟨_, rfl⟩, hW, hframe⟩
  jvm_step X.here [X.here.top, hx, hb, hdg, hmeth', hr, ret, narrow_b1]
  (try refine ⟨rfl, ?_⟩); (try refine ⟨rfl, ?_⟩)
  first | (intro acts; rw [hret _ acts rfl rfl rfl]) | rw [hret _ _ rfl rfl rfl]
  exact Steps.refl _
/-- what holds at the law's entry: the machine, the code, the tables' words (any of lw_tbl by 'hts w (by decide +kernel)'), the script of L ints xs at the cell b, what the Statement gives of the start (any of its parts by flat_of_before) -/
def lw_At (p : Program) (s : State) (m : MethodId) (meth : Method) (c : Code) (b L : Nat) (xs : Nat → Int32) : Prop :=
  p.tables.exec = Jvm.exec ∧ c.code = code ∧ meth.sig.returnType = ret ∧ c.maxLocals = 4 ∧ s.vm.findClass R_law = some m.cls ∧ (∀ w ∈ lw_tbl, w.before #[Value.ref b] s = true) ∧ va_X b L xs s s.heap ∧ b < s.heap.size ∧ meth.locks = false ∧ (Jvm.Cond.and given_1 narrow_1).before #[Value.ref b] s = true
set_option maxHeartbeats 4000000 in
set_option maxRecDepth 100000 in
/-- the law's loop: at its head, with i ints read, the two states belong together -/
theorem law_loop {p : Program} {l : Launch} {e : Env} {s : State} {m : MethodId} {below : List Frame} {meth : Method} {c : Code} {b L : Nat} {xs : Nat → Int32} {dC : Nat → ClassId} {dI : Nat → Nat → Nat} {cI cB cZ : ClassId} {adK adV : Nat → Nat} (C : lwC p s m c b L xs (dC, dI) cI cB cZ adK adV) (hr : meth.sig.returnType = ret) (hlk : meth.locks = false) {o om : Nat} :
    ∀ (n i : Nat), i ≤ L → L < i + 7 + 7 * n → ∀ (g : Nat → Nat) (aa : Nat → Nat → Nat) (S : Nat → St) (f : Lt) (am : Nat → Nat) (sm : St) (tm : Lt) (H : Heap) (locs : List Loc), va_P (dC, dI) vwCl (wW cI cB cZ o om g aa S f am sm tm) H → va_D (fun q : Nat => s.heap.size ≤ q) (wW cI cB cZ o om g aa S f am sm tm) → va_S (fun q : Nat => s.heap.size ≤ q) s.heap H locs → rW S sm → ∀ ls : Array Slot, lv_has ls 4 [(0, .ref b), (1, .ref o), (2, .ref om), (3, .int (nI i))] → W p l e room_1 s m #[Value.ref b] below meth c H locs 70 3561 (lw_Z below #[Value.ref b] s) (F0 m 18 ls []) := by
  intro n
  induction n with
  | zero =>
    intro i hiL hn g aa S f am sm tm H locs hP hD hS hR ls hl
    obtain ⟨hx, hb, hml, hown, hts, hX, hbl, hL, hK, hN⟩ := id C
    have hbA : ¬ (fun q : Nat => s.heap.size ≤ q) b := Nat.not_le.mpr hbl
    refine lv_iload_n hx hb dL_law_18 rfl (lv_at hl 3 rfl) ?_
    refine lv_aload_n hx hb dL_law_19 rfl (lv_at hl 0 rfl) ?_
    refine va_slen hx hb hX hbl hbA hS dL_law_20 ?_
    refine lv_bipush (v := 7) hx hb dL_law_21 (by decide) ?_
    refine lv_isub hx hb dL_law_23 ?_
    refine lv_icmp_gt (tgt := 1197) hx hb dL_law_24 (by decide) (fun _ => ?_) (fun h => absurd ((l_sub hiL hL).mpr (by omega)) h)
    refine lv_iconst (v := 1) hx hb dL_law_1197 (by decide) ?_
    refine va_forget (fun q hq => hS.2.2 q hq) ?_
    exact lw_ret hx hb hr hlk dL_law_1198
  | succ n ih =>
    intro i hiL hn g aa S f am sm tm H locs hP hD hS hR ls hl
    obtain ⟨hx, hb, hml, hown, hts, hX, hbl, hL, hK, hN⟩ := id C
    have hbA : ¬ (fun q : Nat => s.heap.size ≤ q) b := Nat.not_le.mpr hbl
    refine lv_iload_n hx hb dL_law_18 rfl (lv_at hl 3 rfl) ?_
    refine lv_aload_n hx hb dL_law_19 rfl (lv_at hl 0 rfl) ?_
    refine va_slen hx hb hX hbl hbA hS dL_law_20 ?_
    refine lv_bipush (v := 7) hx hb dL_law_21 (by decide) ?_
    refine lv_isub hx hb dL_law_23 ?_
    refine lv_icmp_gt (tgt := 1197) hx hb dL_law_24 (by decide) (fun _ => ?_) (fun hge => ?_)
    · refine lv_iconst (v := 1) hx hb dL_law_1197 (by decide) ?_
      refine va_forget (fun q hq => hS.2.2 q hq) ?_
      exact lw_ret hx hb hr hlk dL_law_1198
    · have h7 : ¬ L < i + 7 := fun h => hge ((l_sub hiL hL).mpr h)
      have hi : i + 6 < L := by omega
      have hkk : lwK p l e s m b below meth c ls (lw_Z below #[Value.ref b] s) (dC, dI) cI cB cZ o om := by
        intro g aa S f am sm tm H locs hP hD hS hR
        refine lv_iinc (v := nI (i + 7)) (lv' := [(3, .int (nI (i + 7))), (0, .ref b), (1, .ref o), (2, .ref om)]) hx hb dL_law_1191 hl (k := 3) rfl (iAdd i 7) (by decide) rfl (fun ls hl => ?_)
        refine lv_goto (tgt := 18) hx hb dL_law_1194 (by decide) ?_
        exact ih (i + 7) (by omega) (by omega) g aa S f am sm tm H locs hP hD hS hR ls (lv_sub hl [1, 2, 3, 0] rfl)
      refine lv_aload_n hx hb dL_law_27 rfl (lv_at hl 0 rfl) ?_
      refine lv_iload_n hx hb dL_law_28 rfl (lv_at hl 3 rfl) ?_
      refine va_sld hx hb hX hbl hbA hS (vp_in_nI (show i < L by omega) (by omega)) dL_law_29 ?_
      refine lv_bipush (v := 31) hx hb dL_law_30 (by decide) ?_
      refine lv_iand hx hb dL_law_32 ?_
      obtain ⟨k, hk, ek⟩ := l_and31 (xs (nI i).toNatClampNeg)
      rw [ek]
      clear ek
      match k, hk with
      | 0, _ =>
        refine lv_tableIn (off := 127) (tgt := 160) hx hb dL_law_33 (by decide +kernel) (by decide +kernel) (by decide +kernel) (by decide) ?_
        exact cs_row C hi hP hD hS hR hl hkk
      | 1, _ =>
        refine lv_tableIn (off := 171) (tgt := 204) hx hb dL_law_33 (by decide +kernel) (by decide +kernel) (by decide +kernel) (by decide) ?_
        exact cs_set C hi hP hD hS hR hl hkk
      | 2, _ =>
        refine lv_tableIn (off := 215) (tgt := 248) hx hb dL_law_33 (by decide +kernel) (by decide +kernel) (by decide +kernel) (by decide) ?_
        exact cs_copy C hi hP hD hS hR hl hkk
      | 3, _ =>
        refine lv_tableIn (off := 279) (tgt := 312) hx hb dL_law_33 (by decide +kernel) (by decide +kernel) (by decide +kernel) (by decide) ?_
        exact cs_drop C hi hP hD hS hR hl hkk
      | 4, _ =>
        refine lv_tableIn (off := 303) (tgt := 336) hx hb dL_law_33 (by decide +kernel) (by decide +kernel) (by decide +kernel) (by decide) ?_
        exact cs_feed C hi hP hD hS hR hl hkk
      | 5, _ =>
        refine lv_tableIn (off := 367) (tgt := 400) hx hb dL_law_33 (by decide +kernel) (by decide +kernel) (by decide +kernel) (by decide) ?_
        exact cs_hill C hi hP hD hS hR hl hkk
      | 6, _ =>
        refine lv_tableIn (off := 381) (tgt := 414) hx hb dL_law_33 (by decide +kernel) (by decide +kernel) (by decide +kernel) (by decide) ?_
        exact cs_fault C hi hP hD hS hR hl hkk
      | 7, _ =>
        refine lv_tableIn (off := 394) (tgt := 427) hx hb dL_law_33 (by decide +kernel) (by decide +kernel) (by decide +kernel) (by decide) ?_
        exact cs_ask C hi hP hD hS hR hl hkk
      | 8, _ =>
        refine lv_tableIn (off := 448) (tgt := 481) hx hb dL_law_33 (by decide +kernel) (by decide +kernel) (by decide +kernel) (by decide) ?_
        exact cs_pick C hi hP hD hS hR hl hkk
      | 9, _ =>
        refine lv_tableIn (off := 482) (tgt := 515) hx hb dL_law_33 (by decide +kernel) (by decide +kernel) (by decide +kernel) (by decide) ?_
        exact cs_move C hi hP hD hS hR hl hkk
      | 10, _ =>
        refine lv_tableIn (off := 516) (tgt := 549) hx hb dL_law_33 (by decide +kernel) (by decide +kernel) (by decide +kernel) (by decide) ?_
        exact cs_crack C hi hP hD hS hR hl hkk
      | 11, _ =>
        refine lv_tableIn (off := 540) (tgt := 573) hx hb dL_law_33 (by decide +kernel) (by decide +kernel) (by decide +kernel) (by decide) ?_
        exact cs_undo C hi hP hD hS hR hl hkk
      | 12, _ =>
        refine lv_tableIn (off := 554) (tgt := 587) hx hb dL_law_33 (by decide +kernel) (by decide +kernel) (by decide +kernel) (by decide) ?_
        exact cs_grave C hi hP hD hS hR hl hkk
      | 13, _ =>
        refine lv_tableIn (off := 588) (tgt := 621) hx hb dL_law_33 (by decide +kernel) (by decide +kernel) (by decide +kernel) (by decide) ?_
        exact cs_tree C hi hP hD hS hR hl hkk
      | 14, _ =>
        refine lv_tableIn (off := 622) (tgt := 655) hx hb dL_law_33 (by decide +kernel) (by decide +kernel) (by decide +kernel) (by decide) ?_
        exact cs_minds C hi hP hD hS hR hl hkk
      | 15, _ =>
        refine lv_tableIn (off := 656) (tgt := 689) hx hb dL_law_33 (by decide +kernel) (by decide +kernel) (by decide +kernel) (by decide) ?_
        exact cs_odds C hi hP hD hS hR hl hkk
      | 16, _ =>
        refine lv_tableIn (off := 710) (tgt := 743) hx hb dL_law_33 (by decide +kernel) (by decide +kernel) (by decide +kernel) (by decide) ?_
        exact cs_how C hi hP hD hS hR hl hkk
      | 17, _ =>
        refine lv_tableIn (off := 764) (tgt := 797) hx hb dL_law_33 (by decide +kernel) (by decide +kernel) (by decide +kernel) (by decide) ?_
        exact cs_fell C hi hP hD hS hR hl hkk
      | 18, _ =>
        refine lv_tableIn (off := 828) (tgt := 861) hx hb dL_law_33 (by decide +kernel) (by decide +kernel) (by decide +kernel) (by decide) ?_
        exact cs_picks C hi hP hD hS hR hl hkk
      | 19, _ =>
        refine lv_tableIn (off := 882) (tgt := 915) hx hb dL_law_33 (by decide +kernel) (by decide +kernel) (by decide +kernel) (by decide) ?_
        exact cs_council C hi hP hD hS hR hl hkk
      | 20, _ =>
        refine lv_tableIn (off := 958) (tgt := 991) hx hb dL_law_33 (by decide +kernel) (by decide +kernel) (by decide +kernel) (by decide) ?_
        exact cs_image C hi hP hD hS hR hl hkk
      | 21, _ =>
        refine lv_tableIn (off := 982) (tgt := 1015) hx hb dL_law_33 (by decide +kernel) (by decide +kernel) (by decide +kernel) (by decide) ?_
        exact cs_restore C hi hP hD hS hR hl hkk
      | 22, _ =>
        refine lv_tableIn (off := 1006) (tgt := 1039) hx hb dL_law_33 (by decide +kernel) (by decide +kernel) (by decide +kernel) (by decide) ?_
        exact cs_kind C hi hP hD hS hR hl hkk
      | 23, _ =>
        refine lv_tableIn (off := 1030) (tgt := 1063) hx hb dL_law_33 (by decide +kernel) (by decide +kernel) (by decide +kernel) (by decide) ?_
        exact cs_as C hi hP hD hS hR hl hkk
      | 24, _ =>
        refine lv_tableIn (off := 1064) (tgt := 1097) hx hb dL_law_33 (by decide +kernel) (by decide +kernel) (by decide +kernel) (by decide) ?_
        exact cs_shape C hi hP hD hS hR hl hkk
      | 25, _ =>
        refine lv_tableIn (off := 1098) (tgt := 1131) hx hb dL_law_33 (by decide +kernel) (by decide +kernel) (by decide +kernel) (by decide) ?_
        exact cs_trace C hi hP hD hS hR hl hkk
      | 26, _ =>
        refine lv_tableIn (off := 1121) (tgt := 1154) hx hb dL_law_33 (by decide +kernel) (by decide +kernel) (by decide +kernel) (by decide) ?_
        exact cs_count C hi hP hD hS hR hl hkk
      | 27, _ =>
        refine lv_tableIn (off := 1145) (tgt := 1178) hx hb dL_law_33 (by decide +kernel) (by decide +kernel) (by decide +kernel) (by decide) ?_
        exact cs_status C hi hP hD hS hR hl hkk
      | k + 28, hk =>
        refine lv_tableOut (tgt := 1191) hx hb dL_law_33 (Or.inr ?_) (by decide) ?_
        · rw [nI_toInt (by omega)]
          omega
        · exact hkk g aa S f am sm tm H locs hP hD hS hR
