/-! what the law starts from: the texts, the words of the tables -/
set_option maxRecDepth 20000 in
theorem lm_i0 : (Cond.instantiable RX0 5) ∈ wsL_law := List.mem_of_getElem? (i := 26) (by decide +kernel)
set_option maxRecDepth 20000 in
theorem lm_i1 : (Cond.instantiable RX1 7) ∈ wsL_law := List.mem_of_getElem? (i := 30) (by decide +kernel)
set_option maxRecDepth 20000 in
theorem lm_i2 : (Cond.instantiable RX2 2) ∈ wsL_law := List.mem_of_getElem? (i := 34) (by decide +kernel)
set_option maxRecDepth 20000 in
theorem lm_i3 : (Cond.instantiable RX3 14) ∈ wsL_law := List.mem_of_getElem? (i := 38) (by decide +kernel)
set_option maxRecDepth 20000 in
theorem lm_i4 : (Cond.instantiable RX4 4) ∈ wsL_law := List.mem_of_getElem? (i := 22) (by decide +kernel)
set_option maxRecDepth 20000 in
theorem lm_i5 : (Cond.instantiable RX5 3) ∈ wsL_law := List.mem_of_getElem? (i := 14) (by decide +kernel)
set_option maxRecDepth 20000 in
theorem lm_i6 : (Cond.instantiable RX6 5) ∈ wsL_law := List.mem_of_getElem? (i := 18) (by decide +kernel)
set_option maxRecDepth 20000 in
theorem lm_i7 : (Cond.instantiable RX7 14) ∈ wsL_law := List.mem_of_getElem? (i := 1) (by decide +kernel)
set_option maxRecDepth 20000 in
theorem lm_i8 : (Cond.instantiable RX8 27) ∈ wsL_law := List.mem_of_getElem? (i := 4) (by decide +kernel)
set_option maxRecDepth 20000 in
theorem lm_aI : (Cond.arrayClass .int) ∈ wsL_law := List.mem_of_getElem? (i := 48) (by decide +kernel)
set_option maxRecDepth 20000 in
theorem lm_aB : (Cond.arrayClass .byte) ∈ wsL_law := List.mem_of_getElem? (i := 55) (by decide +kernel)
set_option maxRecDepth 20000 in
theorem lm_aZ : (Cond.arrayClass .boolean) ∈ wsL_law := List.mem_of_getElem? (i := 100) (by decide +kernel)
set_option maxRecDepth 20000 in
theorem lm_c7 : (Cond.classLink RL 7 RX7) ∈ wsL_law := List.mem_of_getElem? (i := 0) (by decide +kernel)
set_option maxRecDepth 20000 in
theorem lm_n7 : (Cond.initialized RX7) ∈ wsL_law := List.mem_of_getElem? (i := 2) (by decide +kernel)
set_option maxRecDepth 20000 in
theorem lm_c8 : (Cond.classLink RL 10 RX8) ∈ wsL_law := List.mem_of_getElem? (i := 3) (by decide +kernel)
set_option maxRecDepth 20000 in
theorem lm_n8 : (Cond.initialized RX8) ∈ wsL_law := List.mem_of_getElem? (i := 5) (by decide +kernel)
set_option maxRecDepth 20000 in
theorem lm_m7 : (Cond.methodLink RL 9 yX7_init) ∈ wsL_law := List.mem_of_getElem? (i := 7) (by decide +kernel)
set_option maxRecDepth 20000 in
theorem lm_s7 : (Cond.instanceMethod yX7_init) ∈ wsL_law := List.mem_of_getElem? (i := 8) (by decide +kernel)
set_option maxRecDepth 20000 in
theorem lm_m8 : (Cond.methodLink RL 12 yX8_init) ∈ wsL_law := List.mem_of_getElem? (i := 89) (by decide +kernel)
set_option maxRecDepth 20000 in
theorem lm_s8 : (Cond.instanceMethod yX8_init) ∈ wsL_law := List.mem_of_getElem? (i := 90) (by decide +kernel)
set_option maxRecDepth 20000 in
theorem lm_s52 : (Cond.stringRef RX4 52 "winds") ∈ lw_tbl := List.mem_of_getElem? (i := 465) (by decide +kernel)
set_option maxRecDepth 20000 in
theorem lm_s75 : (Cond.stringRef RX4 75 "grave") ∈ lw_tbl := List.mem_of_getElem? (i := 547) (by decide +kernel)
set_option maxRecDepth 20000 in
theorem lm_s96 : (Cond.stringRef RX4 96 "horn") ∈ lw_tbl := List.mem_of_getElem? (i := 556) (by decide +kernel)
set_option maxRecDepth 20000 in
theorem lm_s110 : (Cond.stringRef RX4 110 "tree") ∈ lw_tbl := List.mem_of_getElem? (i := 565) (by decide +kernel)
set_option maxRecDepth 20000 in
theorem lm_s137 : (Cond.stringRef RX4 137 "pear") ∈ lw_tbl := List.mem_of_getElem? (i := 574) (by decide +kernel)
set_option maxRecDepth 20000 in
theorem lm_s139 : (Cond.stringRef RX4 139 "nut") ∈ lw_tbl := List.mem_of_getElem? (i := 575) (by decide +kernel)
set_option maxRecDepth 20000 in
theorem lm_s141 : (Cond.stringRef RX4 141 "oak") ∈ lw_tbl := List.mem_of_getElem? (i := 576) (by decide +kernel)
set_option maxRecDepth 20000 in
theorem lm_s143 : (Cond.stringRef RX4 143 "ash") ∈ lw_tbl := List.mem_of_getElem? (i := 577) (by decide +kernel)
set_option maxRecDepth 20000 in
theorem lm_s145 : (Cond.stringRef RX4 145 "fir") ∈ lw_tbl := List.mem_of_getElem? (i := 578) (by decide +kernel)
set_option maxRecDepth 20000 in
theorem lm_n18 : (Cond.methodLinkNest RX7 18 yX6_init "DeadAsked") ∈ lw_tbl := List.mem_of_getElem? (i := 111) (by decide +kernel)
set_option maxRecDepth 20000 in
theorem lm_n34 : (Cond.methodLinkNest RX7 34 yX0_init "DeadAsked") ∈ lw_tbl := List.mem_of_getElem? (i := 153) (by decide +kernel)
set_option maxRecDepth 20000 in
theorem lm_n41 : (Cond.methodLinkNest RX7 41 yX1_init "DeadAsked") ∈ lw_tbl := List.mem_of_getElem? (i := 175) (by decide +kernel)
set_option maxRecDepth 20000 in
theorem lm_n48 : (Cond.methodLinkNest RX7 48 yX2_init "DeadAsked") ∈ lw_tbl := List.mem_of_getElem? (i := 203) (by decide +kernel)
set_option maxRecDepth 20000 in
theorem lm_n55 : (Cond.methodLinkNest RX7 55 yX3_init "DeadAsked") ∈ lw_tbl := List.mem_of_getElem? (i := 216) (by decide +kernel)
set_option maxRecDepth 20000 in
theorem lm_lC : (Cond.laysStatic "java/lang/String" "COMPACT_STRINGS" "Z") ∈ lw_tbl := List.mem_of_getElem? (i := 479) (by decide +kernel)
set_option maxRecDepth 20000 in
theorem lm_iC : (Cond.initialized "java/lang/String") ∈ lw_tbl := List.mem_of_getElem? (i := 78) (by decide +kernel)
set_option maxRecDepth 20000 in
theorem lm_lF : (Cond.laysStatic "jdk/internal/util/Preconditions" "SIOOBE_FORMATTER" sF) ∈ lw_tbl := List.mem_of_getElem? (i := 495) (by decide +kernel)
set_option maxRecDepth 20000 in
theorem lm_iF : (Cond.initialized "jdk/internal/util/Preconditions") ∈ lw_tbl := List.mem_of_getElem? (i := 80) (by decide +kernel)
def lG : List Cond := flatC (Jvm.Cond.and given_1 narrow_1)
abbrev lT (i : Nat) : Term := Term.string RX4 (sIx i)
set_option maxRecDepth 20000 in
theorem lg_ex : ∀ i : Fin 9, Cond.exactly (lT i.val) "java/lang/String" ∈ lG := by decide +kernel
set_option maxRecDepth 20000 in
theorem lg_co : ∀ i : Fin 9, Cond.eq (.field (lT i.val) "java/lang/String" "coder" "B") (.int 0) ∈ lG := by decide +kernel
set_option maxRecDepth 20000 in
theorem lg_ar : ∀ i : Fin 9, Cond.arrayOf (.field (lT i.val) "java/lang/String" "value" "[B") .byte ∈ lG := by decide +kernel
set_option maxRecDepth 20000 in
theorem lg_le : ∀ i : Fin 9, Cond.eq (.length (.field (lT i.val) "java/lang/String" "value" "[B")) (.int (Int32.ofNat (sLen.getD i.val 0))) ∈ lG := by decide +kernel
set_option maxRecDepth 20000 in
theorem lg_el : ∀ i : Fin 9, ∀ j : Fin 5, j.val < sLen.getD i.val 0 → Cond.eq (.elem (.field (lT i.val) "java/lang/String" "value" "[B") (.int (Int32.ofNat j.val))) (.int ((sByt.getD i.val []).getD j.val 0)) ∈ lG := by decide +kernel
set_option maxRecDepth 20000 in
theorem lg_ne : ∀ i j : Fin 9, i ≠ j → Cond.not (Cond.eq (lT i.val) (lT j.val)) ∈ lG ∨ Cond.not (Cond.eq (lT j.val) (lT i.val)) ∈ lG := by decide +kernel
set_option maxRecDepth 20000 in
theorem lg_l5 : ∀ i : Fin 9, sLen.getD i.val 0 ≤ 5 := by decide +kernel
set_option maxRecDepth 20000 in
theorem lg_cs : Cond.eq (.static "java/lang/String" "COMPACT_STRINGS" "Z") (.int 1) ∈ lG := by decide +kernel
set_option maxRecDepth 20000 in
theorem lg_sf : Cond.isRef (.static "jdk/internal/util/Preconditions" "SIOOBE_FORMATTER" sF) ∈ lG := by decide +kernel
theorem l_kS {s : State} {b : Nat} (hts : ∀ w ∈ lw_tbl, w.before #[Value.ref b] s = true) (hgv : (Jvm.Cond.and given_1 narrow_1).before #[Value.ref b] s = true) : ∃ adK adV : Nat → Nat, kS adK adV (fun q : Nat => s.heap.size ≤ q) s s.heap := by
  have F : ∀ w ∈ lG, w.before #[Value.ref b] s = true := flat_of_before _ hgv
  have hA : ∀ a : Nat, a < s.heap.size → ¬ (fun q : Nat => s.heap.size ≤ q) a := fun a h => Nat.not_le.mpr h
  obtain ⟨adK, adV, h1, h2⟩ := vk_Sof (args := #[Value.ref b]) (s := s) (N := 9) (tm := lT) (len := sLen) (byt := sByt) (A := fun q : Nat => s.heap.size ≤ q)
    (fun i hi => Nat.lt_of_le_of_lt (lg_l5 ⟨i, hi⟩) (by decide)) (fun i hi => F _ (lg_ex ⟨i, hi⟩)) (fun i hi => F _ (lg_co ⟨i, hi⟩)) (fun i hi => F _ (lg_ar ⟨i, hi⟩)) (fun i hi => F _ (lg_le ⟨i, hi⟩))
    (fun i hi j hj => F _ (lg_el ⟨i, hi⟩ ⟨j, Nat.lt_of_lt_of_le hj (lg_l5 ⟨i, hi⟩)⟩ hj))
    (fun i j hi hj hne => (lg_ne ⟨i, hi⟩ ⟨j, hj⟩ (fun h => hne (congrArg Fin.val h))).imp (F _) (F _)) hA
  refine ⟨adK, adV, h1, va_Zof (hts _ lm_lC) (hts _ lm_iC) (va_eqi (F _ lg_cs)) hA, va_Zqof (hts _ lm_lF) (hts _ lm_iF) (F _ lg_sf) hA, ?_⟩
  intro i hi
  match i, hi with
  | 0, _ => exact vk_R.of (hts _ lm_s52) (h2 0 (by decide))
  | 1, _ => exact vk_R.of (hts _ lm_s75) (h2 1 (by decide))
  | 2, _ => exact vk_R.of (hts _ lm_s96) (h2 2 (by decide))
  | 3, _ => exact vk_R.of (hts _ lm_s110) (h2 3 (by decide))
  | 4, _ => exact vk_R.of (hts _ lm_s137) (h2 4 (by decide))
  | 5, _ => exact vk_R.of (hts _ lm_s139) (h2 5 (by decide))
  | 6, _ => exact vk_R.of (hts _ lm_s141) (h2 6 (by decide))
  | 7, _ => exact vk_R.of (hts _ lm_s143) (h2 7 (by decide))
  | 8, _ => exact vk_R.of (hts _ lm_s145) (h2 8 (by decide))
  | k + 9, h => exact absurd h (by omega)
theorem l_kN {s : State} {b : Nat} (hts : ∀ w ∈ lw_tbl, w.before #[Value.ref b] s = true) : kN s :=
  ⟨va_Nw.of rfl (hts _ lm_n18), va_Nw.of rfl (hts _ lm_n34), va_Nw.of rfl (hts _ lm_n41), va_Nw.of rfl (hts _ lm_n48), va_Nw.of rfl (hts _ lm_n55)⟩
theorem l_arr {s : State} {args : Array Value} {ty : FieldType} (h : (Cond.arrayClass ty).before args s = true) : ∃ cA : ClassId, ArrOfT s cA ty ∧ s.vm.findClass ("[" ++ ty.toString) = some cA := by
  obtain ⟨cA, kA, comp, h1, h2, h3⟩ := Cond.arrayClass_spec h
  exact ⟨cA, fun n z => ⟨(fun k h => by cases h), kA, h2, comp, h3⟩, h1⟩
theorem l_kK {s : State} {b : Nat} (hts : ∀ w ∈ lw_tbl, w.before #[Value.ref b] s = true) : ∃ (dC : Nat → ClassId) (dI : Nat → Nat → Nat) (cI cB cZ : ClassId), va_K (dC, dI) vwCl (q_ty cI cB cZ) s := by
  have htL : ∀ w ∈ wsL_law, w.before #[Value.ref b] s = true := fun w h => hts w (wsL_law_in w h)
  obtain ⟨c0, i0, hk0⟩ := u_known (C := RX0) (T := TX0) (N := 5) (n := 5) hts inX0 (htL _ lm_i0)
  obtain ⟨c1, i1, hk1⟩ := u_known (C := RX1) (T := TX1) (N := 7) (n := 7) hts inX1 (htL _ lm_i1)
  obtain ⟨c2, i2, hk2⟩ := u_known (C := RX2) (T := TX2) (N := 2) (n := 2) hts inX2 (htL _ lm_i2)
  obtain ⟨c3, i3, hk3⟩ := u_known (C := RX3) (T := TX3) (N := 14) (n := 14) hts inX3 (htL _ lm_i3)
  obtain ⟨c4, i4, hk4⟩ := u_known (C := RX4) (T := TX4) (N := 4) (n := 4) hts inX4 (htL _ lm_i4)
  obtain ⟨c5, i5, hk5⟩ := u_known (C := RX5) (T := TX5) (N := 3) (n := 3) hts inX5 (htL _ lm_i5)
  obtain ⟨c6, i6, hk6⟩ := u_known (C := RX6) (T := TX6) (N := 5) (n := 5) hts inX6 (htL _ lm_i6)
  obtain ⟨c7, i7, hk7⟩ := u_known (C := RX7) (T := TX7) (N := 14) (n := 14) hts inX7 (htL _ lm_i7)
  obtain ⟨c8, i8, hk8⟩ := u_known (C := RX8) (T := TX8) (N := 27) (n := 27) hts inX8 (htL _ lm_i8)
  obtain ⟨cI, aI1, aI2⟩ := l_arr (htL _ lm_aI)
  obtain ⟨cB, aB1, aB2⟩ := l_arr (htL _ lm_aB)
  obtain ⟨cZ, aZ1, aZ2⟩ := l_arr (htL _ lm_aZ)
  refine ⟨fun k => match k with | 0 => c0 | 1 => c1 | 2 => c2 | 3 => c3 | 4 => c4 | 5 => c5 | 6 => c6 | 7 => c7 | _ => c8, fun k => match k with | 0 => i0 | 1 => i1 | 2 => i2 | 3 => i3 | 4 => i4 | 5 => i5 | 6 => i6 | 7 => i7 | _ => i8, cI, cB, cZ, ?_, ?_⟩
  · intro k q hq
    match k, hq with
    | 0, hq => cases hq; exact hk0
    | 1, hq => cases hq; exact hk1
    | 2, hq => cases hq; exact hk2
    | 3, hq => cases hq; exact hk3
    | 4, hq => cases hq; exact hk4
    | 5, hq => cases hq; exact hk5
    | 6, hq => cases hq; exact hk6
    | 7, hq => cases hq; exact hk7
    | 8, hq => cases hq; exact hk8
    | k + 9, hq => simp [vwCl] at hq
  · intro k q hq
    match k, hq with
    | 0, hq => cases hq; exact ⟨aI1, aI2⟩
    | 1, hq => cases hq; exact ⟨aB1, aB2⟩
    | 2, hq => cases hq; exact ⟨aZ1, aZ2⟩
    | k + 3, hq => simp [q_ty] at hq
