/-! constructors -/
def sI_R : St := fun k => cond (Nat.beq k 0) (upd (upd (upd (upd (upd (upd (upd (upd (fun _ => 0) 0 (-1)) 1 (-1)) 2 (-1)) 3 (-1)) 4 (-1)) 5 (-1)) 6 (-1)) 7 (-1)) (fun _ => 0)
def sI_0 : St := fun _ _ => 0
def sI_M : St := fun k => cond (Nat.beq k 2) (sI_R 0) (fun _ => 0)
def tI_F : Lt := fun k => cond (Nat.beq k 1) 1 0
def tI_0 : Lt := fun _ => 0
def SI : Nat → St := fun k => cond (Nat.beq k 0) sI_R sI_0
abbrev wX (cI cB : ClassId) (o : Nat) (g : Nat → Nat) (aa : Nat → Nat → Nat) (S : Nat → St) (f : Lt) : va_W := (wcX o g (S 10)) ++ (wcR cI (g 0) (aa 0) (S 0)) ++ (wcT cB (g 1) (aa 1) (S 1)) ++ (wcE (g 2) (g 1) (S 2)) ++ (wcA cI (g 3) (aa 3) (S 3)) ++ (wcB cI (g 4) (aa 4) (S 4)) ++ (wcF (g 5) f) ++ (wcH cI (g 6) (aa 6) (S 6)) ++ (wcH cI (g 7) (aa 7) (S 7)) ++ (wcH cI (g 8) (aa 8) (S 8)) ++ (wcH cI (g 9) (aa 9) (S 9))
abbrev qcA (D : va_G) (Y : List (ClassId × FieldType)) {T : Type} (wc : va_W) (sz : Nat) (w1 : T → va_W) : Array Value → State → Outcome → State → Prop := va_Qv (fun (_ : T) => True) (fun a t => va_P D vwCl (w1 a) t.heap ∧ va_K D vwCl Y t ∧ va_D (va_A wc sz) (w1 a)) (va_A wc sz)
section WRC
variable {p : Program} {l : Launch} {e : Env} {R : Room} {s : State} {m : MethodId} {args : Array Value} {below : List Frame} {meth : Method} {c : Code} {H H0 : Heap} {locs : List Loc} {cells slots : Nat} {Q : State → Prop}
  {Ts ws ws' : List Cond} {cc bytes : ByteArray} {nL maxL index n pc : Nat} {own C : String} {y : MethodName} {ret : Option FieldType} {rm : Room} {ls : Array Slot} {st0 rest As : List Value} {b : Nat} {A : Nat → Prop} {D : va_G} {Y : List (ClassId × FieldType)} {w0 wc wr : va_W}
theorem q_newa (hexec : p.tables.exec = Jvm.exec) (hb : c.code = cc) {atype : ArrayType} (harr : (Cond.arrayClass (newarray.typeOf atype)).before args s = true) {ty : FieldType} (hty : newarray.typeOf atype = ty) (t0 : Nat) {cA : ClassId} (ht : Y[t0]? = some (cA, ty)) (hra : ∀ z, va_RA s z ty → s.vm.findClass ("[" ++ ty.toString) = some z) (hK : va_K D vwCl Y s) (hP : va_P D vwCl w0 H) (hD : va_D A w0) (hS : va_S A H0 H locs) (hA : ∀ q, H0.size ≤ q → A q)
    {n : Int32} {N' : Nat} {a0 : vp_A} (ha : ∀ cA : ClassId, vp_cell cA a0 = arrV cA N' (fun _ => defaultValue ty)) (hn : ¬ n < 0) (hN : n.toNatClampNeg = N') (hbytes : N' * componentBytes ty ≤ 536870912) (hcells : cells + 1 ≤ R.cells) (hslots : slots + N' ≤ R.slots) (hdg : decode cc pc = .ok (.newarray atype, 2))
    (kk : ∀ (q : Nat) (H1 : Heap), va_P D vwCl (w0 ++ [(q, .inl (cA, a0))]) H1 → va_D A (w0 ++ [(q, .inl (cA, a0))]) → va_S A H0 H1 locs → W p l e R s m args below meth c H1 locs (cells + 1) (slots + N') Q (F0 m (pc + 2) ls (.ref q :: rest))) : W p l e R s m args below meth c H locs cells slots Q (F0 m pc ls (.int n :: rest)) := by
  refine va_newa hexec hb harr hty hK hP hD hS hA ha hn hN hbytes hcells hslots hdg (fun q cA' H1 hK' hP1 hD1 hS1 => ?_)
  have e1 := hra _ (hK.2 t0 _ ht).2
  have e2 := hra _ (hK'.2 Y.length (cA', ty) (by simp)).2
  have e : cA' = cA := Option.some.inj (e2.symm.trans e1)
  subst e
  exact kk q H1 hP1 hD1 hS1
theorem q_preW (hK : va_K D vwCl Y s) (hP : va_P D vwCl w0 H) (hD : va_D A w0) (isC : List Nat) (hC : isC.map (fun i => w0[i]?) = wc.map some) (hn : va_nd isC = true) (av : List Value) : PreS s H (pcW D Y av wc H.size) av := by
  obtain ⟨hPc, hDc⟩ := q_cut hP hD isC hC hn
  exact ⟨q_blW D Y _ wc _, fun U hU hW => ⟨rfl, by rw [hU], by rw [hU]; exact hPc, va_K.moved hW.alike hK, hDc⟩⟩
theorem q_ctv {T : Type} {w1 : T → va_W} {mc ms : Nat} {av : Array Value} (hr : va_Run p l e R s m args below meth c H locs cells slots mc ms (F0 m pc ls st0) rest (qcA D Y wc H.size w1 av) (va_A wc H.size)) (hP : va_P D vwCl w0 H) (hD : va_D A w0) (hS : va_S A H0 H locs) (hA : ∀ q, H0.size ≤ q → A q) (isC isR : List Nat) (hC : isC.map (fun i => w0[i]?) = wc.map some) (hR : isR.map (fun i => w0[i]?) = wr.map some) (hn2 : va_nd isR = true) (hdis : ∀ i ∈ isR, i ∉ isC)
    (kk : ∀ (a : T) (H1 : Heap) (locs1 : List Loc), va_P D vwCl (wr ++ w1 a) H1 → va_D A (wr ++ w1 a) → va_S A H0 H1 locs1 → W p l e R s m args below meth c H1 locs1 (cells + mc) (slots + ms) Q (F0 m (pc + 3) ls rest)) : W p l e R s m args below meth c H locs cells slots Q (F0 m pc ls st0) := by
  have hFc := va_free hD hS hA isC hC
  refine va_callv hr hS (fun q _ h => hFc q h) hFc (fun u t H1 locs1 ht hvm hw hB hz1 hk1 hS1 => ?_)
  obtain ⟨hP1, -, hD1⟩ := hB
  rw [ht] at hP1
  obtain ⟨a, b⟩ := va_join hP hD isC isR hC hR hn2 hdis hk1 hFc hP1 hD1
  exact kk u H1 locs1 a b hS1
theorem q_cret {T : Type} {w1 : T → va_W} {sz : Nat} (u : T) (hx : p.tables.exec = Jvm.exec) (hb : c.code = cc) (hr : meth.sig.returnType = none) (hlk : meth.locks = false) (hA : va_A wc sz = A) (hK : va_K D vwCl Y s) (hP : va_P D vwCl (w1 u) H) (hD : va_D A (w1 u)) (hS : va_S A s.heap H locs) (hdg : decode cc pc = .ok (.return_, 1)) : W p l e R s m args below meth c H locs cells slots (MQ below (qcA D Y wc sz w1) args s cells slots A) (F0 m pc ls []) := by
  subst hA
  exact W.vret hx hb hr (fun t ht hW => ⟨⟨u, rfl, trivial, by rw [ht]; exact hP, va_K.moved hW.alike hK, hD⟩, hS.F ht⟩) hS.2.2 hdg hlk
end WRC
variable (l : Launch) (dC : Nat → ClassId) (dI : Nat → Nat → Nat) (cI cB cZ : ClassId)

theorem qX0_init_1 : (Cond.methodLink RX0 1 ⟨"java/lang/Object", "<init>", "()V"⟩) ∈ wsX0_init := List.mem_of_getElem? (i := 1) (by decide +kernel)
theorem qX0_init_2 : (Cond.instanceMethod ⟨"java/lang/Object", "<init>", "()V"⟩) ∈ wsX0_init := List.mem_of_getElem? (i := 2) (by decide +kernel)
theorem qX0_init_3 : (Cond.code ⟨"java/lang/Object", "<init>", "()V"⟩ object_method_1_code 1 none) ∈ wsX0_init := List.mem_of_getElem? (i := 3) (by decide +kernel)
theorem qX0_init_4 : (Cond.arrayClass .int) ∈ wsX0_init := List.mem_of_getElem? (i := 4) (by decide +kernel)
theorem qX0_init_5 : (Cond.fieldLink RX0 9 "DeadAsked$Acts" "sorts" "[I") ∈ wsX0_init := List.mem_of_getElem? (i := 5) (by decide +kernel)
theorem qX0_init_6 : (Cond.fieldLink RX0 13 "DeadAsked$Acts" "subjects" "[I") ∈ wsX0_init := List.mem_of_getElem? (i := 6) (by decide +kernel)
theorem qX0_init_7 : (Cond.fieldLink RX0 16 "DeadAsked$Acts" "amounts" "[I") ∈ wsX0_init := List.mem_of_getElem? (i := 7) (by decide +kernel)
theorem nX0_init_i : ∀ w ∈ u_ws RX0 TX0 5, w ∈ wsX0_init := by decide +kernel
theorem hdX0_init : yX0_init.cls ≠ "java/lang/invoke/MethodHandle" ∧ yX0_init.cls ≠ "java/lang/invoke/VarHandle" ∧ (parseMethodDescriptor yX0_init.desc).map (fun d => d.parameters.length) = some 0 := by decide +kernel
set_option maxHeartbeats 4000000 in
set_option maxRecDepth 100000 in
theorem kX0_init (o0 sz : Nat) : Met l yX0_init wsX0_init ({ frames := 1, cells := 3, slots := 72, locals := 12 } : Room) (pcW (dC, dI) (q_ty cI cB cZ) [.ref o0] [(o0, .inr (0, [.null, .null, .null, .int 0, .int 0]))] sz) (qcA (dC, dI) (q_ty cI cB cZ) [(o0, .inr (0, [.null, .null, .null, .int 0, .int 0]))] sz (fun (a : Nat → Nat) => wcA cI o0 a sI_0)) 3 72 (va_A [(o0, .inr (0, [.null, .null, .null, .int 0, .int 0]))] sz) := by
  refine Met.ofW (cc := cX0_init) (maxL := 1) (ret := none) (by decide +kernel) rfl ?_
  intro p e s m args below meth c s₁ B hml hv
  obtain ⟨rfl, hsz, hP, hK, hD0⟩ := hv
  have hx := B.exec
  have hb := B.bytes
  have hr := B.returns
  have hts := atoms_spec (ws := wsX0_init) B.pre
  have hown : s.vm.findClass RX0 = some m.cls := findClass_of_methodNamed B.named
  have hlk := B.notSynchronized
  have hin : meth.name = "<init>" := (name_of_methodNamed B.named B.method).1
  subst hsz
  have hD := hD0.self (sz := s.heap.size)
  have hA : ∀ q : Nat, s.heap.size ≤ q → va_A [(o0, .inr (0, [.null, .null, .null, .int 0, .int 0]))] s.heap.size q := fun q h => Or.inr h
  have hS : va_S (va_A [(o0, .inr (0, [.null, .null, .null, .int 0, .int 0]))] s.heap.size) s.heap s.heap [] := va_S.rf
  generalize hAe : va_A [(o0, .inr (0, [.null, .null, .null, .int 0, .int 0]))] s.heap.size = A at hD hA hS
  rw [lg_entry_eq]
  have hl := lv_entry ([.ref o0]) (n := 1) (Nat.le_of_ble_eq_true rfl)
  generalize (lg_sl ([.ref o0]) ++ List.replicate (1 - (lg_sl ([.ref o0])).length) Slot.unset).toArray = ls at hl ⊢
  have hl : lv_has ls 1 [(0, .ref o0)] := hl
  refine lv_aload_n hx hb dX0_init_0 rfl (lv_at hl 0 rfl) ?_
  refine W.objInit hx hb hown (hts _ qX0_init_1) (hts _ qX0_init_2) (hts _ qX0_init_3) rfl (by rw [hml]; exact hl.1) rfl dX0_init_1 (Nat.le_of_ble_eq_true rfl) (Nat.le_of_ble_eq_true rfl) ?_
  refine W.eq (g2 := F0 m 4 ls []) rfl ?_
  refine lv_aload_n hx hb dX0_init_4 rfl (lv_at hl 0 rfl) ?_
  refine lv_bipush (v := 24) hx hb dX0_init_5 (by decide) ?_
  refine q_newa (atype := .int) (ty := .int) (N' := 24) (a0 := (24, .inl (fun _ => 0))) hx hb (hts _ qX0_init_4) rfl 0 rfl (fun _ h => h) hK hP hD hS hA (fun _ => rfl) (by decide) (by decide) (Nat.le_of_ble_eq_true rfl) (Nat.le_of_ble_eq_true rfl) (Nat.le_of_ble_eq_true rfl) dX0_init_7 (fun q1 H hP hD hS => ?_)
  have hP : va_P (dC, dI) vwCl [(o0, .inr (0, [.null, .null, .null, .int 0, .int 0])), (q1, .inl (cI, 24, .inl (fun _ => 0)))] H := hP
  have hD : va_D A [(o0, .inr (0, [.null, .null, .null, .int 0, .int 0])), (q1, .inl (cI, 24, .inl (fun _ => 0)))] := hD
  refine W.widen (k := 1) (n := 24) (Nat.le_of_ble_eq_true rfl) (Nat.le_of_ble_eq_true rfl) ?_
  refine va_putF (D := (dC, dI)) (ci := 0) (v := .ref q1) (ty := .array .int) (C := RX0) (T := TX0) (N := 5) hx hb hts nX0_init_i tyX0 tyX0_ok nmX0 hown hK hP hD hS 0 rfl rfl 0 (by decide) (hts _ qX0_init_5) (fun _ h9 => h9) rfl hin rfl (by decide +kernel) rfl rfl (Nat.le_of_ble_eq_true rfl) dX0_init_9 (fun H locs hP hD hS => ?_)
  have hP : va_P (dC, dI) vwCl [(o0, .inr (0, [.ref q1, .null, .null, .int 0, .int 0])), (q1, .inl (cI, 24, .inl (fun _ => 0)))] H := hP
  have hD : va_D A [(o0, .inr (0, [.ref q1, .null, .null, .int 0, .int 0])), (q1, .inl (cI, 24, .inl (fun _ => 0)))] := hD
  refine lv_aload_n hx hb dX0_init_12 rfl (lv_at hl 0 rfl) ?_
  refine lv_bipush (v := 24) hx hb dX0_init_13 (by decide) ?_
  refine q_newa (atype := .int) (ty := .int) (N' := 24) (a0 := (24, .inl (fun _ => 0))) hx hb (hts _ qX0_init_4) rfl 0 rfl (fun _ h => h) hK hP hD hS hA (fun _ => rfl) (by decide) (by decide) (Nat.le_of_ble_eq_true rfl) (Nat.le_of_ble_eq_true rfl) (Nat.le_of_ble_eq_true rfl) dX0_init_15 (fun q2 H hP hD hS => ?_)
  have hP : va_P (dC, dI) vwCl [(o0, .inr (0, [.ref q1, .null, .null, .int 0, .int 0])), (q1, .inl (cI, 24, .inl (fun _ => 0))), (q2, .inl (cI, 24, .inl (fun _ => 0)))] H := hP
  have hD : va_D A [(o0, .inr (0, [.ref q1, .null, .null, .int 0, .int 0])), (q1, .inl (cI, 24, .inl (fun _ => 0))), (q2, .inl (cI, 24, .inl (fun _ => 0)))] := hD
  refine W.widen (k := 2) (n := 48) (Nat.le_of_ble_eq_true rfl) (Nat.le_of_ble_eq_true rfl) ?_
  refine va_putF (D := (dC, dI)) (ci := 0) (v := .ref q2) (ty := .array .int) (C := RX0) (T := TX0) (N := 5) hx hb hts nX0_init_i tyX0 tyX0_ok nmX0 hown hK hP hD hS 0 rfl rfl 1 (by decide) (hts _ qX0_init_6) (fun _ h9 => h9) rfl hin rfl (by decide +kernel) rfl rfl (Nat.le_of_ble_eq_true rfl) dX0_init_17 (fun H locs hP hD hS => ?_)
  have hP : va_P (dC, dI) vwCl [(o0, .inr (0, [.ref q1, .ref q2, .null, .int 0, .int 0])), (q1, .inl (cI, 24, .inl (fun _ => 0))), (q2, .inl (cI, 24, .inl (fun _ => 0)))] H := hP
  have hD : va_D A [(o0, .inr (0, [.ref q1, .ref q2, .null, .int 0, .int 0])), (q1, .inl (cI, 24, .inl (fun _ => 0))), (q2, .inl (cI, 24, .inl (fun _ => 0)))] := hD
  refine lv_aload_n hx hb dX0_init_20 rfl (lv_at hl 0 rfl) ?_
  refine lv_bipush (v := 24) hx hb dX0_init_21 (by decide) ?_
  refine q_newa (atype := .int) (ty := .int) (N' := 24) (a0 := (24, .inl (fun _ => 0))) hx hb (hts _ qX0_init_4) rfl 0 rfl (fun _ h => h) hK hP hD hS hA (fun _ => rfl) (by decide) (by decide) (Nat.le_of_ble_eq_true rfl) (Nat.le_of_ble_eq_true rfl) (Nat.le_of_ble_eq_true rfl) dX0_init_23 (fun q3 H hP hD hS => ?_)
  have hP : va_P (dC, dI) vwCl [(o0, .inr (0, [.ref q1, .ref q2, .null, .int 0, .int 0])), (q1, .inl (cI, 24, .inl (fun _ => 0))), (q2, .inl (cI, 24, .inl (fun _ => 0))), (q3, .inl (cI, 24, .inl (fun _ => 0)))] H := hP
  have hD : va_D A [(o0, .inr (0, [.ref q1, .ref q2, .null, .int 0, .int 0])), (q1, .inl (cI, 24, .inl (fun _ => 0))), (q2, .inl (cI, 24, .inl (fun _ => 0))), (q3, .inl (cI, 24, .inl (fun _ => 0)))] := hD
  refine W.widen (k := 3) (n := 72) (Nat.le_of_ble_eq_true rfl) (Nat.le_of_ble_eq_true rfl) ?_
  refine va_putF (D := (dC, dI)) (ci := 0) (v := .ref q3) (ty := .array .int) (C := RX0) (T := TX0) (N := 5) hx hb hts nX0_init_i tyX0 tyX0_ok nmX0 hown hK hP hD hS 0 rfl rfl 2 (by decide) (hts _ qX0_init_7) (fun _ h9 => h9) rfl hin rfl (by decide +kernel) rfl rfl (Nat.le_of_ble_eq_true rfl) dX0_init_25 (fun H locs hP hD hS => ?_)
  have hP : va_P (dC, dI) vwCl [(o0, .inr (0, [.ref q1, .ref q2, .ref q3, .int 0, .int 0])), (q1, .inl (cI, 24, .inl (fun _ => 0))), (q2, .inl (cI, 24, .inl (fun _ => 0))), (q3, .inl (cI, 24, .inl (fun _ => 0)))] H := hP
  have hD : va_D A [(o0, .inr (0, [.ref q1, .ref q2, .ref q3, .int 0, .int 0])), (q1, .inl (cI, 24, .inl (fun _ => 0))), (q2, .inl (cI, 24, .inl (fun _ => 0))), (q3, .inl (cI, 24, .inl (fun _ => 0)))] := hD
  exact q_cret (w1 := (fun (a : Nat → Nat) => wcA cI o0 a sI_0)) (fun k => ([q1, q2, q3, 0, 0] : List Nat).getD k 0) hx hb hr hlk hAe hK hP hD hS dX0_init_28
theorem qX3_init_1 : (Cond.methodLink RX3 3 ⟨"java/lang/Object", "<init>", "()V"⟩) ∈ wsX3_init := List.mem_of_getElem? (i := 1) (by decide +kernel)
theorem qX3_init_2 : (Cond.instanceMethod ⟨"java/lang/Object", "<init>", "()V"⟩) ∈ wsX3_init := List.mem_of_getElem? (i := 2) (by decide +kernel)
theorem qX3_init_3 : (Cond.code ⟨"java/lang/Object", "<init>", "()V"⟩ object_method_1_code 1 none) ∈ wsX3_init := List.mem_of_getElem? (i := 3) (by decide +kernel)
theorem qX3_init_4 : (Cond.arrayClass .int) ∈ wsX3_init := List.mem_of_getElem? (i := 4) (by decide +kernel)
theorem qX3_init_5 : (Cond.fieldLink RX3 9 "DeadAsked$Hill" "winds" "[I") ∈ wsX3_init := List.mem_of_getElem? (i := 5) (by decide +kernel)
theorem qX3_init_6 : (Cond.fieldLink RX3 15 "DeadAsked$Hill" "graveX" "[I") ∈ wsX3_init := List.mem_of_getElem? (i := 6) (by decide +kernel)
theorem qX3_init_7 : (Cond.fieldLink RX3 18 "DeadAsked$Hill" "hears" "[I") ∈ wsX3_init := List.mem_of_getElem? (i := 7) (by decide +kernel)
theorem qX3_init_8 : (Cond.fieldLink RX3 21 "DeadAsked$Hill" "temper" "[I") ∈ wsX3_init := List.mem_of_getElem? (i := 8) (by decide +kernel)
theorem qX3_init_9 : (Cond.fieldLink RX3 24 "DeadAsked$Hill" "against" "[I") ∈ wsX3_init := List.mem_of_getElem? (i := 9) (by decide +kernel)
theorem qX3_init_10 : (Cond.fieldLink RX3 27 "DeadAsked$Hill" "hornX" "[I") ∈ wsX3_init := List.mem_of_getElem? (i := 10) (by decide +kernel)
theorem qX3_init_11 : (Cond.fieldLink RX3 30 "DeadAsked$Hill" "loud" "[I") ∈ wsX3_init := List.mem_of_getElem? (i := 11) (by decide +kernel)
theorem qX3_init_12 : (Cond.fieldLink RX3 33 "DeadAsked$Hill" "kinds" "[I") ∈ wsX3_init := List.mem_of_getElem? (i := 12) (by decide +kernel)
theorem qX3_init_13 : (Cond.fieldLink RX3 36 "DeadAsked$Hill" "treeX" "[I") ∈ wsX3_init := List.mem_of_getElem? (i := 13) (by decide +kernel)
theorem qX3_init_14 : (Cond.fieldLink RX3 39 "DeadAsked$Hill" "fruit" "[I") ∈ wsX3_init := List.mem_of_getElem? (i := 14) (by decide +kernel)
theorem nX3_init_i : ∀ w ∈ u_ws RX3 TX3 14, w ∈ wsX3_init := by decide +kernel
theorem hdX3_init : yX3_init.cls ≠ "java/lang/invoke/MethodHandle" ∧ yX3_init.cls ≠ "java/lang/invoke/VarHandle" ∧ (parseMethodDescriptor yX3_init.desc).map (fun d => d.parameters.length) = some 0 := by decide +kernel
set_option maxHeartbeats 4000000 in
set_option maxRecDepth 100000 in
theorem kX3_init (o0 sz : Nat) : Met l yX3_init wsX3_init ({ frames := 1, cells := 10, slots := 52, locals := 12 } : Room) (pcW (dC, dI) (q_ty cI cB cZ) [.ref o0] [(o0, .inr (3, [.null, .null, .null, .null, .null, .null, .null, .null, .null, .null, .int 0, .int 0, .int 0, .int 0]))] sz) (qcA (dC, dI) (q_ty cI cB cZ) [(o0, .inr (3, [.null, .null, .null, .null, .null, .null, .null, .null, .null, .null, .int 0, .int 0, .int 0, .int 0]))] sz (fun (a : Nat → Nat) => wcH cI o0 a sI_0)) 10 52 (va_A [(o0, .inr (3, [.null, .null, .null, .null, .null, .null, .null, .null, .null, .null, .int 0, .int 0, .int 0, .int 0]))] sz) := by
  refine Met.ofW (cc := cX3_init) (maxL := 1) (ret := none) (by decide +kernel) rfl ?_
  intro p e s m args below meth c s₁ B hml hv
  obtain ⟨rfl, hsz, hP, hK, hD0⟩ := hv
  have hx := B.exec
  have hb := B.bytes
  have hr := B.returns
  have hts := atoms_spec (ws := wsX3_init) B.pre
  have hown : s.vm.findClass RX3 = some m.cls := findClass_of_methodNamed B.named
  have hlk := B.notSynchronized
  have hin : meth.name = "<init>" := (name_of_methodNamed B.named B.method).1
  subst hsz
  have hD := hD0.self (sz := s.heap.size)
  have hA : ∀ q : Nat, s.heap.size ≤ q → va_A [(o0, .inr (3, [.null, .null, .null, .null, .null, .null, .null, .null, .null, .null, .int 0, .int 0, .int 0, .int 0]))] s.heap.size q := fun q h => Or.inr h
  have hS : va_S (va_A [(o0, .inr (3, [.null, .null, .null, .null, .null, .null, .null, .null, .null, .null, .int 0, .int 0, .int 0, .int 0]))] s.heap.size) s.heap s.heap [] := va_S.rf
  generalize hAe : va_A [(o0, .inr (3, [.null, .null, .null, .null, .null, .null, .null, .null, .null, .null, .int 0, .int 0, .int 0, .int 0]))] s.heap.size = A at hD hA hS
  rw [lg_entry_eq]
  have hl := lv_entry ([.ref o0]) (n := 1) (Nat.le_of_ble_eq_true rfl)
  generalize (lg_sl ([.ref o0]) ++ List.replicate (1 - (lg_sl ([.ref o0])).length) Slot.unset).toArray = ls at hl ⊢
  have hl : lv_has ls 1 [(0, .ref o0)] := hl
  refine lv_aload_n hx hb dX3_init_0 rfl (lv_at hl 0 rfl) ?_
  refine W.objInit hx hb hown (hts _ qX3_init_1) (hts _ qX3_init_2) (hts _ qX3_init_3) rfl (by rw [hml]; exact hl.1) rfl dX3_init_1 (Nat.le_of_ble_eq_true rfl) (Nat.le_of_ble_eq_true rfl) ?_
  refine W.eq (g2 := F0 m 4 ls []) rfl ?_
  refine lv_aload_n hx hb dX3_init_4 rfl (lv_at hl 0 rfl) ?_
  refine lv_bipush (v := 12) hx hb dX3_init_5 (by decide) ?_
  refine q_newa (atype := .int) (ty := .int) (N' := 12) (a0 := (12, .inl (fun _ => 0))) hx hb (hts _ qX3_init_4) rfl 0 rfl (fun _ h => h) hK hP hD hS hA (fun _ => rfl) (by decide) (by decide) (Nat.le_of_ble_eq_true rfl) (Nat.le_of_ble_eq_true rfl) (Nat.le_of_ble_eq_true rfl) dX3_init_7 (fun q1 H hP hD hS => ?_)
  have hP : va_P (dC, dI) vwCl [(o0, .inr (3, [.null, .null, .null, .null, .null, .null, .null, .null, .null, .null, .int 0, .int 0, .int 0, .int 0])), (q1, .inl (cI, 12, .inl (fun _ => 0)))] H := hP
  have hD : va_D A [(o0, .inr (3, [.null, .null, .null, .null, .null, .null, .null, .null, .null, .null, .int 0, .int 0, .int 0, .int 0])), (q1, .inl (cI, 12, .inl (fun _ => 0)))] := hD
  refine W.widen (k := 1) (n := 12) (Nat.le_of_ble_eq_true rfl) (Nat.le_of_ble_eq_true rfl) ?_
  refine va_putF (D := (dC, dI)) (ci := 3) (v := .ref q1) (ty := .array .int) (C := RX3) (T := TX3) (N := 14) hx hb hts nX3_init_i tyX3 tyX3_ok nmX3 hown hK hP hD hS 0 rfl rfl 0 (by decide) (hts _ qX3_init_5) (fun _ h9 => h9) rfl hin rfl (by decide +kernel) rfl rfl (Nat.le_of_ble_eq_true rfl) dX3_init_9 (fun H locs hP hD hS => ?_)
  have hP : va_P (dC, dI) vwCl [(o0, .inr (3, [.ref q1, .null, .null, .null, .null, .null, .null, .null, .null, .null, .int 0, .int 0, .int 0, .int 0])), (q1, .inl (cI, 12, .inl (fun _ => 0)))] H := hP
  have hD : va_D A [(o0, .inr (3, [.ref q1, .null, .null, .null, .null, .null, .null, .null, .null, .null, .int 0, .int 0, .int 0, .int 0])), (q1, .inl (cI, 12, .inl (fun _ => 0)))] := hD
  refine lv_aload_n hx hb dX3_init_12 rfl (lv_at hl 0 rfl) ?_
  refine lv_iconst (v := 5) hx hb dX3_init_13 (by decide) ?_
  refine q_newa (atype := .int) (ty := .int) (N' := 5) (a0 := (5, .inl (fun _ => 0))) hx hb (hts _ qX3_init_4) rfl 0 rfl (fun _ h => h) hK hP hD hS hA (fun _ => rfl) (by decide) (by decide) (Nat.le_of_ble_eq_true rfl) (Nat.le_of_ble_eq_true rfl) (Nat.le_of_ble_eq_true rfl) dX3_init_14 (fun q2 H hP hD hS => ?_)
  have hP : va_P (dC, dI) vwCl [(o0, .inr (3, [.ref q1, .null, .null, .null, .null, .null, .null, .null, .null, .null, .int 0, .int 0, .int 0, .int 0])), (q1, .inl (cI, 12, .inl (fun _ => 0))), (q2, .inl (cI, 5, .inl (fun _ => 0)))] H := hP
  have hD : va_D A [(o0, .inr (3, [.ref q1, .null, .null, .null, .null, .null, .null, .null, .null, .null, .int 0, .int 0, .int 0, .int 0])), (q1, .inl (cI, 12, .inl (fun _ => 0))), (q2, .inl (cI, 5, .inl (fun _ => 0)))] := hD
  refine W.widen (k := 2) (n := 17) (Nat.le_of_ble_eq_true rfl) (Nat.le_of_ble_eq_true rfl) ?_
  refine va_putF (D := (dC, dI)) (ci := 3) (v := .ref q2) (ty := .array .int) (C := RX3) (T := TX3) (N := 14) hx hb hts nX3_init_i tyX3 tyX3_ok nmX3 hown hK hP hD hS 0 rfl rfl 1 (by decide) (hts _ qX3_init_6) (fun _ h9 => h9) rfl hin rfl (by decide +kernel) rfl rfl (Nat.le_of_ble_eq_true rfl) dX3_init_16 (fun H locs hP hD hS => ?_)
  have hP : va_P (dC, dI) vwCl [(o0, .inr (3, [.ref q1, .ref q2, .null, .null, .null, .null, .null, .null, .null, .null, .int 0, .int 0, .int 0, .int 0])), (q1, .inl (cI, 12, .inl (fun _ => 0))), (q2, .inl (cI, 5, .inl (fun _ => 0)))] H := hP
  have hD : va_D A [(o0, .inr (3, [.ref q1, .ref q2, .null, .null, .null, .null, .null, .null, .null, .null, .int 0, .int 0, .int 0, .int 0])), (q1, .inl (cI, 12, .inl (fun _ => 0))), (q2, .inl (cI, 5, .inl (fun _ => 0)))] := hD
  refine lv_aload_n hx hb dX3_init_19 rfl (lv_at hl 0 rfl) ?_
  refine lv_iconst (v := 5) hx hb dX3_init_20 (by decide) ?_
  refine q_newa (atype := .int) (ty := .int) (N' := 5) (a0 := (5, .inl (fun _ => 0))) hx hb (hts _ qX3_init_4) rfl 0 rfl (fun _ h => h) hK hP hD hS hA (fun _ => rfl) (by decide) (by decide) (Nat.le_of_ble_eq_true rfl) (Nat.le_of_ble_eq_true rfl) (Nat.le_of_ble_eq_true rfl) dX3_init_21 (fun q3 H hP hD hS => ?_)
  have hP : va_P (dC, dI) vwCl [(o0, .inr (3, [.ref q1, .ref q2, .null, .null, .null, .null, .null, .null, .null, .null, .int 0, .int 0, .int 0, .int 0])), (q1, .inl (cI, 12, .inl (fun _ => 0))), (q2, .inl (cI, 5, .inl (fun _ => 0))), (q3, .inl (cI, 5, .inl (fun _ => 0)))] H := hP
  have hD : va_D A [(o0, .inr (3, [.ref q1, .ref q2, .null, .null, .null, .null, .null, .null, .null, .null, .int 0, .int 0, .int 0, .int 0])), (q1, .inl (cI, 12, .inl (fun _ => 0))), (q2, .inl (cI, 5, .inl (fun _ => 0))), (q3, .inl (cI, 5, .inl (fun _ => 0)))] := hD
  refine W.widen (k := 3) (n := 22) (Nat.le_of_ble_eq_true rfl) (Nat.le_of_ble_eq_true rfl) ?_
  refine va_putF (D := (dC, dI)) (ci := 3) (v := .ref q3) (ty := .array .int) (C := RX3) (T := TX3) (N := 14) hx hb hts nX3_init_i tyX3 tyX3_ok nmX3 hown hK hP hD hS 0 rfl rfl 2 (by decide) (hts _ qX3_init_7) (fun _ h9 => h9) rfl hin rfl (by decide +kernel) rfl rfl (Nat.le_of_ble_eq_true rfl) dX3_init_23 (fun H locs hP hD hS => ?_)
  have hP : va_P (dC, dI) vwCl [(o0, .inr (3, [.ref q1, .ref q2, .ref q3, .null, .null, .null, .null, .null, .null, .null, .int 0, .int 0, .int 0, .int 0])), (q1, .inl (cI, 12, .inl (fun _ => 0))), (q2, .inl (cI, 5, .inl (fun _ => 0))), (q3, .inl (cI, 5, .inl (fun _ => 0)))] H := hP
  have hD : va_D A [(o0, .inr (3, [.ref q1, .ref q2, .ref q3, .null, .null, .null, .null, .null, .null, .null, .int 0, .int 0, .int 0, .int 0])), (q1, .inl (cI, 12, .inl (fun _ => 0))), (q2, .inl (cI, 5, .inl (fun _ => 0))), (q3, .inl (cI, 5, .inl (fun _ => 0)))] := hD
  refine lv_aload_n hx hb dX3_init_26 rfl (lv_at hl 0 rfl) ?_
  refine lv_iconst (v := 5) hx hb dX3_init_27 (by decide) ?_
  refine q_newa (atype := .int) (ty := .int) (N' := 5) (a0 := (5, .inl (fun _ => 0))) hx hb (hts _ qX3_init_4) rfl 0 rfl (fun _ h => h) hK hP hD hS hA (fun _ => rfl) (by decide) (by decide) (Nat.le_of_ble_eq_true rfl) (Nat.le_of_ble_eq_true rfl) (Nat.le_of_ble_eq_true rfl) dX3_init_28 (fun q4 H hP hD hS => ?_)
  have hP : va_P (dC, dI) vwCl [(o0, .inr (3, [.ref q1, .ref q2, .ref q3, .null, .null, .null, .null, .null, .null, .null, .int 0, .int 0, .int 0, .int 0])), (q1, .inl (cI, 12, .inl (fun _ => 0))), (q2, .inl (cI, 5, .inl (fun _ => 0))), (q3, .inl (cI, 5, .inl (fun _ => 0))), (q4, .inl (cI, 5, .inl (fun _ => 0)))] H := hP
  have hD : va_D A [(o0, .inr (3, [.ref q1, .ref q2, .ref q3, .null, .null, .null, .null, .null, .null, .null, .int 0, .int 0, .int 0, .int 0])), (q1, .inl (cI, 12, .inl (fun _ => 0))), (q2, .inl (cI, 5, .inl (fun _ => 0))), (q3, .inl (cI, 5, .inl (fun _ => 0))), (q4, .inl (cI, 5, .inl (fun _ => 0)))] := hD
  refine W.widen (k := 4) (n := 27) (Nat.le_of_ble_eq_true rfl) (Nat.le_of_ble_eq_true rfl) ?_
  refine va_putF (D := (dC, dI)) (ci := 3) (v := .ref q4) (ty := .array .int) (C := RX3) (T := TX3) (N := 14) hx hb hts nX3_init_i tyX3 tyX3_ok nmX3 hown hK hP hD hS 0 rfl rfl 3 (by decide) (hts _ qX3_init_8) (fun _ h9 => h9) rfl hin rfl (by decide +kernel) rfl rfl (Nat.le_of_ble_eq_true rfl) dX3_init_30 (fun H locs hP hD hS => ?_)
  have hP : va_P (dC, dI) vwCl [(o0, .inr (3, [.ref q1, .ref q2, .ref q3, .ref q4, .null, .null, .null, .null, .null, .null, .int 0, .int 0, .int 0, .int 0])), (q1, .inl (cI, 12, .inl (fun _ => 0))), (q2, .inl (cI, 5, .inl (fun _ => 0))), (q3, .inl (cI, 5, .inl (fun _ => 0))), (q4, .inl (cI, 5, .inl (fun _ => 0)))] H := hP
  have hD : va_D A [(o0, .inr (3, [.ref q1, .ref q2, .ref q3, .ref q4, .null, .null, .null, .null, .null, .null, .int 0, .int 0, .int 0, .int 0])), (q1, .inl (cI, 12, .inl (fun _ => 0))), (q2, .inl (cI, 5, .inl (fun _ => 0))), (q3, .inl (cI, 5, .inl (fun _ => 0))), (q4, .inl (cI, 5, .inl (fun _ => 0)))] := hD
  refine lv_aload_n hx hb dX3_init_33 rfl (lv_at hl 0 rfl) ?_
  refine lv_iconst (v := 5) hx hb dX3_init_34 (by decide) ?_
  refine q_newa (atype := .int) (ty := .int) (N' := 5) (a0 := (5, .inl (fun _ => 0))) hx hb (hts _ qX3_init_4) rfl 0 rfl (fun _ h => h) hK hP hD hS hA (fun _ => rfl) (by decide) (by decide) (Nat.le_of_ble_eq_true rfl) (Nat.le_of_ble_eq_true rfl) (Nat.le_of_ble_eq_true rfl) dX3_init_35 (fun q5 H hP hD hS => ?_)
  have hP : va_P (dC, dI) vwCl [(o0, .inr (3, [.ref q1, .ref q2, .ref q3, .ref q4, .null, .null, .null, .null, .null, .null, .int 0, .int 0, .int 0, .int 0])), (q1, .inl (cI, 12, .inl (fun _ => 0))), (q2, .inl (cI, 5, .inl (fun _ => 0))), (q3, .inl (cI, 5, .inl (fun _ => 0))), (q4, .inl (cI, 5, .inl (fun _ => 0))), (q5, .inl (cI, 5, .inl (fun _ => 0)))] H := hP
  have hD : va_D A [(o0, .inr (3, [.ref q1, .ref q2, .ref q3, .ref q4, .null, .null, .null, .null, .null, .null, .int 0, .int 0, .int 0, .int 0])), (q1, .inl (cI, 12, .inl (fun _ => 0))), (q2, .inl (cI, 5, .inl (fun _ => 0))), (q3, .inl (cI, 5, .inl (fun _ => 0))), (q4, .inl (cI, 5, .inl (fun _ => 0))), (q5, .inl (cI, 5, .inl (fun _ => 0)))] := hD
  refine W.widen (k := 5) (n := 32) (Nat.le_of_ble_eq_true rfl) (Nat.le_of_ble_eq_true rfl) ?_
  refine va_putF (D := (dC, dI)) (ci := 3) (v := .ref q5) (ty := .array .int) (C := RX3) (T := TX3) (N := 14) hx hb hts nX3_init_i tyX3 tyX3_ok nmX3 hown hK hP hD hS 0 rfl rfl 4 (by decide) (hts _ qX3_init_9) (fun _ h9 => h9) rfl hin rfl (by decide +kernel) rfl rfl (Nat.le_of_ble_eq_true rfl) dX3_init_37 (fun H locs hP hD hS => ?_)
  have hP : va_P (dC, dI) vwCl [(o0, .inr (3, [.ref q1, .ref q2, .ref q3, .ref q4, .ref q5, .null, .null, .null, .null, .null, .int 0, .int 0, .int 0, .int 0])), (q1, .inl (cI, 12, .inl (fun _ => 0))), (q2, .inl (cI, 5, .inl (fun _ => 0))), (q3, .inl (cI, 5, .inl (fun _ => 0))), (q4, .inl (cI, 5, .inl (fun _ => 0))), (q5, .inl (cI, 5, .inl (fun _ => 0)))] H := hP
  have hD : va_D A [(o0, .inr (3, [.ref q1, .ref q2, .ref q3, .ref q4, .ref q5, .null, .null, .null, .null, .null, .int 0, .int 0, .int 0, .int 0])), (q1, .inl (cI, 12, .inl (fun _ => 0))), (q2, .inl (cI, 5, .inl (fun _ => 0))), (q3, .inl (cI, 5, .inl (fun _ => 0))), (q4, .inl (cI, 5, .inl (fun _ => 0))), (q5, .inl (cI, 5, .inl (fun _ => 0)))] := hD
  refine lv_aload_n hx hb dX3_init_40 rfl (lv_at hl 0 rfl) ?_
  refine lv_iconst (v := 4) hx hb dX3_init_41 (by decide) ?_
  refine q_newa (atype := .int) (ty := .int) (N' := 4) (a0 := (4, .inl (fun _ => 0))) hx hb (hts _ qX3_init_4) rfl 0 rfl (fun _ h => h) hK hP hD hS hA (fun _ => rfl) (by decide) (by decide) (Nat.le_of_ble_eq_true rfl) (Nat.le_of_ble_eq_true rfl) (Nat.le_of_ble_eq_true rfl) dX3_init_42 (fun q6 H hP hD hS => ?_)
  have hP : va_P (dC, dI) vwCl [(o0, .inr (3, [.ref q1, .ref q2, .ref q3, .ref q4, .ref q5, .null, .null, .null, .null, .null, .int 0, .int 0, .int 0, .int 0])), (q1, .inl (cI, 12, .inl (fun _ => 0))), (q2, .inl (cI, 5, .inl (fun _ => 0))), (q3, .inl (cI, 5, .inl (fun _ => 0))), (q4, .inl (cI, 5, .inl (fun _ => 0))), (q5, .inl (cI, 5, .inl (fun _ => 0))), (q6, .inl (cI, 4, .inl (fun _ => 0)))] H := hP
  have hD : va_D A [(o0, .inr (3, [.ref q1, .ref q2, .ref q3, .ref q4, .ref q5, .null, .null, .null, .null, .null, .int 0, .int 0, .int 0, .int 0])), (q1, .inl (cI, 12, .inl (fun _ => 0))), (q2, .inl (cI, 5, .inl (fun _ => 0))), (q3, .inl (cI, 5, .inl (fun _ => 0))), (q4, .inl (cI, 5, .inl (fun _ => 0))), (q5, .inl (cI, 5, .inl (fun _ => 0))), (q6, .inl (cI, 4, .inl (fun _ => 0)))] := hD
  refine W.widen (k := 6) (n := 36) (Nat.le_of_ble_eq_true rfl) (Nat.le_of_ble_eq_true rfl) ?_
  refine va_putF (D := (dC, dI)) (ci := 3) (v := .ref q6) (ty := .array .int) (C := RX3) (T := TX3) (N := 14) hx hb hts nX3_init_i tyX3 tyX3_ok nmX3 hown hK hP hD hS 0 rfl rfl 5 (by decide) (hts _ qX3_init_10) (fun _ h9 => h9) rfl hin rfl (by decide +kernel) rfl rfl (Nat.le_of_ble_eq_true rfl) dX3_init_44 (fun H locs hP hD hS => ?_)
  have hP : va_P (dC, dI) vwCl [(o0, .inr (3, [.ref q1, .ref q2, .ref q3, .ref q4, .ref q5, .ref q6, .null, .null, .null, .null, .int 0, .int 0, .int 0, .int 0])), (q1, .inl (cI, 12, .inl (fun _ => 0))), (q2, .inl (cI, 5, .inl (fun _ => 0))), (q3, .inl (cI, 5, .inl (fun _ => 0))), (q4, .inl (cI, 5, .inl (fun _ => 0))), (q5, .inl (cI, 5, .inl (fun _ => 0))), (q6, .inl (cI, 4, .inl (fun _ => 0)))] H := hP
  have hD : va_D A [(o0, .inr (3, [.ref q1, .ref q2, .ref q3, .ref q4, .ref q5, .ref q6, .null, .null, .null, .null, .int 0, .int 0, .int 0, .int 0])), (q1, .inl (cI, 12, .inl (fun _ => 0))), (q2, .inl (cI, 5, .inl (fun _ => 0))), (q3, .inl (cI, 5, .inl (fun _ => 0))), (q4, .inl (cI, 5, .inl (fun _ => 0))), (q5, .inl (cI, 5, .inl (fun _ => 0))), (q6, .inl (cI, 4, .inl (fun _ => 0)))] := hD
  refine lv_aload_n hx hb dX3_init_47 rfl (lv_at hl 0 rfl) ?_
  refine lv_iconst (v := 4) hx hb dX3_init_48 (by decide) ?_
  refine q_newa (atype := .int) (ty := .int) (N' := 4) (a0 := (4, .inl (fun _ => 0))) hx hb (hts _ qX3_init_4) rfl 0 rfl (fun _ h => h) hK hP hD hS hA (fun _ => rfl) (by decide) (by decide) (Nat.le_of_ble_eq_true rfl) (Nat.le_of_ble_eq_true rfl) (Nat.le_of_ble_eq_true rfl) dX3_init_49 (fun q7 H hP hD hS => ?_)
  have hP : va_P (dC, dI) vwCl [(o0, .inr (3, [.ref q1, .ref q2, .ref q3, .ref q4, .ref q5, .ref q6, .null, .null, .null, .null, .int 0, .int 0, .int 0, .int 0])), (q1, .inl (cI, 12, .inl (fun _ => 0))), (q2, .inl (cI, 5, .inl (fun _ => 0))), (q3, .inl (cI, 5, .inl (fun _ => 0))), (q4, .inl (cI, 5, .inl (fun _ => 0))), (q5, .inl (cI, 5, .inl (fun _ => 0))), (q6, .inl (cI, 4, .inl (fun _ => 0))), (q7, .inl (cI, 4, .inl (fun _ => 0)))] H := hP
  have hD : va_D A [(o0, .inr (3, [.ref q1, .ref q2, .ref q3, .ref q4, .ref q5, .ref q6, .null, .null, .null, .null, .int 0, .int 0, .int 0, .int 0])), (q1, .inl (cI, 12, .inl (fun _ => 0))), (q2, .inl (cI, 5, .inl (fun _ => 0))), (q3, .inl (cI, 5, .inl (fun _ => 0))), (q4, .inl (cI, 5, .inl (fun _ => 0))), (q5, .inl (cI, 5, .inl (fun _ => 0))), (q6, .inl (cI, 4, .inl (fun _ => 0))), (q7, .inl (cI, 4, .inl (fun _ => 0)))] := hD
  refine W.widen (k := 7) (n := 40) (Nat.le_of_ble_eq_true rfl) (Nat.le_of_ble_eq_true rfl) ?_
  refine va_putF (D := (dC, dI)) (ci := 3) (v := .ref q7) (ty := .array .int) (C := RX3) (T := TX3) (N := 14) hx hb hts nX3_init_i tyX3 tyX3_ok nmX3 hown hK hP hD hS 0 rfl rfl 6 (by decide) (hts _ qX3_init_11) (fun _ h9 => h9) rfl hin rfl (by decide +kernel) rfl rfl (Nat.le_of_ble_eq_true rfl) dX3_init_51 (fun H locs hP hD hS => ?_)
  have hP : va_P (dC, dI) vwCl [(o0, .inr (3, [.ref q1, .ref q2, .ref q3, .ref q4, .ref q5, .ref q6, .ref q7, .null, .null, .null, .int 0, .int 0, .int 0, .int 0])), (q1, .inl (cI, 12, .inl (fun _ => 0))), (q2, .inl (cI, 5, .inl (fun _ => 0))), (q3, .inl (cI, 5, .inl (fun _ => 0))), (q4, .inl (cI, 5, .inl (fun _ => 0))), (q5, .inl (cI, 5, .inl (fun _ => 0))), (q6, .inl (cI, 4, .inl (fun _ => 0))), (q7, .inl (cI, 4, .inl (fun _ => 0)))] H := hP
  have hD : va_D A [(o0, .inr (3, [.ref q1, .ref q2, .ref q3, .ref q4, .ref q5, .ref q6, .ref q7, .null, .null, .null, .int 0, .int 0, .int 0, .int 0])), (q1, .inl (cI, 12, .inl (fun _ => 0))), (q2, .inl (cI, 5, .inl (fun _ => 0))), (q3, .inl (cI, 5, .inl (fun _ => 0))), (q4, .inl (cI, 5, .inl (fun _ => 0))), (q5, .inl (cI, 5, .inl (fun _ => 0))), (q6, .inl (cI, 4, .inl (fun _ => 0))), (q7, .inl (cI, 4, .inl (fun _ => 0)))] := hD
  refine lv_aload_n hx hb dX3_init_54 rfl (lv_at hl 0 rfl) ?_
  refine lv_iconst (v := 4) hx hb dX3_init_55 (by decide) ?_
  refine q_newa (atype := .int) (ty := .int) (N' := 4) (a0 := (4, .inl (fun _ => 0))) hx hb (hts _ qX3_init_4) rfl 0 rfl (fun _ h => h) hK hP hD hS hA (fun _ => rfl) (by decide) (by decide) (Nat.le_of_ble_eq_true rfl) (Nat.le_of_ble_eq_true rfl) (Nat.le_of_ble_eq_true rfl) dX3_init_56 (fun q8 H hP hD hS => ?_)
  have hP : va_P (dC, dI) vwCl [(o0, .inr (3, [.ref q1, .ref q2, .ref q3, .ref q4, .ref q5, .ref q6, .ref q7, .null, .null, .null, .int 0, .int 0, .int 0, .int 0])), (q1, .inl (cI, 12, .inl (fun _ => 0))), (q2, .inl (cI, 5, .inl (fun _ => 0))), (q3, .inl (cI, 5, .inl (fun _ => 0))), (q4, .inl (cI, 5, .inl (fun _ => 0))), (q5, .inl (cI, 5, .inl (fun _ => 0))), (q6, .inl (cI, 4, .inl (fun _ => 0))), (q7, .inl (cI, 4, .inl (fun _ => 0))), (q8, .inl (cI, 4, .inl (fun _ => 0)))] H := hP
  have hD : va_D A [(o0, .inr (3, [.ref q1, .ref q2, .ref q3, .ref q4, .ref q5, .ref q6, .ref q7, .null, .null, .null, .int 0, .int 0, .int 0, .int 0])), (q1, .inl (cI, 12, .inl (fun _ => 0))), (q2, .inl (cI, 5, .inl (fun _ => 0))), (q3, .inl (cI, 5, .inl (fun _ => 0))), (q4, .inl (cI, 5, .inl (fun _ => 0))), (q5, .inl (cI, 5, .inl (fun _ => 0))), (q6, .inl (cI, 4, .inl (fun _ => 0))), (q7, .inl (cI, 4, .inl (fun _ => 0))), (q8, .inl (cI, 4, .inl (fun _ => 0)))] := hD
  refine W.widen (k := 8) (n := 44) (Nat.le_of_ble_eq_true rfl) (Nat.le_of_ble_eq_true rfl) ?_
  refine va_putF (D := (dC, dI)) (ci := 3) (v := .ref q8) (ty := .array .int) (C := RX3) (T := TX3) (N := 14) hx hb hts nX3_init_i tyX3 tyX3_ok nmX3 hown hK hP hD hS 0 rfl rfl 7 (by decide) (hts _ qX3_init_12) (fun _ h9 => h9) rfl hin rfl (by decide +kernel) rfl rfl (Nat.le_of_ble_eq_true rfl) dX3_init_58 (fun H locs hP hD hS => ?_)
  have hP : va_P (dC, dI) vwCl [(o0, .inr (3, [.ref q1, .ref q2, .ref q3, .ref q4, .ref q5, .ref q6, .ref q7, .ref q8, .null, .null, .int 0, .int 0, .int 0, .int 0])), (q1, .inl (cI, 12, .inl (fun _ => 0))), (q2, .inl (cI, 5, .inl (fun _ => 0))), (q3, .inl (cI, 5, .inl (fun _ => 0))), (q4, .inl (cI, 5, .inl (fun _ => 0))), (q5, .inl (cI, 5, .inl (fun _ => 0))), (q6, .inl (cI, 4, .inl (fun _ => 0))), (q7, .inl (cI, 4, .inl (fun _ => 0))), (q8, .inl (cI, 4, .inl (fun _ => 0)))] H := hP
  have hD : va_D A [(o0, .inr (3, [.ref q1, .ref q2, .ref q3, .ref q4, .ref q5, .ref q6, .ref q7, .ref q8, .null, .null, .int 0, .int 0, .int 0, .int 0])), (q1, .inl (cI, 12, .inl (fun _ => 0))), (q2, .inl (cI, 5, .inl (fun _ => 0))), (q3, .inl (cI, 5, .inl (fun _ => 0))), (q4, .inl (cI, 5, .inl (fun _ => 0))), (q5, .inl (cI, 5, .inl (fun _ => 0))), (q6, .inl (cI, 4, .inl (fun _ => 0))), (q7, .inl (cI, 4, .inl (fun _ => 0))), (q8, .inl (cI, 4, .inl (fun _ => 0)))] := hD
  refine lv_aload_n hx hb dX3_init_61 rfl (lv_at hl 0 rfl) ?_
  refine lv_iconst (v := 4) hx hb dX3_init_62 (by decide) ?_
  refine q_newa (atype := .int) (ty := .int) (N' := 4) (a0 := (4, .inl (fun _ => 0))) hx hb (hts _ qX3_init_4) rfl 0 rfl (fun _ h => h) hK hP hD hS hA (fun _ => rfl) (by decide) (by decide) (Nat.le_of_ble_eq_true rfl) (Nat.le_of_ble_eq_true rfl) (Nat.le_of_ble_eq_true rfl) dX3_init_63 (fun q9 H hP hD hS => ?_)
  have hP : va_P (dC, dI) vwCl [(o0, .inr (3, [.ref q1, .ref q2, .ref q3, .ref q4, .ref q5, .ref q6, .ref q7, .ref q8, .null, .null, .int 0, .int 0, .int 0, .int 0])), (q1, .inl (cI, 12, .inl (fun _ => 0))), (q2, .inl (cI, 5, .inl (fun _ => 0))), (q3, .inl (cI, 5, .inl (fun _ => 0))), (q4, .inl (cI, 5, .inl (fun _ => 0))), (q5, .inl (cI, 5, .inl (fun _ => 0))), (q6, .inl (cI, 4, .inl (fun _ => 0))), (q7, .inl (cI, 4, .inl (fun _ => 0))), (q8, .inl (cI, 4, .inl (fun _ => 0))), (q9, .inl (cI, 4, .inl (fun _ => 0)))] H := hP
  have hD : va_D A [(o0, .inr (3, [.ref q1, .ref q2, .ref q3, .ref q4, .ref q5, .ref q6, .ref q7, .ref q8, .null, .null, .int 0, .int 0, .int 0, .int 0])), (q1, .inl (cI, 12, .inl (fun _ => 0))), (q2, .inl (cI, 5, .inl (fun _ => 0))), (q3, .inl (cI, 5, .inl (fun _ => 0))), (q4, .inl (cI, 5, .inl (fun _ => 0))), (q5, .inl (cI, 5, .inl (fun _ => 0))), (q6, .inl (cI, 4, .inl (fun _ => 0))), (q7, .inl (cI, 4, .inl (fun _ => 0))), (q8, .inl (cI, 4, .inl (fun _ => 0))), (q9, .inl (cI, 4, .inl (fun _ => 0)))] := hD
  refine W.widen (k := 9) (n := 48) (Nat.le_of_ble_eq_true rfl) (Nat.le_of_ble_eq_true rfl) ?_
  refine va_putF (D := (dC, dI)) (ci := 3) (v := .ref q9) (ty := .array .int) (C := RX3) (T := TX3) (N := 14) hx hb hts nX3_init_i tyX3 tyX3_ok nmX3 hown hK hP hD hS 0 rfl rfl 8 (by decide) (hts _ qX3_init_13) (fun _ h9 => h9) rfl hin rfl (by decide +kernel) rfl rfl (Nat.le_of_ble_eq_true rfl) dX3_init_65 (fun H locs hP hD hS => ?_)
  have hP : va_P (dC, dI) vwCl [(o0, .inr (3, [.ref q1, .ref q2, .ref q3, .ref q4, .ref q5, .ref q6, .ref q7, .ref q8, .ref q9, .null, .int 0, .int 0, .int 0, .int 0])), (q1, .inl (cI, 12, .inl (fun _ => 0))), (q2, .inl (cI, 5, .inl (fun _ => 0))), (q3, .inl (cI, 5, .inl (fun _ => 0))), (q4, .inl (cI, 5, .inl (fun _ => 0))), (q5, .inl (cI, 5, .inl (fun _ => 0))), (q6, .inl (cI, 4, .inl (fun _ => 0))), (q7, .inl (cI, 4, .inl (fun _ => 0))), (q8, .inl (cI, 4, .inl (fun _ => 0))), (q9, .inl (cI, 4, .inl (fun _ => 0)))] H := hP
  have hD : va_D A [(o0, .inr (3, [.ref q1, .ref q2, .ref q3, .ref q4, .ref q5, .ref q6, .ref q7, .ref q8, .ref q9, .null, .int 0, .int 0, .int 0, .int 0])), (q1, .inl (cI, 12, .inl (fun _ => 0))), (q2, .inl (cI, 5, .inl (fun _ => 0))), (q3, .inl (cI, 5, .inl (fun _ => 0))), (q4, .inl (cI, 5, .inl (fun _ => 0))), (q5, .inl (cI, 5, .inl (fun _ => 0))), (q6, .inl (cI, 4, .inl (fun _ => 0))), (q7, .inl (cI, 4, .inl (fun _ => 0))), (q8, .inl (cI, 4, .inl (fun _ => 0))), (q9, .inl (cI, 4, .inl (fun _ => 0)))] := hD
  refine lv_aload_n hx hb dX3_init_68 rfl (lv_at hl 0 rfl) ?_
  refine lv_iconst (v := 4) hx hb dX3_init_69 (by decide) ?_
  refine q_newa (atype := .int) (ty := .int) (N' := 4) (a0 := (4, .inl (fun _ => 0))) hx hb (hts _ qX3_init_4) rfl 0 rfl (fun _ h => h) hK hP hD hS hA (fun _ => rfl) (by decide) (by decide) (Nat.le_of_ble_eq_true rfl) (Nat.le_of_ble_eq_true rfl) (Nat.le_of_ble_eq_true rfl) dX3_init_70 (fun q10 H hP hD hS => ?_)
  have hP : va_P (dC, dI) vwCl [(o0, .inr (3, [.ref q1, .ref q2, .ref q3, .ref q4, .ref q5, .ref q6, .ref q7, .ref q8, .ref q9, .null, .int 0, .int 0, .int 0, .int 0])), (q1, .inl (cI, 12, .inl (fun _ => 0))), (q2, .inl (cI, 5, .inl (fun _ => 0))), (q3, .inl (cI, 5, .inl (fun _ => 0))), (q4, .inl (cI, 5, .inl (fun _ => 0))), (q5, .inl (cI, 5, .inl (fun _ => 0))), (q6, .inl (cI, 4, .inl (fun _ => 0))), (q7, .inl (cI, 4, .inl (fun _ => 0))), (q8, .inl (cI, 4, .inl (fun _ => 0))), (q9, .inl (cI, 4, .inl (fun _ => 0))), (q10, .inl (cI, 4, .inl (fun _ => 0)))] H := hP
  have hD : va_D A [(o0, .inr (3, [.ref q1, .ref q2, .ref q3, .ref q4, .ref q5, .ref q6, .ref q7, .ref q8, .ref q9, .null, .int 0, .int 0, .int 0, .int 0])), (q1, .inl (cI, 12, .inl (fun _ => 0))), (q2, .inl (cI, 5, .inl (fun _ => 0))), (q3, .inl (cI, 5, .inl (fun _ => 0))), (q4, .inl (cI, 5, .inl (fun _ => 0))), (q5, .inl (cI, 5, .inl (fun _ => 0))), (q6, .inl (cI, 4, .inl (fun _ => 0))), (q7, .inl (cI, 4, .inl (fun _ => 0))), (q8, .inl (cI, 4, .inl (fun _ => 0))), (q9, .inl (cI, 4, .inl (fun _ => 0))), (q10, .inl (cI, 4, .inl (fun _ => 0)))] := hD
  refine W.widen (k := 10) (n := 52) (Nat.le_of_ble_eq_true rfl) (Nat.le_of_ble_eq_true rfl) ?_
  refine va_putF (D := (dC, dI)) (ci := 3) (v := .ref q10) (ty := .array .int) (C := RX3) (T := TX3) (N := 14) hx hb hts nX3_init_i tyX3 tyX3_ok nmX3 hown hK hP hD hS 0 rfl rfl 9 (by decide) (hts _ qX3_init_14) (fun _ h9 => h9) rfl hin rfl (by decide +kernel) rfl rfl (Nat.le_of_ble_eq_true rfl) dX3_init_72 (fun H locs hP hD hS => ?_)
  have hP : va_P (dC, dI) vwCl [(o0, .inr (3, [.ref q1, .ref q2, .ref q3, .ref q4, .ref q5, .ref q6, .ref q7, .ref q8, .ref q9, .ref q10, .int 0, .int 0, .int 0, .int 0])), (q1, .inl (cI, 12, .inl (fun _ => 0))), (q2, .inl (cI, 5, .inl (fun _ => 0))), (q3, .inl (cI, 5, .inl (fun _ => 0))), (q4, .inl (cI, 5, .inl (fun _ => 0))), (q5, .inl (cI, 5, .inl (fun _ => 0))), (q6, .inl (cI, 4, .inl (fun _ => 0))), (q7, .inl (cI, 4, .inl (fun _ => 0))), (q8, .inl (cI, 4, .inl (fun _ => 0))), (q9, .inl (cI, 4, .inl (fun _ => 0))), (q10, .inl (cI, 4, .inl (fun _ => 0)))] H := hP
  have hD : va_D A [(o0, .inr (3, [.ref q1, .ref q2, .ref q3, .ref q4, .ref q5, .ref q6, .ref q7, .ref q8, .ref q9, .ref q10, .int 0, .int 0, .int 0, .int 0])), (q1, .inl (cI, 12, .inl (fun _ => 0))), (q2, .inl (cI, 5, .inl (fun _ => 0))), (q3, .inl (cI, 5, .inl (fun _ => 0))), (q4, .inl (cI, 5, .inl (fun _ => 0))), (q5, .inl (cI, 5, .inl (fun _ => 0))), (q6, .inl (cI, 4, .inl (fun _ => 0))), (q7, .inl (cI, 4, .inl (fun _ => 0))), (q8, .inl (cI, 4, .inl (fun _ => 0))), (q9, .inl (cI, 4, .inl (fun _ => 0))), (q10, .inl (cI, 4, .inl (fun _ => 0)))] := hD
  exact q_cret (w1 := (fun (a : Nat → Nat) => wcH cI o0 a sI_0)) (fun k => ([q1, q2, q3, q4, q5, q6, q7, q8, q9, q10, 0, 0, 0, 0] : List Nat).getD k 0) hx hb hr hlk hAe hK hP hD hS dX3_init_75
theorem qX1_init_1 : (Cond.methodLink RX1 3 ⟨"java/lang/Object", "<init>", "()V"⟩) ∈ wsX1_init := List.mem_of_getElem? (i := 1) (by decide +kernel)
theorem qX1_init_2 : (Cond.instanceMethod ⟨"java/lang/Object", "<init>", "()V"⟩) ∈ wsX1_init := List.mem_of_getElem? (i := 2) (by decide +kernel)
theorem qX1_init_3 : (Cond.code ⟨"java/lang/Object", "<init>", "()V"⟩ object_method_1_code 1 none) ∈ wsX1_init := List.mem_of_getElem? (i := 3) (by decide +kernel)
theorem qX1_init_4 : (Cond.arrayClass .int) ∈ wsX1_init := List.mem_of_getElem? (i := 4) (by decide +kernel)
theorem qX1_init_5 : (Cond.fieldLink RX1 11 "DeadAsked$Bodies" "traced" "[I") ∈ wsX1_init := List.mem_of_getElem? (i := 5) (by decide +kernel)
theorem nX1_init_i : ∀ w ∈ u_ws RX1 TX1 7, w ∈ wsX1_init := by decide +kernel
theorem hdX1_init : yX1_init.cls ≠ "java/lang/invoke/MethodHandle" ∧ yX1_init.cls ≠ "java/lang/invoke/VarHandle" ∧ (parseMethodDescriptor yX1_init.desc).map (fun d => d.parameters.length) = some 0 := by decide +kernel
set_option maxHeartbeats 4000000 in
set_option maxRecDepth 100000 in
theorem kX1_init (o0 sz : Nat) : Met l yX1_init wsX1_init ({ frames := 1, cells := 1, slots := 16, locals := 12 } : Room) (pcW (dC, dI) (q_ty cI cB cZ) [.ref o0] [(o0, .inr (1, [.null, .int 0, .int 0, .int 0, .int 0, .int 0, .int 0]))] sz) (qcA (dC, dI) (q_ty cI cB cZ) [(o0, .inr (1, [.null, .int 0, .int 0, .int 0, .int 0, .int 0, .int 0]))] sz (fun (a : Nat → Nat) => wcB cI o0 a sI_0)) 1 16 (va_A [(o0, .inr (1, [.null, .int 0, .int 0, .int 0, .int 0, .int 0, .int 0]))] sz) := by
  refine Met.ofW (cc := cX1_init) (maxL := 1) (ret := none) (by decide +kernel) rfl ?_
  intro p e s m args below meth c s₁ B hml hv
  obtain ⟨rfl, hsz, hP, hK, hD0⟩ := hv
  have hx := B.exec
  have hb := B.bytes
  have hr := B.returns
  have hts := atoms_spec (ws := wsX1_init) B.pre
  have hown : s.vm.findClass RX1 = some m.cls := findClass_of_methodNamed B.named
  have hlk := B.notSynchronized
  have hin : meth.name = "<init>" := (name_of_methodNamed B.named B.method).1
  subst hsz
  have hD := hD0.self (sz := s.heap.size)
  have hA : ∀ q : Nat, s.heap.size ≤ q → va_A [(o0, .inr (1, [.null, .int 0, .int 0, .int 0, .int 0, .int 0, .int 0]))] s.heap.size q := fun q h => Or.inr h
  have hS : va_S (va_A [(o0, .inr (1, [.null, .int 0, .int 0, .int 0, .int 0, .int 0, .int 0]))] s.heap.size) s.heap s.heap [] := va_S.rf
  generalize hAe : va_A [(o0, .inr (1, [.null, .int 0, .int 0, .int 0, .int 0, .int 0, .int 0]))] s.heap.size = A at hD hA hS
  rw [lg_entry_eq]
  have hl := lv_entry ([.ref o0]) (n := 1) (Nat.le_of_ble_eq_true rfl)
  generalize (lg_sl ([.ref o0]) ++ List.replicate (1 - (lg_sl ([.ref o0])).length) Slot.unset).toArray = ls at hl ⊢
  have hl : lv_has ls 1 [(0, .ref o0)] := hl
  refine lv_aload_n hx hb dX1_init_0 rfl (lv_at hl 0 rfl) ?_
  refine W.objInit hx hb hown (hts _ qX1_init_1) (hts _ qX1_init_2) (hts _ qX1_init_3) rfl (by rw [hml]; exact hl.1) rfl dX1_init_1 (Nat.le_of_ble_eq_true rfl) (Nat.le_of_ble_eq_true rfl) ?_
  refine W.eq (g2 := F0 m 4 ls []) rfl ?_
  refine lv_aload_n hx hb dX1_init_4 rfl (lv_at hl 0 rfl) ?_
  refine lv_bipush (v := 16) hx hb dX1_init_5 (by decide) ?_
  refine q_newa (atype := .int) (ty := .int) (N' := 16) (a0 := (16, .inl (fun _ => 0))) hx hb (hts _ qX1_init_4) rfl 0 rfl (fun _ h => h) hK hP hD hS hA (fun _ => rfl) (by decide) (by decide) (Nat.le_of_ble_eq_true rfl) (Nat.le_of_ble_eq_true rfl) (Nat.le_of_ble_eq_true rfl) dX1_init_7 (fun q1 H hP hD hS => ?_)
  have hP : va_P (dC, dI) vwCl [(o0, .inr (1, [.null, .int 0, .int 0, .int 0, .int 0, .int 0, .int 0])), (q1, .inl (cI, 16, .inl (fun _ => 0)))] H := hP
  have hD : va_D A [(o0, .inr (1, [.null, .int 0, .int 0, .int 0, .int 0, .int 0, .int 0])), (q1, .inl (cI, 16, .inl (fun _ => 0)))] := hD
  refine W.widen (k := 1) (n := 16) (Nat.le_of_ble_eq_true rfl) (Nat.le_of_ble_eq_true rfl) ?_
  refine va_putF (D := (dC, dI)) (ci := 1) (v := .ref q1) (ty := .array .int) (C := RX1) (T := TX1) (N := 7) hx hb hts nX1_init_i tyX1 tyX1_ok nmX1 hown hK hP hD hS 0 rfl rfl 0 (by decide) (hts _ qX1_init_5) (fun _ h9 => h9) rfl hin rfl (by decide +kernel) rfl rfl (Nat.le_of_ble_eq_true rfl) dX1_init_9 (fun H locs hP hD hS => ?_)
  have hP : va_P (dC, dI) vwCl [(o0, .inr (1, [.ref q1, .int 0, .int 0, .int 0, .int 0, .int 0, .int 0])), (q1, .inl (cI, 16, .inl (fun _ => 0)))] H := hP
  have hD : va_D A [(o0, .inr (1, [.ref q1, .int 0, .int 0, .int 0, .int 0, .int 0, .int 0])), (q1, .inl (cI, 16, .inl (fun _ => 0)))] := hD
  exact q_cret (w1 := (fun (a : Nat → Nat) => wcB cI o0 a sI_0)) (fun k => ([q1, 0, 0, 0, 0, 0, 0] : List Nat).getD k 0) hx hb hr hlk hAe hK hP hD hS dX1_init_12
theorem qX2_init_1 : (Cond.methodLink RX2 1 ⟨"java/lang/Object", "<init>", "()V"⟩) ∈ wsX2_init := List.mem_of_getElem? (i := 1) (by decide +kernel)
theorem qX2_init_2 : (Cond.instanceMethod ⟨"java/lang/Object", "<init>", "()V"⟩) ∈ wsX2_init := List.mem_of_getElem? (i := 2) (by decide +kernel)
theorem qX2_init_3 : (Cond.code ⟨"java/lang/Object", "<init>", "()V"⟩ object_method_1_code 1 none) ∈ wsX2_init := List.mem_of_getElem? (i := 3) (by decide +kernel)
theorem qX2_init_4 : (Cond.fieldLink RX2 7 "DeadAsked$Fraction" "below" "J") ∈ wsX2_init := List.mem_of_getElem? (i := 4) (by decide +kernel)
theorem nX2_init_i : ∀ w ∈ u_ws RX2 TX2 2, w ∈ wsX2_init := by decide +kernel
theorem hdX2_init : yX2_init.cls ≠ "java/lang/invoke/MethodHandle" ∧ yX2_init.cls ≠ "java/lang/invoke/VarHandle" ∧ (parseMethodDescriptor yX2_init.desc).map (fun d => d.parameters.length) = some 0 := by decide +kernel
set_option maxHeartbeats 4000000 in
set_option maxRecDepth 100000 in
theorem kX2_init (o0 sz : Nat) : Met l yX2_init wsX2_init ({ frames := 1, cells := 0, slots := 0, locals := 12 } : Room) (pcW (dC, dI) (q_ty cI cB cZ) [.ref o0] [(o0, .inr (2, [.long 0, .long 0]))] sz) (qcA (dC, dI) (q_ty cI cB cZ) [(o0, .inr (2, [.long 0, .long 0]))] sz (fun (a : Nat → Nat) => wcF o0 tI_F)) 0 0 (va_A [(o0, .inr (2, [.long 0, .long 0]))] sz) := by
  refine Met.ofW (cc := cX2_init) (maxL := 1) (ret := none) (by decide +kernel) rfl ?_
  intro p e s m args below meth c s₁ B hml hv
  obtain ⟨rfl, hsz, hP, hK, hD0⟩ := hv
  have hx := B.exec
  have hb := B.bytes
  have hr := B.returns
  have hts := atoms_spec (ws := wsX2_init) B.pre
  have hown : s.vm.findClass RX2 = some m.cls := findClass_of_methodNamed B.named
  have hlk := B.notSynchronized
  have hin : meth.name = "<init>" := (name_of_methodNamed B.named B.method).1
  subst hsz
  have hD := hD0.self (sz := s.heap.size)
  have hA : ∀ q : Nat, s.heap.size ≤ q → va_A [(o0, .inr (2, [.long 0, .long 0]))] s.heap.size q := fun q h => Or.inr h
  have hS : va_S (va_A [(o0, .inr (2, [.long 0, .long 0]))] s.heap.size) s.heap s.heap [] := va_S.rf
  generalize hAe : va_A [(o0, .inr (2, [.long 0, .long 0]))] s.heap.size = A at hD hA hS
  rw [lg_entry_eq]
  have hl := lv_entry ([.ref o0]) (n := 1) (Nat.le_of_ble_eq_true rfl)
  generalize (lg_sl ([.ref o0]) ++ List.replicate (1 - (lg_sl ([.ref o0])).length) Slot.unset).toArray = ls at hl ⊢
  have hl : lv_has ls 1 [(0, .ref o0)] := hl
  refine lv_aload_n hx hb dX2_init_0 rfl (lv_at hl 0 rfl) ?_
  refine W.objInit hx hb hown (hts _ qX2_init_1) (hts _ qX2_init_2) (hts _ qX2_init_3) rfl (by rw [hml]; exact hl.1) rfl dX2_init_1 (Nat.le_of_ble_eq_true rfl) (Nat.le_of_ble_eq_true rfl) ?_
  refine W.eq (g2 := F0 m 4 ls []) rfl ?_
  refine lv_aload_n hx hb dX2_init_4 rfl (lv_at hl 0 rfl) ?_
  refine lv_lconst (v := 1) hx hb dX2_init_5 (by decide) ?_
  refine va_put (D := (dC, dI)) (ci := 2) (v := .long (1 : Int64)) (ty := .long) (C := RX2) (T := TX2) (N := 2) hx hb hts nX2_init_i tyX2 tyX2_ok nmX2 hown hK hP hD hS 0 rfl rfl 1 (by decide) (hts _ qX2_init_4) (fun _ h9 => h9) rfl (by decide +kernel) rfl rfl (Nat.le_of_ble_eq_true rfl) dX2_init_6 (fun H locs hP hD hS => ?_)
  have hP : va_P (dC, dI) vwCl [(o0, .inr (2, [.long 0, .long (1 : Int64)]))] H := hP
  have hD : va_D A [(o0, .inr (2, [.long 0, .long (1 : Int64)]))] := hD
  exact q_cret (w1 := (fun (a : Nat → Nat) => wcF o0 tI_F)) (fun _ => 0) hx hb hr hlk hAe hK hP hD hS dX2_init_9
theorem qX4_init_1 : (Cond.methodLink RX4 3 ⟨"java/lang/Object", "<init>", "()V"⟩) ∈ wsX4_init := List.mem_of_getElem? (i := 1) (by decide +kernel)
theorem qX4_init_2 : (Cond.instanceMethod ⟨"java/lang/Object", "<init>", "()V"⟩) ∈ wsX4_init := List.mem_of_getElem? (i := 2) (by decide +kernel)
theorem qX4_init_3 : (Cond.code ⟨"java/lang/Object", "<init>", "()V"⟩ object_method_1_code 1 none) ∈ wsX4_init := List.mem_of_getElem? (i := 3) (by decide +kernel)
theorem qX4_init_4 : (Cond.fieldLink RX4 9 "DeadAsked$HillReader" "tape" "LDeadAsked$Tape;") ∈ wsX4_init := List.mem_of_getElem? (i := 4) (by decide +kernel)
theorem nX4_init_i : ∀ w ∈ u_ws RX4 TX4 4, w ∈ wsX4_init := by decide +kernel
theorem hdX4_init : yX4_init.cls ≠ "java/lang/invoke/MethodHandle" ∧ yX4_init.cls ≠ "java/lang/invoke/VarHandle" ∧ (parseMethodDescriptor yX4_init.desc).map (fun d => d.parameters.length) = some 1 := by decide +kernel
set_option maxHeartbeats 4000000 in
set_option maxRecDepth 100000 in
theorem kX4_init (o0 tp sz : Nat) : Met l yX4_init wsX4_init ({ frames := 1, cells := 0, slots := 0, locals := 12 } : Room) (pcW (dC, dI) (q_ty cI cB cZ) [.ref o0, .ref tp] [(o0, .inr (4, [.null, .int 0, .int 0, .int 0]))] sz) (qcA (dC, dI) (q_ty cI cB cZ) [(o0, .inr (4, [.null, .int 0, .int 0, .int 0]))] sz (fun (a : Nat → Nat) => wcE o0 tp sI_0)) 0 0 (va_A [(o0, .inr (4, [.null, .int 0, .int 0, .int 0]))] sz) := by
  refine Met.ofW (cc := cX4_init) (maxL := 2) (ret := none) (by decide +kernel) rfl ?_
  intro p e s m args below meth c s₁ B hml hv
  obtain ⟨rfl, hsz, hP, hK, hD0⟩ := hv
  have hx := B.exec
  have hb := B.bytes
  have hr := B.returns
  have hts := atoms_spec (ws := wsX4_init) B.pre
  have hown : s.vm.findClass RX4 = some m.cls := findClass_of_methodNamed B.named
  have hlk := B.notSynchronized
  have hin : meth.name = "<init>" := (name_of_methodNamed B.named B.method).1
  subst hsz
  have hD := hD0.self (sz := s.heap.size)
  have hA : ∀ q : Nat, s.heap.size ≤ q → va_A [(o0, .inr (4, [.null, .int 0, .int 0, .int 0]))] s.heap.size q := fun q h => Or.inr h
  have hS : va_S (va_A [(o0, .inr (4, [.null, .int 0, .int 0, .int 0]))] s.heap.size) s.heap s.heap [] := va_S.rf
  generalize hAe : va_A [(o0, .inr (4, [.null, .int 0, .int 0, .int 0]))] s.heap.size = A at hD hA hS
  rw [lg_entry_eq]
  have hl := lv_entry ([.ref o0, .ref tp]) (n := 2) (Nat.le_of_ble_eq_true rfl)
  generalize (lg_sl ([.ref o0, .ref tp]) ++ List.replicate (2 - (lg_sl ([.ref o0, .ref tp])).length) Slot.unset).toArray = ls at hl ⊢
  have hl : lv_has ls 2 [(0, .ref o0), (1, .ref tp)] := hl
  refine lv_aload_n hx hb dX4_init_0 rfl (lv_at hl 0 rfl) ?_
  refine W.objInit hx hb hown (hts _ qX4_init_1) (hts _ qX4_init_2) (hts _ qX4_init_3) rfl (by rw [hml]; exact hl.1) rfl dX4_init_1 (Nat.le_of_ble_eq_true rfl) (Nat.le_of_ble_eq_true rfl) ?_
  refine W.eq (g2 := F0 m 4 ls []) rfl ?_
  refine lv_aload_n hx hb dX4_init_4 rfl (lv_at hl 0 rfl) ?_
  refine lv_aload_n hx hb dX4_init_5 rfl (lv_at hl 1 rfl) ?_
  refine va_putF (D := (dC, dI)) (ci := 4) (v := .ref tp) (ty := .object "DeadAsked$Tape") (C := RX4) (T := TX4) (N := 4) hx hb hts nX4_init_i tyX4 tyX4_ok nmX4 hown hK hP hD hS 0 rfl rfl 0 (by decide) (hts _ qX4_init_4) (fun _ h9 => h9) rfl hin rfl (by decide +kernel) rfl rfl (Nat.le_of_ble_eq_true rfl) dX4_init_6 (fun H locs hP hD hS => ?_)
  have hP : va_P (dC, dI) vwCl [(o0, .inr (4, [.ref tp, .int 0, .int 0, .int 0]))] H := hP
  have hD : va_D A [(o0, .inr (4, [.ref tp, .int 0, .int 0, .int 0]))] := hD
  exact q_cret (w1 := (fun (a : Nat → Nat) => wcE o0 tp sI_0)) (fun _ => 0) hx hb hr hlk hAe hK hP hD hS dX4_init_9
theorem qX5_init_1 : (Cond.methodLink RX5 1 ⟨"java/lang/Object", "<init>", "()V"⟩) ∈ wsX5_init := List.mem_of_getElem? (i := 1) (by decide +kernel)
theorem qX5_init_2 : (Cond.instanceMethod ⟨"java/lang/Object", "<init>", "()V"⟩) ∈ wsX5_init := List.mem_of_getElem? (i := 2) (by decide +kernel)
theorem qX5_init_3 : (Cond.code ⟨"java/lang/Object", "<init>", "()V"⟩ object_method_1_code 1 none) ∈ wsX5_init := List.mem_of_getElem? (i := 3) (by decide +kernel)
theorem qX5_init_4 : (Cond.arrayClass .int) ∈ wsX5_init := List.mem_of_getElem? (i := 4) (by decide +kernel)
theorem qX5_init_5 : (Cond.fieldLink RX5 9 "DeadAsked$Rows" "lanes" "[I") ∈ wsX5_init := List.mem_of_getElem? (i := 5) (by decide +kernel)
theorem qX5_init_6 : (Cond.fieldLink RX5 13 "DeadAsked$Rows" "sizes" "[I") ∈ wsX5_init := List.mem_of_getElem? (i := 6) (by decide +kernel)
theorem qX5_init_7 : (Cond.fieldLink RX5 16 "DeadAsked$Rows" "items" "[I") ∈ wsX5_init := List.mem_of_getElem? (i := 7) (by decide +kernel)
theorem nX5_init_i : ∀ w ∈ u_ws RX5 TX5 3, w ∈ wsX5_init := by decide +kernel
theorem hdX5_init : yX5_init.cls ≠ "java/lang/invoke/MethodHandle" ∧ yX5_init.cls ≠ "java/lang/invoke/VarHandle" ∧ (parseMethodDescriptor yX5_init.desc).map (fun d => d.parameters.length) = some 0 := by decide +kernel
set_option maxHeartbeats 4000000 in
set_option maxRecDepth 100000 in
theorem kX5_init (o0 sz : Nat) : Met l yX5_init wsX5_init ({ frames := 1, cells := 3, slots := 336, locals := 12 } : Room) (pcW (dC, dI) (q_ty cI cB cZ) [.ref o0] [(o0, .inr (5, [.null, .null, .null]))] sz) (qcA (dC, dI) (q_ty cI cB cZ) [(o0, .inr (5, [.null, .null, .null]))] sz (fun (a : Nat → Nat) => wcR cI o0 a sI_R)) 3 336 (va_A [(o0, .inr (5, [.null, .null, .null]))] sz) := by
  refine Met.ofW (cc := cX5_init) (maxL := 2) (ret := none) (by decide +kernel) rfl ?_
  intro p e s m args below meth c s₁ B hml hv
  obtain ⟨rfl, hsz, hP, hK, hD0⟩ := hv
  have hx := B.exec
  have hb := B.bytes
  have hr := B.returns
  have hts := atoms_spec (ws := wsX5_init) B.pre
  have hown : s.vm.findClass RX5 = some m.cls := findClass_of_methodNamed B.named
  have hlk := B.notSynchronized
  have hin : meth.name = "<init>" := (name_of_methodNamed B.named B.method).1
  subst hsz
  have hD := hD0.self (sz := s.heap.size)
  have hA : ∀ q : Nat, s.heap.size ≤ q → va_A [(o0, .inr (5, [.null, .null, .null]))] s.heap.size q := fun q h => Or.inr h
  have hS : va_S (va_A [(o0, .inr (5, [.null, .null, .null]))] s.heap.size) s.heap s.heap [] := va_S.rf
  generalize hAe : va_A [(o0, .inr (5, [.null, .null, .null]))] s.heap.size = A at hD hA hS
  rw [lg_entry_eq]
  have hl := lv_entry ([.ref o0]) (n := 2) (Nat.le_of_ble_eq_true rfl)
  generalize (lg_sl ([.ref o0]) ++ List.replicate (2 - (lg_sl ([.ref o0])).length) Slot.unset).toArray = ls at hl ⊢
  have hl : lv_has ls 2 [(0, .ref o0)] := hl
  refine lv_aload_n hx hb dX5_init_0 rfl (lv_at hl 0 rfl) ?_
  refine W.objInit hx hb hown (hts _ qX5_init_1) (hts _ qX5_init_2) (hts _ qX5_init_3) rfl (by rw [hml]; exact hl.1) rfl dX5_init_1 (Nat.le_of_ble_eq_true rfl) (Nat.le_of_ble_eq_true rfl) ?_
  refine W.eq (g2 := F0 m 4 ls []) rfl ?_
  refine lv_aload_n hx hb dX5_init_4 rfl (lv_at hl 0 rfl) ?_
  refine lv_bipush (v := 8) hx hb dX5_init_5 (by decide) ?_
  refine q_newa (atype := .int) (ty := .int) (N' := 8) (a0 := (8, .inl (fun _ => 0))) hx hb (hts _ qX5_init_4) rfl 0 rfl (fun _ h => h) hK hP hD hS hA (fun _ => rfl) (by decide) (by decide) (Nat.le_of_ble_eq_true rfl) (Nat.le_of_ble_eq_true rfl) (Nat.le_of_ble_eq_true rfl) dX5_init_7 (fun q1 H hP hD hS => ?_)
  have hP : va_P (dC, dI) vwCl [(o0, .inr (5, [.null, .null, .null])), (q1, .inl (cI, 8, .inl (fun _ => 0)))] H := hP
  have hD : va_D A [(o0, .inr (5, [.null, .null, .null])), (q1, .inl (cI, 8, .inl (fun _ => 0)))] := hD
  refine W.widen (k := 1) (n := 8) (Nat.le_of_ble_eq_true rfl) (Nat.le_of_ble_eq_true rfl) ?_
  refine va_putF (D := (dC, dI)) (ci := 5) (v := .ref q1) (ty := .array .int) (C := RX5) (T := TX5) (N := 3) hx hb hts nX5_init_i tyX5 tyX5_ok nmX5 hown hK hP hD hS 0 rfl rfl 0 (by decide) (hts _ qX5_init_5) (fun _ h9 => h9) rfl hin rfl (by decide +kernel) rfl rfl (Nat.le_of_ble_eq_true rfl) dX5_init_9 (fun H locs hP hD hS => ?_)
  have hP : va_P (dC, dI) vwCl [(o0, .inr (5, [.ref q1, .null, .null])), (q1, .inl (cI, 8, .inl (fun _ => 0)))] H := hP
  have hD : va_D A [(o0, .inr (5, [.ref q1, .null, .null])), (q1, .inl (cI, 8, .inl (fun _ => 0)))] := hD
  refine lv_aload_n hx hb dX5_init_12 rfl (lv_at hl 0 rfl) ?_
  refine lv_bipush (v := 8) hx hb dX5_init_13 (by decide) ?_
  refine q_newa (atype := .int) (ty := .int) (N' := 8) (a0 := (8, .inl (fun _ => 0))) hx hb (hts _ qX5_init_4) rfl 0 rfl (fun _ h => h) hK hP hD hS hA (fun _ => rfl) (by decide) (by decide) (Nat.le_of_ble_eq_true rfl) (Nat.le_of_ble_eq_true rfl) (Nat.le_of_ble_eq_true rfl) dX5_init_15 (fun q2 H hP hD hS => ?_)
  have hP : va_P (dC, dI) vwCl [(o0, .inr (5, [.ref q1, .null, .null])), (q1, .inl (cI, 8, .inl (fun _ => 0))), (q2, .inl (cI, 8, .inl (fun _ => 0)))] H := hP
  have hD : va_D A [(o0, .inr (5, [.ref q1, .null, .null])), (q1, .inl (cI, 8, .inl (fun _ => 0))), (q2, .inl (cI, 8, .inl (fun _ => 0)))] := hD
  refine W.widen (k := 2) (n := 16) (Nat.le_of_ble_eq_true rfl) (Nat.le_of_ble_eq_true rfl) ?_
  refine va_putF (D := (dC, dI)) (ci := 5) (v := .ref q2) (ty := .array .int) (C := RX5) (T := TX5) (N := 3) hx hb hts nX5_init_i tyX5 tyX5_ok nmX5 hown hK hP hD hS 0 rfl rfl 1 (by decide) (hts _ qX5_init_6) (fun _ h9 => h9) rfl hin rfl (by decide +kernel) rfl rfl (Nat.le_of_ble_eq_true rfl) dX5_init_17 (fun H locs hP hD hS => ?_)
  have hP : va_P (dC, dI) vwCl [(o0, .inr (5, [.ref q1, .ref q2, .null])), (q1, .inl (cI, 8, .inl (fun _ => 0))), (q2, .inl (cI, 8, .inl (fun _ => 0)))] H := hP
  have hD : va_D A [(o0, .inr (5, [.ref q1, .ref q2, .null])), (q1, .inl (cI, 8, .inl (fun _ => 0))), (q2, .inl (cI, 8, .inl (fun _ => 0)))] := hD
  refine lv_aload_n hx hb dX5_init_20 rfl (lv_at hl 0 rfl) ?_
  refine lv_sipush (v := 320) hx hb dX5_init_21 (by decide) ?_
  refine q_newa (atype := .int) (ty := .int) (N' := 320) (a0 := (320, .inl (fun _ => 0))) hx hb (hts _ qX5_init_4) rfl 0 rfl (fun _ h => h) hK hP hD hS hA (fun _ => rfl) (by decide) (by decide) (Nat.le_of_ble_eq_true rfl) (Nat.le_of_ble_eq_true rfl) (Nat.le_of_ble_eq_true rfl) dX5_init_24 (fun q3 H hP hD hS => ?_)
  have hP : va_P (dC, dI) vwCl [(o0, .inr (5, [.ref q1, .ref q2, .null])), (q1, .inl (cI, 8, .inl (fun _ => 0))), (q2, .inl (cI, 8, .inl (fun _ => 0))), (q3, .inl (cI, 320, .inl (fun _ => 0)))] H := hP
  have hD : va_D A [(o0, .inr (5, [.ref q1, .ref q2, .null])), (q1, .inl (cI, 8, .inl (fun _ => 0))), (q2, .inl (cI, 8, .inl (fun _ => 0))), (q3, .inl (cI, 320, .inl (fun _ => 0)))] := hD
  refine W.widen (k := 3) (n := 336) (Nat.le_of_ble_eq_true rfl) (Nat.le_of_ble_eq_true rfl) ?_
  refine va_putF (D := (dC, dI)) (ci := 5) (v := .ref q3) (ty := .array .int) (C := RX5) (T := TX5) (N := 3) hx hb hts nX5_init_i tyX5 tyX5_ok nmX5 hown hK hP hD hS 0 rfl rfl 2 (by decide) (hts _ qX5_init_7) (fun _ h9 => h9) rfl hin rfl (by decide +kernel) rfl rfl (Nat.le_of_ble_eq_true rfl) dX5_init_26 (fun H locs hP hD hS => ?_)
  have hP : va_P (dC, dI) vwCl [(o0, .inr (5, [.ref q1, .ref q2, .ref q3])), (q1, .inl (cI, 8, .inl (fun _ => 0))), (q2, .inl (cI, 8, .inl (fun _ => 0))), (q3, .inl (cI, 320, .inl (fun _ => 0)))] H := hP
  have hD : va_D A [(o0, .inr (5, [.ref q1, .ref q2, .ref q3])), (q1, .inl (cI, 8, .inl (fun _ => 0))), (q2, .inl (cI, 8, .inl (fun _ => 0))), (q3, .inl (cI, 320, .inl (fun _ => 0)))] := hD
  refine lv_iconst (v := 0) hx hb dX5_init_29 (by decide) ?_
  refine lv_istore_n (lv' := [(1, .int (0 : Int32)), (0, .ref o0)]) hx hb dX5_init_30 rfl hl (by decide) rfl (fun ls hl => ?_)
  refine lv_iload_n hx hb dX5_init_31 rfl (lv_at hl 0 rfl) ?_
  refine lv_bipush (v := 8) hx hb dX5_init_32 (by decide) ?_
  refine lv_icmp_ge (tgt := 50) hx hb dX5_init_34 (by decide) (fun q => absurd q (by decide)) (fun _ => ?_)
  refine lv_aload_n hx hb dX5_init_37 rfl (lv_at hl 1 rfl) ?_
  refine va_get (D := (dC, dI)) (ci := 5) (v := .ref q1) (C := RX5) (T := TX5) (N := 3) hx hb hts nX5_init_i hown hK hP 0 rfl rfl 0 (by decide) (hts _ qX5_init_5) (fun _ h9 => h9) rfl dX5_init_38 ?_
  refine lv_iload_n hx hb dX5_init_41 rfl (lv_at hl 0 rfl) ?_
  refine lv_iconst (v := -1) hx hb dX5_init_42 (by decide) ?_
  refine va_iast hx hb hK hP hD hS 1 0 rfl rfl (show inb (0 : Int32) 8 by decide) dX5_init_43 (fun H locs hP hD hS => ?_)
  have hP : va_P (dC, dI) vwCl [(o0, .inr (5, [.ref q1, .ref q2, .ref q3])), (q1, .inl (cI, 8, .inl (upd (fun _ => 0) 0 (-1)))), (q2, .inl (cI, 8, .inl (fun _ => 0))), (q3, .inl (cI, 320, .inl (fun _ => 0)))] H := hP
  have hD : va_D A [(o0, .inr (5, [.ref q1, .ref q2, .ref q3])), (q1, .inl (cI, 8, .inl (upd (fun _ => 0) 0 (-1)))), (q2, .inl (cI, 8, .inl (fun _ => 0))), (q3, .inl (cI, 320, .inl (fun _ => 0)))] := hD
  refine lv_iinc (v := 1) (lv' := [(1, .int (1 : Int32)), (0, .ref o0)]) hx hb dX5_init_44 hl (k := 0) rfl (by decide) (by decide) rfl (fun ls hl => ?_)
  refine lv_goto (tgt := 31) hx hb dX5_init_47 (by decide) ?_
  refine lv_iload_n hx hb dX5_init_31 rfl (lv_at hl 0 rfl) ?_
  refine lv_bipush (v := 8) hx hb dX5_init_32 (by decide) ?_
  refine lv_icmp_ge (tgt := 50) hx hb dX5_init_34 (by decide) (fun q => absurd q (by decide)) (fun _ => ?_)
  refine lv_aload_n hx hb dX5_init_37 rfl (lv_at hl 1 rfl) ?_
  refine va_get (D := (dC, dI)) (ci := 5) (v := .ref q1) (C := RX5) (T := TX5) (N := 3) hx hb hts nX5_init_i hown hK hP 0 rfl rfl 0 (by decide) (hts _ qX5_init_5) (fun _ h9 => h9) rfl dX5_init_38 ?_
  refine lv_iload_n hx hb dX5_init_41 rfl (lv_at hl 0 rfl) ?_
  refine lv_iconst (v := -1) hx hb dX5_init_42 (by decide) ?_
  refine va_iast hx hb hK hP hD hS 1 0 rfl rfl (show inb (1 : Int32) 8 by decide) dX5_init_43 (fun H locs hP hD hS => ?_)
  have hP : va_P (dC, dI) vwCl [(o0, .inr (5, [.ref q1, .ref q2, .ref q3])), (q1, .inl (cI, 8, .inl (upd (upd (fun _ => 0) 0 (-1)) 1 (-1)))), (q2, .inl (cI, 8, .inl (fun _ => 0))), (q3, .inl (cI, 320, .inl (fun _ => 0)))] H := hP
  have hD : va_D A [(o0, .inr (5, [.ref q1, .ref q2, .ref q3])), (q1, .inl (cI, 8, .inl (upd (upd (fun _ => 0) 0 (-1)) 1 (-1)))), (q2, .inl (cI, 8, .inl (fun _ => 0))), (q3, .inl (cI, 320, .inl (fun _ => 0)))] := hD
  refine lv_iinc (v := 2) (lv' := [(1, .int (2 : Int32)), (0, .ref o0)]) hx hb dX5_init_44 hl (k := 0) rfl (by decide) (by decide) rfl (fun ls hl => ?_)
  refine lv_goto (tgt := 31) hx hb dX5_init_47 (by decide) ?_
  refine lv_iload_n hx hb dX5_init_31 rfl (lv_at hl 0 rfl) ?_
  refine lv_bipush (v := 8) hx hb dX5_init_32 (by decide) ?_
  refine lv_icmp_ge (tgt := 50) hx hb dX5_init_34 (by decide) (fun q => absurd q (by decide)) (fun _ => ?_)
  refine lv_aload_n hx hb dX5_init_37 rfl (lv_at hl 1 rfl) ?_
  refine va_get (D := (dC, dI)) (ci := 5) (v := .ref q1) (C := RX5) (T := TX5) (N := 3) hx hb hts nX5_init_i hown hK hP 0 rfl rfl 0 (by decide) (hts _ qX5_init_5) (fun _ h9 => h9) rfl dX5_init_38 ?_
  refine lv_iload_n hx hb dX5_init_41 rfl (lv_at hl 0 rfl) ?_
  refine lv_iconst (v := -1) hx hb dX5_init_42 (by decide) ?_
  refine va_iast hx hb hK hP hD hS 1 0 rfl rfl (show inb (2 : Int32) 8 by decide) dX5_init_43 (fun H locs hP hD hS => ?_)
  have hP : va_P (dC, dI) vwCl [(o0, .inr (5, [.ref q1, .ref q2, .ref q3])), (q1, .inl (cI, 8, .inl (upd (upd (upd (fun _ => 0) 0 (-1)) 1 (-1)) 2 (-1)))), (q2, .inl (cI, 8, .inl (fun _ => 0))), (q3, .inl (cI, 320, .inl (fun _ => 0)))] H := hP
  have hD : va_D A [(o0, .inr (5, [.ref q1, .ref q2, .ref q3])), (q1, .inl (cI, 8, .inl (upd (upd (upd (fun _ => 0) 0 (-1)) 1 (-1)) 2 (-1)))), (q2, .inl (cI, 8, .inl (fun _ => 0))), (q3, .inl (cI, 320, .inl (fun _ => 0)))] := hD
  refine lv_iinc (v := 3) (lv' := [(1, .int (3 : Int32)), (0, .ref o0)]) hx hb dX5_init_44 hl (k := 0) rfl (by decide) (by decide) rfl (fun ls hl => ?_)
  refine lv_goto (tgt := 31) hx hb dX5_init_47 (by decide) ?_
  refine lv_iload_n hx hb dX5_init_31 rfl (lv_at hl 0 rfl) ?_
  refine lv_bipush (v := 8) hx hb dX5_init_32 (by decide) ?_
  refine lv_icmp_ge (tgt := 50) hx hb dX5_init_34 (by decide) (fun q => absurd q (by decide)) (fun _ => ?_)
  refine lv_aload_n hx hb dX5_init_37 rfl (lv_at hl 1 rfl) ?_
  refine va_get (D := (dC, dI)) (ci := 5) (v := .ref q1) (C := RX5) (T := TX5) (N := 3) hx hb hts nX5_init_i hown hK hP 0 rfl rfl 0 (by decide) (hts _ qX5_init_5) (fun _ h9 => h9) rfl dX5_init_38 ?_
  refine lv_iload_n hx hb dX5_init_41 rfl (lv_at hl 0 rfl) ?_
  refine lv_iconst (v := -1) hx hb dX5_init_42 (by decide) ?_
  refine va_iast hx hb hK hP hD hS 1 0 rfl rfl (show inb (3 : Int32) 8 by decide) dX5_init_43 (fun H locs hP hD hS => ?_)
  have hP : va_P (dC, dI) vwCl [(o0, .inr (5, [.ref q1, .ref q2, .ref q3])), (q1, .inl (cI, 8, .inl (upd (upd (upd (upd (fun _ => 0) 0 (-1)) 1 (-1)) 2 (-1)) 3 (-1)))), (q2, .inl (cI, 8, .inl (fun _ => 0))), (q3, .inl (cI, 320, .inl (fun _ => 0)))] H := hP
  have hD : va_D A [(o0, .inr (5, [.ref q1, .ref q2, .ref q3])), (q1, .inl (cI, 8, .inl (upd (upd (upd (upd (fun _ => 0) 0 (-1)) 1 (-1)) 2 (-1)) 3 (-1)))), (q2, .inl (cI, 8, .inl (fun _ => 0))), (q3, .inl (cI, 320, .inl (fun _ => 0)))] := hD
  refine lv_iinc (v := 4) (lv' := [(1, .int (4 : Int32)), (0, .ref o0)]) hx hb dX5_init_44 hl (k := 0) rfl (by decide) (by decide) rfl (fun ls hl => ?_)
  refine lv_goto (tgt := 31) hx hb dX5_init_47 (by decide) ?_
  refine lv_iload_n hx hb dX5_init_31 rfl (lv_at hl 0 rfl) ?_
  refine lv_bipush (v := 8) hx hb dX5_init_32 (by decide) ?_
  refine lv_icmp_ge (tgt := 50) hx hb dX5_init_34 (by decide) (fun q => absurd q (by decide)) (fun _ => ?_)
  refine lv_aload_n hx hb dX5_init_37 rfl (lv_at hl 1 rfl) ?_
  refine va_get (D := (dC, dI)) (ci := 5) (v := .ref q1) (C := RX5) (T := TX5) (N := 3) hx hb hts nX5_init_i hown hK hP 0 rfl rfl 0 (by decide) (hts _ qX5_init_5) (fun _ h9 => h9) rfl dX5_init_38 ?_
  refine lv_iload_n hx hb dX5_init_41 rfl (lv_at hl 0 rfl) ?_
  refine lv_iconst (v := -1) hx hb dX5_init_42 (by decide) ?_
  refine va_iast hx hb hK hP hD hS 1 0 rfl rfl (show inb (4 : Int32) 8 by decide) dX5_init_43 (fun H locs hP hD hS => ?_)
  have hP : va_P (dC, dI) vwCl [(o0, .inr (5, [.ref q1, .ref q2, .ref q3])), (q1, .inl (cI, 8, .inl (upd (upd (upd (upd (upd (fun _ => 0) 0 (-1)) 1 (-1)) 2 (-1)) 3 (-1)) 4 (-1)))), (q2, .inl (cI, 8, .inl (fun _ => 0))), (q3, .inl (cI, 320, .inl (fun _ => 0)))] H := hP
  have hD : va_D A [(o0, .inr (5, [.ref q1, .ref q2, .ref q3])), (q1, .inl (cI, 8, .inl (upd (upd (upd (upd (upd (fun _ => 0) 0 (-1)) 1 (-1)) 2 (-1)) 3 (-1)) 4 (-1)))), (q2, .inl (cI, 8, .inl (fun _ => 0))), (q3, .inl (cI, 320, .inl (fun _ => 0)))] := hD
  refine lv_iinc (v := 5) (lv' := [(1, .int (5 : Int32)), (0, .ref o0)]) hx hb dX5_init_44 hl (k := 0) rfl (by decide) (by decide) rfl (fun ls hl => ?_)
  refine lv_goto (tgt := 31) hx hb dX5_init_47 (by decide) ?_
  refine lv_iload_n hx hb dX5_init_31 rfl (lv_at hl 0 rfl) ?_
  refine lv_bipush (v := 8) hx hb dX5_init_32 (by decide) ?_
  refine lv_icmp_ge (tgt := 50) hx hb dX5_init_34 (by decide) (fun q => absurd q (by decide)) (fun _ => ?_)
  refine lv_aload_n hx hb dX5_init_37 rfl (lv_at hl 1 rfl) ?_
  refine va_get (D := (dC, dI)) (ci := 5) (v := .ref q1) (C := RX5) (T := TX5) (N := 3) hx hb hts nX5_init_i hown hK hP 0 rfl rfl 0 (by decide) (hts _ qX5_init_5) (fun _ h9 => h9) rfl dX5_init_38 ?_
  refine lv_iload_n hx hb dX5_init_41 rfl (lv_at hl 0 rfl) ?_
  refine lv_iconst (v := -1) hx hb dX5_init_42 (by decide) ?_
  refine va_iast hx hb hK hP hD hS 1 0 rfl rfl (show inb (5 : Int32) 8 by decide) dX5_init_43 (fun H locs hP hD hS => ?_)
  have hP : va_P (dC, dI) vwCl [(o0, .inr (5, [.ref q1, .ref q2, .ref q3])), (q1, .inl (cI, 8, .inl (upd (upd (upd (upd (upd (upd (fun _ => 0) 0 (-1)) 1 (-1)) 2 (-1)) 3 (-1)) 4 (-1)) 5 (-1)))), (q2, .inl (cI, 8, .inl (fun _ => 0))), (q3, .inl (cI, 320, .inl (fun _ => 0)))] H := hP
  have hD : va_D A [(o0, .inr (5, [.ref q1, .ref q2, .ref q3])), (q1, .inl (cI, 8, .inl (upd (upd (upd (upd (upd (upd (fun _ => 0) 0 (-1)) 1 (-1)) 2 (-1)) 3 (-1)) 4 (-1)) 5 (-1)))), (q2, .inl (cI, 8, .inl (fun _ => 0))), (q3, .inl (cI, 320, .inl (fun _ => 0)))] := hD
  refine lv_iinc (v := 6) (lv' := [(1, .int (6 : Int32)), (0, .ref o0)]) hx hb dX5_init_44 hl (k := 0) rfl (by decide) (by decide) rfl (fun ls hl => ?_)
  refine lv_goto (tgt := 31) hx hb dX5_init_47 (by decide) ?_
  refine lv_iload_n hx hb dX5_init_31 rfl (lv_at hl 0 rfl) ?_
  refine lv_bipush (v := 8) hx hb dX5_init_32 (by decide) ?_
  refine lv_icmp_ge (tgt := 50) hx hb dX5_init_34 (by decide) (fun q => absurd q (by decide)) (fun _ => ?_)
  refine lv_aload_n hx hb dX5_init_37 rfl (lv_at hl 1 rfl) ?_
  refine va_get (D := (dC, dI)) (ci := 5) (v := .ref q1) (C := RX5) (T := TX5) (N := 3) hx hb hts nX5_init_i hown hK hP 0 rfl rfl 0 (by decide) (hts _ qX5_init_5) (fun _ h9 => h9) rfl dX5_init_38 ?_
  refine lv_iload_n hx hb dX5_init_41 rfl (lv_at hl 0 rfl) ?_
  refine lv_iconst (v := -1) hx hb dX5_init_42 (by decide) ?_
  refine va_iast hx hb hK hP hD hS 1 0 rfl rfl (show inb (6 : Int32) 8 by decide) dX5_init_43 (fun H locs hP hD hS => ?_)
  have hP : va_P (dC, dI) vwCl [(o0, .inr (5, [.ref q1, .ref q2, .ref q3])), (q1, .inl (cI, 8, .inl (upd (upd (upd (upd (upd (upd (upd (fun _ => 0) 0 (-1)) 1 (-1)) 2 (-1)) 3 (-1)) 4 (-1)) 5 (-1)) 6 (-1)))), (q2, .inl (cI, 8, .inl (fun _ => 0))), (q3, .inl (cI, 320, .inl (fun _ => 0)))] H := hP
  have hD : va_D A [(o0, .inr (5, [.ref q1, .ref q2, .ref q3])), (q1, .inl (cI, 8, .inl (upd (upd (upd (upd (upd (upd (upd (fun _ => 0) 0 (-1)) 1 (-1)) 2 (-1)) 3 (-1)) 4 (-1)) 5 (-1)) 6 (-1)))), (q2, .inl (cI, 8, .inl (fun _ => 0))), (q3, .inl (cI, 320, .inl (fun _ => 0)))] := hD
  refine lv_iinc (v := 7) (lv' := [(1, .int (7 : Int32)), (0, .ref o0)]) hx hb dX5_init_44 hl (k := 0) rfl (by decide) (by decide) rfl (fun ls hl => ?_)
  refine lv_goto (tgt := 31) hx hb dX5_init_47 (by decide) ?_
  refine lv_iload_n hx hb dX5_init_31 rfl (lv_at hl 0 rfl) ?_
  refine lv_bipush (v := 8) hx hb dX5_init_32 (by decide) ?_
  refine lv_icmp_ge (tgt := 50) hx hb dX5_init_34 (by decide) (fun q => absurd q (by decide)) (fun _ => ?_)
  refine lv_aload_n hx hb dX5_init_37 rfl (lv_at hl 1 rfl) ?_
  refine va_get (D := (dC, dI)) (ci := 5) (v := .ref q1) (C := RX5) (T := TX5) (N := 3) hx hb hts nX5_init_i hown hK hP 0 rfl rfl 0 (by decide) (hts _ qX5_init_5) (fun _ h9 => h9) rfl dX5_init_38 ?_
  refine lv_iload_n hx hb dX5_init_41 rfl (lv_at hl 0 rfl) ?_
  refine lv_iconst (v := -1) hx hb dX5_init_42 (by decide) ?_
  refine va_iast hx hb hK hP hD hS 1 0 rfl rfl (show inb (7 : Int32) 8 by decide) dX5_init_43 (fun H locs hP hD hS => ?_)
  have hP : va_P (dC, dI) vwCl [(o0, .inr (5, [.ref q1, .ref q2, .ref q3])), (q1, .inl (cI, 8, .inl (upd (upd (upd (upd (upd (upd (upd (upd (fun _ => 0) 0 (-1)) 1 (-1)) 2 (-1)) 3 (-1)) 4 (-1)) 5 (-1)) 6 (-1)) 7 (-1)))), (q2, .inl (cI, 8, .inl (fun _ => 0))), (q3, .inl (cI, 320, .inl (fun _ => 0)))] H := hP
  have hD : va_D A [(o0, .inr (5, [.ref q1, .ref q2, .ref q3])), (q1, .inl (cI, 8, .inl (upd (upd (upd (upd (upd (upd (upd (upd (fun _ => 0) 0 (-1)) 1 (-1)) 2 (-1)) 3 (-1)) 4 (-1)) 5 (-1)) 6 (-1)) 7 (-1)))), (q2, .inl (cI, 8, .inl (fun _ => 0))), (q3, .inl (cI, 320, .inl (fun _ => 0)))] := hD
  refine lv_iinc (v := 8) (lv' := [(1, .int (8 : Int32)), (0, .ref o0)]) hx hb dX5_init_44 hl (k := 0) rfl (by decide) (by decide) rfl (fun ls hl => ?_)
  refine lv_goto (tgt := 31) hx hb dX5_init_47 (by decide) ?_
  refine lv_iload_n hx hb dX5_init_31 rfl (lv_at hl 0 rfl) ?_
  refine lv_bipush (v := 8) hx hb dX5_init_32 (by decide) ?_
  refine lv_icmp_ge (tgt := 50) hx hb dX5_init_34 (by decide) (fun _ => ?_) (fun q => absurd (by decide) q)
  exact q_cret (w1 := (fun (a : Nat → Nat) => wcR cI o0 a sI_R)) (fun k => ([q1, q2, q3] : List Nat).getD k 0) hx hb hr hlk hAe hK hP hD hS dX5_init_50
theorem qX6_init_1 : (Cond.methodLink RX6 1 ⟨"java/lang/Object", "<init>", "()V"⟩) ∈ wsX6_init := List.mem_of_getElem? (i := 1) (by decide +kernel)
theorem qX6_init_2 : (Cond.instanceMethod ⟨"java/lang/Object", "<init>", "()V"⟩) ∈ wsX6_init := List.mem_of_getElem? (i := 2) (by decide +kernel)
theorem qX6_init_3 : (Cond.code ⟨"java/lang/Object", "<init>", "()V"⟩ object_method_1_code 1 none) ∈ wsX6_init := List.mem_of_getElem? (i := 3) (by decide +kernel)
theorem qX6_init_4 : (Cond.arrayClass .byte) ∈ wsX6_init := List.mem_of_getElem? (i := 4) (by decide +kernel)
theorem qX6_init_5 : (Cond.fieldLink RX6 9 "DeadAsked$Tape" "bytes" "[B") ∈ wsX6_init := List.mem_of_getElem? (i := 5) (by decide +kernel)
theorem nX6_init_i : ∀ w ∈ u_ws RX6 TX6 5, w ∈ wsX6_init := by decide +kernel
theorem hdX6_init : yX6_init.cls ≠ "java/lang/invoke/MethodHandle" ∧ yX6_init.cls ≠ "java/lang/invoke/VarHandle" ∧ (parseMethodDescriptor yX6_init.desc).map (fun d => d.parameters.length) = some 0 := by decide +kernel
set_option maxHeartbeats 4000000 in
set_option maxRecDepth 100000 in
theorem kX6_init (o0 sz : Nat) : Met l yX6_init wsX6_init ({ frames := 1, cells := 1, slots := 400, locals := 12 } : Room) (pcW (dC, dI) (q_ty cI cB cZ) [.ref o0] [(o0, .inr (6, [.null, .int 0, .int 0, .int 0, .int 0]))] sz) (qcA (dC, dI) (q_ty cI cB cZ) [(o0, .inr (6, [.null, .int 0, .int 0, .int 0, .int 0]))] sz (fun (a : Nat → Nat) => wcT cB o0 a sI_0)) 1 400 (va_A [(o0, .inr (6, [.null, .int 0, .int 0, .int 0, .int 0]))] sz) := by
  refine Met.ofW (cc := cX6_init) (maxL := 1) (ret := none) (by decide +kernel) rfl ?_
  intro p e s m args below meth c s₁ B hml hv
  obtain ⟨rfl, hsz, hP, hK, hD0⟩ := hv
  have hx := B.exec
  have hb := B.bytes
  have hr := B.returns
  have hts := atoms_spec (ws := wsX6_init) B.pre
  have hown : s.vm.findClass RX6 = some m.cls := findClass_of_methodNamed B.named
  have hlk := B.notSynchronized
  have hin : meth.name = "<init>" := (name_of_methodNamed B.named B.method).1
  subst hsz
  have hD := hD0.self (sz := s.heap.size)
  have hA : ∀ q : Nat, s.heap.size ≤ q → va_A [(o0, .inr (6, [.null, .int 0, .int 0, .int 0, .int 0]))] s.heap.size q := fun q h => Or.inr h
  have hS : va_S (va_A [(o0, .inr (6, [.null, .int 0, .int 0, .int 0, .int 0]))] s.heap.size) s.heap s.heap [] := va_S.rf
  generalize hAe : va_A [(o0, .inr (6, [.null, .int 0, .int 0, .int 0, .int 0]))] s.heap.size = A at hD hA hS
  rw [lg_entry_eq]
  have hl := lv_entry ([.ref o0]) (n := 1) (Nat.le_of_ble_eq_true rfl)
  generalize (lg_sl ([.ref o0]) ++ List.replicate (1 - (lg_sl ([.ref o0])).length) Slot.unset).toArray = ls at hl ⊢
  have hl : lv_has ls 1 [(0, .ref o0)] := hl
  refine lv_aload_n hx hb dX6_init_0 rfl (lv_at hl 0 rfl) ?_
  refine W.objInit hx hb hown (hts _ qX6_init_1) (hts _ qX6_init_2) (hts _ qX6_init_3) rfl (by rw [hml]; exact hl.1) rfl dX6_init_1 (Nat.le_of_ble_eq_true rfl) (Nat.le_of_ble_eq_true rfl) ?_
  refine W.eq (g2 := F0 m 4 ls []) rfl ?_
  refine lv_aload_n hx hb dX6_init_4 rfl (lv_at hl 0 rfl) ?_
  refine lv_sipush (v := 400) hx hb dX6_init_5 (by decide) ?_
  refine q_newa (atype := .byte) (ty := .byte) (N' := 400) (a0 := (400, .inl (fun _ => 0))) hx hb (hts _ qX6_init_4) rfl 1 rfl (fun _ h => h) hK hP hD hS hA (fun _ => rfl) (by decide) (by decide) (Nat.le_of_ble_eq_true rfl) (Nat.le_of_ble_eq_true rfl) (Nat.le_of_ble_eq_true rfl) dX6_init_8 (fun q1 H hP hD hS => ?_)
  have hP : va_P (dC, dI) vwCl [(o0, .inr (6, [.null, .int 0, .int 0, .int 0, .int 0])), (q1, .inl (cB, 400, .inl (fun _ => 0)))] H := hP
  have hD : va_D A [(o0, .inr (6, [.null, .int 0, .int 0, .int 0, .int 0])), (q1, .inl (cB, 400, .inl (fun _ => 0)))] := hD
  refine W.widen (k := 1) (n := 400) (Nat.le_of_ble_eq_true rfl) (Nat.le_of_ble_eq_true rfl) ?_
  refine va_putF (D := (dC, dI)) (ci := 6) (v := .ref q1) (ty := .array .byte) (C := RX6) (T := TX6) (N := 5) hx hb hts nX6_init_i tyX6 tyX6_ok nmX6 hown hK hP hD hS 0 rfl rfl 0 (by decide) (hts _ qX6_init_5) (fun _ h9 => h9) rfl hin rfl (by decide +kernel) rfl rfl (Nat.le_of_ble_eq_true rfl) dX6_init_10 (fun H locs hP hD hS => ?_)
  have hP : va_P (dC, dI) vwCl [(o0, .inr (6, [.ref q1, .int 0, .int 0, .int 0, .int 0])), (q1, .inl (cB, 400, .inl (fun _ => 0)))] H := hP
  have hD : va_D A [(o0, .inr (6, [.ref q1, .int 0, .int 0, .int 0, .int 0])), (q1, .inl (cB, 400, .inl (fun _ => 0)))] := hD
  exact q_cret (w1 := (fun (a : Nat → Nat) => wcT cB o0 a sI_0)) (fun k => ([q1, 0, 0, 0, 0] : List Nat).getD k 0) hx hb hr hlk hAe hK hP hD hS dX6_init_13
theorem qX8_init_1 : (Cond.methodLink RX8 3 ⟨"java/lang/Object", "<init>", "()V"⟩) ∈ wsX8_init := List.mem_of_getElem? (i := 1) (by decide +kernel)
theorem qX8_init_2 : (Cond.instanceMethod ⟨"java/lang/Object", "<init>", "()V"⟩) ∈ wsX8_init := List.mem_of_getElem? (i := 2) (by decide +kernel)
theorem qX8_init_3 : (Cond.code ⟨"java/lang/Object", "<init>", "()V"⟩ object_method_1_code 1 none) ∈ wsX8_init := List.mem_of_getElem? (i := 3) (by decide +kernel)
theorem qX8_init_4 : (Cond.arrayClass .int) ∈ wsX8_init := List.mem_of_getElem? (i := 4) (by decide +kernel)
theorem qX8_init_5 : (Cond.fieldLink RX8 9 "DeadAskedModel" "lane" "[I") ∈ wsX8_init := List.mem_of_getElem? (i := 5) (by decide +kernel)
theorem qX8_init_6 : (Cond.fieldLink RX8 13 "DeadAskedModel" "many" "[I") ∈ wsX8_init := List.mem_of_getElem? (i := 6) (by decide +kernel)
theorem qX8_init_7 : (Cond.fieldLink RX8 16 "DeadAskedModel" "item" "[I") ∈ wsX8_init := List.mem_of_getElem? (i := 7) (by decide +kernel)
theorem qX8_init_8 : (Cond.fieldLink RX8 19 "DeadAskedModel" "hill" "[I") ∈ wsX8_init := List.mem_of_getElem? (i := 8) (by decide +kernel)
theorem qX8_init_9 : (Cond.fieldLink RX8 22 "DeadAskedModel" "fresh" "[I") ∈ wsX8_init := List.mem_of_getElem? (i := 9) (by decide +kernel)
theorem qX8_init_10 : (Cond.fieldLink RX8 25 "DeadAskedModel" "was" "[I") ∈ wsX8_init := List.mem_of_getElem? (i := 10) (by decide +kernel)
theorem qX8_init_11 : (Cond.fieldLink RX8 28 "DeadAskedModel" "tape" "[I") ∈ wsX8_init := List.mem_of_getElem? (i := 11) (by decide +kernel)
theorem qX8_init_12 : (Cond.arrayClass .boolean) ∈ wsX8_init := List.mem_of_getElem? (i := 12) (by decide +kernel)
theorem qX8_init_13 : (Cond.fieldLink RX8 31 "DeadAskedModel" "isKept" "[Z") ∈ wsX8_init := List.mem_of_getElem? (i := 13) (by decide +kernel)
theorem qX8_init_14 : (Cond.fieldLink RX8 35 "DeadAskedModel" "kept" "[I") ∈ wsX8_init := List.mem_of_getElem? (i := 14) (by decide +kernel)
theorem qX8_init_15 : (Cond.fieldLink RX8 38 "DeadAskedModel" "trace" "[I") ∈ wsX8_init := List.mem_of_getElem? (i := 15) (by decide +kernel)
theorem nX8_init_i : ∀ w ∈ u_ws RX8 TX8 27, w ∈ wsX8_init := by decide +kernel
theorem hdX8_init : yX8_init.cls ≠ "java/lang/invoke/MethodHandle" ∧ yX8_init.cls ≠ "java/lang/invoke/VarHandle" ∧ (parseMethodDescriptor yX8_init.desc).map (fun d => d.parameters.length) = some 0 := by decide +kernel
set_option maxHeartbeats 4000000 in
set_option maxRecDepth 100000 in
theorem kX8_init (o0 sz : Nat) : Met l yX8_init wsX8_init ({ frames := 1, cells := 10, slots := 2406, locals := 12 } : Room) (pcW (dC, dI) (q_ty cI cB cZ) [.ref o0] [(o0, .inr (8, [.int 0, .int 0, .null, .null, .null, .null, .null, .int 0, .null, .int 0, .null, .int 0, .int 0, .int 0, .int 0, .int 0, .int 0, .int 0, .int 0, .int 0, .long 0, .long 0, .long 0, .null, .null, .null, .int 0]))] sz) (qcA (dC, dI) (q_ty cI cB cZ) [(o0, .inr (8, [.int 0, .int 0, .null, .null, .null, .null, .null, .int 0, .null, .int 0, .null, .int 0, .int 0, .int 0, .int 0, .int 0, .int 0, .int 0, .int 0, .int 0, .long 0, .long 0, .long 0, .null, .null, .null, .int 0]))] sz (fun (a : Nat → Nat) => wcM cI cZ o0 a sI_M tI_0)) 10 2406 (va_A [(o0, .inr (8, [.int 0, .int 0, .null, .null, .null, .null, .null, .int 0, .null, .int 0, .null, .int 0, .int 0, .int 0, .int 0, .int 0, .int 0, .int 0, .int 0, .int 0, .long 0, .long 0, .long 0, .null, .null, .null, .int 0]))] sz) := by
  refine Met.ofW (cc := cX8_init) (maxL := 1) (ret := none) (by decide +kernel) rfl ?_
  intro p e s m args below meth c s₁ B hml hv
  obtain ⟨rfl, hsz, hP, hK, hD0⟩ := hv
  have hx := B.exec
  have hb := B.bytes
  have hr := B.returns
  have hts := atoms_spec (ws := wsX8_init) B.pre
  have hown : s.vm.findClass RX8 = some m.cls := findClass_of_methodNamed B.named
  have hlk := B.notSynchronized
  have hin : meth.name = "<init>" := (name_of_methodNamed B.named B.method).1
  subst hsz
  have hD := hD0.self (sz := s.heap.size)
  have hA : ∀ q : Nat, s.heap.size ≤ q → va_A [(o0, .inr (8, [.int 0, .int 0, .null, .null, .null, .null, .null, .int 0, .null, .int 0, .null, .int 0, .int 0, .int 0, .int 0, .int 0, .int 0, .int 0, .int 0, .int 0, .long 0, .long 0, .long 0, .null, .null, .null, .int 0]))] s.heap.size q := fun q h => Or.inr h
  have hS : va_S (va_A [(o0, .inr (8, [.int 0, .int 0, .null, .null, .null, .null, .null, .int 0, .null, .int 0, .null, .int 0, .int 0, .int 0, .int 0, .int 0, .int 0, .int 0, .int 0, .int 0, .long 0, .long 0, .long 0, .null, .null, .null, .int 0]))] s.heap.size) s.heap s.heap [] := va_S.rf
  generalize hAe : va_A [(o0, .inr (8, [.int 0, .int 0, .null, .null, .null, .null, .null, .int 0, .null, .int 0, .null, .int 0, .int 0, .int 0, .int 0, .int 0, .int 0, .int 0, .int 0, .int 0, .long 0, .long 0, .long 0, .null, .null, .null, .int 0]))] s.heap.size = A at hD hA hS
  rw [lg_entry_eq]
  have hl := lv_entry ([.ref o0]) (n := 1) (Nat.le_of_ble_eq_true rfl)
  generalize (lg_sl ([.ref o0]) ++ List.replicate (1 - (lg_sl ([.ref o0])).length) Slot.unset).toArray = ls at hl ⊢
  have hl : lv_has ls 1 [(0, .ref o0)] := hl
  refine lv_aload_n hx hb dX8_init_0 rfl (lv_at hl 0 rfl) ?_
  refine W.objInit hx hb hown (hts _ qX8_init_1) (hts _ qX8_init_2) (hts _ qX8_init_3) rfl (by rw [hml]; exact hl.1) rfl dX8_init_1 (Nat.le_of_ble_eq_true rfl) (Nat.le_of_ble_eq_true rfl) ?_
  refine W.eq (g2 := F0 m 4 ls []) rfl ?_
  refine lv_aload_n hx hb dX8_init_4 rfl (lv_at hl 0 rfl) ?_
  refine lv_bipush (v := 8) hx hb dX8_init_5 (by decide) ?_
  refine q_newa (atype := .int) (ty := .int) (N' := 8) (a0 := (8, .inl (fun _ => 0))) hx hb (hts _ qX8_init_4) rfl 0 rfl (fun _ h => h) hK hP hD hS hA (fun _ => rfl) (by decide) (by decide) (Nat.le_of_ble_eq_true rfl) (Nat.le_of_ble_eq_true rfl) (Nat.le_of_ble_eq_true rfl) dX8_init_7 (fun q1 H hP hD hS => ?_)
  have hP : va_P (dC, dI) vwCl [(o0, .inr (8, [.int 0, .int 0, .null, .null, .null, .null, .null, .int 0, .null, .int 0, .null, .int 0, .int 0, .int 0, .int 0, .int 0, .int 0, .int 0, .int 0, .int 0, .long 0, .long 0, .long 0, .null, .null, .null, .int 0])), (q1, .inl (cI, 8, .inl (fun _ => 0)))] H := hP
  have hD : va_D A [(o0, .inr (8, [.int 0, .int 0, .null, .null, .null, .null, .null, .int 0, .null, .int 0, .null, .int 0, .int 0, .int 0, .int 0, .int 0, .int 0, .int 0, .int 0, .int 0, .long 0, .long 0, .long 0, .null, .null, .null, .int 0])), (q1, .inl (cI, 8, .inl (fun _ => 0)))] := hD
  refine W.widen (k := 1) (n := 8) (Nat.le_of_ble_eq_true rfl) (Nat.le_of_ble_eq_true rfl) ?_
  refine lv_dup hx hb dX8_init_9 rfl ?_
  refine lv_iconst (v := 0) hx hb dX8_init_10 (by decide) ?_
  refine lv_iconst (v := -1) hx hb dX8_init_11 (by decide) ?_
  refine va_iast hx hb hK hP hD hS 1 0 rfl rfl (show inb (0 : Int32) 8 by decide) dX8_init_12 (fun H locs hP hD hS => ?_)
  have hP : va_P (dC, dI) vwCl [(o0, .inr (8, [.int 0, .int 0, .null, .null, .null, .null, .null, .int 0, .null, .int 0, .null, .int 0, .int 0, .int 0, .int 0, .int 0, .int 0, .int 0, .int 0, .int 0, .long 0, .long 0, .long 0, .null, .null, .null, .int 0])), (q1, .inl (cI, 8, .inl (upd (fun _ => 0) 0 (-1))))] H := hP
  have hD : va_D A [(o0, .inr (8, [.int 0, .int 0, .null, .null, .null, .null, .null, .int 0, .null, .int 0, .null, .int 0, .int 0, .int 0, .int 0, .int 0, .int 0, .int 0, .int 0, .int 0, .long 0, .long 0, .long 0, .null, .null, .null, .int 0])), (q1, .inl (cI, 8, .inl (upd (fun _ => 0) 0 (-1))))] := hD
  refine lv_dup hx hb dX8_init_13 rfl ?_
  refine lv_iconst (v := 1) hx hb dX8_init_14 (by decide) ?_
  refine lv_iconst (v := -1) hx hb dX8_init_15 (by decide) ?_
  refine va_iast hx hb hK hP hD hS 1 0 rfl rfl (show inb (1 : Int32) 8 by decide) dX8_init_16 (fun H locs hP hD hS => ?_)
  have hP : va_P (dC, dI) vwCl [(o0, .inr (8, [.int 0, .int 0, .null, .null, .null, .null, .null, .int 0, .null, .int 0, .null, .int 0, .int 0, .int 0, .int 0, .int 0, .int 0, .int 0, .int 0, .int 0, .long 0, .long 0, .long 0, .null, .null, .null, .int 0])), (q1, .inl (cI, 8, .inl (upd (upd (fun _ => 0) 0 (-1)) 1 (-1))))] H := hP
  have hD : va_D A [(o0, .inr (8, [.int 0, .int 0, .null, .null, .null, .null, .null, .int 0, .null, .int 0, .null, .int 0, .int 0, .int 0, .int 0, .int 0, .int 0, .int 0, .int 0, .int 0, .long 0, .long 0, .long 0, .null, .null, .null, .int 0])), (q1, .inl (cI, 8, .inl (upd (upd (fun _ => 0) 0 (-1)) 1 (-1))))] := hD
  refine lv_dup hx hb dX8_init_17 rfl ?_
  refine lv_iconst (v := 2) hx hb dX8_init_18 (by decide) ?_
  refine lv_iconst (v := -1) hx hb dX8_init_19 (by decide) ?_
  refine va_iast hx hb hK hP hD hS 1 0 rfl rfl (show inb (2 : Int32) 8 by decide) dX8_init_20 (fun H locs hP hD hS => ?_)
  have hP : va_P (dC, dI) vwCl [(o0, .inr (8, [.int 0, .int 0, .null, .null, .null, .null, .null, .int 0, .null, .int 0, .null, .int 0, .int 0, .int 0, .int 0, .int 0, .int 0, .int 0, .int 0, .int 0, .long 0, .long 0, .long 0, .null, .null, .null, .int 0])), (q1, .inl (cI, 8, .inl (upd (upd (upd (fun _ => 0) 0 (-1)) 1 (-1)) 2 (-1))))] H := hP
  have hD : va_D A [(o0, .inr (8, [.int 0, .int 0, .null, .null, .null, .null, .null, .int 0, .null, .int 0, .null, .int 0, .int 0, .int 0, .int 0, .int 0, .int 0, .int 0, .int 0, .int 0, .long 0, .long 0, .long 0, .null, .null, .null, .int 0])), (q1, .inl (cI, 8, .inl (upd (upd (upd (fun _ => 0) 0 (-1)) 1 (-1)) 2 (-1))))] := hD
  refine lv_dup hx hb dX8_init_21 rfl ?_
  refine lv_iconst (v := 3) hx hb dX8_init_22 (by decide) ?_
  refine lv_iconst (v := -1) hx hb dX8_init_23 (by decide) ?_
  refine va_iast hx hb hK hP hD hS 1 0 rfl rfl (show inb (3 : Int32) 8 by decide) dX8_init_24 (fun H locs hP hD hS => ?_)
  have hP : va_P (dC, dI) vwCl [(o0, .inr (8, [.int 0, .int 0, .null, .null, .null, .null, .null, .int 0, .null, .int 0, .null, .int 0, .int 0, .int 0, .int 0, .int 0, .int 0, .int 0, .int 0, .int 0, .long 0, .long 0, .long 0, .null, .null, .null, .int 0])), (q1, .inl (cI, 8, .inl (upd (upd (upd (upd (fun _ => 0) 0 (-1)) 1 (-1)) 2 (-1)) 3 (-1))))] H := hP
  have hD : va_D A [(o0, .inr (8, [.int 0, .int 0, .null, .null, .null, .null, .null, .int 0, .null, .int 0, .null, .int 0, .int 0, .int 0, .int 0, .int 0, .int 0, .int 0, .int 0, .int 0, .long 0, .long 0, .long 0, .null, .null, .null, .int 0])), (q1, .inl (cI, 8, .inl (upd (upd (upd (upd (fun _ => 0) 0 (-1)) 1 (-1)) 2 (-1)) 3 (-1))))] := hD
  refine lv_dup hx hb dX8_init_25 rfl ?_
  refine lv_iconst (v := 4) hx hb dX8_init_26 (by decide) ?_
  refine lv_iconst (v := -1) hx hb dX8_init_27 (by decide) ?_
  refine va_iast hx hb hK hP hD hS 1 0 rfl rfl (show inb (4 : Int32) 8 by decide) dX8_init_28 (fun H locs hP hD hS => ?_)
  have hP : va_P (dC, dI) vwCl [(o0, .inr (8, [.int 0, .int 0, .null, .null, .null, .null, .null, .int 0, .null, .int 0, .null, .int 0, .int 0, .int 0, .int 0, .int 0, .int 0, .int 0, .int 0, .int 0, .long 0, .long 0, .long 0, .null, .null, .null, .int 0])), (q1, .inl (cI, 8, .inl (upd (upd (upd (upd (upd (fun _ => 0) 0 (-1)) 1 (-1)) 2 (-1)) 3 (-1)) 4 (-1))))] H := hP
  have hD : va_D A [(o0, .inr (8, [.int 0, .int 0, .null, .null, .null, .null, .null, .int 0, .null, .int 0, .null, .int 0, .int 0, .int 0, .int 0, .int 0, .int 0, .int 0, .int 0, .int 0, .long 0, .long 0, .long 0, .null, .null, .null, .int 0])), (q1, .inl (cI, 8, .inl (upd (upd (upd (upd (upd (fun _ => 0) 0 (-1)) 1 (-1)) 2 (-1)) 3 (-1)) 4 (-1))))] := hD
  refine lv_dup hx hb dX8_init_29 rfl ?_
  refine lv_iconst (v := 5) hx hb dX8_init_30 (by decide) ?_
  refine lv_iconst (v := -1) hx hb dX8_init_31 (by decide) ?_
  refine va_iast hx hb hK hP hD hS 1 0 rfl rfl (show inb (5 : Int32) 8 by decide) dX8_init_32 (fun H locs hP hD hS => ?_)
  have hP : va_P (dC, dI) vwCl [(o0, .inr (8, [.int 0, .int 0, .null, .null, .null, .null, .null, .int 0, .null, .int 0, .null, .int 0, .int 0, .int 0, .int 0, .int 0, .int 0, .int 0, .int 0, .int 0, .long 0, .long 0, .long 0, .null, .null, .null, .int 0])), (q1, .inl (cI, 8, .inl (upd (upd (upd (upd (upd (upd (fun _ => 0) 0 (-1)) 1 (-1)) 2 (-1)) 3 (-1)) 4 (-1)) 5 (-1))))] H := hP
  have hD : va_D A [(o0, .inr (8, [.int 0, .int 0, .null, .null, .null, .null, .null, .int 0, .null, .int 0, .null, .int 0, .int 0, .int 0, .int 0, .int 0, .int 0, .int 0, .int 0, .int 0, .long 0, .long 0, .long 0, .null, .null, .null, .int 0])), (q1, .inl (cI, 8, .inl (upd (upd (upd (upd (upd (upd (fun _ => 0) 0 (-1)) 1 (-1)) 2 (-1)) 3 (-1)) 4 (-1)) 5 (-1))))] := hD
  refine lv_dup hx hb dX8_init_33 rfl ?_
  refine lv_bipush (v := 6) hx hb dX8_init_34 (by decide) ?_
  refine lv_iconst (v := -1) hx hb dX8_init_36 (by decide) ?_
  refine va_iast hx hb hK hP hD hS 1 0 rfl rfl (show inb (6 : Int32) 8 by decide) dX8_init_37 (fun H locs hP hD hS => ?_)
  have hP : va_P (dC, dI) vwCl [(o0, .inr (8, [.int 0, .int 0, .null, .null, .null, .null, .null, .int 0, .null, .int 0, .null, .int 0, .int 0, .int 0, .int 0, .int 0, .int 0, .int 0, .int 0, .int 0, .long 0, .long 0, .long 0, .null, .null, .null, .int 0])), (q1, .inl (cI, 8, .inl (upd (upd (upd (upd (upd (upd (upd (fun _ => 0) 0 (-1)) 1 (-1)) 2 (-1)) 3 (-1)) 4 (-1)) 5 (-1)) 6 (-1))))] H := hP
  have hD : va_D A [(o0, .inr (8, [.int 0, .int 0, .null, .null, .null, .null, .null, .int 0, .null, .int 0, .null, .int 0, .int 0, .int 0, .int 0, .int 0, .int 0, .int 0, .int 0, .int 0, .long 0, .long 0, .long 0, .null, .null, .null, .int 0])), (q1, .inl (cI, 8, .inl (upd (upd (upd (upd (upd (upd (upd (fun _ => 0) 0 (-1)) 1 (-1)) 2 (-1)) 3 (-1)) 4 (-1)) 5 (-1)) 6 (-1))))] := hD
  refine lv_dup hx hb dX8_init_38 rfl ?_
  refine lv_bipush (v := 7) hx hb dX8_init_39 (by decide) ?_
  refine lv_iconst (v := -1) hx hb dX8_init_41 (by decide) ?_
  refine va_iast hx hb hK hP hD hS 1 0 rfl rfl (show inb (7 : Int32) 8 by decide) dX8_init_42 (fun H locs hP hD hS => ?_)
  have hP : va_P (dC, dI) vwCl [(o0, .inr (8, [.int 0, .int 0, .null, .null, .null, .null, .null, .int 0, .null, .int 0, .null, .int 0, .int 0, .int 0, .int 0, .int 0, .int 0, .int 0, .int 0, .int 0, .long 0, .long 0, .long 0, .null, .null, .null, .int 0])), (q1, .inl (cI, 8, .inl (upd (upd (upd (upd (upd (upd (upd (upd (fun _ => 0) 0 (-1)) 1 (-1)) 2 (-1)) 3 (-1)) 4 (-1)) 5 (-1)) 6 (-1)) 7 (-1))))] H := hP
  have hD : va_D A [(o0, .inr (8, [.int 0, .int 0, .null, .null, .null, .null, .null, .int 0, .null, .int 0, .null, .int 0, .int 0, .int 0, .int 0, .int 0, .int 0, .int 0, .int 0, .int 0, .long 0, .long 0, .long 0, .null, .null, .null, .int 0])), (q1, .inl (cI, 8, .inl (upd (upd (upd (upd (upd (upd (upd (upd (fun _ => 0) 0 (-1)) 1 (-1)) 2 (-1)) 3 (-1)) 4 (-1)) 5 (-1)) 6 (-1)) 7 (-1))))] := hD
  refine va_putF (D := (dC, dI)) (ci := 8) (v := .ref q1) (ty := .array .int) (C := RX8) (T := TX8) (N := 27) hx hb hts nX8_init_i tyX8 tyX8_ok nmX8 hown hK hP hD hS 0 rfl rfl 2 (by decide) (hts _ qX8_init_5) (fun _ h9 => h9) rfl hin rfl (by decide +kernel) rfl rfl (Nat.le_of_ble_eq_true rfl) dX8_init_43 (fun H locs hP hD hS => ?_)
  have hP : va_P (dC, dI) vwCl [(o0, .inr (8, [.int 0, .int 0, .ref q1, .null, .null, .null, .null, .int 0, .null, .int 0, .null, .int 0, .int 0, .int 0, .int 0, .int 0, .int 0, .int 0, .int 0, .int 0, .long 0, .long 0, .long 0, .null, .null, .null, .int 0])), (q1, .inl (cI, 8, .inl (upd (upd (upd (upd (upd (upd (upd (upd (fun _ => 0) 0 (-1)) 1 (-1)) 2 (-1)) 3 (-1)) 4 (-1)) 5 (-1)) 6 (-1)) 7 (-1))))] H := hP
  have hD : va_D A [(o0, .inr (8, [.int 0, .int 0, .ref q1, .null, .null, .null, .null, .int 0, .null, .int 0, .null, .int 0, .int 0, .int 0, .int 0, .int 0, .int 0, .int 0, .int 0, .int 0, .long 0, .long 0, .long 0, .null, .null, .null, .int 0])), (q1, .inl (cI, 8, .inl (upd (upd (upd (upd (upd (upd (upd (upd (fun _ => 0) 0 (-1)) 1 (-1)) 2 (-1)) 3 (-1)) 4 (-1)) 5 (-1)) 6 (-1)) 7 (-1))))] := hD
  refine lv_aload_n hx hb dX8_init_46 rfl (lv_at hl 0 rfl) ?_
  refine lv_bipush (v := 8) hx hb dX8_init_47 (by decide) ?_
  refine q_newa (atype := .int) (ty := .int) (N' := 8) (a0 := (8, .inl (fun _ => 0))) hx hb (hts _ qX8_init_4) rfl 0 rfl (fun _ h => h) hK hP hD hS hA (fun _ => rfl) (by decide) (by decide) (Nat.le_of_ble_eq_true rfl) (Nat.le_of_ble_eq_true rfl) (Nat.le_of_ble_eq_true rfl) dX8_init_49 (fun q2 H hP hD hS => ?_)
  have hP : va_P (dC, dI) vwCl [(o0, .inr (8, [.int 0, .int 0, .ref q1, .null, .null, .null, .null, .int 0, .null, .int 0, .null, .int 0, .int 0, .int 0, .int 0, .int 0, .int 0, .int 0, .int 0, .int 0, .long 0, .long 0, .long 0, .null, .null, .null, .int 0])), (q1, .inl (cI, 8, .inl (upd (upd (upd (upd (upd (upd (upd (upd (fun _ => 0) 0 (-1)) 1 (-1)) 2 (-1)) 3 (-1)) 4 (-1)) 5 (-1)) 6 (-1)) 7 (-1)))), (q2, .inl (cI, 8, .inl (fun _ => 0)))] H := hP
  have hD : va_D A [(o0, .inr (8, [.int 0, .int 0, .ref q1, .null, .null, .null, .null, .int 0, .null, .int 0, .null, .int 0, .int 0, .int 0, .int 0, .int 0, .int 0, .int 0, .int 0, .int 0, .long 0, .long 0, .long 0, .null, .null, .null, .int 0])), (q1, .inl (cI, 8, .inl (upd (upd (upd (upd (upd (upd (upd (upd (fun _ => 0) 0 (-1)) 1 (-1)) 2 (-1)) 3 (-1)) 4 (-1)) 5 (-1)) 6 (-1)) 7 (-1)))), (q2, .inl (cI, 8, .inl (fun _ => 0)))] := hD
  refine W.widen (k := 2) (n := 16) (Nat.le_of_ble_eq_true rfl) (Nat.le_of_ble_eq_true rfl) ?_
  refine va_putF (D := (dC, dI)) (ci := 8) (v := .ref q2) (ty := .array .int) (C := RX8) (T := TX8) (N := 27) hx hb hts nX8_init_i tyX8 tyX8_ok nmX8 hown hK hP hD hS 0 rfl rfl 3 (by decide) (hts _ qX8_init_6) (fun _ h9 => h9) rfl hin rfl (by decide +kernel) rfl rfl (Nat.le_of_ble_eq_true rfl) dX8_init_51 (fun H locs hP hD hS => ?_)
  have hP : va_P (dC, dI) vwCl [(o0, .inr (8, [.int 0, .int 0, .ref q1, .ref q2, .null, .null, .null, .int 0, .null, .int 0, .null, .int 0, .int 0, .int 0, .int 0, .int 0, .int 0, .int 0, .int 0, .int 0, .long 0, .long 0, .long 0, .null, .null, .null, .int 0])), (q1, .inl (cI, 8, .inl (upd (upd (upd (upd (upd (upd (upd (upd (fun _ => 0) 0 (-1)) 1 (-1)) 2 (-1)) 3 (-1)) 4 (-1)) 5 (-1)) 6 (-1)) 7 (-1)))), (q2, .inl (cI, 8, .inl (fun _ => 0)))] H := hP
  have hD : va_D A [(o0, .inr (8, [.int 0, .int 0, .ref q1, .ref q2, .null, .null, .null, .int 0, .null, .int 0, .null, .int 0, .int 0, .int 0, .int 0, .int 0, .int 0, .int 0, .int 0, .int 0, .long 0, .long 0, .long 0, .null, .null, .null, .int 0])), (q1, .inl (cI, 8, .inl (upd (upd (upd (upd (upd (upd (upd (upd (fun _ => 0) 0 (-1)) 1 (-1)) 2 (-1)) 3 (-1)) 4 (-1)) 5 (-1)) 6 (-1)) 7 (-1)))), (q2, .inl (cI, 8, .inl (fun _ => 0)))] := hD
  refine lv_aload_n hx hb dX8_init_54 rfl (lv_at hl 0 rfl) ?_
  refine lv_sipush (v := 320) hx hb dX8_init_55 (by decide) ?_
  refine q_newa (atype := .int) (ty := .int) (N' := 320) (a0 := (320, .inl (fun _ => 0))) hx hb (hts _ qX8_init_4) rfl 0 rfl (fun _ h => h) hK hP hD hS hA (fun _ => rfl) (by decide) (by decide) (Nat.le_of_ble_eq_true rfl) (Nat.le_of_ble_eq_true rfl) (Nat.le_of_ble_eq_true rfl) dX8_init_58 (fun q3 H hP hD hS => ?_)
  have hP : va_P (dC, dI) vwCl [(o0, .inr (8, [.int 0, .int 0, .ref q1, .ref q2, .null, .null, .null, .int 0, .null, .int 0, .null, .int 0, .int 0, .int 0, .int 0, .int 0, .int 0, .int 0, .int 0, .int 0, .long 0, .long 0, .long 0, .null, .null, .null, .int 0])), (q1, .inl (cI, 8, .inl (upd (upd (upd (upd (upd (upd (upd (upd (fun _ => 0) 0 (-1)) 1 (-1)) 2 (-1)) 3 (-1)) 4 (-1)) 5 (-1)) 6 (-1)) 7 (-1)))), (q2, .inl (cI, 8, .inl (fun _ => 0))), (q3, .inl (cI, 320, .inl (fun _ => 0)))] H := hP
  have hD : va_D A [(o0, .inr (8, [.int 0, .int 0, .ref q1, .ref q2, .null, .null, .null, .int 0, .null, .int 0, .null, .int 0, .int 0, .int 0, .int 0, .int 0, .int 0, .int 0, .int 0, .int 0, .long 0, .long 0, .long 0, .null, .null, .null, .int 0])), (q1, .inl (cI, 8, .inl (upd (upd (upd (upd (upd (upd (upd (upd (fun _ => 0) 0 (-1)) 1 (-1)) 2 (-1)) 3 (-1)) 4 (-1)) 5 (-1)) 6 (-1)) 7 (-1)))), (q2, .inl (cI, 8, .inl (fun _ => 0))), (q3, .inl (cI, 320, .inl (fun _ => 0)))] := hD
  refine W.widen (k := 3) (n := 336) (Nat.le_of_ble_eq_true rfl) (Nat.le_of_ble_eq_true rfl) ?_
  refine va_putF (D := (dC, dI)) (ci := 8) (v := .ref q3) (ty := .array .int) (C := RX8) (T := TX8) (N := 27) hx hb hts nX8_init_i tyX8 tyX8_ok nmX8 hown hK hP hD hS 0 rfl rfl 4 (by decide) (hts _ qX8_init_7) (fun _ h9 => h9) rfl hin rfl (by decide +kernel) rfl rfl (Nat.le_of_ble_eq_true rfl) dX8_init_60 (fun H locs hP hD hS => ?_)
  have hP : va_P (dC, dI) vwCl [(o0, .inr (8, [.int 0, .int 0, .ref q1, .ref q2, .ref q3, .null, .null, .int 0, .null, .int 0, .null, .int 0, .int 0, .int 0, .int 0, .int 0, .int 0, .int 0, .int 0, .int 0, .long 0, .long 0, .long 0, .null, .null, .null, .int 0])), (q1, .inl (cI, 8, .inl (upd (upd (upd (upd (upd (upd (upd (upd (fun _ => 0) 0 (-1)) 1 (-1)) 2 (-1)) 3 (-1)) 4 (-1)) 5 (-1)) 6 (-1)) 7 (-1)))), (q2, .inl (cI, 8, .inl (fun _ => 0))), (q3, .inl (cI, 320, .inl (fun _ => 0)))] H := hP
  have hD : va_D A [(o0, .inr (8, [.int 0, .int 0, .ref q1, .ref q2, .ref q3, .null, .null, .int 0, .null, .int 0, .null, .int 0, .int 0, .int 0, .int 0, .int 0, .int 0, .int 0, .int 0, .int 0, .long 0, .long 0, .long 0, .null, .null, .null, .int 0])), (q1, .inl (cI, 8, .inl (upd (upd (upd (upd (upd (upd (upd (upd (fun _ => 0) 0 (-1)) 1 (-1)) 2 (-1)) 3 (-1)) 4 (-1)) 5 (-1)) 6 (-1)) 7 (-1)))), (q2, .inl (cI, 8, .inl (fun _ => 0))), (q3, .inl (cI, 320, .inl (fun _ => 0)))] := hD
  refine lv_aload_n hx hb dX8_init_63 rfl (lv_at hl 0 rfl) ?_
  refine lv_bipush (v := 59) hx hb dX8_init_64 (by decide) ?_
  refine q_newa (atype := .int) (ty := .int) (N' := 59) (a0 := (59, .inl (fun _ => 0))) hx hb (hts _ qX8_init_4) rfl 0 rfl (fun _ h => h) hK hP hD hS hA (fun _ => rfl) (by decide) (by decide) (Nat.le_of_ble_eq_true rfl) (Nat.le_of_ble_eq_true rfl) (Nat.le_of_ble_eq_true rfl) dX8_init_66 (fun q4 H hP hD hS => ?_)
  have hP : va_P (dC, dI) vwCl [(o0, .inr (8, [.int 0, .int 0, .ref q1, .ref q2, .ref q3, .null, .null, .int 0, .null, .int 0, .null, .int 0, .int 0, .int 0, .int 0, .int 0, .int 0, .int 0, .int 0, .int 0, .long 0, .long 0, .long 0, .null, .null, .null, .int 0])), (q1, .inl (cI, 8, .inl (upd (upd (upd (upd (upd (upd (upd (upd (fun _ => 0) 0 (-1)) 1 (-1)) 2 (-1)) 3 (-1)) 4 (-1)) 5 (-1)) 6 (-1)) 7 (-1)))), (q2, .inl (cI, 8, .inl (fun _ => 0))), (q3, .inl (cI, 320, .inl (fun _ => 0))), (q4, .inl (cI, 59, .inl (fun _ => 0)))] H := hP
  have hD : va_D A [(o0, .inr (8, [.int 0, .int 0, .ref q1, .ref q2, .ref q3, .null, .null, .int 0, .null, .int 0, .null, .int 0, .int 0, .int 0, .int 0, .int 0, .int 0, .int 0, .int 0, .int 0, .long 0, .long 0, .long 0, .null, .null, .null, .int 0])), (q1, .inl (cI, 8, .inl (upd (upd (upd (upd (upd (upd (upd (upd (fun _ => 0) 0 (-1)) 1 (-1)) 2 (-1)) 3 (-1)) 4 (-1)) 5 (-1)) 6 (-1)) 7 (-1)))), (q2, .inl (cI, 8, .inl (fun _ => 0))), (q3, .inl (cI, 320, .inl (fun _ => 0))), (q4, .inl (cI, 59, .inl (fun _ => 0)))] := hD
  refine W.widen (k := 4) (n := 395) (Nat.le_of_ble_eq_true rfl) (Nat.le_of_ble_eq_true rfl) ?_
  refine va_putF (D := (dC, dI)) (ci := 8) (v := .ref q4) (ty := .array .int) (C := RX8) (T := TX8) (N := 27) hx hb hts nX8_init_i tyX8 tyX8_ok nmX8 hown hK hP hD hS 0 rfl rfl 5 (by decide) (hts _ qX8_init_8) (fun _ h9 => h9) rfl hin rfl (by decide +kernel) rfl rfl (Nat.le_of_ble_eq_true rfl) dX8_init_68 (fun H locs hP hD hS => ?_)
  have hP : va_P (dC, dI) vwCl [(o0, .inr (8, [.int 0, .int 0, .ref q1, .ref q2, .ref q3, .ref q4, .null, .int 0, .null, .int 0, .null, .int 0, .int 0, .int 0, .int 0, .int 0, .int 0, .int 0, .int 0, .int 0, .long 0, .long 0, .long 0, .null, .null, .null, .int 0])), (q1, .inl (cI, 8, .inl (upd (upd (upd (upd (upd (upd (upd (upd (fun _ => 0) 0 (-1)) 1 (-1)) 2 (-1)) 3 (-1)) 4 (-1)) 5 (-1)) 6 (-1)) 7 (-1)))), (q2, .inl (cI, 8, .inl (fun _ => 0))), (q3, .inl (cI, 320, .inl (fun _ => 0))), (q4, .inl (cI, 59, .inl (fun _ => 0)))] H := hP
  have hD : va_D A [(o0, .inr (8, [.int 0, .int 0, .ref q1, .ref q2, .ref q3, .ref q4, .null, .int 0, .null, .int 0, .null, .int 0, .int 0, .int 0, .int 0, .int 0, .int 0, .int 0, .int 0, .int 0, .long 0, .long 0, .long 0, .null, .null, .null, .int 0])), (q1, .inl (cI, 8, .inl (upd (upd (upd (upd (upd (upd (upd (upd (fun _ => 0) 0 (-1)) 1 (-1)) 2 (-1)) 3 (-1)) 4 (-1)) 5 (-1)) 6 (-1)) 7 (-1)))), (q2, .inl (cI, 8, .inl (fun _ => 0))), (q3, .inl (cI, 320, .inl (fun _ => 0))), (q4, .inl (cI, 59, .inl (fun _ => 0)))] := hD
  refine lv_aload_n hx hb dX8_init_71 rfl (lv_at hl 0 rfl) ?_
  refine lv_bipush (v := 59) hx hb dX8_init_72 (by decide) ?_
  refine q_newa (atype := .int) (ty := .int) (N' := 59) (a0 := (59, .inl (fun _ => 0))) hx hb (hts _ qX8_init_4) rfl 0 rfl (fun _ h => h) hK hP hD hS hA (fun _ => rfl) (by decide) (by decide) (Nat.le_of_ble_eq_true rfl) (Nat.le_of_ble_eq_true rfl) (Nat.le_of_ble_eq_true rfl) dX8_init_74 (fun q5 H hP hD hS => ?_)
  have hP : va_P (dC, dI) vwCl [(o0, .inr (8, [.int 0, .int 0, .ref q1, .ref q2, .ref q3, .ref q4, .null, .int 0, .null, .int 0, .null, .int 0, .int 0, .int 0, .int 0, .int 0, .int 0, .int 0, .int 0, .int 0, .long 0, .long 0, .long 0, .null, .null, .null, .int 0])), (q1, .inl (cI, 8, .inl (upd (upd (upd (upd (upd (upd (upd (upd (fun _ => 0) 0 (-1)) 1 (-1)) 2 (-1)) 3 (-1)) 4 (-1)) 5 (-1)) 6 (-1)) 7 (-1)))), (q2, .inl (cI, 8, .inl (fun _ => 0))), (q3, .inl (cI, 320, .inl (fun _ => 0))), (q4, .inl (cI, 59, .inl (fun _ => 0))), (q5, .inl (cI, 59, .inl (fun _ => 0)))] H := hP
  have hD : va_D A [(o0, .inr (8, [.int 0, .int 0, .ref q1, .ref q2, .ref q3, .ref q4, .null, .int 0, .null, .int 0, .null, .int 0, .int 0, .int 0, .int 0, .int 0, .int 0, .int 0, .int 0, .int 0, .long 0, .long 0, .long 0, .null, .null, .null, .int 0])), (q1, .inl (cI, 8, .inl (upd (upd (upd (upd (upd (upd (upd (upd (fun _ => 0) 0 (-1)) 1 (-1)) 2 (-1)) 3 (-1)) 4 (-1)) 5 (-1)) 6 (-1)) 7 (-1)))), (q2, .inl (cI, 8, .inl (fun _ => 0))), (q3, .inl (cI, 320, .inl (fun _ => 0))), (q4, .inl (cI, 59, .inl (fun _ => 0))), (q5, .inl (cI, 59, .inl (fun _ => 0)))] := hD
  refine W.widen (k := 5) (n := 454) (Nat.le_of_ble_eq_true rfl) (Nat.le_of_ble_eq_true rfl) ?_
  refine va_putF (D := (dC, dI)) (ci := 8) (v := .ref q5) (ty := .array .int) (C := RX8) (T := TX8) (N := 27) hx hb hts nX8_init_i tyX8 tyX8_ok nmX8 hown hK hP hD hS 0 rfl rfl 6 (by decide) (hts _ qX8_init_9) (fun _ h9 => h9) rfl hin rfl (by decide +kernel) rfl rfl (Nat.le_of_ble_eq_true rfl) dX8_init_76 (fun H locs hP hD hS => ?_)
  have hP : va_P (dC, dI) vwCl [(o0, .inr (8, [.int 0, .int 0, .ref q1, .ref q2, .ref q3, .ref q4, .ref q5, .int 0, .null, .int 0, .null, .int 0, .int 0, .int 0, .int 0, .int 0, .int 0, .int 0, .int 0, .int 0, .long 0, .long 0, .long 0, .null, .null, .null, .int 0])), (q1, .inl (cI, 8, .inl (upd (upd (upd (upd (upd (upd (upd (upd (fun _ => 0) 0 (-1)) 1 (-1)) 2 (-1)) 3 (-1)) 4 (-1)) 5 (-1)) 6 (-1)) 7 (-1)))), (q2, .inl (cI, 8, .inl (fun _ => 0))), (q3, .inl (cI, 320, .inl (fun _ => 0))), (q4, .inl (cI, 59, .inl (fun _ => 0))), (q5, .inl (cI, 59, .inl (fun _ => 0)))] H := hP
  have hD : va_D A [(o0, .inr (8, [.int 0, .int 0, .ref q1, .ref q2, .ref q3, .ref q4, .ref q5, .int 0, .null, .int 0, .null, .int 0, .int 0, .int 0, .int 0, .int 0, .int 0, .int 0, .int 0, .int 0, .long 0, .long 0, .long 0, .null, .null, .null, .int 0])), (q1, .inl (cI, 8, .inl (upd (upd (upd (upd (upd (upd (upd (upd (fun _ => 0) 0 (-1)) 1 (-1)) 2 (-1)) 3 (-1)) 4 (-1)) 5 (-1)) 6 (-1)) 7 (-1)))), (q2, .inl (cI, 8, .inl (fun _ => 0))), (q3, .inl (cI, 320, .inl (fun _ => 0))), (q4, .inl (cI, 59, .inl (fun _ => 0))), (q5, .inl (cI, 59, .inl (fun _ => 0)))] := hD
  refine lv_aload_n hx hb dX8_init_79 rfl (lv_at hl 0 rfl) ?_
  refine lv_sipush (v := 1416) hx hb dX8_init_80 (by decide) ?_
  refine q_newa (atype := .int) (ty := .int) (N' := 1416) (a0 := (1416, .inl (fun _ => 0))) hx hb (hts _ qX8_init_4) rfl 0 rfl (fun _ h => h) hK hP hD hS hA (fun _ => rfl) (by decide) (by decide) (Nat.le_of_ble_eq_true rfl) (Nat.le_of_ble_eq_true rfl) (Nat.le_of_ble_eq_true rfl) dX8_init_83 (fun q6 H hP hD hS => ?_)
  have hP : va_P (dC, dI) vwCl [(o0, .inr (8, [.int 0, .int 0, .ref q1, .ref q2, .ref q3, .ref q4, .ref q5, .int 0, .null, .int 0, .null, .int 0, .int 0, .int 0, .int 0, .int 0, .int 0, .int 0, .int 0, .int 0, .long 0, .long 0, .long 0, .null, .null, .null, .int 0])), (q1, .inl (cI, 8, .inl (upd (upd (upd (upd (upd (upd (upd (upd (fun _ => 0) 0 (-1)) 1 (-1)) 2 (-1)) 3 (-1)) 4 (-1)) 5 (-1)) 6 (-1)) 7 (-1)))), (q2, .inl (cI, 8, .inl (fun _ => 0))), (q3, .inl (cI, 320, .inl (fun _ => 0))), (q4, .inl (cI, 59, .inl (fun _ => 0))), (q5, .inl (cI, 59, .inl (fun _ => 0))), (q6, .inl (cI, 1416, .inl (fun _ => 0)))] H := hP
  have hD : va_D A [(o0, .inr (8, [.int 0, .int 0, .ref q1, .ref q2, .ref q3, .ref q4, .ref q5, .int 0, .null, .int 0, .null, .int 0, .int 0, .int 0, .int 0, .int 0, .int 0, .int 0, .int 0, .int 0, .long 0, .long 0, .long 0, .null, .null, .null, .int 0])), (q1, .inl (cI, 8, .inl (upd (upd (upd (upd (upd (upd (upd (upd (fun _ => 0) 0 (-1)) 1 (-1)) 2 (-1)) 3 (-1)) 4 (-1)) 5 (-1)) 6 (-1)) 7 (-1)))), (q2, .inl (cI, 8, .inl (fun _ => 0))), (q3, .inl (cI, 320, .inl (fun _ => 0))), (q4, .inl (cI, 59, .inl (fun _ => 0))), (q5, .inl (cI, 59, .inl (fun _ => 0))), (q6, .inl (cI, 1416, .inl (fun _ => 0)))] := hD
  refine W.widen (k := 6) (n := 1870) (Nat.le_of_ble_eq_true rfl) (Nat.le_of_ble_eq_true rfl) ?_
  refine va_putF (D := (dC, dI)) (ci := 8) (v := .ref q6) (ty := .array .int) (C := RX8) (T := TX8) (N := 27) hx hb hts nX8_init_i tyX8 tyX8_ok nmX8 hown hK hP hD hS 0 rfl rfl 8 (by decide) (hts _ qX8_init_10) (fun _ h9 => h9) rfl hin rfl (by decide +kernel) rfl rfl (Nat.le_of_ble_eq_true rfl) dX8_init_85 (fun H locs hP hD hS => ?_)
  have hP : va_P (dC, dI) vwCl [(o0, .inr (8, [.int 0, .int 0, .ref q1, .ref q2, .ref q3, .ref q4, .ref q5, .int 0, .ref q6, .int 0, .null, .int 0, .int 0, .int 0, .int 0, .int 0, .int 0, .int 0, .int 0, .int 0, .long 0, .long 0, .long 0, .null, .null, .null, .int 0])), (q1, .inl (cI, 8, .inl (upd (upd (upd (upd (upd (upd (upd (upd (fun _ => 0) 0 (-1)) 1 (-1)) 2 (-1)) 3 (-1)) 4 (-1)) 5 (-1)) 6 (-1)) 7 (-1)))), (q2, .inl (cI, 8, .inl (fun _ => 0))), (q3, .inl (cI, 320, .inl (fun _ => 0))), (q4, .inl (cI, 59, .inl (fun _ => 0))), (q5, .inl (cI, 59, .inl (fun _ => 0))), (q6, .inl (cI, 1416, .inl (fun _ => 0)))] H := hP
  have hD : va_D A [(o0, .inr (8, [.int 0, .int 0, .ref q1, .ref q2, .ref q3, .ref q4, .ref q5, .int 0, .ref q6, .int 0, .null, .int 0, .int 0, .int 0, .int 0, .int 0, .int 0, .int 0, .int 0, .int 0, .long 0, .long 0, .long 0, .null, .null, .null, .int 0])), (q1, .inl (cI, 8, .inl (upd (upd (upd (upd (upd (upd (upd (upd (fun _ => 0) 0 (-1)) 1 (-1)) 2 (-1)) 3 (-1)) 4 (-1)) 5 (-1)) 6 (-1)) 7 (-1)))), (q2, .inl (cI, 8, .inl (fun _ => 0))), (q3, .inl (cI, 320, .inl (fun _ => 0))), (q4, .inl (cI, 59, .inl (fun _ => 0))), (q5, .inl (cI, 59, .inl (fun _ => 0))), (q6, .inl (cI, 1416, .inl (fun _ => 0)))] := hD
  refine lv_aload_n hx hb dX8_init_88 rfl (lv_at hl 0 rfl) ?_
  refine lv_sipush (v := 400) hx hb dX8_init_89 (by decide) ?_
  refine q_newa (atype := .int) (ty := .int) (N' := 400) (a0 := (400, .inl (fun _ => 0))) hx hb (hts _ qX8_init_4) rfl 0 rfl (fun _ h => h) hK hP hD hS hA (fun _ => rfl) (by decide) (by decide) (Nat.le_of_ble_eq_true rfl) (Nat.le_of_ble_eq_true rfl) (Nat.le_of_ble_eq_true rfl) dX8_init_92 (fun q7 H hP hD hS => ?_)
  have hP : va_P (dC, dI) vwCl [(o0, .inr (8, [.int 0, .int 0, .ref q1, .ref q2, .ref q3, .ref q4, .ref q5, .int 0, .ref q6, .int 0, .null, .int 0, .int 0, .int 0, .int 0, .int 0, .int 0, .int 0, .int 0, .int 0, .long 0, .long 0, .long 0, .null, .null, .null, .int 0])), (q1, .inl (cI, 8, .inl (upd (upd (upd (upd (upd (upd (upd (upd (fun _ => 0) 0 (-1)) 1 (-1)) 2 (-1)) 3 (-1)) 4 (-1)) 5 (-1)) 6 (-1)) 7 (-1)))), (q2, .inl (cI, 8, .inl (fun _ => 0))), (q3, .inl (cI, 320, .inl (fun _ => 0))), (q4, .inl (cI, 59, .inl (fun _ => 0))), (q5, .inl (cI, 59, .inl (fun _ => 0))), (q6, .inl (cI, 1416, .inl (fun _ => 0))), (q7, .inl (cI, 400, .inl (fun _ => 0)))] H := hP
  have hD : va_D A [(o0, .inr (8, [.int 0, .int 0, .ref q1, .ref q2, .ref q3, .ref q4, .ref q5, .int 0, .ref q6, .int 0, .null, .int 0, .int 0, .int 0, .int 0, .int 0, .int 0, .int 0, .int 0, .int 0, .long 0, .long 0, .long 0, .null, .null, .null, .int 0])), (q1, .inl (cI, 8, .inl (upd (upd (upd (upd (upd (upd (upd (upd (fun _ => 0) 0 (-1)) 1 (-1)) 2 (-1)) 3 (-1)) 4 (-1)) 5 (-1)) 6 (-1)) 7 (-1)))), (q2, .inl (cI, 8, .inl (fun _ => 0))), (q3, .inl (cI, 320, .inl (fun _ => 0))), (q4, .inl (cI, 59, .inl (fun _ => 0))), (q5, .inl (cI, 59, .inl (fun _ => 0))), (q6, .inl (cI, 1416, .inl (fun _ => 0))), (q7, .inl (cI, 400, .inl (fun _ => 0)))] := hD
  refine W.widen (k := 7) (n := 2270) (Nat.le_of_ble_eq_true rfl) (Nat.le_of_ble_eq_true rfl) ?_
  refine va_putF (D := (dC, dI)) (ci := 8) (v := .ref q7) (ty := .array .int) (C := RX8) (T := TX8) (N := 27) hx hb hts nX8_init_i tyX8 tyX8_ok nmX8 hown hK hP hD hS 0 rfl rfl 10 (by decide) (hts _ qX8_init_11) (fun _ h9 => h9) rfl hin rfl (by decide +kernel) rfl rfl (Nat.le_of_ble_eq_true rfl) dX8_init_94 (fun H locs hP hD hS => ?_)
  have hP : va_P (dC, dI) vwCl [(o0, .inr (8, [.int 0, .int 0, .ref q1, .ref q2, .ref q3, .ref q4, .ref q5, .int 0, .ref q6, .int 0, .ref q7, .int 0, .int 0, .int 0, .int 0, .int 0, .int 0, .int 0, .int 0, .int 0, .long 0, .long 0, .long 0, .null, .null, .null, .int 0])), (q1, .inl (cI, 8, .inl (upd (upd (upd (upd (upd (upd (upd (upd (fun _ => 0) 0 (-1)) 1 (-1)) 2 (-1)) 3 (-1)) 4 (-1)) 5 (-1)) 6 (-1)) 7 (-1)))), (q2, .inl (cI, 8, .inl (fun _ => 0))), (q3, .inl (cI, 320, .inl (fun _ => 0))), (q4, .inl (cI, 59, .inl (fun _ => 0))), (q5, .inl (cI, 59, .inl (fun _ => 0))), (q6, .inl (cI, 1416, .inl (fun _ => 0))), (q7, .inl (cI, 400, .inl (fun _ => 0)))] H := hP
  have hD : va_D A [(o0, .inr (8, [.int 0, .int 0, .ref q1, .ref q2, .ref q3, .ref q4, .ref q5, .int 0, .ref q6, .int 0, .ref q7, .int 0, .int 0, .int 0, .int 0, .int 0, .int 0, .int 0, .int 0, .int 0, .long 0, .long 0, .long 0, .null, .null, .null, .int 0])), (q1, .inl (cI, 8, .inl (upd (upd (upd (upd (upd (upd (upd (upd (fun _ => 0) 0 (-1)) 1 (-1)) 2 (-1)) 3 (-1)) 4 (-1)) 5 (-1)) 6 (-1)) 7 (-1)))), (q2, .inl (cI, 8, .inl (fun _ => 0))), (q3, .inl (cI, 320, .inl (fun _ => 0))), (q4, .inl (cI, 59, .inl (fun _ => 0))), (q5, .inl (cI, 59, .inl (fun _ => 0))), (q6, .inl (cI, 1416, .inl (fun _ => 0))), (q7, .inl (cI, 400, .inl (fun _ => 0)))] := hD
  refine lv_aload_n hx hb dX8_init_97 rfl (lv_at hl 0 rfl) ?_
  refine lv_iconst (v := 2) hx hb dX8_init_98 (by decide) ?_
  refine q_newa (atype := .boolean) (ty := .boolean) (N' := 2) (a0 := (2, .inl (fun _ => 0))) hx hb (hts _ qX8_init_12) rfl 2 rfl (fun _ h => h) hK hP hD hS hA (fun _ => rfl) (by decide) (by decide) (Nat.le_of_ble_eq_true rfl) (Nat.le_of_ble_eq_true rfl) (Nat.le_of_ble_eq_true rfl) dX8_init_99 (fun q8 H hP hD hS => ?_)
  have hP : va_P (dC, dI) vwCl [(o0, .inr (8, [.int 0, .int 0, .ref q1, .ref q2, .ref q3, .ref q4, .ref q5, .int 0, .ref q6, .int 0, .ref q7, .int 0, .int 0, .int 0, .int 0, .int 0, .int 0, .int 0, .int 0, .int 0, .long 0, .long 0, .long 0, .null, .null, .null, .int 0])), (q1, .inl (cI, 8, .inl (upd (upd (upd (upd (upd (upd (upd (upd (fun _ => 0) 0 (-1)) 1 (-1)) 2 (-1)) 3 (-1)) 4 (-1)) 5 (-1)) 6 (-1)) 7 (-1)))), (q2, .inl (cI, 8, .inl (fun _ => 0))), (q3, .inl (cI, 320, .inl (fun _ => 0))), (q4, .inl (cI, 59, .inl (fun _ => 0))), (q5, .inl (cI, 59, .inl (fun _ => 0))), (q6, .inl (cI, 1416, .inl (fun _ => 0))), (q7, .inl (cI, 400, .inl (fun _ => 0))), (q8, .inl (cZ, 2, .inl (fun _ => 0)))] H := hP
  have hD : va_D A [(o0, .inr (8, [.int 0, .int 0, .ref q1, .ref q2, .ref q3, .ref q4, .ref q5, .int 0, .ref q6, .int 0, .ref q7, .int 0, .int 0, .int 0, .int 0, .int 0, .int 0, .int 0, .int 0, .int 0, .long 0, .long 0, .long 0, .null, .null, .null, .int 0])), (q1, .inl (cI, 8, .inl (upd (upd (upd (upd (upd (upd (upd (upd (fun _ => 0) 0 (-1)) 1 (-1)) 2 (-1)) 3 (-1)) 4 (-1)) 5 (-1)) 6 (-1)) 7 (-1)))), (q2, .inl (cI, 8, .inl (fun _ => 0))), (q3, .inl (cI, 320, .inl (fun _ => 0))), (q4, .inl (cI, 59, .inl (fun _ => 0))), (q5, .inl (cI, 59, .inl (fun _ => 0))), (q6, .inl (cI, 1416, .inl (fun _ => 0))), (q7, .inl (cI, 400, .inl (fun _ => 0))), (q8, .inl (cZ, 2, .inl (fun _ => 0)))] := hD
  refine W.widen (k := 8) (n := 2272) (Nat.le_of_ble_eq_true rfl) (Nat.le_of_ble_eq_true rfl) ?_
  refine va_putF (D := (dC, dI)) (ci := 8) (v := .ref q8) (ty := .array .boolean) (C := RX8) (T := TX8) (N := 27) hx hb hts nX8_init_i tyX8 tyX8_ok nmX8 hown hK hP hD hS 0 rfl rfl 23 (by decide) (hts _ qX8_init_13) (fun _ h9 => h9) rfl hin rfl (by decide +kernel) rfl rfl (Nat.le_of_ble_eq_true rfl) dX8_init_101 (fun H locs hP hD hS => ?_)
  have hP : va_P (dC, dI) vwCl [(o0, .inr (8, [.int 0, .int 0, .ref q1, .ref q2, .ref q3, .ref q4, .ref q5, .int 0, .ref q6, .int 0, .ref q7, .int 0, .int 0, .int 0, .int 0, .int 0, .int 0, .int 0, .int 0, .int 0, .long 0, .long 0, .long 0, .ref q8, .null, .null, .int 0])), (q1, .inl (cI, 8, .inl (upd (upd (upd (upd (upd (upd (upd (upd (fun _ => 0) 0 (-1)) 1 (-1)) 2 (-1)) 3 (-1)) 4 (-1)) 5 (-1)) 6 (-1)) 7 (-1)))), (q2, .inl (cI, 8, .inl (fun _ => 0))), (q3, .inl (cI, 320, .inl (fun _ => 0))), (q4, .inl (cI, 59, .inl (fun _ => 0))), (q5, .inl (cI, 59, .inl (fun _ => 0))), (q6, .inl (cI, 1416, .inl (fun _ => 0))), (q7, .inl (cI, 400, .inl (fun _ => 0))), (q8, .inl (cZ, 2, .inl (fun _ => 0)))] H := hP
  have hD : va_D A [(o0, .inr (8, [.int 0, .int 0, .ref q1, .ref q2, .ref q3, .ref q4, .ref q5, .int 0, .ref q6, .int 0, .ref q7, .int 0, .int 0, .int 0, .int 0, .int 0, .int 0, .int 0, .int 0, .int 0, .long 0, .long 0, .long 0, .ref q8, .null, .null, .int 0])), (q1, .inl (cI, 8, .inl (upd (upd (upd (upd (upd (upd (upd (upd (fun _ => 0) 0 (-1)) 1 (-1)) 2 (-1)) 3 (-1)) 4 (-1)) 5 (-1)) 6 (-1)) 7 (-1)))), (q2, .inl (cI, 8, .inl (fun _ => 0))), (q3, .inl (cI, 320, .inl (fun _ => 0))), (q4, .inl (cI, 59, .inl (fun _ => 0))), (q5, .inl (cI, 59, .inl (fun _ => 0))), (q6, .inl (cI, 1416, .inl (fun _ => 0))), (q7, .inl (cI, 400, .inl (fun _ => 0))), (q8, .inl (cZ, 2, .inl (fun _ => 0)))] := hD
  refine lv_aload_n hx hb dX8_init_104 rfl (lv_at hl 0 rfl) ?_
  refine lv_bipush (v := 118) hx hb dX8_init_105 (by decide) ?_
  refine q_newa (atype := .int) (ty := .int) (N' := 118) (a0 := (118, .inl (fun _ => 0))) hx hb (hts _ qX8_init_4) rfl 0 rfl (fun _ h => h) hK hP hD hS hA (fun _ => rfl) (by decide) (by decide) (Nat.le_of_ble_eq_true rfl) (Nat.le_of_ble_eq_true rfl) (Nat.le_of_ble_eq_true rfl) dX8_init_107 (fun q9 H hP hD hS => ?_)
  have hP : va_P (dC, dI) vwCl [(o0, .inr (8, [.int 0, .int 0, .ref q1, .ref q2, .ref q3, .ref q4, .ref q5, .int 0, .ref q6, .int 0, .ref q7, .int 0, .int 0, .int 0, .int 0, .int 0, .int 0, .int 0, .int 0, .int 0, .long 0, .long 0, .long 0, .ref q8, .null, .null, .int 0])), (q1, .inl (cI, 8, .inl (upd (upd (upd (upd (upd (upd (upd (upd (fun _ => 0) 0 (-1)) 1 (-1)) 2 (-1)) 3 (-1)) 4 (-1)) 5 (-1)) 6 (-1)) 7 (-1)))), (q2, .inl (cI, 8, .inl (fun _ => 0))), (q3, .inl (cI, 320, .inl (fun _ => 0))), (q4, .inl (cI, 59, .inl (fun _ => 0))), (q5, .inl (cI, 59, .inl (fun _ => 0))), (q6, .inl (cI, 1416, .inl (fun _ => 0))), (q7, .inl (cI, 400, .inl (fun _ => 0))), (q8, .inl (cZ, 2, .inl (fun _ => 0))), (q9, .inl (cI, 118, .inl (fun _ => 0)))] H := hP
  have hD : va_D A [(o0, .inr (8, [.int 0, .int 0, .ref q1, .ref q2, .ref q3, .ref q4, .ref q5, .int 0, .ref q6, .int 0, .ref q7, .int 0, .int 0, .int 0, .int 0, .int 0, .int 0, .int 0, .int 0, .int 0, .long 0, .long 0, .long 0, .ref q8, .null, .null, .int 0])), (q1, .inl (cI, 8, .inl (upd (upd (upd (upd (upd (upd (upd (upd (fun _ => 0) 0 (-1)) 1 (-1)) 2 (-1)) 3 (-1)) 4 (-1)) 5 (-1)) 6 (-1)) 7 (-1)))), (q2, .inl (cI, 8, .inl (fun _ => 0))), (q3, .inl (cI, 320, .inl (fun _ => 0))), (q4, .inl (cI, 59, .inl (fun _ => 0))), (q5, .inl (cI, 59, .inl (fun _ => 0))), (q6, .inl (cI, 1416, .inl (fun _ => 0))), (q7, .inl (cI, 400, .inl (fun _ => 0))), (q8, .inl (cZ, 2, .inl (fun _ => 0))), (q9, .inl (cI, 118, .inl (fun _ => 0)))] := hD
  refine W.widen (k := 9) (n := 2390) (Nat.le_of_ble_eq_true rfl) (Nat.le_of_ble_eq_true rfl) ?_
  refine va_putF (D := (dC, dI)) (ci := 8) (v := .ref q9) (ty := .array .int) (C := RX8) (T := TX8) (N := 27) hx hb hts nX8_init_i tyX8 tyX8_ok nmX8 hown hK hP hD hS 0 rfl rfl 24 (by decide) (hts _ qX8_init_14) (fun _ h9 => h9) rfl hin rfl (by decide +kernel) rfl rfl (Nat.le_of_ble_eq_true rfl) dX8_init_109 (fun H locs hP hD hS => ?_)
  have hP : va_P (dC, dI) vwCl [(o0, .inr (8, [.int 0, .int 0, .ref q1, .ref q2, .ref q3, .ref q4, .ref q5, .int 0, .ref q6, .int 0, .ref q7, .int 0, .int 0, .int 0, .int 0, .int 0, .int 0, .int 0, .int 0, .int 0, .long 0, .long 0, .long 0, .ref q8, .ref q9, .null, .int 0])), (q1, .inl (cI, 8, .inl (upd (upd (upd (upd (upd (upd (upd (upd (fun _ => 0) 0 (-1)) 1 (-1)) 2 (-1)) 3 (-1)) 4 (-1)) 5 (-1)) 6 (-1)) 7 (-1)))), (q2, .inl (cI, 8, .inl (fun _ => 0))), (q3, .inl (cI, 320, .inl (fun _ => 0))), (q4, .inl (cI, 59, .inl (fun _ => 0))), (q5, .inl (cI, 59, .inl (fun _ => 0))), (q6, .inl (cI, 1416, .inl (fun _ => 0))), (q7, .inl (cI, 400, .inl (fun _ => 0))), (q8, .inl (cZ, 2, .inl (fun _ => 0))), (q9, .inl (cI, 118, .inl (fun _ => 0)))] H := hP
  have hD : va_D A [(o0, .inr (8, [.int 0, .int 0, .ref q1, .ref q2, .ref q3, .ref q4, .ref q5, .int 0, .ref q6, .int 0, .ref q7, .int 0, .int 0, .int 0, .int 0, .int 0, .int 0, .int 0, .int 0, .int 0, .long 0, .long 0, .long 0, .ref q8, .ref q9, .null, .int 0])), (q1, .inl (cI, 8, .inl (upd (upd (upd (upd (upd (upd (upd (upd (fun _ => 0) 0 (-1)) 1 (-1)) 2 (-1)) 3 (-1)) 4 (-1)) 5 (-1)) 6 (-1)) 7 (-1)))), (q2, .inl (cI, 8, .inl (fun _ => 0))), (q3, .inl (cI, 320, .inl (fun _ => 0))), (q4, .inl (cI, 59, .inl (fun _ => 0))), (q5, .inl (cI, 59, .inl (fun _ => 0))), (q6, .inl (cI, 1416, .inl (fun _ => 0))), (q7, .inl (cI, 400, .inl (fun _ => 0))), (q8, .inl (cZ, 2, .inl (fun _ => 0))), (q9, .inl (cI, 118, .inl (fun _ => 0)))] := hD
  refine lv_aload_n hx hb dX8_init_112 rfl (lv_at hl 0 rfl) ?_
  refine lv_bipush (v := 16) hx hb dX8_init_113 (by decide) ?_
  refine q_newa (atype := .int) (ty := .int) (N' := 16) (a0 := (16, .inl (fun _ => 0))) hx hb (hts _ qX8_init_4) rfl 0 rfl (fun _ h => h) hK hP hD hS hA (fun _ => rfl) (by decide) (by decide) (Nat.le_of_ble_eq_true rfl) (Nat.le_of_ble_eq_true rfl) (Nat.le_of_ble_eq_true rfl) dX8_init_115 (fun q10 H hP hD hS => ?_)
  have hP : va_P (dC, dI) vwCl [(o0, .inr (8, [.int 0, .int 0, .ref q1, .ref q2, .ref q3, .ref q4, .ref q5, .int 0, .ref q6, .int 0, .ref q7, .int 0, .int 0, .int 0, .int 0, .int 0, .int 0, .int 0, .int 0, .int 0, .long 0, .long 0, .long 0, .ref q8, .ref q9, .null, .int 0])), (q1, .inl (cI, 8, .inl (upd (upd (upd (upd (upd (upd (upd (upd (fun _ => 0) 0 (-1)) 1 (-1)) 2 (-1)) 3 (-1)) 4 (-1)) 5 (-1)) 6 (-1)) 7 (-1)))), (q2, .inl (cI, 8, .inl (fun _ => 0))), (q3, .inl (cI, 320, .inl (fun _ => 0))), (q4, .inl (cI, 59, .inl (fun _ => 0))), (q5, .inl (cI, 59, .inl (fun _ => 0))), (q6, .inl (cI, 1416, .inl (fun _ => 0))), (q7, .inl (cI, 400, .inl (fun _ => 0))), (q8, .inl (cZ, 2, .inl (fun _ => 0))), (q9, .inl (cI, 118, .inl (fun _ => 0))), (q10, .inl (cI, 16, .inl (fun _ => 0)))] H := hP
  have hD : va_D A [(o0, .inr (8, [.int 0, .int 0, .ref q1, .ref q2, .ref q3, .ref q4, .ref q5, .int 0, .ref q6, .int 0, .ref q7, .int 0, .int 0, .int 0, .int 0, .int 0, .int 0, .int 0, .int 0, .int 0, .long 0, .long 0, .long 0, .ref q8, .ref q9, .null, .int 0])), (q1, .inl (cI, 8, .inl (upd (upd (upd (upd (upd (upd (upd (upd (fun _ => 0) 0 (-1)) 1 (-1)) 2 (-1)) 3 (-1)) 4 (-1)) 5 (-1)) 6 (-1)) 7 (-1)))), (q2, .inl (cI, 8, .inl (fun _ => 0))), (q3, .inl (cI, 320, .inl (fun _ => 0))), (q4, .inl (cI, 59, .inl (fun _ => 0))), (q5, .inl (cI, 59, .inl (fun _ => 0))), (q6, .inl (cI, 1416, .inl (fun _ => 0))), (q7, .inl (cI, 400, .inl (fun _ => 0))), (q8, .inl (cZ, 2, .inl (fun _ => 0))), (q9, .inl (cI, 118, .inl (fun _ => 0))), (q10, .inl (cI, 16, .inl (fun _ => 0)))] := hD
  refine W.widen (k := 10) (n := 2406) (Nat.le_of_ble_eq_true rfl) (Nat.le_of_ble_eq_true rfl) ?_
  refine va_putF (D := (dC, dI)) (ci := 8) (v := .ref q10) (ty := .array .int) (C := RX8) (T := TX8) (N := 27) hx hb hts nX8_init_i tyX8 tyX8_ok nmX8 hown hK hP hD hS 0 rfl rfl 25 (by decide) (hts _ qX8_init_15) (fun _ h9 => h9) rfl hin rfl (by decide +kernel) rfl rfl (Nat.le_of_ble_eq_true rfl) dX8_init_117 (fun H locs hP hD hS => ?_)
  have hP : va_P (dC, dI) vwCl [(o0, .inr (8, [.int 0, .int 0, .ref q1, .ref q2, .ref q3, .ref q4, .ref q5, .int 0, .ref q6, .int 0, .ref q7, .int 0, .int 0, .int 0, .int 0, .int 0, .int 0, .int 0, .int 0, .int 0, .long 0, .long 0, .long 0, .ref q8, .ref q9, .ref q10, .int 0])), (q1, .inl (cI, 8, .inl (upd (upd (upd (upd (upd (upd (upd (upd (fun _ => 0) 0 (-1)) 1 (-1)) 2 (-1)) 3 (-1)) 4 (-1)) 5 (-1)) 6 (-1)) 7 (-1)))), (q2, .inl (cI, 8, .inl (fun _ => 0))), (q3, .inl (cI, 320, .inl (fun _ => 0))), (q4, .inl (cI, 59, .inl (fun _ => 0))), (q5, .inl (cI, 59, .inl (fun _ => 0))), (q6, .inl (cI, 1416, .inl (fun _ => 0))), (q7, .inl (cI, 400, .inl (fun _ => 0))), (q8, .inl (cZ, 2, .inl (fun _ => 0))), (q9, .inl (cI, 118, .inl (fun _ => 0))), (q10, .inl (cI, 16, .inl (fun _ => 0)))] H := hP
  have hD : va_D A [(o0, .inr (8, [.int 0, .int 0, .ref q1, .ref q2, .ref q3, .ref q4, .ref q5, .int 0, .ref q6, .int 0, .ref q7, .int 0, .int 0, .int 0, .int 0, .int 0, .int 0, .int 0, .int 0, .int 0, .long 0, .long 0, .long 0, .ref q8, .ref q9, .ref q10, .int 0])), (q1, .inl (cI, 8, .inl (upd (upd (upd (upd (upd (upd (upd (upd (fun _ => 0) 0 (-1)) 1 (-1)) 2 (-1)) 3 (-1)) 4 (-1)) 5 (-1)) 6 (-1)) 7 (-1)))), (q2, .inl (cI, 8, .inl (fun _ => 0))), (q3, .inl (cI, 320, .inl (fun _ => 0))), (q4, .inl (cI, 59, .inl (fun _ => 0))), (q5, .inl (cI, 59, .inl (fun _ => 0))), (q6, .inl (cI, 1416, .inl (fun _ => 0))), (q7, .inl (cI, 400, .inl (fun _ => 0))), (q8, .inl (cZ, 2, .inl (fun _ => 0))), (q9, .inl (cI, 118, .inl (fun _ => 0))), (q10, .inl (cI, 16, .inl (fun _ => 0)))] := hD
  exact q_cret (w1 := (fun (a : Nat → Nat) => wcM cI cZ o0 a sI_M tI_0)) (fun k => ([0, 0, q1, q2, q3, q4, q5, 0, q6, 0, q7, 0, 0, 0, 0, 0, 0, 0, 0, 0, 0, 0, 0, q8, q9, q10, 0] : List Nat).getD k 0) hx hb hr hlk hAe hK hP hD hS dX8_init_120
theorem qX7_init_1 : (Cond.methodLink RX7 3 ⟨"java/lang/Object", "<init>", "()V"⟩) ∈ wsX7_init := List.mem_of_getElem? (i := 1) (by decide +kernel)
theorem qX7_init_2 : (Cond.instanceMethod ⟨"java/lang/Object", "<init>", "()V"⟩) ∈ wsX7_init := List.mem_of_getElem? (i := 2) (by decide +kernel)
theorem qX7_init_3 : (Cond.code ⟨"java/lang/Object", "<init>", "()V"⟩ object_method_1_code 1 none) ∈ wsX7_init := List.mem_of_getElem? (i := 3) (by decide +kernel)
theorem qX7_init_4 : (Cond.classLink RX7 9 "DeadAsked$Rows") ∈ wsX7_init := List.mem_of_getElem? (i := 4) (by decide +kernel)
theorem qX7_init_5 : (Cond.instantiable "DeadAsked$Rows" 3) ∈ wsX7_init := List.mem_of_getElem? (i := 5) (by decide +kernel)
theorem qX7_init_6 : (Cond.initialized "DeadAsked$Rows") ∈ wsX7_init := List.mem_of_getElem? (i := 6) (by decide +kernel)
theorem qX7_init_7 : (Cond.fieldLink RX7 12 "DeadAsked" "rows" "LDeadAsked$Rows;") ∈ wsX7_init := List.mem_of_getElem? (i := 7) (by decide +kernel)
theorem qX7_init_8 : (Cond.classLink RX7 16 "DeadAsked$Tape") ∈ wsX7_init := List.mem_of_getElem? (i := 8) (by decide +kernel)
theorem qX7_init_9 : (Cond.instantiable "DeadAsked$Tape" 5) ∈ wsX7_init := List.mem_of_getElem? (i := 9) (by decide +kernel)
theorem qX7_init_10 : (Cond.initialized "DeadAsked$Tape") ∈ wsX7_init := List.mem_of_getElem? (i := 10) (by decide +kernel)
theorem qX7_init_11 : (Cond.fieldLink RX7 19 "DeadAsked" "tape" "LDeadAsked$Tape;") ∈ wsX7_init := List.mem_of_getElem? (i := 11) (by decide +kernel)
theorem qX7_init_12 : (Cond.classLink RX7 23 "DeadAsked$HillReader") ∈ wsX7_init := List.mem_of_getElem? (i := 12) (by decide +kernel)
theorem qX7_init_13 : (Cond.instantiable "DeadAsked$HillReader" 4) ∈ wsX7_init := List.mem_of_getElem? (i := 13) (by decide +kernel)
theorem qX7_init_14 : (Cond.initialized "DeadAsked$HillReader") ∈ wsX7_init := List.mem_of_getElem? (i := 14) (by decide +kernel)
theorem qX7_init_15 : (Cond.fieldLink RX7 28 "DeadAsked" "reader" "LDeadAsked$HillReader;") ∈ wsX7_init := List.mem_of_getElem? (i := 15) (by decide +kernel)
theorem qX7_init_16 : (Cond.classLink RX7 32 "DeadAsked$Acts") ∈ wsX7_init := List.mem_of_getElem? (i := 16) (by decide +kernel)
theorem qX7_init_17 : (Cond.instantiable "DeadAsked$Acts" 5) ∈ wsX7_init := List.mem_of_getElem? (i := 17) (by decide +kernel)
theorem qX7_init_18 : (Cond.initialized "DeadAsked$Acts") ∈ wsX7_init := List.mem_of_getElem? (i := 18) (by decide +kernel)
theorem qX7_init_19 : (Cond.fieldLink RX7 35 "DeadAsked" "acts" "LDeadAsked$Acts;") ∈ wsX7_init := List.mem_of_getElem? (i := 19) (by decide +kernel)
theorem qX7_init_20 : (Cond.classLink RX7 39 "DeadAsked$Bodies") ∈ wsX7_init := List.mem_of_getElem? (i := 20) (by decide +kernel)
theorem qX7_init_21 : (Cond.instantiable "DeadAsked$Bodies" 7) ∈ wsX7_init := List.mem_of_getElem? (i := 21) (by decide +kernel)
theorem qX7_init_22 : (Cond.initialized "DeadAsked$Bodies") ∈ wsX7_init := List.mem_of_getElem? (i := 22) (by decide +kernel)
theorem qX7_init_23 : (Cond.fieldLink RX7 42 "DeadAsked" "bodies" "LDeadAsked$Bodies;") ∈ wsX7_init := List.mem_of_getElem? (i := 23) (by decide +kernel)
theorem qX7_init_24 : (Cond.classLink RX7 46 "DeadAsked$Fraction") ∈ wsX7_init := List.mem_of_getElem? (i := 24) (by decide +kernel)
theorem qX7_init_25 : (Cond.instantiable "DeadAsked$Fraction" 2) ∈ wsX7_init := List.mem_of_getElem? (i := 25) (by decide +kernel)
theorem qX7_init_26 : (Cond.initialized "DeadAsked$Fraction") ∈ wsX7_init := List.mem_of_getElem? (i := 26) (by decide +kernel)
theorem qX7_init_27 : (Cond.fieldLink RX7 49 "DeadAsked" "fraction" "LDeadAsked$Fraction;") ∈ wsX7_init := List.mem_of_getElem? (i := 27) (by decide +kernel)
theorem qX7_init_28 : (Cond.classLink RX7 53 "DeadAsked$Hill") ∈ wsX7_init := List.mem_of_getElem? (i := 28) (by decide +kernel)
theorem qX7_init_29 : (Cond.instantiable "DeadAsked$Hill" 14) ∈ wsX7_init := List.mem_of_getElem? (i := 29) (by decide +kernel)
theorem qX7_init_30 : (Cond.initialized "DeadAsked$Hill") ∈ wsX7_init := List.mem_of_getElem? (i := 30) (by decide +kernel)
theorem qX7_init_31 : (Cond.fieldLink RX7 56 "DeadAsked" "firstImage" "LDeadAsked$Hill;") ∈ wsX7_init := List.mem_of_getElem? (i := 31) (by decide +kernel)
theorem qX7_init_32 : (Cond.fieldLink RX7 60 "DeadAsked" "secondImage" "LDeadAsked$Hill;") ∈ wsX7_init := List.mem_of_getElem? (i := 32) (by decide +kernel)
theorem qX7_init_33 : (Cond.fieldLink RX7 63 "DeadAsked" "standing" "LDeadAsked$Hill;") ∈ wsX7_init := List.mem_of_getElem? (i := 33) (by decide +kernel)
theorem qX7_init_34 : (Cond.fieldLink RX7 66 "DeadAsked" "spare" "LDeadAsked$Hill;") ∈ wsX7_init := List.mem_of_getElem? (i := 34) (by decide +kernel)
theorem qX7_init_35 : (Cond.methodLink RX7 11 yX5_init) ∈ wsX7_init := List.mem_of_getElem? (i := 35) (by decide +kernel)
theorem qX7_init_36 : (Cond.instanceMethod yX5_init) ∈ wsX7_init := List.mem_of_getElem? (i := 36) (by decide +kernel)
theorem qX7_init_43 : (Cond.instanceMethod yX6_init) ∈ wsX7_init := List.mem_of_getElem? (i := 43) (by decide +kernel)
theorem qX7_init_48 : (Cond.methodLink RX7 25 yX4_init) ∈ wsX7_init := List.mem_of_getElem? (i := 48) (by decide +kernel)
theorem qX7_init_49 : (Cond.instanceMethod yX4_init) ∈ wsX7_init := List.mem_of_getElem? (i := 49) (by decide +kernel)
theorem qX7_init_53 : (Cond.instanceMethod yX0_init) ∈ wsX7_init := List.mem_of_getElem? (i := 53) (by decide +kernel)
theorem qX7_init_59 : (Cond.instanceMethod yX1_init) ∈ wsX7_init := List.mem_of_getElem? (i := 59) (by decide +kernel)
theorem qX7_init_63 : (Cond.instanceMethod yX2_init) ∈ wsX7_init := List.mem_of_getElem? (i := 63) (by decide +kernel)
theorem qX7_init_67 : (Cond.instanceMethod yX3_init) ∈ wsX7_init := List.mem_of_getElem? (i := 67) (by decide +kernel)
theorem n_X7_init_7 : ∀ w ∈ u_ws RX7 TX7 14, w ∈ wsX7_init := by decide +kernel
theorem n_X7_init_5 : ∀ w ∈ u_ws RX5 TX5 3, w ∈ wsX7_init := by decide +kernel
theorem n_X7_init_6 : ∀ w ∈ u_ws RX6 TX6 5, w ∈ wsX7_init := by decide +kernel
theorem n_X7_init_4 : ∀ w ∈ u_ws RX4 TX4 4, w ∈ wsX7_init := by decide +kernel
theorem n_X7_init_0 : ∀ w ∈ u_ws RX0 TX0 5, w ∈ wsX7_init := by decide +kernel
theorem n_X7_init_1 : ∀ w ∈ u_ws RX1 TX1 7, w ∈ wsX7_init := by decide +kernel
theorem n_X7_init_2 : ∀ w ∈ u_ws RX2 TX2 2, w ∈ wsX7_init := by decide +kernel
theorem n_X7_init_3 : ∀ w ∈ u_ws RX3 TX3 14, w ∈ wsX7_init := by decide +kernel
theorem q_all5 : ∀ j, j < 3 → defaultValue (tyX5 j) = vp_V [.null, .null, .null] j := by
  intro j hj
  match j, hj with
  | 0, _ => rfl
  | 1, _ => rfl
  | 2, _ => rfl
  | k + 3, hk => exact absurd hk (by omega)
theorem q_all6 : ∀ j, j < 5 → defaultValue (tyX6 j) = vp_V [.null, .int 0, .int 0, .int 0, .int 0] j := by
  intro j hj
  match j, hj with
  | 0, _ => rfl
  | 1, _ => rfl
  | 2, _ => rfl
  | 3, _ => rfl
  | 4, _ => rfl
  | k + 5, hk => exact absurd hk (by omega)
theorem q_all4 : ∀ j, j < 4 → defaultValue (tyX4 j) = vp_V [.null, .int 0, .int 0, .int 0] j := by
  intro j hj
  match j, hj with
  | 0, _ => rfl
  | 1, _ => rfl
  | 2, _ => rfl
  | 3, _ => rfl
  | k + 4, hk => exact absurd hk (by omega)
theorem q_all0 : ∀ j, j < 5 → defaultValue (tyX0 j) = vp_V [.null, .null, .null, .int 0, .int 0] j := by
  intro j hj
  match j, hj with
  | 0, _ => rfl
  | 1, _ => rfl
  | 2, _ => rfl
  | 3, _ => rfl
  | 4, _ => rfl
  | k + 5, hk => exact absurd hk (by omega)
theorem q_all1 : ∀ j, j < 7 → defaultValue (tyX1 j) = vp_V [.null, .int 0, .int 0, .int 0, .int 0, .int 0, .int 0] j := by
  intro j hj
  match j, hj with
  | 0, _ => rfl
  | 1, _ => rfl
  | 2, _ => rfl
  | 3, _ => rfl
  | 4, _ => rfl
  | 5, _ => rfl
  | 6, _ => rfl
  | k + 7, hk => exact absurd hk (by omega)
theorem q_all2 : ∀ j, j < 2 → defaultValue (tyX2 j) = vp_V [.long 0, .long 0] j := by
  intro j hj
  match j, hj with
  | 0, _ => rfl
  | 1, _ => rfl
  | k + 2, hk => exact absurd hk (by omega)
theorem q_all3 : ∀ j, j < 14 → defaultValue (tyX3 j) = vp_V [.null, .null, .null, .null, .null, .null, .null, .null, .null, .null, .int 0, .int 0, .int 0, .int 0] j := by
  intro j hj
  match j, hj with
  | 0, _ => rfl
  | 1, _ => rfl
  | 2, _ => rfl
  | 3, _ => rfl
  | 4, _ => rfl
  | 5, _ => rfl
  | 6, _ => rfl
  | 7, _ => rfl
  | 8, _ => rfl
  | 9, _ => rfl
  | 10, _ => rfl
  | 11, _ => rfl
  | 12, _ => rfl
  | 13, _ => rfl
  | k + 14, hk => exact absurd hk (by omega)
theorem q_all7 : ∀ j, j < 14 → defaultValue (tyX7 j) = vp_V [.null, .null, .null, .null, .null, .null, .null, .null, .null, .null, .int 0, .int 0, .int 0, .int 0] j := by
  intro j hj
  match j, hj with
  | 0, _ => rfl
  | 1, _ => rfl
  | 2, _ => rfl
  | 3, _ => rfl
  | 4, _ => rfl
  | 5, _ => rfl
  | 6, _ => rfl
  | 7, _ => rfl
  | 8, _ => rfl
  | 9, _ => rfl
  | 10, _ => rfl
  | 11, _ => rfl
  | 12, _ => rfl
  | 13, _ => rfl
  | k + 14, hk => exact absurd hk (by omega)
theorem q_all8 : ∀ j, j < 27 → defaultValue (tyX8 j) = vp_V [.int 0, .int 0, .null, .null, .null, .null, .null, .int 0, .null, .int 0, .null, .int 0, .int 0, .int 0, .int 0, .int 0, .int 0, .int 0, .int 0, .int 0, .long 0, .long 0, .long 0, .null, .null, .null, .int 0] j := by
  intro j hj
  match j, hj with
  | 0, _ => rfl
  | 1, _ => rfl
  | 2, _ => rfl
  | 3, _ => rfl
  | 4, _ => rfl
  | 5, _ => rfl
  | 6, _ => rfl
  | 7, _ => rfl
  | 8, _ => rfl
  | 9, _ => rfl
  | 10, _ => rfl
  | 11, _ => rfl
  | 12, _ => rfl
  | 13, _ => rfl
  | 14, _ => rfl
  | 15, _ => rfl
  | 16, _ => rfl
  | 17, _ => rfl
  | 18, _ => rfl
  | 19, _ => rfl
  | 20, _ => rfl
  | 21, _ => rfl
  | 22, _ => rfl
  | 23, _ => rfl
  | 24, _ => rfl
  | 25, _ => rfl
  | 26, _ => rfl
  | k + 27, hk => exact absurd hk (by omega)
theorem hdX7_init : yX7_init.cls ≠ "java/lang/invoke/MethodHandle" ∧ yX7_init.cls ≠ "java/lang/invoke/VarHandle" ∧ (parseMethodDescriptor yX7_init.desc).map (fun d => d.parameters.length) = some 0 := by decide +kernel
def kN (U : State) : Prop := va_Nw (.methodLinkNest RX7 18 yX6_init "DeadAsked") U ∧ va_Nw (.methodLinkNest RX7 34 yX0_init "DeadAsked") U ∧ va_Nw (.methodLinkNest RX7 41 yX1_init "DeadAsked") U ∧ va_Nw (.methodLinkNest RX7 48 yX2_init "DeadAsked") U ∧ va_Nw (.methodLinkNest RX7 55 yX3_init "DeadAsked") U
theorem kN.warm {s U : State} (hW : s.WarmedH U.vm) (h : kN s) : kN U := ⟨h.1.warmM hW, h.2.1.warmM hW, h.2.2.1.warmM hW, h.2.2.2.1.warmM hW, h.2.2.2.2.warmM hW⟩
theorem kN.same {u U : State} (h : u.vm = U.vm) (hk : kN u) : kN U := ⟨hk.1.same rfl h, hk.2.1.same rfl h, hk.2.2.1.same rfl h, hk.2.2.2.1.same rfl h, hk.2.2.2.2.same rfl h⟩
abbrev pcN (D : va_G) (Y : List (ClassId × FieldType)) (av : List Value) (ws : va_W) (sz : Nat) : Array Value → State → Prop := va_Pc av (fun U => U.heap.size = sz ∧ va_P D vwCl ws U.heap ∧ va_K D vwCl Y U ∧ va_D (fun _ => True) ws ∧ kN U)
set_option maxHeartbeats 8000000 in
set_option maxRecDepth 100000 in
theorem kX7_init (o0 sz : Nat) : Met l yX7_init wsX7_init ({ frames := 2, cells := 58, slots := 1114, locals := 33 } : Room) (pcN (dC, dI) (q_ty cI cB cZ) [.ref o0] [(o0, .inr (7, [.null, .null, .null, .null, .null, .null, .null, .null, .null, .null, .int 0, .int 0, .int 0, .int 0]))] sz) (qcA (dC, dI) (q_ty cI cB cZ) [(o0, .inr (7, [.null, .null, .null, .null, .null, .null, .null, .null, .null, .null, .int 0, .int 0, .int 0, .int 0]))] sz (fun (u : (Nat → Nat) × (Nat → Nat → Nat)) => wX cI cB o0 u.1 u.2 SI tI_F)) 58 1114 (va_A [(o0, .inr (7, [.null, .null, .null, .null, .null, .null, .null, .null, .null, .null, .int 0, .int 0, .int 0, .int 0]))] sz) := by
  refine Met.ofW (cc := cX7_init) (maxL := 1) (ret := none) (by decide +kernel) rfl ?_
  intro p e s m args below meth c s₁ B hml hv
  obtain ⟨rfl, hsz, hP, hK, hD0, hN1, hN2, hN3, hN4, hN5⟩ := hv
  have hx := B.exec
  have hb := B.bytes
  have hr := B.returns
  have hts := atoms_spec (ws := wsX7_init) B.pre
  have hown : s.vm.findClass RX7 = some m.cls := findClass_of_methodNamed B.named
  have hlk := B.notSynchronized
  have hin : meth.name = "<init>" := (name_of_methodNamed B.named B.method).1
  subst hsz
  have hD := hD0.self (sz := s.heap.size)
  have hA : ∀ q : Nat, s.heap.size ≤ q → va_A [(o0, .inr (7, [.null, .null, .null, .null, .null, .null, .null, .null, .null, .null, .int 0, .int 0, .int 0, .int 0]))] s.heap.size q := fun q h => Or.inr h
  have hS : va_S (va_A [(o0, .inr (7, [.null, .null, .null, .null, .null, .null, .null, .null, .null, .null, .int 0, .int 0, .int 0, .int 0]))] s.heap.size) s.heap s.heap [] := va_S.rf
  generalize hAe : va_A [(o0, .inr (7, [.null, .null, .null, .null, .null, .null, .null, .null, .null, .null, .int 0, .int 0, .int 0, .int 0]))] s.heap.size = A at hD hA hS
  rw [lg_entry_eq]
  have hl := lv_entry ([.ref o0]) (n := 1) (Nat.le_of_ble_eq_true rfl)
  generalize (lg_sl ([.ref o0]) ++ List.replicate (1 - (lg_sl ([.ref o0])).length) Slot.unset).toArray = ls at hl ⊢
  have hl : lv_has ls 1 [(0, .ref o0)] := hl
  refine lv_aload_n hx hb dX7_init_0 rfl (lv_at hl 0 rfl) ?_
  refine W.objInit hx hb hown (hts _ qX7_init_1) (hts _ qX7_init_2) (hts _ qX7_init_3) rfl (by rw [hml]; exact hl.1) rfl dX7_init_1 (Nat.le_of_ble_eq_true rfl) (Nat.le_of_ble_eq_true rfl) ?_
  refine W.eq (g2 := F0 m 4 ls []) rfl ?_
  refine lv_aload_n hx hb dX7_init_4 rfl (lv_at hl 0 rfl) ?_
  refine va_new (ci := 5) (fs := [.null, .null, .null]) (C := RX5) (T := TX5) (N := 3) hx hb hts n_X7_init_5 tyX5 tyX5_ok hown (hts _ qX7_init_4) (hts _ qX7_init_5) (hts _ qX7_init_6) hK hP hD hS hA rfl (fun j hj => q_all5 j hj) (Nat.le_of_ble_eq_true rfl) (Nat.le_of_ble_eq_true rfl) dX7_init_5 (fun q0 H hP hD hS => ?_)
  have hP : va_P (dC, dI) vwCl ([(o0, .inr (7, [.null, .null, .null, .null, .null, .null, .null, .null, .null, .null, .int 0, .int 0, .int 0, .int 0]))] ++ [(q0, .inr (5, [.null, .null, .null]))]) H := hP
  have hD : va_D A ([(o0, .inr (7, [.null, .null, .null, .null, .null, .null, .null, .null, .null, .null, .int 0, .int 0, .int 0, .int 0]))] ++ [(q0, .inr (5, [.null, .null, .null]))]) := hD
  refine W.widen (k := 1) (n := 3) (Nat.le_of_ble_eq_true rfl) (Nat.le_of_ble_eq_true rfl) ?_
  refine lv_dup hx hb dX7_init_8 rfl ?_
  refine q_ctv (wr := [(o0, .inr (7, [.null, .null, .null, .null, .null, .null, .null, .null, .null, .null, .int 0, .int 0, .int 0, .int 0]))]) (w1 := fun (a : Nat → Nat) => wcR cI q0 a sI_R) (va_runI (As := []) (rest := [.ref q0, .ref o0]) ⟨hx, hb, hml, hown, hts⟩ (kX5_init l dC dI cI cB cZ q0 H.size) (cwI 0 hts gX7_init_X5_init rfl rfl rfl (hts _ qX7_init_6) (hts _ qX7_init_35) (hts _ qX7_init_36) rfl hdX5_init ⟨Nat.le_of_ble_eq_true rfl, Nat.le_of_ble_eq_true rfl⟩) (q_preW hK hP hD [1] (wc := [(q0, .inr (5, [.null, .null, .null]))]) rfl (by decide) _) rfl rfl hl.1 rfl (lv_room (Nat.le_of_ble_eq_true rfl)) dX7_init_9 ⟨Nat.le_of_ble_eq_true rfl, Nat.le_of_ble_eq_true rfl⟩) hP hD hS hA [1] [0] rfl rfl (by decide) (by decide) (fun a0 H locs hP hD hS => ?_)
  have hP : va_P (dC, dI) vwCl ([(o0, .inr (7, [.null, .null, .null, .null, .null, .null, .null, .null, .null, .null, .int 0, .int 0, .int 0, .int 0]))] ++ (wcR cI q0 a0 sI_R)) H := hP
  have hD : va_D A ([(o0, .inr (7, [.null, .null, .null, .null, .null, .null, .null, .null, .null, .null, .int 0, .int 0, .int 0, .int 0]))] ++ (wcR cI q0 a0 sI_R)) := hD
  refine W.widen (k := 4) (n := 339) (Nat.le_of_ble_eq_true rfl) (Nat.le_of_ble_eq_true rfl) ?_
  refine va_putF (D := (dC, dI)) (ci := 7) (v := .ref q0) (ty := .object "DeadAsked$Rows") (C := RX7) (T := TX7) (N := 14) hx hb hts n_X7_init_7 tyX7 tyX7_ok nmX7 hown hK hP hD hS 0 rfl rfl 0 (by decide) (hts _ qX7_init_7) (fun _ h9 => h9) rfl hin rfl (by decide +kernel) rfl rfl (Nat.le_of_ble_eq_true rfl) dX7_init_12 (fun H locs hP hD hS => ?_)
  have hP : va_P (dC, dI) vwCl ([(o0, .inr (7, [.ref q0, .null, .null, .null, .null, .null, .null, .null, .null, .null, .int 0, .int 0, .int 0, .int 0]))] ++ (wcR cI q0 a0 sI_R)) H := hP
  have hD : va_D A ([(o0, .inr (7, [.ref q0, .null, .null, .null, .null, .null, .null, .null, .null, .null, .int 0, .int 0, .int 0, .int 0]))] ++ (wcR cI q0 a0 sI_R)) := hD
  refine lv_aload_n hx hb dX7_init_15 rfl (lv_at hl 0 rfl) ?_
  refine va_new (ci := 6) (fs := [.null, .int 0, .int 0, .int 0, .int 0]) (C := RX6) (T := TX6) (N := 5) hx hb hts n_X7_init_6 tyX6 tyX6_ok hown (hts _ qX7_init_8) (hts _ qX7_init_9) (hts _ qX7_init_10) hK hP hD hS hA rfl (fun j hj => q_all6 j hj) (Nat.le_of_ble_eq_true rfl) (Nat.le_of_ble_eq_true rfl) dX7_init_16 (fun q1 H hP hD hS => ?_)
  have hP : va_P (dC, dI) vwCl ([(o0, .inr (7, [.ref q0, .null, .null, .null, .null, .null, .null, .null, .null, .null, .int 0, .int 0, .int 0, .int 0]))] ++ (wcR cI q0 a0 sI_R) ++ [(q1, .inr (6, [.null, .int 0, .int 0, .int 0, .int 0]))]) H := hP
  have hD : va_D A ([(o0, .inr (7, [.ref q0, .null, .null, .null, .null, .null, .null, .null, .null, .null, .int 0, .int 0, .int 0, .int 0]))] ++ (wcR cI q0 a0 sI_R) ++ [(q1, .inr (6, [.null, .int 0, .int 0, .int 0, .int 0]))]) := hD
  refine W.widen (k := 5) (n := 344) (Nat.le_of_ble_eq_true rfl) (Nat.le_of_ble_eq_true rfl) ?_
  refine lv_dup hx hb dX7_init_19 rfl ?_
  refine q_ctv (wr := ([(o0, .inr (7, [.ref q0, .null, .null, .null, .null, .null, .null, .null, .null, .null, .int 0, .int 0, .int 0, .int 0]))] ++ (wcR cI q0 a0 sI_R))) (w1 := fun (a : Nat → Nat) => wcT cB q1 a sI_0) (va_runIN (As := []) (rest := [.ref q1, .ref o0]) ⟨hx, hb, hml, hown, hts⟩ (kX6_init l dC dI cI cB cZ q1 H.size) ⟨va_cnB 0 hts gX7_init_X6_init_n18 rfl rfl rfl hN1 (hts _ qX7_init_10) hdX6_init ⟨Nat.le_of_ble_eq_true rfl, Nat.le_of_ble_eq_true rfl⟩, rfl, (hts _ qX7_init_43)⟩ (q_preW hK hP hD [5] (wc := [(q1, .inr (6, [.null, .int 0, .int 0, .int 0, .int 0]))]) rfl (by decide) _) rfl rfl hl.1 rfl (lv_room (Nat.le_of_ble_eq_true rfl)) dX7_init_20 ⟨Nat.le_of_ble_eq_true rfl, Nat.le_of_ble_eq_true rfl⟩) hP hD hS hA [5] [0, 1, 2, 3, 4] rfl rfl (by decide) (by decide) (fun a1 H locs hP hD hS => ?_)
  have hP : va_P (dC, dI) vwCl ([(o0, .inr (7, [.ref q0, .null, .null, .null, .null, .null, .null, .null, .null, .null, .int 0, .int 0, .int 0, .int 0]))] ++ (wcR cI q0 a0 sI_R) ++ (wcT cB q1 a1 sI_0)) H := hP
  have hD : va_D A ([(o0, .inr (7, [.ref q0, .null, .null, .null, .null, .null, .null, .null, .null, .null, .int 0, .int 0, .int 0, .int 0]))] ++ (wcR cI q0 a0 sI_R) ++ (wcT cB q1 a1 sI_0)) := hD
  refine W.widen (k := 6) (n := 744) (Nat.le_of_ble_eq_true rfl) (Nat.le_of_ble_eq_true rfl) ?_
  refine va_putF (D := (dC, dI)) (ci := 7) (v := .ref q1) (ty := .object "DeadAsked$Tape") (C := RX7) (T := TX7) (N := 14) hx hb hts n_X7_init_7 tyX7 tyX7_ok nmX7 hown hK hP hD hS 0 rfl rfl 1 (by decide) (hts _ qX7_init_11) (fun _ h9 => h9) rfl hin rfl (by decide +kernel) rfl rfl (Nat.le_of_ble_eq_true rfl) dX7_init_23 (fun H locs hP hD hS => ?_)
  have hP : va_P (dC, dI) vwCl ([(o0, .inr (7, [.ref q0, .ref q1, .null, .null, .null, .null, .null, .null, .null, .null, .int 0, .int 0, .int 0, .int 0]))] ++ (wcR cI q0 a0 sI_R) ++ (wcT cB q1 a1 sI_0)) H := hP
  have hD : va_D A ([(o0, .inr (7, [.ref q0, .ref q1, .null, .null, .null, .null, .null, .null, .null, .null, .int 0, .int 0, .int 0, .int 0]))] ++ (wcR cI q0 a0 sI_R) ++ (wcT cB q1 a1 sI_0)) := hD
  refine lv_aload_n hx hb dX7_init_26 rfl (lv_at hl 0 rfl) ?_
  refine va_new (ci := 4) (fs := [.null, .int 0, .int 0, .int 0]) (C := RX4) (T := TX4) (N := 4) hx hb hts n_X7_init_4 tyX4 tyX4_ok hown (hts _ qX7_init_12) (hts _ qX7_init_13) (hts _ qX7_init_14) hK hP hD hS hA rfl (fun j hj => q_all4 j hj) (Nat.le_of_ble_eq_true rfl) (Nat.le_of_ble_eq_true rfl) dX7_init_27 (fun q2 H hP hD hS => ?_)
  have hP : va_P (dC, dI) vwCl ([(o0, .inr (7, [.ref q0, .ref q1, .null, .null, .null, .null, .null, .null, .null, .null, .int 0, .int 0, .int 0, .int 0]))] ++ (wcR cI q0 a0 sI_R) ++ (wcT cB q1 a1 sI_0) ++ [(q2, .inr (4, [.null, .int 0, .int 0, .int 0]))]) H := hP
  have hD : va_D A ([(o0, .inr (7, [.ref q0, .ref q1, .null, .null, .null, .null, .null, .null, .null, .null, .int 0, .int 0, .int 0, .int 0]))] ++ (wcR cI q0 a0 sI_R) ++ (wcT cB q1 a1 sI_0) ++ [(q2, .inr (4, [.null, .int 0, .int 0, .int 0]))]) := hD
  refine W.widen (k := 7) (n := 748) (Nat.le_of_ble_eq_true rfl) (Nat.le_of_ble_eq_true rfl) ?_
  refine lv_dup hx hb dX7_init_30 rfl ?_
  refine lv_aload_n hx hb dX7_init_31 rfl (lv_at hl 0 rfl) ?_
  refine va_get (D := (dC, dI)) (ci := 7) (v := .ref q1) (C := RX7) (T := TX7) (N := 14) hx hb hts n_X7_init_7 hown hK hP 0 rfl rfl 1 (by decide) (hts _ qX7_init_11) (fun _ h9 => h9) rfl dX7_init_32 ?_
  refine q_ctv (wr := ([(o0, .inr (7, [.ref q0, .ref q1, .null, .null, .null, .null, .null, .null, .null, .null, .int 0, .int 0, .int 0, .int 0]))] ++ (wcR cI q0 a0 sI_R) ++ (wcT cB q1 a1 sI_0))) (w1 := fun (a : Nat → Nat) => wcE q2 q1 sI_0) (va_runI (As := [.ref q1]) (rest := [.ref q2, .ref o0]) ⟨hx, hb, hml, hown, hts⟩ (kX4_init l dC dI cI cB cZ q2 q1 H.size) (cwI 1 hts gX7_init_X4_init rfl rfl rfl (hts _ qX7_init_14) (hts _ qX7_init_48) (hts _ qX7_init_49) rfl hdX4_init ⟨Nat.le_of_ble_eq_true rfl, Nat.le_of_ble_eq_true rfl⟩) (q_preW hK hP hD [7] (wc := [(q2, .inr (4, [.null, .int 0, .int 0, .int 0]))]) rfl (by decide) _) rfl rfl hl.1 rfl (lv_room (Nat.le_of_ble_eq_true rfl)) dX7_init_35 ⟨Nat.le_of_ble_eq_true rfl, Nat.le_of_ble_eq_true rfl⟩) hP hD hS hA [7] [0, 1, 2, 3, 4, 5, 6] rfl rfl (by decide) (by decide) (fun a2 H locs hP hD hS => ?_)
  have hP : va_P (dC, dI) vwCl ([(o0, .inr (7, [.ref q0, .ref q1, .null, .null, .null, .null, .null, .null, .null, .null, .int 0, .int 0, .int 0, .int 0]))] ++ (wcR cI q0 a0 sI_R) ++ (wcT cB q1 a1 sI_0) ++ (wcE q2 q1 sI_0)) H := hP
  have hD : va_D A ([(o0, .inr (7, [.ref q0, .ref q1, .null, .null, .null, .null, .null, .null, .null, .null, .int 0, .int 0, .int 0, .int 0]))] ++ (wcR cI q0 a0 sI_R) ++ (wcT cB q1 a1 sI_0) ++ (wcE q2 q1 sI_0)) := hD
  refine W.widen (k := 7) (n := 748) (Nat.le_of_ble_eq_true rfl) (Nat.le_of_ble_eq_true rfl) ?_
  refine va_putF (D := (dC, dI)) (ci := 7) (v := .ref q2) (ty := .object "DeadAsked$HillReader") (C := RX7) (T := TX7) (N := 14) hx hb hts n_X7_init_7 tyX7 tyX7_ok nmX7 hown hK hP hD hS 0 rfl rfl 2 (by decide) (hts _ qX7_init_15) (fun _ h9 => h9) rfl hin rfl (by decide +kernel) rfl rfl (Nat.le_of_ble_eq_true rfl) dX7_init_38 (fun H locs hP hD hS => ?_)
  have hP : va_P (dC, dI) vwCl ([(o0, .inr (7, [.ref q0, .ref q1, .ref q2, .null, .null, .null, .null, .null, .null, .null, .int 0, .int 0, .int 0, .int 0]))] ++ (wcR cI q0 a0 sI_R) ++ (wcT cB q1 a1 sI_0) ++ (wcE q2 q1 sI_0)) H := hP
  have hD : va_D A ([(o0, .inr (7, [.ref q0, .ref q1, .ref q2, .null, .null, .null, .null, .null, .null, .null, .int 0, .int 0, .int 0, .int 0]))] ++ (wcR cI q0 a0 sI_R) ++ (wcT cB q1 a1 sI_0) ++ (wcE q2 q1 sI_0)) := hD
  refine lv_aload_n hx hb dX7_init_41 rfl (lv_at hl 0 rfl) ?_
  refine va_new (ci := 0) (fs := [.null, .null, .null, .int 0, .int 0]) (C := RX0) (T := TX0) (N := 5) hx hb hts n_X7_init_0 tyX0 tyX0_ok hown (hts _ qX7_init_16) (hts _ qX7_init_17) (hts _ qX7_init_18) hK hP hD hS hA rfl (fun j hj => q_all0 j hj) (Nat.le_of_ble_eq_true rfl) (Nat.le_of_ble_eq_true rfl) dX7_init_42 (fun q3 H hP hD hS => ?_)
  have hP : va_P (dC, dI) vwCl ([(o0, .inr (7, [.ref q0, .ref q1, .ref q2, .null, .null, .null, .null, .null, .null, .null, .int 0, .int 0, .int 0, .int 0]))] ++ (wcR cI q0 a0 sI_R) ++ (wcT cB q1 a1 sI_0) ++ (wcE q2 q1 sI_0) ++ [(q3, .inr (0, [.null, .null, .null, .int 0, .int 0]))]) H := hP
  have hD : va_D A ([(o0, .inr (7, [.ref q0, .ref q1, .ref q2, .null, .null, .null, .null, .null, .null, .null, .int 0, .int 0, .int 0, .int 0]))] ++ (wcR cI q0 a0 sI_R) ++ (wcT cB q1 a1 sI_0) ++ (wcE q2 q1 sI_0) ++ [(q3, .inr (0, [.null, .null, .null, .int 0, .int 0]))]) := hD
  refine W.widen (k := 8) (n := 753) (Nat.le_of_ble_eq_true rfl) (Nat.le_of_ble_eq_true rfl) ?_
  refine lv_dup hx hb dX7_init_45 rfl ?_
  refine q_ctv (wr := ([(o0, .inr (7, [.ref q0, .ref q1, .ref q2, .null, .null, .null, .null, .null, .null, .null, .int 0, .int 0, .int 0, .int 0]))] ++ (wcR cI q0 a0 sI_R) ++ (wcT cB q1 a1 sI_0) ++ (wcE q2 q1 sI_0))) (w1 := fun (a : Nat → Nat) => wcA cI q3 a sI_0) (va_runIN (As := []) (rest := [.ref q3, .ref o0]) ⟨hx, hb, hml, hown, hts⟩ (kX0_init l dC dI cI cB cZ q3 H.size) ⟨va_cnB 0 hts gX7_init_X0_init_n34 rfl rfl rfl hN2 (hts _ qX7_init_18) hdX0_init ⟨Nat.le_of_ble_eq_true rfl, Nat.le_of_ble_eq_true rfl⟩, rfl, (hts _ qX7_init_53)⟩ (q_preW hK hP hD [8] (wc := [(q3, .inr (0, [.null, .null, .null, .int 0, .int 0]))]) rfl (by decide) _) rfl rfl hl.1 rfl (lv_room (Nat.le_of_ble_eq_true rfl)) dX7_init_46 ⟨Nat.le_of_ble_eq_true rfl, Nat.le_of_ble_eq_true rfl⟩) hP hD hS hA [8] [0, 1, 2, 3, 4, 5, 6, 7] rfl rfl (by decide) (by decide) (fun a3 H locs hP hD hS => ?_)
  have hP : va_P (dC, dI) vwCl ([(o0, .inr (7, [.ref q0, .ref q1, .ref q2, .null, .null, .null, .null, .null, .null, .null, .int 0, .int 0, .int 0, .int 0]))] ++ (wcR cI q0 a0 sI_R) ++ (wcT cB q1 a1 sI_0) ++ (wcE q2 q1 sI_0) ++ (wcA cI q3 a3 sI_0)) H := hP
  have hD : va_D A ([(o0, .inr (7, [.ref q0, .ref q1, .ref q2, .null, .null, .null, .null, .null, .null, .null, .int 0, .int 0, .int 0, .int 0]))] ++ (wcR cI q0 a0 sI_R) ++ (wcT cB q1 a1 sI_0) ++ (wcE q2 q1 sI_0) ++ (wcA cI q3 a3 sI_0)) := hD
  refine W.widen (k := 11) (n := 825) (Nat.le_of_ble_eq_true rfl) (Nat.le_of_ble_eq_true rfl) ?_
  refine va_putF (D := (dC, dI)) (ci := 7) (v := .ref q3) (ty := .object "DeadAsked$Acts") (C := RX7) (T := TX7) (N := 14) hx hb hts n_X7_init_7 tyX7 tyX7_ok nmX7 hown hK hP hD hS 0 rfl rfl 3 (by decide) (hts _ qX7_init_19) (fun _ h9 => h9) rfl hin rfl (by decide +kernel) rfl rfl (Nat.le_of_ble_eq_true rfl) dX7_init_49 (fun H locs hP hD hS => ?_)
  have hP : va_P (dC, dI) vwCl ([(o0, .inr (7, [.ref q0, .ref q1, .ref q2, .ref q3, .null, .null, .null, .null, .null, .null, .int 0, .int 0, .int 0, .int 0]))] ++ (wcR cI q0 a0 sI_R) ++ (wcT cB q1 a1 sI_0) ++ (wcE q2 q1 sI_0) ++ (wcA cI q3 a3 sI_0)) H := hP
  have hD : va_D A ([(o0, .inr (7, [.ref q0, .ref q1, .ref q2, .ref q3, .null, .null, .null, .null, .null, .null, .int 0, .int 0, .int 0, .int 0]))] ++ (wcR cI q0 a0 sI_R) ++ (wcT cB q1 a1 sI_0) ++ (wcE q2 q1 sI_0) ++ (wcA cI q3 a3 sI_0)) := hD
  refine lv_aload_n hx hb dX7_init_52 rfl (lv_at hl 0 rfl) ?_
  refine va_new (ci := 1) (fs := [.null, .int 0, .int 0, .int 0, .int 0, .int 0, .int 0]) (C := RX1) (T := TX1) (N := 7) hx hb hts n_X7_init_1 tyX1 tyX1_ok hown (hts _ qX7_init_20) (hts _ qX7_init_21) (hts _ qX7_init_22) hK hP hD hS hA rfl (fun j hj => q_all1 j hj) (Nat.le_of_ble_eq_true rfl) (Nat.le_of_ble_eq_true rfl) dX7_init_53 (fun q4 H hP hD hS => ?_)
  have hP : va_P (dC, dI) vwCl ([(o0, .inr (7, [.ref q0, .ref q1, .ref q2, .ref q3, .null, .null, .null, .null, .null, .null, .int 0, .int 0, .int 0, .int 0]))] ++ (wcR cI q0 a0 sI_R) ++ (wcT cB q1 a1 sI_0) ++ (wcE q2 q1 sI_0) ++ (wcA cI q3 a3 sI_0) ++ [(q4, .inr (1, [.null, .int 0, .int 0, .int 0, .int 0, .int 0, .int 0]))]) H := hP
  have hD : va_D A ([(o0, .inr (7, [.ref q0, .ref q1, .ref q2, .ref q3, .null, .null, .null, .null, .null, .null, .int 0, .int 0, .int 0, .int 0]))] ++ (wcR cI q0 a0 sI_R) ++ (wcT cB q1 a1 sI_0) ++ (wcE q2 q1 sI_0) ++ (wcA cI q3 a3 sI_0) ++ [(q4, .inr (1, [.null, .int 0, .int 0, .int 0, .int 0, .int 0, .int 0]))]) := hD
  refine W.widen (k := 12) (n := 832) (Nat.le_of_ble_eq_true rfl) (Nat.le_of_ble_eq_true rfl) ?_
  refine lv_dup hx hb dX7_init_56 rfl ?_
  refine q_ctv (wr := ([(o0, .inr (7, [.ref q0, .ref q1, .ref q2, .ref q3, .null, .null, .null, .null, .null, .null, .int 0, .int 0, .int 0, .int 0]))] ++ (wcR cI q0 a0 sI_R) ++ (wcT cB q1 a1 sI_0) ++ (wcE q2 q1 sI_0) ++ (wcA cI q3 a3 sI_0))) (w1 := fun (a : Nat → Nat) => wcB cI q4 a sI_0) (va_runIN (As := []) (rest := [.ref q4, .ref o0]) ⟨hx, hb, hml, hown, hts⟩ (kX1_init l dC dI cI cB cZ q4 H.size) ⟨va_cnB 0 hts gX7_init_X1_init_n41 rfl rfl rfl hN3 (hts _ qX7_init_22) hdX1_init ⟨Nat.le_of_ble_eq_true rfl, Nat.le_of_ble_eq_true rfl⟩, rfl, (hts _ qX7_init_59)⟩ (q_preW hK hP hD [12] (wc := [(q4, .inr (1, [.null, .int 0, .int 0, .int 0, .int 0, .int 0, .int 0]))]) rfl (by decide) _) rfl rfl hl.1 rfl (lv_room (Nat.le_of_ble_eq_true rfl)) dX7_init_57 ⟨Nat.le_of_ble_eq_true rfl, Nat.le_of_ble_eq_true rfl⟩) hP hD hS hA [12] [0, 1, 2, 3, 4, 5, 6, 7, 8, 9, 10, 11] rfl rfl (by decide) (by decide) (fun a4 H locs hP hD hS => ?_)
  have hP : va_P (dC, dI) vwCl ([(o0, .inr (7, [.ref q0, .ref q1, .ref q2, .ref q3, .null, .null, .null, .null, .null, .null, .int 0, .int 0, .int 0, .int 0]))] ++ (wcR cI q0 a0 sI_R) ++ (wcT cB q1 a1 sI_0) ++ (wcE q2 q1 sI_0) ++ (wcA cI q3 a3 sI_0) ++ (wcB cI q4 a4 sI_0)) H := hP
  have hD : va_D A ([(o0, .inr (7, [.ref q0, .ref q1, .ref q2, .ref q3, .null, .null, .null, .null, .null, .null, .int 0, .int 0, .int 0, .int 0]))] ++ (wcR cI q0 a0 sI_R) ++ (wcT cB q1 a1 sI_0) ++ (wcE q2 q1 sI_0) ++ (wcA cI q3 a3 sI_0) ++ (wcB cI q4 a4 sI_0)) := hD
  refine W.widen (k := 13) (n := 848) (Nat.le_of_ble_eq_true rfl) (Nat.le_of_ble_eq_true rfl) ?_
  refine va_putF (D := (dC, dI)) (ci := 7) (v := .ref q4) (ty := .object "DeadAsked$Bodies") (C := RX7) (T := TX7) (N := 14) hx hb hts n_X7_init_7 tyX7 tyX7_ok nmX7 hown hK hP hD hS 0 rfl rfl 4 (by decide) (hts _ qX7_init_23) (fun _ h9 => h9) rfl hin rfl (by decide +kernel) rfl rfl (Nat.le_of_ble_eq_true rfl) dX7_init_60 (fun H locs hP hD hS => ?_)
  have hP : va_P (dC, dI) vwCl ([(o0, .inr (7, [.ref q0, .ref q1, .ref q2, .ref q3, .ref q4, .null, .null, .null, .null, .null, .int 0, .int 0, .int 0, .int 0]))] ++ (wcR cI q0 a0 sI_R) ++ (wcT cB q1 a1 sI_0) ++ (wcE q2 q1 sI_0) ++ (wcA cI q3 a3 sI_0) ++ (wcB cI q4 a4 sI_0)) H := hP
  have hD : va_D A ([(o0, .inr (7, [.ref q0, .ref q1, .ref q2, .ref q3, .ref q4, .null, .null, .null, .null, .null, .int 0, .int 0, .int 0, .int 0]))] ++ (wcR cI q0 a0 sI_R) ++ (wcT cB q1 a1 sI_0) ++ (wcE q2 q1 sI_0) ++ (wcA cI q3 a3 sI_0) ++ (wcB cI q4 a4 sI_0)) := hD
  refine lv_aload_n hx hb dX7_init_63 rfl (lv_at hl 0 rfl) ?_
  refine va_new (ci := 2) (fs := [.long 0, .long 0]) (C := RX2) (T := TX2) (N := 2) hx hb hts n_X7_init_2 tyX2 tyX2_ok hown (hts _ qX7_init_24) (hts _ qX7_init_25) (hts _ qX7_init_26) hK hP hD hS hA rfl (fun j hj => q_all2 j hj) (Nat.le_of_ble_eq_true rfl) (Nat.le_of_ble_eq_true rfl) dX7_init_64 (fun q5 H hP hD hS => ?_)
  have hP : va_P (dC, dI) vwCl ([(o0, .inr (7, [.ref q0, .ref q1, .ref q2, .ref q3, .ref q4, .null, .null, .null, .null, .null, .int 0, .int 0, .int 0, .int 0]))] ++ (wcR cI q0 a0 sI_R) ++ (wcT cB q1 a1 sI_0) ++ (wcE q2 q1 sI_0) ++ (wcA cI q3 a3 sI_0) ++ (wcB cI q4 a4 sI_0) ++ [(q5, .inr (2, [.long 0, .long 0]))]) H := hP
  have hD : va_D A ([(o0, .inr (7, [.ref q0, .ref q1, .ref q2, .ref q3, .ref q4, .null, .null, .null, .null, .null, .int 0, .int 0, .int 0, .int 0]))] ++ (wcR cI q0 a0 sI_R) ++ (wcT cB q1 a1 sI_0) ++ (wcE q2 q1 sI_0) ++ (wcA cI q3 a3 sI_0) ++ (wcB cI q4 a4 sI_0) ++ [(q5, .inr (2, [.long 0, .long 0]))]) := hD
  refine W.widen (k := 14) (n := 850) (Nat.le_of_ble_eq_true rfl) (Nat.le_of_ble_eq_true rfl) ?_
  refine lv_dup hx hb dX7_init_67 rfl ?_
  refine q_ctv (wr := ([(o0, .inr (7, [.ref q0, .ref q1, .ref q2, .ref q3, .ref q4, .null, .null, .null, .null, .null, .int 0, .int 0, .int 0, .int 0]))] ++ (wcR cI q0 a0 sI_R) ++ (wcT cB q1 a1 sI_0) ++ (wcE q2 q1 sI_0) ++ (wcA cI q3 a3 sI_0) ++ (wcB cI q4 a4 sI_0))) (w1 := fun (a : Nat → Nat) => wcF q5 tI_F) (va_runIN (As := []) (rest := [.ref q5, .ref o0]) ⟨hx, hb, hml, hown, hts⟩ (kX2_init l dC dI cI cB cZ q5 H.size) ⟨va_cnB 0 hts gX7_init_X2_init_n48 rfl rfl rfl hN4 (hts _ qX7_init_26) hdX2_init ⟨Nat.le_of_ble_eq_true rfl, Nat.le_of_ble_eq_true rfl⟩, rfl, (hts _ qX7_init_63)⟩ (q_preW hK hP hD [14] (wc := [(q5, .inr (2, [.long 0, .long 0]))]) rfl (by decide) _) rfl rfl hl.1 rfl (lv_room (Nat.le_of_ble_eq_true rfl)) dX7_init_68 ⟨Nat.le_of_ble_eq_true rfl, Nat.le_of_ble_eq_true rfl⟩) hP hD hS hA [14] [0, 1, 2, 3, 4, 5, 6, 7, 8, 9, 10, 11, 12, 13] rfl rfl (by decide) (by decide) (fun a5 H locs hP hD hS => ?_)
  have hP : va_P (dC, dI) vwCl ([(o0, .inr (7, [.ref q0, .ref q1, .ref q2, .ref q3, .ref q4, .null, .null, .null, .null, .null, .int 0, .int 0, .int 0, .int 0]))] ++ (wcR cI q0 a0 sI_R) ++ (wcT cB q1 a1 sI_0) ++ (wcE q2 q1 sI_0) ++ (wcA cI q3 a3 sI_0) ++ (wcB cI q4 a4 sI_0) ++ (wcF q5 tI_F)) H := hP
  have hD : va_D A ([(o0, .inr (7, [.ref q0, .ref q1, .ref q2, .ref q3, .ref q4, .null, .null, .null, .null, .null, .int 0, .int 0, .int 0, .int 0]))] ++ (wcR cI q0 a0 sI_R) ++ (wcT cB q1 a1 sI_0) ++ (wcE q2 q1 sI_0) ++ (wcA cI q3 a3 sI_0) ++ (wcB cI q4 a4 sI_0) ++ (wcF q5 tI_F)) := hD
  refine W.widen (k := 14) (n := 850) (Nat.le_of_ble_eq_true rfl) (Nat.le_of_ble_eq_true rfl) ?_
  refine va_putF (D := (dC, dI)) (ci := 7) (v := .ref q5) (ty := .object "DeadAsked$Fraction") (C := RX7) (T := TX7) (N := 14) hx hb hts n_X7_init_7 tyX7 tyX7_ok nmX7 hown hK hP hD hS 0 rfl rfl 5 (by decide) (hts _ qX7_init_27) (fun _ h9 => h9) rfl hin rfl (by decide +kernel) rfl rfl (Nat.le_of_ble_eq_true rfl) dX7_init_71 (fun H locs hP hD hS => ?_)
  have hP : va_P (dC, dI) vwCl ([(o0, .inr (7, [.ref q0, .ref q1, .ref q2, .ref q3, .ref q4, .ref q5, .null, .null, .null, .null, .int 0, .int 0, .int 0, .int 0]))] ++ (wcR cI q0 a0 sI_R) ++ (wcT cB q1 a1 sI_0) ++ (wcE q2 q1 sI_0) ++ (wcA cI q3 a3 sI_0) ++ (wcB cI q4 a4 sI_0) ++ (wcF q5 tI_F)) H := hP
  have hD : va_D A ([(o0, .inr (7, [.ref q0, .ref q1, .ref q2, .ref q3, .ref q4, .ref q5, .null, .null, .null, .null, .int 0, .int 0, .int 0, .int 0]))] ++ (wcR cI q0 a0 sI_R) ++ (wcT cB q1 a1 sI_0) ++ (wcE q2 q1 sI_0) ++ (wcA cI q3 a3 sI_0) ++ (wcB cI q4 a4 sI_0) ++ (wcF q5 tI_F)) := hD
  refine lv_aload_n hx hb dX7_init_74 rfl (lv_at hl 0 rfl) ?_
  refine va_new (ci := 3) (fs := [.null, .null, .null, .null, .null, .null, .null, .null, .null, .null, .int 0, .int 0, .int 0, .int 0]) (C := RX3) (T := TX3) (N := 14) hx hb hts n_X7_init_3 tyX3 tyX3_ok hown (hts _ qX7_init_28) (hts _ qX7_init_29) (hts _ qX7_init_30) hK hP hD hS hA rfl (fun j hj => q_all3 j hj) (Nat.le_of_ble_eq_true rfl) (Nat.le_of_ble_eq_true rfl) dX7_init_75 (fun q6 H hP hD hS => ?_)
  have hP : va_P (dC, dI) vwCl ([(o0, .inr (7, [.ref q0, .ref q1, .ref q2, .ref q3, .ref q4, .ref q5, .null, .null, .null, .null, .int 0, .int 0, .int 0, .int 0]))] ++ (wcR cI q0 a0 sI_R) ++ (wcT cB q1 a1 sI_0) ++ (wcE q2 q1 sI_0) ++ (wcA cI q3 a3 sI_0) ++ (wcB cI q4 a4 sI_0) ++ (wcF q5 tI_F) ++ [(q6, .inr (3, [.null, .null, .null, .null, .null, .null, .null, .null, .null, .null, .int 0, .int 0, .int 0, .int 0]))]) H := hP
  have hD : va_D A ([(o0, .inr (7, [.ref q0, .ref q1, .ref q2, .ref q3, .ref q4, .ref q5, .null, .null, .null, .null, .int 0, .int 0, .int 0, .int 0]))] ++ (wcR cI q0 a0 sI_R) ++ (wcT cB q1 a1 sI_0) ++ (wcE q2 q1 sI_0) ++ (wcA cI q3 a3 sI_0) ++ (wcB cI q4 a4 sI_0) ++ (wcF q5 tI_F) ++ [(q6, .inr (3, [.null, .null, .null, .null, .null, .null, .null, .null, .null, .null, .int 0, .int 0, .int 0, .int 0]))]) := hD
  refine W.widen (k := 15) (n := 864) (Nat.le_of_ble_eq_true rfl) (Nat.le_of_ble_eq_true rfl) ?_
  refine lv_dup hx hb dX7_init_78 rfl ?_
  refine q_ctv (wr := ([(o0, .inr (7, [.ref q0, .ref q1, .ref q2, .ref q3, .ref q4, .ref q5, .null, .null, .null, .null, .int 0, .int 0, .int 0, .int 0]))] ++ (wcR cI q0 a0 sI_R) ++ (wcT cB q1 a1 sI_0) ++ (wcE q2 q1 sI_0) ++ (wcA cI q3 a3 sI_0) ++ (wcB cI q4 a4 sI_0) ++ (wcF q5 tI_F))) (w1 := fun (a : Nat → Nat) => wcH cI q6 a sI_0) (va_runIN (As := []) (rest := [.ref q6, .ref o0]) ⟨hx, hb, hml, hown, hts⟩ (kX3_init l dC dI cI cB cZ q6 H.size) ⟨va_cnB 0 hts gX7_init_X3_init_n55 rfl rfl rfl hN5 (hts _ qX7_init_30) hdX3_init ⟨Nat.le_of_ble_eq_true rfl, Nat.le_of_ble_eq_true rfl⟩, rfl, (hts _ qX7_init_67)⟩ (q_preW hK hP hD [15] (wc := [(q6, .inr (3, [.null, .null, .null, .null, .null, .null, .null, .null, .null, .null, .int 0, .int 0, .int 0, .int 0]))]) rfl (by decide) _) rfl rfl hl.1 rfl (lv_room (Nat.le_of_ble_eq_true rfl)) dX7_init_79 ⟨Nat.le_of_ble_eq_true rfl, Nat.le_of_ble_eq_true rfl⟩) hP hD hS hA [15] [0, 1, 2, 3, 4, 5, 6, 7, 8, 9, 10, 11, 12, 13, 14] rfl rfl (by decide) (by decide) (fun a6 H locs hP hD hS => ?_)
  have hP : va_P (dC, dI) vwCl ([(o0, .inr (7, [.ref q0, .ref q1, .ref q2, .ref q3, .ref q4, .ref q5, .null, .null, .null, .null, .int 0, .int 0, .int 0, .int 0]))] ++ (wcR cI q0 a0 sI_R) ++ (wcT cB q1 a1 sI_0) ++ (wcE q2 q1 sI_0) ++ (wcA cI q3 a3 sI_0) ++ (wcB cI q4 a4 sI_0) ++ (wcF q5 tI_F) ++ (wcH cI q6 a6 sI_0)) H := hP
  have hD : va_D A ([(o0, .inr (7, [.ref q0, .ref q1, .ref q2, .ref q3, .ref q4, .ref q5, .null, .null, .null, .null, .int 0, .int 0, .int 0, .int 0]))] ++ (wcR cI q0 a0 sI_R) ++ (wcT cB q1 a1 sI_0) ++ (wcE q2 q1 sI_0) ++ (wcA cI q3 a3 sI_0) ++ (wcB cI q4 a4 sI_0) ++ (wcF q5 tI_F) ++ (wcH cI q6 a6 sI_0)) := hD
  refine W.widen (k := 25) (n := 916) (Nat.le_of_ble_eq_true rfl) (Nat.le_of_ble_eq_true rfl) ?_
  refine va_putF (D := (dC, dI)) (ci := 7) (v := .ref q6) (ty := .object "DeadAsked$Hill") (C := RX7) (T := TX7) (N := 14) hx hb hts n_X7_init_7 tyX7 tyX7_ok nmX7 hown hK hP hD hS 0 rfl rfl 6 (by decide) (hts _ qX7_init_31) (fun _ h9 => h9) rfl hin rfl (by decide +kernel) rfl rfl (Nat.le_of_ble_eq_true rfl) dX7_init_82 (fun H locs hP hD hS => ?_)
  have hP : va_P (dC, dI) vwCl ([(o0, .inr (7, [.ref q0, .ref q1, .ref q2, .ref q3, .ref q4, .ref q5, .ref q6, .null, .null, .null, .int 0, .int 0, .int 0, .int 0]))] ++ (wcR cI q0 a0 sI_R) ++ (wcT cB q1 a1 sI_0) ++ (wcE q2 q1 sI_0) ++ (wcA cI q3 a3 sI_0) ++ (wcB cI q4 a4 sI_0) ++ (wcF q5 tI_F) ++ (wcH cI q6 a6 sI_0)) H := hP
  have hD : va_D A ([(o0, .inr (7, [.ref q0, .ref q1, .ref q2, .ref q3, .ref q4, .ref q5, .ref q6, .null, .null, .null, .int 0, .int 0, .int 0, .int 0]))] ++ (wcR cI q0 a0 sI_R) ++ (wcT cB q1 a1 sI_0) ++ (wcE q2 q1 sI_0) ++ (wcA cI q3 a3 sI_0) ++ (wcB cI q4 a4 sI_0) ++ (wcF q5 tI_F) ++ (wcH cI q6 a6 sI_0)) := hD
  refine lv_aload_n hx hb dX7_init_85 rfl (lv_at hl 0 rfl) ?_
  refine va_new (ci := 3) (fs := [.null, .null, .null, .null, .null, .null, .null, .null, .null, .null, .int 0, .int 0, .int 0, .int 0]) (C := RX3) (T := TX3) (N := 14) hx hb hts n_X7_init_3 tyX3 tyX3_ok hown (hts _ qX7_init_28) (hts _ qX7_init_29) (hts _ qX7_init_30) hK hP hD hS hA rfl (fun j hj => q_all3 j hj) (Nat.le_of_ble_eq_true rfl) (Nat.le_of_ble_eq_true rfl) dX7_init_86 (fun q7 H hP hD hS => ?_)
  have hP : va_P (dC, dI) vwCl ([(o0, .inr (7, [.ref q0, .ref q1, .ref q2, .ref q3, .ref q4, .ref q5, .ref q6, .null, .null, .null, .int 0, .int 0, .int 0, .int 0]))] ++ (wcR cI q0 a0 sI_R) ++ (wcT cB q1 a1 sI_0) ++ (wcE q2 q1 sI_0) ++ (wcA cI q3 a3 sI_0) ++ (wcB cI q4 a4 sI_0) ++ (wcF q5 tI_F) ++ (wcH cI q6 a6 sI_0) ++ [(q7, .inr (3, [.null, .null, .null, .null, .null, .null, .null, .null, .null, .null, .int 0, .int 0, .int 0, .int 0]))]) H := hP
  have hD : va_D A ([(o0, .inr (7, [.ref q0, .ref q1, .ref q2, .ref q3, .ref q4, .ref q5, .ref q6, .null, .null, .null, .int 0, .int 0, .int 0, .int 0]))] ++ (wcR cI q0 a0 sI_R) ++ (wcT cB q1 a1 sI_0) ++ (wcE q2 q1 sI_0) ++ (wcA cI q3 a3 sI_0) ++ (wcB cI q4 a4 sI_0) ++ (wcF q5 tI_F) ++ (wcH cI q6 a6 sI_0) ++ [(q7, .inr (3, [.null, .null, .null, .null, .null, .null, .null, .null, .null, .null, .int 0, .int 0, .int 0, .int 0]))]) := hD
  refine W.widen (k := 26) (n := 930) (Nat.le_of_ble_eq_true rfl) (Nat.le_of_ble_eq_true rfl) ?_
  refine lv_dup hx hb dX7_init_89 rfl ?_
  refine q_ctv (wr := ([(o0, .inr (7, [.ref q0, .ref q1, .ref q2, .ref q3, .ref q4, .ref q5, .ref q6, .null, .null, .null, .int 0, .int 0, .int 0, .int 0]))] ++ (wcR cI q0 a0 sI_R) ++ (wcT cB q1 a1 sI_0) ++ (wcE q2 q1 sI_0) ++ (wcA cI q3 a3 sI_0) ++ (wcB cI q4 a4 sI_0) ++ (wcF q5 tI_F) ++ (wcH cI q6 a6 sI_0))) (w1 := fun (a : Nat → Nat) => wcH cI q7 a sI_0) (va_runIN (As := []) (rest := [.ref q7, .ref o0]) ⟨hx, hb, hml, hown, hts⟩ (kX3_init l dC dI cI cB cZ q7 H.size) ⟨va_cnB 0 hts gX7_init_X3_init_n55 rfl rfl rfl hN5 (hts _ qX7_init_30) hdX3_init ⟨Nat.le_of_ble_eq_true rfl, Nat.le_of_ble_eq_true rfl⟩, rfl, (hts _ qX7_init_67)⟩ (q_preW hK hP hD [26] (wc := [(q7, .inr (3, [.null, .null, .null, .null, .null, .null, .null, .null, .null, .null, .int 0, .int 0, .int 0, .int 0]))]) rfl (by decide) _) rfl rfl hl.1 rfl (lv_room (Nat.le_of_ble_eq_true rfl)) dX7_init_90 ⟨Nat.le_of_ble_eq_true rfl, Nat.le_of_ble_eq_true rfl⟩) hP hD hS hA [26] [0, 1, 2, 3, 4, 5, 6, 7, 8, 9, 10, 11, 12, 13, 14, 15, 16, 17, 18, 19, 20, 21, 22, 23, 24, 25] rfl rfl (by decide) (by decide) (fun a7 H locs hP hD hS => ?_)
  have hP : va_P (dC, dI) vwCl ([(o0, .inr (7, [.ref q0, .ref q1, .ref q2, .ref q3, .ref q4, .ref q5, .ref q6, .null, .null, .null, .int 0, .int 0, .int 0, .int 0]))] ++ (wcR cI q0 a0 sI_R) ++ (wcT cB q1 a1 sI_0) ++ (wcE q2 q1 sI_0) ++ (wcA cI q3 a3 sI_0) ++ (wcB cI q4 a4 sI_0) ++ (wcF q5 tI_F) ++ (wcH cI q6 a6 sI_0) ++ (wcH cI q7 a7 sI_0)) H := hP
  have hD : va_D A ([(o0, .inr (7, [.ref q0, .ref q1, .ref q2, .ref q3, .ref q4, .ref q5, .ref q6, .null, .null, .null, .int 0, .int 0, .int 0, .int 0]))] ++ (wcR cI q0 a0 sI_R) ++ (wcT cB q1 a1 sI_0) ++ (wcE q2 q1 sI_0) ++ (wcA cI q3 a3 sI_0) ++ (wcB cI q4 a4 sI_0) ++ (wcF q5 tI_F) ++ (wcH cI q6 a6 sI_0) ++ (wcH cI q7 a7 sI_0)) := hD
  refine W.widen (k := 36) (n := 982) (Nat.le_of_ble_eq_true rfl) (Nat.le_of_ble_eq_true rfl) ?_
  refine va_putF (D := (dC, dI)) (ci := 7) (v := .ref q7) (ty := .object "DeadAsked$Hill") (C := RX7) (T := TX7) (N := 14) hx hb hts n_X7_init_7 tyX7 tyX7_ok nmX7 hown hK hP hD hS 0 rfl rfl 7 (by decide) (hts _ qX7_init_32) (fun _ h9 => h9) rfl hin rfl (by decide +kernel) rfl rfl (Nat.le_of_ble_eq_true rfl) dX7_init_93 (fun H locs hP hD hS => ?_)
  have hP : va_P (dC, dI) vwCl ([(o0, .inr (7, [.ref q0, .ref q1, .ref q2, .ref q3, .ref q4, .ref q5, .ref q6, .ref q7, .null, .null, .int 0, .int 0, .int 0, .int 0]))] ++ (wcR cI q0 a0 sI_R) ++ (wcT cB q1 a1 sI_0) ++ (wcE q2 q1 sI_0) ++ (wcA cI q3 a3 sI_0) ++ (wcB cI q4 a4 sI_0) ++ (wcF q5 tI_F) ++ (wcH cI q6 a6 sI_0) ++ (wcH cI q7 a7 sI_0)) H := hP
  have hD : va_D A ([(o0, .inr (7, [.ref q0, .ref q1, .ref q2, .ref q3, .ref q4, .ref q5, .ref q6, .ref q7, .null, .null, .int 0, .int 0, .int 0, .int 0]))] ++ (wcR cI q0 a0 sI_R) ++ (wcT cB q1 a1 sI_0) ++ (wcE q2 q1 sI_0) ++ (wcA cI q3 a3 sI_0) ++ (wcB cI q4 a4 sI_0) ++ (wcF q5 tI_F) ++ (wcH cI q6 a6 sI_0) ++ (wcH cI q7 a7 sI_0)) := hD
  refine lv_aload_n hx hb dX7_init_96 rfl (lv_at hl 0 rfl) ?_
  refine va_new (ci := 3) (fs := [.null, .null, .null, .null, .null, .null, .null, .null, .null, .null, .int 0, .int 0, .int 0, .int 0]) (C := RX3) (T := TX3) (N := 14) hx hb hts n_X7_init_3 tyX3 tyX3_ok hown (hts _ qX7_init_28) (hts _ qX7_init_29) (hts _ qX7_init_30) hK hP hD hS hA rfl (fun j hj => q_all3 j hj) (Nat.le_of_ble_eq_true rfl) (Nat.le_of_ble_eq_true rfl) dX7_init_97 (fun q8 H hP hD hS => ?_)
  have hP : va_P (dC, dI) vwCl ([(o0, .inr (7, [.ref q0, .ref q1, .ref q2, .ref q3, .ref q4, .ref q5, .ref q6, .ref q7, .null, .null, .int 0, .int 0, .int 0, .int 0]))] ++ (wcR cI q0 a0 sI_R) ++ (wcT cB q1 a1 sI_0) ++ (wcE q2 q1 sI_0) ++ (wcA cI q3 a3 sI_0) ++ (wcB cI q4 a4 sI_0) ++ (wcF q5 tI_F) ++ (wcH cI q6 a6 sI_0) ++ (wcH cI q7 a7 sI_0) ++ [(q8, .inr (3, [.null, .null, .null, .null, .null, .null, .null, .null, .null, .null, .int 0, .int 0, .int 0, .int 0]))]) H := hP
  have hD : va_D A ([(o0, .inr (7, [.ref q0, .ref q1, .ref q2, .ref q3, .ref q4, .ref q5, .ref q6, .ref q7, .null, .null, .int 0, .int 0, .int 0, .int 0]))] ++ (wcR cI q0 a0 sI_R) ++ (wcT cB q1 a1 sI_0) ++ (wcE q2 q1 sI_0) ++ (wcA cI q3 a3 sI_0) ++ (wcB cI q4 a4 sI_0) ++ (wcF q5 tI_F) ++ (wcH cI q6 a6 sI_0) ++ (wcH cI q7 a7 sI_0) ++ [(q8, .inr (3, [.null, .null, .null, .null, .null, .null, .null, .null, .null, .null, .int 0, .int 0, .int 0, .int 0]))]) := hD
  refine W.widen (k := 37) (n := 996) (Nat.le_of_ble_eq_true rfl) (Nat.le_of_ble_eq_true rfl) ?_
  refine lv_dup hx hb dX7_init_100 rfl ?_
  refine q_ctv (wr := ([(o0, .inr (7, [.ref q0, .ref q1, .ref q2, .ref q3, .ref q4, .ref q5, .ref q6, .ref q7, .null, .null, .int 0, .int 0, .int 0, .int 0]))] ++ (wcR cI q0 a0 sI_R) ++ (wcT cB q1 a1 sI_0) ++ (wcE q2 q1 sI_0) ++ (wcA cI q3 a3 sI_0) ++ (wcB cI q4 a4 sI_0) ++ (wcF q5 tI_F) ++ (wcH cI q6 a6 sI_0) ++ (wcH cI q7 a7 sI_0))) (w1 := fun (a : Nat → Nat) => wcH cI q8 a sI_0) (va_runIN (As := []) (rest := [.ref q8, .ref o0]) ⟨hx, hb, hml, hown, hts⟩ (kX3_init l dC dI cI cB cZ q8 H.size) ⟨va_cnB 0 hts gX7_init_X3_init_n55 rfl rfl rfl hN5 (hts _ qX7_init_30) hdX3_init ⟨Nat.le_of_ble_eq_true rfl, Nat.le_of_ble_eq_true rfl⟩, rfl, (hts _ qX7_init_67)⟩ (q_preW hK hP hD [37] (wc := [(q8, .inr (3, [.null, .null, .null, .null, .null, .null, .null, .null, .null, .null, .int 0, .int 0, .int 0, .int 0]))]) rfl (by decide) _) rfl rfl hl.1 rfl (lv_room (Nat.le_of_ble_eq_true rfl)) dX7_init_101 ⟨Nat.le_of_ble_eq_true rfl, Nat.le_of_ble_eq_true rfl⟩) hP hD hS hA [37] [0, 1, 2, 3, 4, 5, 6, 7, 8, 9, 10, 11, 12, 13, 14, 15, 16, 17, 18, 19, 20, 21, 22, 23, 24, 25, 26, 27, 28, 29, 30, 31, 32, 33, 34, 35, 36] rfl rfl (by decide) (by decide) (fun a8 H locs hP hD hS => ?_)
  have hP : va_P (dC, dI) vwCl ([(o0, .inr (7, [.ref q0, .ref q1, .ref q2, .ref q3, .ref q4, .ref q5, .ref q6, .ref q7, .null, .null, .int 0, .int 0, .int 0, .int 0]))] ++ (wcR cI q0 a0 sI_R) ++ (wcT cB q1 a1 sI_0) ++ (wcE q2 q1 sI_0) ++ (wcA cI q3 a3 sI_0) ++ (wcB cI q4 a4 sI_0) ++ (wcF q5 tI_F) ++ (wcH cI q6 a6 sI_0) ++ (wcH cI q7 a7 sI_0) ++ (wcH cI q8 a8 sI_0)) H := hP
  have hD : va_D A ([(o0, .inr (7, [.ref q0, .ref q1, .ref q2, .ref q3, .ref q4, .ref q5, .ref q6, .ref q7, .null, .null, .int 0, .int 0, .int 0, .int 0]))] ++ (wcR cI q0 a0 sI_R) ++ (wcT cB q1 a1 sI_0) ++ (wcE q2 q1 sI_0) ++ (wcA cI q3 a3 sI_0) ++ (wcB cI q4 a4 sI_0) ++ (wcF q5 tI_F) ++ (wcH cI q6 a6 sI_0) ++ (wcH cI q7 a7 sI_0) ++ (wcH cI q8 a8 sI_0)) := hD
  refine W.widen (k := 47) (n := 1048) (Nat.le_of_ble_eq_true rfl) (Nat.le_of_ble_eq_true rfl) ?_
  refine va_put (D := (dC, dI)) (ci := 7) (v := .ref q8) (ty := .object "DeadAsked$Hill") (C := RX7) (T := TX7) (N := 14) hx hb hts n_X7_init_7 tyX7 tyX7_ok nmX7 hown hK hP hD hS 0 rfl rfl 8 (by decide) (hts _ qX7_init_33) (fun _ h9 => h9) rfl (by decide +kernel) rfl rfl (Nat.le_of_ble_eq_true rfl) dX7_init_104 (fun H locs hP hD hS => ?_)
  have hP : va_P (dC, dI) vwCl ([(o0, .inr (7, [.ref q0, .ref q1, .ref q2, .ref q3, .ref q4, .ref q5, .ref q6, .ref q7, .ref q8, .null, .int 0, .int 0, .int 0, .int 0]))] ++ (wcR cI q0 a0 sI_R) ++ (wcT cB q1 a1 sI_0) ++ (wcE q2 q1 sI_0) ++ (wcA cI q3 a3 sI_0) ++ (wcB cI q4 a4 sI_0) ++ (wcF q5 tI_F) ++ (wcH cI q6 a6 sI_0) ++ (wcH cI q7 a7 sI_0) ++ (wcH cI q8 a8 sI_0)) H := hP
  have hD : va_D A ([(o0, .inr (7, [.ref q0, .ref q1, .ref q2, .ref q3, .ref q4, .ref q5, .ref q6, .ref q7, .ref q8, .null, .int 0, .int 0, .int 0, .int 0]))] ++ (wcR cI q0 a0 sI_R) ++ (wcT cB q1 a1 sI_0) ++ (wcE q2 q1 sI_0) ++ (wcA cI q3 a3 sI_0) ++ (wcB cI q4 a4 sI_0) ++ (wcF q5 tI_F) ++ (wcH cI q6 a6 sI_0) ++ (wcH cI q7 a7 sI_0) ++ (wcH cI q8 a8 sI_0)) := hD
  refine lv_aload_n hx hb dX7_init_107 rfl (lv_at hl 0 rfl) ?_
  refine va_new (ci := 3) (fs := [.null, .null, .null, .null, .null, .null, .null, .null, .null, .null, .int 0, .int 0, .int 0, .int 0]) (C := RX3) (T := TX3) (N := 14) hx hb hts n_X7_init_3 tyX3 tyX3_ok hown (hts _ qX7_init_28) (hts _ qX7_init_29) (hts _ qX7_init_30) hK hP hD hS hA rfl (fun j hj => q_all3 j hj) (Nat.le_of_ble_eq_true rfl) (Nat.le_of_ble_eq_true rfl) dX7_init_108 (fun q9 H hP hD hS => ?_)
  have hP : va_P (dC, dI) vwCl ([(o0, .inr (7, [.ref q0, .ref q1, .ref q2, .ref q3, .ref q4, .ref q5, .ref q6, .ref q7, .ref q8, .null, .int 0, .int 0, .int 0, .int 0]))] ++ (wcR cI q0 a0 sI_R) ++ (wcT cB q1 a1 sI_0) ++ (wcE q2 q1 sI_0) ++ (wcA cI q3 a3 sI_0) ++ (wcB cI q4 a4 sI_0) ++ (wcF q5 tI_F) ++ (wcH cI q6 a6 sI_0) ++ (wcH cI q7 a7 sI_0) ++ (wcH cI q8 a8 sI_0) ++ [(q9, .inr (3, [.null, .null, .null, .null, .null, .null, .null, .null, .null, .null, .int 0, .int 0, .int 0, .int 0]))]) H := hP
  have hD : va_D A ([(o0, .inr (7, [.ref q0, .ref q1, .ref q2, .ref q3, .ref q4, .ref q5, .ref q6, .ref q7, .ref q8, .null, .int 0, .int 0, .int 0, .int 0]))] ++ (wcR cI q0 a0 sI_R) ++ (wcT cB q1 a1 sI_0) ++ (wcE q2 q1 sI_0) ++ (wcA cI q3 a3 sI_0) ++ (wcB cI q4 a4 sI_0) ++ (wcF q5 tI_F) ++ (wcH cI q6 a6 sI_0) ++ (wcH cI q7 a7 sI_0) ++ (wcH cI q8 a8 sI_0) ++ [(q9, .inr (3, [.null, .null, .null, .null, .null, .null, .null, .null, .null, .null, .int 0, .int 0, .int 0, .int 0]))]) := hD
  refine W.widen (k := 48) (n := 1062) (Nat.le_of_ble_eq_true rfl) (Nat.le_of_ble_eq_true rfl) ?_
  refine lv_dup hx hb dX7_init_111 rfl ?_
  refine q_ctv (wr := ([(o0, .inr (7, [.ref q0, .ref q1, .ref q2, .ref q3, .ref q4, .ref q5, .ref q6, .ref q7, .ref q8, .null, .int 0, .int 0, .int 0, .int 0]))] ++ (wcR cI q0 a0 sI_R) ++ (wcT cB q1 a1 sI_0) ++ (wcE q2 q1 sI_0) ++ (wcA cI q3 a3 sI_0) ++ (wcB cI q4 a4 sI_0) ++ (wcF q5 tI_F) ++ (wcH cI q6 a6 sI_0) ++ (wcH cI q7 a7 sI_0) ++ (wcH cI q8 a8 sI_0))) (w1 := fun (a : Nat → Nat) => wcH cI q9 a sI_0) (va_runIN (As := []) (rest := [.ref q9, .ref o0]) ⟨hx, hb, hml, hown, hts⟩ (kX3_init l dC dI cI cB cZ q9 H.size) ⟨va_cnB 0 hts gX7_init_X3_init_n55 rfl rfl rfl hN5 (hts _ qX7_init_30) hdX3_init ⟨Nat.le_of_ble_eq_true rfl, Nat.le_of_ble_eq_true rfl⟩, rfl, (hts _ qX7_init_67)⟩ (q_preW hK hP hD [48] (wc := [(q9, .inr (3, [.null, .null, .null, .null, .null, .null, .null, .null, .null, .null, .int 0, .int 0, .int 0, .int 0]))]) rfl (by decide) _) rfl rfl hl.1 rfl (lv_room (Nat.le_of_ble_eq_true rfl)) dX7_init_112 ⟨Nat.le_of_ble_eq_true rfl, Nat.le_of_ble_eq_true rfl⟩) hP hD hS hA [48] [0, 1, 2, 3, 4, 5, 6, 7, 8, 9, 10, 11, 12, 13, 14, 15, 16, 17, 18, 19, 20, 21, 22, 23, 24, 25, 26, 27, 28, 29, 30, 31, 32, 33, 34, 35, 36, 37, 38, 39, 40, 41, 42, 43, 44, 45, 46, 47] rfl rfl (by decide) (by decide) (fun a9 H locs hP hD hS => ?_)
  have hP : va_P (dC, dI) vwCl ([(o0, .inr (7, [.ref q0, .ref q1, .ref q2, .ref q3, .ref q4, .ref q5, .ref q6, .ref q7, .ref q8, .null, .int 0, .int 0, .int 0, .int 0]))] ++ (wcR cI q0 a0 sI_R) ++ (wcT cB q1 a1 sI_0) ++ (wcE q2 q1 sI_0) ++ (wcA cI q3 a3 sI_0) ++ (wcB cI q4 a4 sI_0) ++ (wcF q5 tI_F) ++ (wcH cI q6 a6 sI_0) ++ (wcH cI q7 a7 sI_0) ++ (wcH cI q8 a8 sI_0) ++ (wcH cI q9 a9 sI_0)) H := hP
  have hD : va_D A ([(o0, .inr (7, [.ref q0, .ref q1, .ref q2, .ref q3, .ref q4, .ref q5, .ref q6, .ref q7, .ref q8, .null, .int 0, .int 0, .int 0, .int 0]))] ++ (wcR cI q0 a0 sI_R) ++ (wcT cB q1 a1 sI_0) ++ (wcE q2 q1 sI_0) ++ (wcA cI q3 a3 sI_0) ++ (wcB cI q4 a4 sI_0) ++ (wcF q5 tI_F) ++ (wcH cI q6 a6 sI_0) ++ (wcH cI q7 a7 sI_0) ++ (wcH cI q8 a8 sI_0) ++ (wcH cI q9 a9 sI_0)) := hD
  refine W.widen (k := 58) (n := 1114) (Nat.le_of_ble_eq_true rfl) (Nat.le_of_ble_eq_true rfl) ?_
  refine va_put (D := (dC, dI)) (ci := 7) (v := .ref q9) (ty := .object "DeadAsked$Hill") (C := RX7) (T := TX7) (N := 14) hx hb hts n_X7_init_7 tyX7 tyX7_ok nmX7 hown hK hP hD hS 0 rfl rfl 9 (by decide) (hts _ qX7_init_34) (fun _ h9 => h9) rfl (by decide +kernel) rfl rfl (Nat.le_of_ble_eq_true rfl) dX7_init_115 (fun H locs hP hD hS => ?_)
  have hP : va_P (dC, dI) vwCl ([(o0, .inr (7, [.ref q0, .ref q1, .ref q2, .ref q3, .ref q4, .ref q5, .ref q6, .ref q7, .ref q8, .ref q9, .int 0, .int 0, .int 0, .int 0]))] ++ (wcR cI q0 a0 sI_R) ++ (wcT cB q1 a1 sI_0) ++ (wcE q2 q1 sI_0) ++ (wcA cI q3 a3 sI_0) ++ (wcB cI q4 a4 sI_0) ++ (wcF q5 tI_F) ++ (wcH cI q6 a6 sI_0) ++ (wcH cI q7 a7 sI_0) ++ (wcH cI q8 a8 sI_0) ++ (wcH cI q9 a9 sI_0)) H := hP
  have hD : va_D A ([(o0, .inr (7, [.ref q0, .ref q1, .ref q2, .ref q3, .ref q4, .ref q5, .ref q6, .ref q7, .ref q8, .ref q9, .int 0, .int 0, .int 0, .int 0]))] ++ (wcR cI q0 a0 sI_R) ++ (wcT cB q1 a1 sI_0) ++ (wcE q2 q1 sI_0) ++ (wcA cI q3 a3 sI_0) ++ (wcB cI q4 a4 sI_0) ++ (wcF q5 tI_F) ++ (wcH cI q6 a6 sI_0) ++ (wcH cI q7 a7 sI_0) ++ (wcH cI q8 a8 sI_0) ++ (wcH cI q9 a9 sI_0)) := hD
  exact q_cret (w1 := (fun (u : (Nat → Nat) × (Nat → Nat → Nat)) => wX cI cB o0 u.1 u.2 SI tI_F)) ((fun k => ([q0, q1, q2, q3, q4, q5, q6, q7, q8, q9] : List Nat).getD k 0), (fun k => ([a0, a1, a2, a3, a4, a5, a6, a7, a8, a9] : List (Nat → Nat)).getD k (fun _ => 0))) hx hb hr hlk hAe hK hP hD hS dX7_init_118
