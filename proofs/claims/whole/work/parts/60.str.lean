theorem q_s6 {α1 α2 α3 α4 α5 α6 : Type} {a1 b1 : α1} {a2 b2 : α2} {a3 b3 : α3} {a4 b4 : α4} {a5 b5 : α5} {a6 b6 : α6} (h : some (a1, a2, a3, a4, a5, a6) = some (b1, b2, b3, b4, b5, b6)) : a1 = b1 ∧ a2 = b2 ∧ a3 = b3 ∧ a4 = b4 ∧ a5 = b5 ∧ a6 = b6 := by cases h; exact ⟨rfl, rfl, rfl, rfl, rfl, rfl⟩
theorem q_s7 {α1 α2 α3 α4 α5 α6 α7 : Type} {a1 b1 : α1} {a2 b2 : α2} {a3 b3 : α3} {a4 b4 : α4} {a5 b5 : α5} {a6 b6 : α6} {a7 b7 : α7} (h : some (a1, a2, a3, a4, a5, a6, a7) = some (b1, b2, b3, b4, b5, b6, b7)) : a1 = b1 ∧ a2 = b2 ∧ a3 = b3 ∧ a4 = b4 ∧ a5 = b5 ∧ a6 = b6 ∧ a7 = b7 := by cases h; exact ⟨rfl, rfl, rfl, rfl, rfl, rfl, rfl⟩
/-! the texts that stand in the class: what is known of them, and the JDK's reads of them -/
def sLen : List Nat := [5, 5, 4, 4, 4, 3, 3, 3, 3]
def sByt : List (List Int32) := [[119, 105, 110, 100, 115], [103, 114, 97, 118, 101], [104, 111, 114, 110], [116, 114, 101, 101], [112, 101, 97, 114], [110, 117, 116], [111, 97, 107], [97, 115, 104], [102, 105, 114]]
def sIx : Nat → Nat := fun i => match i with
  | 0 => 52
  | 1 => 75
  | 2 => 96
  | 3 => 110
  | 4 => 137
  | 5 => 139
  | 6 => 141
  | 7 => 143
  | _ => 145
def sTx : Nat → String := fun i => match i with
  | 0 => "winds"
  | 1 => "grave"
  | 2 => "horn"
  | 3 => "tree"
  | 4 => "pear"
  | 5 => "nut"
  | 6 => "oak"
  | 7 => "ash"
  | _ => "fir"
abbrev sF : String := "Ljava/util/function/BiFunction;"
def kS (adK adV : Nat → Nat) (A : Nat → Prop) (U : State) (H : Heap) : Prop := vk_S 9 sLen sByt adK adV A U H ∧ va_Z "java/lang/String" "COMPACT_STRINGS" "Z" (.int 1) A U H ∧ va_Zq "jdk/internal/util/Preconditions" "SIOOBE_FORMATTER" sF A U H ∧ ∀ i, i < 9 → vk_R RX4 (sIx i) (sTx i) (adK i) U
theorem vk_R.alike {own tx : String} {k a : Nat} {u U : State} (hv : u.vm = U.vm) (h : vk_R own k tx a u) : vk_R own k tx a U := vk_R.same hv.symm h
theorem kS.narrow {adK adV : Nat → Nat} {A B : Nat → Prop} {U : State} {H : Heap} (h : kS adK adV A U H) (hAB : ∀ q, B q → A q) : kS adK adV B U H := ⟨h.1.narrow hAB, h.2.1.narrow hAB, h.2.2.1.narrow hAB, h.2.2.2⟩
theorem kS.kept {adK adV : Nat → Nat} {A : Nat → Prop} {U : State} {H H1 : Heap} (h : kS adK adV A U H) (hq : ∀ a : Nat, a < H.size → ¬ A a → H1[a]? = H[a]?) : kS adK adV A U H1 := ⟨h.1.kept hq, h.2.1.kept hq, h.2.2.1.kept hq, h.2.2.2⟩
theorem kS.warm {adK adV : Nat → Nat} {A : Nat → Prop} {s U : State} {H : Heap} (hW : s.WarmedH U.vm) (h : kS adK adV A s H) : kS adK adV A U H := ⟨h.1.moved hW.alike, h.2.1.moved hW.alike, h.2.2.1.moved hW.alike, fun i hi => (h.2.2.2 i hi).warm hW⟩
theorem kS.calling {adK adV : Nat → Nat} {A : Nat → Prop} {U : State} {H : Heap} (g : JFrame) (mk : MethodId) (a : Array Value) (h : kS adK adV A U H) : kS adK adV A (U.calling g mk a) H := ⟨h.1.moved (Vm.Alike.refl U.vm), h.2.1.moved (Vm.Alike.refl U.vm), h.2.2.1.moved (Vm.Alike.refl U.vm), fun i hi => (h.2.2.2 i hi).alike rfl⟩
abbrev pcE (av : List Value) (E : State → Heap → Prop) : Array Value → State → Prop := va_Pc av (fun U => E U U.heap)
def q_mv (E : State → Heap → Prop) : Prop := (∀ (s U : State) (H : Heap), s.WarmedH U.vm → E s H → E U H) ∧ ∀ (U : State) (H : Heap) (g : JFrame) (mk : MethodId) (a : Array Value), E U H → E (U.calling g mk a) H
theorem q_blE {E : State → Heap → Prop} (hmv : q_mv E) (av : List Value) : FrameBlind (pcE av E) := fun a U g mk q => ⟨q.1, hmv.2 U U.heap g mk a q.2⟩
theorem q_eM {l : Launch} {y : MethodName} {ws ws' : List Cond} {rm : Room} {cc : ByteArray} {maxL : Nat} {ret : Option FieldType} {av : List Value} {E : State → Heap → Prop} {Qc : Array Value → State → Outcome → State → Prop} (hy : plainName y.cls = true) (hw : ws = Cond.code y cc maxL ret :: ws') (hlen : (lg_sl av).length ≤ maxL)
    (body : ∀ (p : Program) (e : Env) (s : State) (m : MethodId) (below : List Frame) (meth : Method) (c : Code), p.tables.exec = Jvm.exec → c.code = cc → meth.sig.returnType = ret → meth.locks = false → c.maxLocals = maxL → s.vm.findClass y.cls = some m.cls → (∀ w ∈ ws, w.before av.toArray s = true) → E s s.heap → ∀ ls : Array Slot, lv_has ls maxL (lv_args 0 av) → W p l e rm s m av.toArray below meth c s.heap [] 0 0 (MQ below Qc av.toArray s 0 0 (fun _ => False)) (F0 m 0 ls [])) :
    Met l y ws rm (pcE av E) Qc 0 0 (fun _ => False) := by
  refine Met.ofW (cc := cc) (maxL := maxL) (ret := ret) hy hw ?_
  intro p e s m args below meth c s₁ B hml hv
  obtain ⟨rfl, hE⟩ := hv
  rw [lg_entry_eq]
  exact body p e s m below meth c B.exec B.bytes B.returns B.notSynchronized hml (findClass_of_methodNamed B.named) (atoms_spec (ws := ws) B.pre) hE _ (lv_entry av hlen)
section WRE
variable {p : Program} {l : Launch} {e : Env} {R : Room} {s : State} {m : MethodId} {args : Array Value} {below : List Frame} {meth : Method} {c : Code} {H H0 : Heap} {locs : List Loc} {cells slots : Nat} {Q : State → Prop}
  {Ts ws ws' : List Cond} {cc bytes : ByteArray} {nL maxL index n pc : Nat} {own C : String} {y : MethodName} {ret : Option FieldType} {rm : Room} {ls : Array Slot} {st0 rest As : List Value} {b : Nat} {E : State → Heap → Prop}
theorem q_eVi {r : Int32} (S : CallFix p m c cc nL s args Ts own) (hM : Met l y ws rm (pcE (.ref b :: As) E) (qiR r) 0 0 (fun _ => False)) (cw : CallW R s args own C index y bytes maxL ret ws rm 0 0 n) (hmv : q_mv E) (hE : E s H) (hrecv : ∃ cellB : Cell, H[b]? = some cellB ∧ cellB.vm.isStatics = false ∧ s.vm.findClass C = some cellB.cls) (hn : As.length = n) (hsize : ls.size = nL) (hst : st0 = As.reverse ++ .ref b :: rest) (hW : (rest.map fun v => v.category).sum ≤ 8) (hdg : decode cc pc = .ok (.invokevirtual index, 3)) (hf : cells + 0 ≤ R.cells ∧ slots + 0 ≤ R.slots)
    (kk : W p l e R s m args below meth c H locs cells slots Q (F0 m (pc + 3) ls (.int r :: rest))) : W p l e R s m args below meth c H locs cells slots Q (F0 m pc ls st0) :=
  vp_callSi (W.runV (As := As) (rest := rest) S hM cw ⟨q_blE hmv _, hrecv, fun U hU hW => ⟨rfl, by show E U U.heap; rw [hU]; exact hmv.1 s U H hW hE⟩⟩ rfl hn hsize hst (lv_room hW) hdg hf) (fun z hz => hz ▸ kk)
theorem q_eSi {r : Int32} (S : CallFix p m c cc nL s args Ts own) (hM : Met l y ws rm (pcE As E) (qiR r) 0 0 (fun _ => False)) (cw : CallB R s args own index y bytes maxL ret ws rm 0 0 n ∧ (Cond.static y).before args s = true) (hmv : q_mv E) (hE : E s H) (hn : As.length = n) (hsize : ls.size = nL) (hst : st0 = As.reverse ++ rest) (hW : (rest.map fun v => v.category).sum ≤ 8) (hdg : decode cc pc = .ok (.invokestatic index, 3)) (hf : cells + 0 ≤ R.cells ∧ slots + 0 ≤ R.slots)
    (kk : W p l e R s m args below meth c H locs cells slots Q (F0 m (pc + 3) ls (.int r :: rest))) : W p l e R s m args below meth c H locs cells slots Q (F0 m pc ls st0) :=
  vp_callSi (W.runS (As := As) (rest := rest) S hM cw ⟨q_blE hmv _, fun U hU hW => ⟨rfl, by show E U U.heap; rw [hU]; exact hmv.1 s U H hW hE⟩⟩ rfl hn hsize hst (lv_room hW) hdg hf) (fun z hz => hz ▸ kk)
theorem q_eSv (S : CallFix p m c cc nL s args Ts own) (hM : Met l y ws rm (pcE As E) (va_Sv (fun _ => True)) 0 0 (fun _ => False)) (cw : CallB R s args own index y bytes maxL ret ws rm 0 0 n ∧ (Cond.static y).before args s = true) (hmv : q_mv E) (hE : E s H) (hn : As.length = n) (hsize : ls.size = nL) (hst : st0 = As.reverse ++ rest) (hW : (rest.map fun v => v.category).sum ≤ 8) (hdg : decode cc pc = .ok (.invokestatic index, 3)) (hf : cells + 0 ≤ R.cells ∧ slots + 0 ≤ R.slots)
    (kk : W p l e R s m args below meth c H locs cells slots Q (F0 m (pc + 3) ls rest)) : W p l e R s m args below meth c H locs cells slots Q (F0 m pc ls st0) :=
  va_csv (W.runS (As := As) (rest := rest) S hM cw ⟨q_blE hmv _, fun U hU hW => ⟨rfl, by show E U U.heap; rw [hU]; exact hmv.1 s U H hW hE⟩⟩ rfl hn hsize hst (lv_room hW) hdg hf) (fun _ => kk)
end WRE
variable (l : Launch) (adK adV : Nat → Nat)
theorem hdJ0_coder : yJ0_coder_7d493.cls = RJ0 ∧ yJ0_coder_7d493.cls ≠ "java/lang/invoke/MethodHandle" ∧ yJ0_coder_7d493.cls ≠ "java/lang/invoke/VarHandle" ∧ (parseMethodDescriptor yJ0_coder_7d493.desc).map (fun d => d.parameters.length) = some 0 := by decide +kernel
theorem hdJ0_isLatin1 : yJ0_isLatin1_aae02.cls = RJ0 ∧ yJ0_isLatin1_aae02.cls ≠ "java/lang/invoke/MethodHandle" ∧ yJ0_isLatin1_aae02.cls ≠ "java/lang/invoke/VarHandle" ∧ (parseMethodDescriptor yJ0_isLatin1_aae02.desc).map (fun d => d.parameters.length) = some 0 := by decide +kernel
theorem hdJ0_length : yJ0_length_8abf5.cls = RJ0 ∧ yJ0_length_8abf5.cls ≠ "java/lang/invoke/MethodHandle" ∧ yJ0_length_8abf5.cls ≠ "java/lang/invoke/VarHandle" ∧ (parseMethodDescriptor yJ0_length_8abf5.desc).map (fun d => d.parameters.length) = some 0 := by decide +kernel
theorem hdJ0_charAt : yJ0_charAt_5068e.cls = RJ0 ∧ yJ0_charAt_5068e.cls ≠ "java/lang/invoke/MethodHandle" ∧ yJ0_charAt_5068e.cls ≠ "java/lang/invoke/VarHandle" ∧ (parseMethodDescriptor yJ0_charAt_5068e.desc).map (fun d => d.parameters.length) = some 1 := by decide +kernel
theorem hdJ0_checkIndex : yJ0_checkIndex_df160.cls ≠ "java/lang/invoke/MethodHandle" ∧ yJ0_checkIndex_df160.cls ≠ "java/lang/invoke/VarHandle" ∧ (parseMethodDescriptor yJ0_checkIndex_df160.desc).map (fun d => d.parameters.length) = some 2 := by decide +kernel
theorem hdJ3_checkIndex : yJ3_checkIndex_8e157.cls ≠ "java/lang/invoke/MethodHandle" ∧ yJ3_checkIndex_8e157.cls ≠ "java/lang/invoke/VarHandle" ∧ (parseMethodDescriptor yJ3_checkIndex_8e157.desc).map (fun d => d.parameters.length) = some 3 := by decide +kernel
theorem hdJ1_charAt : yJ1_charAt_3b067.cls ≠ "java/lang/invoke/MethodHandle" ∧ yJ1_charAt_3b067.cls ≠ "java/lang/invoke/VarHandle" ∧ (parseMethodDescriptor yJ1_charAt_3b067.desc).map (fun d => d.parameters.length) = some 2 := by decide +kernel
abbrev eZq : State → Heap → Prop := fun U H => va_Zq "jdk/internal/util/Preconditions" "SIOOBE_FORMATTER" sF (fun _ => False) U H
abbrev eStr (q v N : Nat) (f : Nat → Int32) : State → Heap → Prop := fun U H => va_OF "java/lang/String" "coder" "B" (.int 0) q (fun _ => False) U H ∧ va_OF "java/lang/String" "value" "[B" (.ref v) q (fun _ => False) U H ∧ va_T .byte v N (fun j => .int (f j)) (fun _ => False) U H ∧ va_Z "java/lang/String" "COMPACT_STRINGS" "Z" (.int 1) (fun _ => False) U H ∧ va_O "java/lang/String" q (fun _ => False) U H ∧ eZq U H
theorem q_mvZq : q_mv eZq := ⟨fun s U H hW h => h.moved hW.alike, fun U H g mk a h => h.moved (Vm.Alike.refl U.vm)⟩
theorem q_mvT {v N : Nat} {f : Nat → Int32} : q_mv (fun U H => va_T .byte v N (fun j => .int (f j)) (fun _ => False) U H ∧ eZq U H) := ⟨fun s U H hW h => ⟨h.1.moved hW.alike, h.2.moved hW.alike⟩, fun U H g mk a h => ⟨h.1.moved (Vm.Alike.refl U.vm), h.2.moved (Vm.Alike.refl U.vm)⟩⟩
theorem q_mvStr {q v N : Nat} {f : Nat → Int32} : q_mv (eStr q v N f) := ⟨fun s U H hW h => ⟨h.1.moved hW.alike, h.2.1.moved hW.alike, h.2.2.1.moved hW.alike, h.2.2.2.1.moved hW.alike, h.2.2.2.2.1.moved hW.alike, h.2.2.2.2.2.moved hW.alike⟩, fun U H g mk a h => ⟨h.1.moved (Vm.Alike.refl U.vm), h.2.1.moved (Vm.Alike.refl U.vm), h.2.2.1.moved (Vm.Alike.refl U.vm), h.2.2.2.1.moved (Vm.Alike.refl U.vm), h.2.2.2.2.1.moved (Vm.Alike.refl U.vm), h.2.2.2.2.2.moved (Vm.Alike.refl U.vm)⟩⟩
theorem q_recvO {E : String} {q : Nat} {A : Nat → Prop} {U : State} {H : Heap} (h : va_O E q A U H) : ∃ cell : Cell, H[q]? = some cell ∧ cell.vm.isStatics = false ∧ U.vm.findClass E = some cell.cls := by
  obtain ⟨cell, h1, h2, h3, -⟩ := h
  exact ⟨cell, h1, h2, h3⟩
abbrev sCh (x : Int32) : Int32 := ((x &&& 255).toUInt32 % 65536).toInt32
abbrev eW (D : va_G) (Y : List (ClassId × FieldType)) (adK adV : Nat → Nat) (w : va_W) : State → Heap → Prop := fun U H => va_P D vwCl w H ∧ va_K D vwCl Y U ∧ kS adK adV (fun _ => False) U H
theorem q_mvW {D : va_G} {Y : List (ClassId × FieldType)} {adK adV : Nat → Nat} {w : va_W} : q_mv (eW D Y adK adV w) := ⟨fun s U H hW h => ⟨h.1, va_K.moved hW.alike h.2.1, h.2.2.warm hW⟩, fun U H g mk a h => ⟨h.1, va_K.moved (u := U) (U := U.calling g mk a) (Vm.Alike.refl U.vm) h.2.1, h.2.2.calling g mk a⟩⟩
abbrev pcK (D : va_G) (Y : List (ClassId × FieldType)) (adK adV : Nat → Nat) (av : List Value) (ws : va_W) (sz : Nat) : Array Value → State → Prop := va_Pc av (fun U => U.heap.size = sz ∧ va_P D vwCl ws U.heap ∧ va_K D vwCl Y U ∧ va_D (fun _ => True) ws ∧ kS adK adV (va_A ws sz) U U.heap)
theorem q_blK (D : va_G) (Y : List (ClassId × FieldType)) (adK adV : Nat → Nat) (av : List Value) (ws : va_W) (sz : Nat) : FrameBlind (pcK D Y adK adV av ws sz) := fun a U g mk q => ⟨q.1, q.2.1, q.2.2.1, va_K.moved (u := U) (U := U.calling g mk a) (Vm.Alike.refl U.vm) q.2.2.2.1, q.2.2.2.2.1, q.2.2.2.2.2.calling g mk a⟩
theorem q_rwMk {l : Launch} {y : MethodName} {ws ws' : List Cond} {rm : Room} {cc : ByteArray} {maxL : Nat} {ret : Option FieldType} {D : va_G} {Y : List (ClassId × FieldType)} {adK adV : Nat → Nat} {av : List Value} {wc : va_W} {sz mc ms : Nat} {Qc : Array Value → State → Outcome → State → Prop} (hy : plainName y.cls = true) (hw : ws = Cond.code y cc maxL ret :: ws') (hlen : (lg_sl av).length ≤ maxL)
    (body : ∀ (p : Program) (e : Env) (s : State) (m : MethodId) (below : List Frame) (meth : Method) (c : Code), p.tables.exec = Jvm.exec → c.code = cc → meth.sig.returnType = ret → meth.locks = false → c.maxLocals = maxL → s.vm.findClass y.cls = some m.cls → (∀ w ∈ ws, w.before av.toArray s = true) → va_K D vwCl Y s → ∀ (A : Nat → Prop) (H : Heap), va_A wc sz = A → s.heap = H → s.heap.size = sz → va_P D vwCl wc H → va_D A wc → (∀ q : Nat, s.heap.size ≤ q → A q) → va_S A s.heap H [] → kS adK adV A s s.heap → ∀ ls : Array Slot, lv_has ls maxL (lv_args 0 av) → W p l e rm s m av.toArray below meth c H [] 0 0 (MQ below Qc av.toArray s mc ms (va_A wc sz)) (F0 m 0 ls [])) :
    Met l y ws rm (pcK D Y adK adV av wc sz) Qc mc ms (va_A wc sz) := by
  refine Met.ofW (cc := cc) (maxL := maxL) (ret := ret) hy hw ?_
  intro p e s m args below meth c s₁ B hml hv
  obtain ⟨rfl, hsz, hP, hK, hD0, hE⟩ := hv
  subst hsz
  rw [lg_entry_eq]
  exact body p e s m below meth c B.exec B.bytes B.returns B.notSynchronized hml (findClass_of_methodNamed B.named) (atoms_spec (ws := ws) B.pre) hK _ _ rfl rfl rfl hP (hD0.self (sz := s.heap.size)) (fun q h => Or.inr h) va_S.rf hE _ (lv_entry av hlen)
theorem kS.at {adK adV : Nat → Nat} {A : Nat → Prop} {s : State} {H0 H : Heap} {locs : List Loc} (h : kS adK adV A s H0) (hS : va_S A H0 H locs) : kS adK adV (fun _ => False) s H := (h.kept hS.2.1).narrow (fun _ z => z.elim)
theorem kS.str {adK adV : Nat → Nat} {s : State} {H : Heap} (h : kS adK adV (fun _ => False) s H) {i : Nat} (hi : i < 9) : eStr (adK i) (adV i) (sLen.getD i 0) (fun j => (sByt.getD i []).getD j 0) s H := ⟨(h.1.1 i hi).2.1, (h.1.1 i hi).2.2.1, (h.1.1 i hi).2.2.2, h.2.1, (h.1.1 i hi).1, h.2.2.1⟩
theorem sLen_lt (i : Nat) : sLen.getD i 0 < 2 ^ 31 := by
  match i with
  | 0 => decide
  | 1 => decide
  | 2 => decide
  | 3 => decide
  | 4 => decide
  | 5 => decide
  | 6 => decide
  | 7 => decide
  | 8 => decide
  | k + 9 => exact (by decide : (0 : Nat) < 2 ^ 31)
def sN (i : Nat) : Int32 := Int32.ofNat (sLen.getD i 0) >>> ((0 : Int32) &&& 31)
def sC (i : Nat) (k : Int32) : Int32 := sCh ((sByt.getD i []).getD k.toNatClampNeg 0)
section WRK
variable {p : Program} {l : Launch} {e : Env} {R : Room} {s : State} {m : MethodId} {args : Array Value} {below : List Frame} {meth : Method} {c : Code} {H H0 : Heap} {locs : List Loc} {cells slots : Nat} {Q : State → Prop}
  {Ts ws ws' : List Cond} {cc bytes : ByteArray} {nL maxL index n pc : Nat} {own C : String} {y : MethodName} {ret : Option FieldType} {rm : Room} {ls : Array Slot} {st0 rest As : List Value} {b : Nat} {A : Nat → Prop} {D : va_G} {Y : List (ClassId × FieldType)} {adK adV : Nat → Nat} {w0 wc wr w1 w2 : va_W}
theorem q_rwVik {ci : Nat} {T : u_T} {N : Nat} {fs : List Value} {r : Int32} (S : CallFix p m c cc nL s args Ts own) (hM : Met l y ws rm (pcK D Y adK adV (.ref b :: As) wc H.size) (qiW D Y wc w1 H.size r) 0 0 (va_A wc H.size)) (cw : CallW R s args own C index y bytes maxL ret ws rm 0 0 n) (hE : kS adK adV A s H0) (hK : va_K D vwCl Y s) (hP : va_P D vwCl w0 H) (hD : va_D A w0) (hS : va_S A H0 H locs) (hA : ∀ q, H0.size ≤ q → A q) (isC isR isP : List Nat) (hC : isC.map (fun i => w0[i]?) = wc.map some) (hR : isR.map (fun i => w0[i]?) = wr.map some) (hn1 : va_nd isC = true) (hn2 : va_nd isR = true) (hdis : ∀ i ∈ isR, i ∉ isC) (hp : isP.map (fun i => (wr ++ w1)[i]?) = w2.map some) (hpn : va_nd isP = true) (hc : vwCl[ci]? = some (C, T, N)) (h0 : wc[0]? = some (b, .inr (ci, fs))) (hn : As.length = n) (hsize : ls.size = nL) (hst : st0 = As.reverse ++ .ref b :: rest) (hW : (rest.map fun v => v.category).sum ≤ 8) (hdg : decode cc pc = .ok (.invokevirtual index, 3)) (hf : cells + 0 ≤ R.cells ∧ slots + 0 ≤ R.slots)
    (kk : ∀ (H1 : Heap) (locs1 : List Loc), va_P D vwCl w2 H1 → va_D A w2 → va_S A H0 H1 locs1 → W p l e R s m args below meth c H1 locs1 cells slots Q (F0 m (pc + 3) ls (.int r :: rest))) : W p l e R s m args below meth c H locs cells slots Q (F0 m pc ls st0) := by
  obtain ⟨hPc, hDc⟩ := q_cut hP hD isC hC hn1
  have hFc := va_free hD hS hA isC hC
  have hEc : kS adK adV (va_A wc H.size) s H := (hE.kept hS.2.1).narrow hFc
  refine va_calli (va_runV (As := As) (rest := rest) S hM cw ⟨q_blK D Y adK adV _ wc _, va_recv hK hPc hc h0, fun U hU hW => ⟨rfl, by rw [hU], by rw [hU]; exact hPc, va_K.moved hW.alike hK, hDc, by rw [hU]; exact hEc.warm hW⟩⟩ rfl hn hsize hst (lv_room hW) hdg hf) hS (fun q _ h => hFc q h) hFc (fun z u t H1 locs1 ht hvm hw hB hz1 hk1 hS1 => ?_)
  obtain ⟨hP1, -, hD1⟩ := hB
  rw [ht] at hP1
  obtain ⟨hP2, hD2⟩ := q_back hP hD isC isR isP hC hR hn2 hdis rfl hk1 hFc hP1 hD1 hp hpn
  subst hw
  exact kk H1 locs1 hP2 hD2 hS1
end WRK
set_option maxHeartbeats 4000000 in
set_option maxRecDepth 100000 in
theorem kJ3_checkIndex (i n : Int32) (v : Value) (hv : v = .null ∨ ∃ t, v = .ref t) (h1 : ¬ i < 0) (h2 : i < n) : Met l yJ3_checkIndex_8e157 wsJ3_checkIndex_8e157 ({ frames := 0, cells := 0, slots := 0, locals := 0 } : Room) (pcS [.int i, .int n, v]) (qiR i) 0 0 (fun _ => False) := by
  have key : ∀ v : Value, lv_args 0 [.int i, .int n, v] = [(0, .int i), (1, .int n), (2, v)] := fun v => rfl
  refine q_roS (cc := cJ3_checkIndex_8e157) (maxL := 3) (ret := some .int) (by decide +kernel) rfl (by rcases hv with rfl | ⟨t, rfl⟩ <;> exact Nat.le_of_ble_eq_true rfl) ?_
  intro p e s m below meth c hx hb hr hlk hml hown hts ls hl
  rw [key] at hl
  refine lv_iload_n hx hb dJ3_checkIndex_8e157_0 rfl (lv_at hl 0 rfl) ?_
  refine lv_if_lt (tgt := 9) hx hb dJ3_checkIndex_8e157_1 (by decide) (fun q => absurd q h1) (fun _ => ?_)
  refine lv_iload_n hx hb dJ3_checkIndex_8e157_4 rfl (lv_at hl 0 rfl) ?_
  refine lv_iload_n hx hb dJ3_checkIndex_8e157_5 rfl (lv_at hl 1 rfl) ?_
  refine lv_icmp_lt (tgt := 16) hx hb dJ3_checkIndex_8e157_6 (by decide) (fun _ => ?_) (fun q => absurd h2 q)
  refine lv_iload_n hx hb dJ3_checkIndex_8e157_16 rfl (lv_at hl 0 rfl) ?_
  exact q_retI hx hb hr hlk rfl dJ3_checkIndex_8e157_17
set_option maxHeartbeats 4000000 in
set_option maxRecDepth 100000 in
theorem kJ0_checkIndex (i n : Int32) (h1 : ¬ i < 0) (h2 : i < n) : Met l yJ0_checkIndex_df160 wsJ0_checkIndex_df160 ({ frames := 1, cells := 0, slots := 0, locals := 22 } : Room) (pcE [.int i, .int n] eZq) (va_Sv (fun _ => True)) 0 0 (fun _ => False) := by
  refine q_eM (cc := cJ0_checkIndex_df160) (maxL := 2) (ret := none) (by decide +kernel) rfl (Nat.le_of_ble_eq_true rfl) ?_
  intro p e s m below meth c hx hb hr hlk hml hown hts hE ls hl
  have hown : s.vm.findClass RJ0 = some m.cls := hown
  have hl : lv_has ls 2 [(0, .int i), (1, .int n)] := hl
  refine lv_iload_n hx hb dJ0_checkIndex_df160_0 rfl (lv_at hl 0 rfl) ?_
  refine lv_iload_n hx hb dJ0_checkIndex_df160_1 rfl (lv_at hl 1 rfl) ?_
  have k : ∀ v : Value, (v = .null ∨ ∃ t, v = .ref t) → va_Z "jdk/internal/util/Preconditions" "SIOOBE_FORMATTER" sF v (fun _ => False) s s.heap → W p l e ({ frames := 1, cells := 0, slots := 0, locals := 22 } : Room) s m [.int i, .int n].toArray below meth c s.heap [] 0 0 (MQ below (va_Sv (fun _ => True)) [.int i, .int n].toArray s 0 0 (fun _ => False)) (F0 m 2 ls [.int n, .int i]) := by
    intro v hv hZ
    refine va_gets hx hb hZ va_S.rf hown (hts (.fieldLink RJ0 1053 "jdk/internal/util/Preconditions" "SIOOBE_FORMATTER" "Ljava/util/function/BiFunction;") (List.mem_of_getElem? (i := 1) (by decide +kernel))) (fun _ h9 => h9) dJ0_checkIndex_df160_2 ?_
    refine q_roSi (As := [.int i, .int n, v]) (rest := []) ⟨hx, hb, hml, hown, hts⟩ (kJ3_checkIndex l i n v hv h1 h2) (va_cwS 3 hts gJ0_checkIndex_df160_J3_checkIndex_8e157 rfl rfl rfl hdJ3_checkIndex ⟨Nat.le_of_ble_eq_true rfl, Nat.le_of_ble_eq_true rfl⟩) rfl hl.1 rfl (Nat.le_of_ble_eq_true rfl) dJ0_checkIndex_df160_5 ⟨Nat.zero_le _, Nat.zero_le _⟩ ?_
    refine lv_pop hx hb dJ0_checkIndex_df160_8 rfl ?_
    exact W.vret hx hb hr (fun t ht _ => ⟨rfl, trivial, ht⟩) (fun _ h => by cases h) dJ0_checkIndex_df160_9 hlk
  rcases hE with h | ⟨t, h⟩
  · exact k .null (Or.inl rfl) h
  · exact k (.ref t) (Or.inr ⟨t, rfl⟩) h
set_option maxHeartbeats 4000000 in
set_option maxRecDepth 100000 in
theorem kJ1_charAt (v N : Nat) (f : Nat → Int32) (i : Int32) (hi : inb i N) (hN : N < 2 ^ 31) : Met l yJ1_charAt_3b067 wsJ1_charAt_3b067 ({ frames := 2, cells := 0, slots := 0, locals := 43 } : Room) (pcE [.ref v, .int i] (fun U H => va_T .byte v N (fun j => .int (f j)) (fun _ => False) U H ∧ eZq U H)) (qiR (sCh (f i.toNatClampNeg))) 0 0 (fun _ => False) := by
  refine q_eM (cc := cJ1_charAt_3b067) (maxL := 2) (ret := some .char) (by decide +kernel) rfl (Nat.le_of_ble_eq_true rfl) ?_
  intro p e s m below meth c hx hb hr hlk hml hown hts hE ls hl
  have hown : s.vm.findClass RJ1 = some m.cls := hown
  have hl : lv_has ls 2 [(0, .ref v), (1, .int i)] := hl
  have h1 : ¬ i < 0 := fun q => hi (Or.inl q)
  have h2 : i < Int32.ofNat N := by
    obtain ⟨j, hj, rfl⟩ := vp_in_of hi hN
    exact nI_lt hj hN
  refine lv_iload_n hx hb dJ1_charAt_3b067_0 rfl (lv_at hl 1 rfl) ?_
  refine lv_aload_n hx hb dJ1_charAt_3b067_1 rfl (lv_at hl 0 rfl) ?_
  refine va_tlen (v := Int32.ofNat N) hx hb hE.1 va_S.rf rfl dJ1_charAt_3b067_2 ?_
  refine q_eSv (As := [.int i, .int (Int32.ofNat N)]) (rest := []) ⟨hx, hb, hml, hown, hts⟩ (kJ0_checkIndex l i (Int32.ofNat N) h1 h2) (va_cwS 2 hts gJ1_charAt_3b067_J0_checkIndex_df160 rfl rfl rfl hdJ0_checkIndex ⟨Nat.le_of_ble_eq_true rfl, Nat.le_of_ble_eq_true rfl⟩) q_mvZq hE.2 rfl hl.1 rfl (Nat.le_of_ble_eq_true rfl) dJ1_charAt_3b067_3 ⟨Nat.zero_le _, Nat.zero_le _⟩ ?_
  refine lv_aload_n hx hb dJ1_charAt_3b067_6 rfl (lv_at hl 0 rfl) ?_
  refine lv_iload_n hx hb dJ1_charAt_3b067_7 rfl (lv_at hl 1 rfl) ?_
  refine va_tb (v := .int (f i.toNatClampNeg)) hx hb hE.1 va_S.rf hi rfl dJ1_charAt_3b067_8 ?_
  refine lv_sipush (v := 255) hx hb dJ1_charAt_3b067_9 (by decide) ?_
  refine lv_iand hx hb dJ1_charAt_3b067_12 ?_
  refine lv_i2c (v := sCh (f i.toNatClampNeg)) hx hb dJ1_charAt_3b067_13 rfl ?_
  exact q_retZ hx hb hr hlk (pk_nc _) rfl dJ1_charAt_3b067_14
set_option maxHeartbeats 4000000 in
set_option maxRecDepth 100000 in
theorem kJ0_coder (q v N : Nat) (f : Nat → Int32) : Met l yJ0_coder_7d493 wsJ0_coder_7d493 ({ frames := 0, cells := 0, slots := 0, locals := 0 } : Room) (pcE [.ref q] (eStr q v N f)) (qiR 0) 0 0 (fun _ => False) := by
  refine q_eM (cc := cJ0_coder_7d493) (maxL := 1) (ret := some .byte) (by decide +kernel) rfl (Nat.le_of_ble_eq_true rfl) ?_
  intro p e s m below meth c hx hb hr hlk hml hown hts hE ls hl
  have hown : s.vm.findClass RJ0 = some m.cls := hown
  have hl : lv_has ls 1 [(0, .ref q)] := hl
  refine va_gets hx hb hE.2.2.2.1 va_S.rf hown (hts (.fieldLink RJ0 38 "java/lang/String" "COMPACT_STRINGS" "Z") (List.mem_of_getElem? (i := 1) (by decide +kernel))) (fun _ h9 => h9) dJ0_coder_7d493_0 ?_
  refine lv_if_eq (tgt := 13) hx hb dJ0_coder_7d493_3 (by decide) (fun q => absurd q (by decide)) (fun _ => ?_)
  refine lv_aload_n hx hb dJ0_coder_7d493_6 rfl (lv_at hl 0 rfl) ?_
  refine vk_getf hx hb hE.1 va_S.rf hown (hts (.fieldLink RJ0 15 "java/lang/String" "coder" "B") (List.mem_of_getElem? (i := 2) (by decide +kernel))) (fun _ h9 => h9) dJ0_coder_7d493_7 ?_
  refine lv_goto (tgt := 14) hx hb dJ0_coder_7d493_10 (by decide) ?_
  exact q_retZ hx hb hr hlk rfl rfl dJ0_coder_7d493_14
set_option maxHeartbeats 4000000 in
set_option maxRecDepth 100000 in
theorem kJ0_isLatin1 (q v N : Nat) (f : Nat → Int32) : Met l yJ0_isLatin1_aae02 wsJ0_isLatin1_aae02 ({ frames := 0, cells := 0, slots := 0, locals := 0 } : Room) (pcE [.ref q] (eStr q v N f)) (qiR 1) 0 0 (fun _ => False) := by
  refine q_eM (cc := cJ0_isLatin1_aae02) (maxL := 1) (ret := some .boolean) (by decide +kernel) rfl (Nat.le_of_ble_eq_true rfl) ?_
  intro p e s m below meth c hx hb hr hlk hml hown hts hE ls hl
  have hown : s.vm.findClass RJ0 = some m.cls := hown
  have hl : lv_has ls 1 [(0, .ref q)] := hl
  refine va_gets hx hb hE.2.2.2.1 va_S.rf hown (hts (.fieldLink RJ0 38 "java/lang/String" "COMPACT_STRINGS" "Z") (List.mem_of_getElem? (i := 1) (by decide +kernel))) (fun _ h9 => h9) dJ0_isLatin1_aae02_0 ?_
  refine lv_if_eq (tgt := 17) hx hb dJ0_isLatin1_aae02_3 (by decide) (fun q => absurd q (by decide)) (fun _ => ?_)
  refine lv_aload_n hx hb dJ0_isLatin1_aae02_6 rfl (lv_at hl 0 rfl) ?_
  refine vk_getf hx hb hE.1 va_S.rf hown (hts (.fieldLink RJ0 15 "java/lang/String" "coder" "B") (List.mem_of_getElem? (i := 2) (by decide +kernel))) (fun _ h9 => h9) dJ0_isLatin1_aae02_7 ?_
  refine lv_if_ne (tgt := 17) hx hb dJ0_isLatin1_aae02_10 (by decide) (fun q => absurd rfl q) (fun _ => ?_)
  refine lv_iconst (v := 1) hx hb dJ0_isLatin1_aae02_13 (by decide) ?_
  refine lv_goto (tgt := 18) hx hb dJ0_isLatin1_aae02_14 (by decide) ?_
  exact q_retZ hx hb hr hlk rfl rfl dJ0_isLatin1_aae02_18
set_option maxHeartbeats 4000000 in
set_option maxRecDepth 100000 in
theorem kJ0_length (q v N : Nat) (f : Nat → Int32) : Met l yJ0_length_8abf5 wsJ0_length_8abf5 ({ frames := 1, cells := 0, slots := 0, locals := 20 } : Room) (pcE [.ref q] (eStr q v N f)) (qiR (Int32.ofNat N >>> ((0 : Int32) &&& 31))) 0 0 (fun _ => False) := by
  refine q_eM (cc := cJ0_length_8abf5) (maxL := 1) (ret := some .int) (by decide +kernel) rfl (Nat.le_of_ble_eq_true rfl) ?_
  intro p e s m below meth c hx hb hr hlk hml hown hts hE ls hl
  have hown : s.vm.findClass RJ0 = some m.cls := hown
  have hl : lv_has ls 1 [(0, .ref q)] := hl
  refine lv_aload_n hx hb dJ0_length_8abf5_0 rfl (lv_at hl 0 rfl) ?_
  refine vk_getf hx hb hE.2.1 va_S.rf hown (hts (.fieldLink RJ0 9 "java/lang/String" "value" "[B") (List.mem_of_getElem? (i := 1) (by decide +kernel))) (fun _ h9 => h9) dJ0_length_8abf5_1 ?_
  refine va_tlen (v := Int32.ofNat N) hx hb hE.2.2.1 va_S.rf rfl dJ0_length_8abf5_4 ?_
  refine lv_aload_n hx hb dJ0_length_8abf5_5 rfl (lv_at hl 0 rfl) ?_
  refine q_eVi (As := []) (rest := [.int (Int32.ofNat N)]) ⟨hx, hb, hml, hown, hts⟩ (kJ0_coder l q v N f) (cwV 0 hts gJ0_length_8abf5_J0_coder_7d493 rfl rfl rfl hdJ0_coder ⟨Nat.le_of_ble_eq_true rfl, Nat.le_of_ble_eq_true rfl⟩) q_mvStr hE (q_recvO hE.2.2.2.2.1) rfl hl.1 rfl (Nat.le_of_ble_eq_true rfl) dJ0_length_8abf5_6 ⟨Nat.zero_le _, Nat.zero_le _⟩ ?_
  refine lv_ishr hx hb dJ0_length_8abf5_9 ?_
  exact q_retI hx hb hr hlk rfl dJ0_length_8abf5_10
set_option maxHeartbeats 4000000 in
set_option maxRecDepth 100000 in
theorem kJ0_charAt (q v N : Nat) (f : Nat → Int32) (i : Int32) (hi : inb i N) (hN : N < 2 ^ 31) : Met l yJ0_charAt_5068e wsJ0_charAt_5068e ({ frames := 3, cells := 0, slots := 0, locals := 64 } : Room) (pcE [.ref q, .int i] (eStr q v N f)) (qiR (sCh (f i.toNatClampNeg))) 0 0 (fun _ => False) := by
  refine q_eM (cc := cJ0_charAt_5068e) (maxL := 2) (ret := some .char) (by decide +kernel) rfl (Nat.le_of_ble_eq_true rfl) ?_
  intro p e s m below meth c hx hb hr hlk hml hown hts hE ls hl
  have hown : s.vm.findClass RJ0 = some m.cls := hown
  have hl : lv_has ls 2 [(0, .ref q), (1, .int i)] := hl
  refine lv_aload_n hx hb dJ0_charAt_5068e_0 rfl (lv_at hl 0 rfl) ?_
  refine q_eVi (As := []) (rest := []) ⟨hx, hb, hml, hown, hts⟩ (kJ0_isLatin1 l q v N f) (cwV 0 hts gJ0_charAt_5068e_J0_isLatin1_aae02 rfl rfl rfl hdJ0_isLatin1 ⟨Nat.le_of_ble_eq_true rfl, Nat.le_of_ble_eq_true rfl⟩) q_mvStr hE (q_recvO hE.2.2.2.2.1) rfl hl.1 rfl (Nat.le_of_ble_eq_true rfl) dJ0_charAt_5068e_1 ⟨Nat.zero_le _, Nat.zero_le _⟩ ?_
  refine lv_if_eq (tgt := 16) hx hb dJ0_charAt_5068e_4 (by decide) (fun q => absurd q (by decide)) (fun _ => ?_)
  refine lv_aload_n hx hb dJ0_charAt_5068e_7 rfl (lv_at hl 0 rfl) ?_
  refine vk_getf hx hb hE.2.1 va_S.rf hown (hts (.fieldLink RJ0 9 "java/lang/String" "value" "[B") (List.mem_of_getElem? (i := 1) (by decide +kernel))) (fun _ h9 => h9) dJ0_charAt_5068e_8 ?_
  refine lv_iload_n hx hb dJ0_charAt_5068e_11 rfl (lv_at hl 1 rfl) ?_
  refine q_eSi (As := [.ref v, .int i]) (rest := []) ⟨hx, hb, hml, hown, hts⟩ (kJ1_charAt l v N f i hi hN) (va_cwS 2 hts gJ0_charAt_5068e_J1_charAt_3b067 rfl rfl rfl hdJ1_charAt ⟨Nat.le_of_ble_eq_true rfl, Nat.le_of_ble_eq_true rfl⟩) q_mvT ⟨hE.2.2.1, hE.2.2.2.2.2⟩ rfl hl.1 rfl (Nat.le_of_ble_eq_true rfl) dJ0_charAt_5068e_12 ⟨Nat.zero_le _, Nat.zero_le _⟩ ?_
  exact q_retZ hx hb hr hlk (pk_nc _) rfl dJ0_charAt_5068e_15

/-- which of two images -/
abbrev qaR (a : Nat) : Array Value → State → Outcome → State → Prop := fun _ st o t => o = .returned (some (.ref a)) ∧ t.heap = st.heap
section WRA
variable {p : Program} {l : Launch} {e : Env} {R : Room} {s : State} {m : MethodId} {args : Array Value} {below : List Frame} {meth : Method} {c : Code} {H H0 : Heap} {locs : List Loc} {cells slots : Nat} {Q : State → Prop}
  {Ts ws ws' : List Cond} {cc bytes : ByteArray} {nL maxL index n pc : Nat} {own C : String} {y : MethodName} {ret : Option FieldType} {rm : Room} {ls : Array Slot} {st0 rest As : List Value} {b : Nat} {A : Nat → Prop} {D : va_G} {Y : List (ClassId × FieldType)} {wc : va_W}
theorem q_callSr {x : Nat} {a : Array Value} (hr : CallRun p l e R s m args below meth c H locs cells slots 0 0 (F0 m pc ls st0) rest (qaR x a) (fun _ => False)) (kk : W p l e R s m args below meth c H locs cells slots Q (F0 m (pc + 3) ls (.ref x :: rest))) : W p l e R s m args below meth c H locs cells slots Q (F0 m pc ls st0) := by
  intro T hT X
  obtain ⟨v, st₀, t, T', L, h0, X', hL, e1, ⟨hv, hh⟩, st⟩ := hr T hT X
  cases hv
  obtain ⟨t2, a1, b1⟩ := kk T' (by rw [e1, hh, h0]) (Stand.forget X' (fun q h => (hL q h).elim))
  exact ⟨t2, st t2 a1, b1⟩
theorem q_roVr {ci : Nat} {T : u_T} {N : Nat} {fs : List Value} {r : Nat} (S : CallFix p m c cc nL s args Ts own) (hM : Met l y ws rm (pcR D Y (.ref b :: As) wc) (qaR r) 0 0 (fun _ => False)) (cw : CallW R s args own C index y bytes maxL ret ws rm 0 0 n) (hK : va_K D vwCl Y s) (hP : va_P D vwCl wc H) (hc : vwCl[ci]? = some (C, T, N)) (h0 : wc[0]? = some (b, .inr (ci, fs))) (hn : As.length = n) (hsize : ls.size = nL) (hst : st0 = As.reverse ++ .ref b :: rest) (hW : (rest.map fun v => v.category).sum ≤ 8) (hdg : decode cc pc = .ok (.invokevirtual index, 3)) (hf : cells + 0 ≤ R.cells ∧ slots + 0 ≤ R.slots)
    (kk : W p l e R s m args below meth c H locs cells slots Q (F0 m (pc + 3) ls (.ref r :: rest))) : W p l e R s m args below meth c H locs cells slots Q (F0 m pc ls st0) :=
  q_callSr (W.runV (As := As) (rest := rest) S hM cw ⟨q_blR D Y _ wc, va_recv hK hP hc h0, fun U hU hW => ⟨rfl, by rw [hU]; exact hP, va_K.moved hW.alike hK⟩⟩ rfl hn hsize hst (lv_room hW) hdg hf) kk
end WRA
variable (dC : Nat → ClassId) (dI : Nat → Nat → Nat) (cI cB cZ : ClassId)
theorem hdX7_imageOf : yX7_imageOf.cls = RX7 ∧ yX7_imageOf.cls ≠ "java/lang/invoke/MethodHandle" ∧ yX7_imageOf.cls ≠ "java/lang/invoke/VarHandle" ∧ (parseMethodDescriptor yX7_imageOf.desc).map (fun d => d.parameters.length) = some 1 := by decide +kernel
theorem nX7_imageOf_7 : ∀ w ∈ u_ws RX7 TX7 14, w ∈ wsX7_imageOf := by decide +kernel
set_option maxHeartbeats 4000000 in
set_option maxRecDepth 100000 in
theorem kX7_imageOf (o0 : Nat) (g0 : Nat → Nat) (s0 : St) (p1 : Int32) (r : Nat) (hr0 : r = if p1 = 0 then g0 6 else g0 7) : Met l yX7_imageOf wsX7_imageOf ({ frames := 0, cells := 0, slots := 0, locals := 0 } : Room) (pcR (dC, dI) (q_ty cI cB cZ) [.ref o0, .int p1] (wcX o0 g0 s0)) (qaR r) 0 0 (fun _ => False) := by
  refine q_roM (cc := cX7_imageOf) (maxL := 2) (ret := (some (.object "DeadAsked$Hill"))) (by decide +kernel) rfl (Nat.le_of_ble_eq_true rfl) ?_
  intro p e s m below meth c hx hb hr hlk hml hown hts hK hP ls hl
  have hown : s.vm.findClass RX7 = some m.cls := hown
  have hl : lv_has ls 2 [(0, .ref o0), (1, .int p1)] := hl
  refine lv_iload_n hx hb dX7_imageOf_0 rfl (lv_at hl 1 rfl) ?_
  refine lv_if_ne (tgt := 11) hx hb dX7_imageOf_1 (by decide) (fun c4 => ?_) (fun c4 => ?_)
  · refine lv_aload_n hx hb dX7_imageOf_11 rfl (lv_at hl 0 rfl) ?_
    refine va_get (D := (dC, dI)) (ci := 7) (v := .ref (g0 7)) (C := RX7) (T := TX7) (N := 14) hx hb hts nX7_imageOf_7 hown hK hP 0 rfl rfl 7 (by decide) (hts (.fieldLink RX7 60 "DeadAsked" "secondImage" "LDeadAsked$Hill;") (by decide +kernel)) (fun _ h9 => h9) rfl dX7_imageOf_12 ?_
    exact W.aret (v := .ref (g0 7)) hx hb hr (Or.inl ⟨_, rfl⟩) (Or.inr ⟨_, rfl⟩) (fun t ht _ => ⟨by rw [hr0, if_neg c4], ht⟩) (fun _ h => by cases h) dX7_imageOf_15 hlk
  · refine lv_aload_n hx hb dX7_imageOf_4 rfl (lv_at hl 0 rfl) ?_
    refine va_get (D := (dC, dI)) (ci := 7) (v := .ref (g0 6)) (C := RX7) (T := TX7) (N := 14) hx hb hts nX7_imageOf_7 hown hK hP 0 rfl rfl 6 (by decide) (hts (.fieldLink RX7 56 "DeadAsked" "firstImage" "LDeadAsked$Hill;") (by decide +kernel)) (fun _ h9 => h9) rfl dX7_imageOf_5 ?_
    refine lv_goto (tgt := 15) hx hb dX7_imageOf_8 (by decide) ?_
    exact W.aret (v := .ref (g0 6)) hx hb hr (Or.inl ⟨_, rfl⟩) (Or.inr ⟨_, rfl⟩) (fun t ht _ => ⟨by rw [hr0, if_pos c4], ht⟩) (fun _ h => by cases h) dX7_imageOf_15 hlk
