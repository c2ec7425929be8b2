/-! the law: its world, its reads of the script, what is fixed along its run -/
def sU (S : Nat → St) (k : Nat) (v : St) : Nat → St := fun j => cond (Nat.beq j k) v (S j)
def aU (aa : Nat → Nat → Nat) (k : Nat) (v : Nat → Nat) : Nat → Nat → Nat := fun j => cond (Nat.beq j k) v (aa j)
abbrev wW (cI cB cZ : ClassId) (o om : Nat) (g : Nat → Nat) (aa : Nat → Nat → Nat) (S : Nat → St) (f : Lt) (am : Nat → Nat) (sm : St) (tm : Lt) : va_W := wX cI cB o g aa S f ++ wcM cI cZ om am sm tm
abbrev rW (S : Nat → St) (sm : St) : Prop := RelC (S 0) (S 1) (S 3) (S 4) (S 6) (S 7) (S 8) (S 9) (S 10) sm
def lwC (p : Program) (s : State) (m : MethodId) (c : Code) (b L : Nat) (xs : Nat → Int32) (D : va_G) (cI cB cZ : ClassId) (adK adV : Nat → Nat) : Prop :=
  p.tables.exec = Jvm.exec ∧ c.code = cL_law ∧ c.maxLocals = 4 ∧ s.vm.findClass RL = some m.cls ∧ (∀ w ∈ wsL_law, w.before #[Value.ref b] s = true) ∧ va_X b L xs s s.heap ∧ b < s.heap.size ∧ L ≤ 448 ∧ va_K D vwCl (q_ty cI cB cZ) s ∧ kS adK adV (fun q : Nat => s.heap.size ≤ q) s s.heap
def lwK (p : Program) (l : Launch) (e : Env) (s : State) (m : MethodId) (b : Nat) (below : List Frame) (meth : Method) (c : Code) (ls : Array Slot) (Q : State → Prop) (D : va_G) (cI cB cZ : ClassId) (o om : Nat) : Prop :=
  ∀ (g : Nat → Nat) (aa : Nat → Nat → Nat) (S : Nat → St) (f : Lt) (am : Nat → Nat) (sm : St) (tm : Lt) (H : Heap) (locs : List Loc), va_P D vwCl (wW cI cB cZ o om g aa S f am sm tm) H → va_D (fun q : Nat => s.heap.size ≤ q) (wW cI cB cZ o om g aa S f am sm tm) → va_S (fun q : Nat => s.heap.size ≤ q) s.heap H locs → rW S sm → W p l e room_1 s m #[Value.ref b] below meth c H locs 70 3561 Q (F0 m 1191 ls [])
theorem lg_self (v : Int64) : lg_cmp v v = 0 := by
  unfold lg_cmp
  rw [if_neg (show ¬ v > v from fun h => absurd (Int64.lt_iff_toInt_lt.mp h) (Int.lt_irrefl _)), if_pos rfl]
abbrev wl_M : List Nat := [59, 60, 61, 62, 63, 64, 65, 66, 67, 68, 69]
abbrev wl_X : List Nat := [0, 1, 2, 3, 4, 5, 6, 7, 8, 9, 10, 11, 12, 13, 14, 15, 16, 17, 18, 19, 20, 21, 22, 23, 24, 25, 26, 27, 28, 29, 30, 31, 32, 33, 34, 35, 36, 37, 38, 39, 40, 41, 42, 43, 44, 45, 46, 47, 48, 49, 50, 51, 52, 53, 54, 55, 56, 57, 58]
abbrev wl_W : List Nat := [0, 1, 2, 3, 4, 5, 6, 7, 8, 9, 10, 11, 12, 13, 14, 15, 16, 17, 18, 19, 20, 21, 22, 23, 24, 25, 26, 27, 28, 29, 30, 31, 32, 33, 34, 35, 36, 37, 38, 39, 40, 41, 42, 43, 44, 45, 46, 47, 48, 49, 50, 51, 52, 53, 54, 55, 56, 57, 58, 59, 60, 61, 62, 63, 64, 65, 66, 67, 68, 69]
theorem wl_nd1 : va_nd wl_M = true := by decide +kernel
theorem wl_nd2 : va_nd wl_X = true := by decide +kernel
theorem wl_nd3 : va_nd wl_W = true := by decide +kernel
theorem wl_dis : ∀ i ∈ wl_X, i ∉ wl_M := by decide +kernel
theorem qL_c32 : (Cond.constantLong RL 32 4294967295) ∈ wsL_law := List.mem_of_getElem? (i := 6) (by decide +kernel)
theorem l_sub {i L : Nat} (hi : i ≤ L) (hL : L ≤ 448) : (Int32.ofNat L - 7 < nI i) ↔ L < i + 7 := by
  rcases Nat.lt_or_ge L 7 with h | h
  · have key : ∀ (L : Fin 7) (i : Fin 8), i.val ≤ L.val → (Int32.ofNat L.val - 7 < nI i.val) := by decide +kernel
    exact ⟨fun _ => by omega, fun _ => key ⟨L, h⟩ ⟨i, by omega⟩ hi⟩
  · have e : Int32.ofNat L - 7 = nI (L - 7) := iSub h
    rw [e, nI_ltI (by omega) (by omega)]
    omega
theorem l_and31 (v : Int32) : ∃ k : Nat, k < 32 ∧ v &&& 31 = nI k := by
  refine ⟨v.toBitVec.toNat % 32, Nat.mod_lt _ (by decide), ?_⟩
  have e : v = nI v.toBitVec.toNat := by
    apply Int32.toBitVec_inj.1
    show v.toBitVec = BitVec.ofNat 32 v.toBitVec.toNat
    simp
  have e2 : nI v.toBitVec.toNat &&& 31 = nI (v.toBitVec.toNat &&& 31) := iAnd _ 31
  rw [← e] at e2
  rw [e2, show (31 : Nat) = 2 ^ 5 - 1 from rfl, Nat.and_two_pow_sub_one_eq_mod]
section LRD
variable {p : Program} {l : Launch} {e : Env} {R : Room} {s : State} {m : MethodId} {args : Array Value} {below : List Frame} {meth : Method} {c : Code} {H H0 : Heap} {locs : List Loc} {cells slots : Nat} {Q : State → Prop} {ls : Array Slot} {rest : List Value} {A : Nat → Prop} {cc : ByteArray} {pc : Nat}
theorem l_rd (hx : p.tables.exec = Jvm.exec) (hb : c.code = cc) {b L i : Nat} {xs : Nat → Int32} (hX : va_X b L xs s H0) (hbl : b < H0.size) (hbA : ¬ A b) (hS : va_S A H0 H locs) (h0 : ls[0]? = some (.val (.ref b))) (h3 : ls[3]? = some (.val (.int (nI i)))) (k : Nat) (hk : i + k < L) (hL : L ≤ 448) {z : Int} (hz : Int32.ofInt z = nI k) (d1 : decode cc pc = .ok (.aload_n 0, 1)) (d2 : decode cc (pc + 1) = .ok (.iload_n 3, 1)) (d3 : decode cc (pc + 2) = .ok (.iconst z, 1)) (d4 : decode cc (pc + 3) = .ok (.iadd, 1)) (d5 : decode cc (pc + 4) = .ok (.iaload, 1))
    (kk : W p l e R s m args below meth c H locs cells slots Q (F0 m (pc + 5) ls (.int (xs (i + k)) :: rest))) : W p l e R s m args below meth c H locs cells slots Q (F0 m pc ls rest) := by
  refine lv_aload_n hx hb d1 rfl h0 ?_
  refine lv_iload_n hx hb d2 rfl h3 ?_
  refine lv_iconst (v := nI k) hx hb d3 hz ?_
  refine lv_iadd hx hb d4 ?_
  rw [iAdd]
  refine va_sld hx hb hX hbl hbA hS (vp_in_nI hk (by omega)) d5 ?_
  rw [iCl (by omega)]
  exact kk
theorem l_rdb (hx : p.tables.exec = Jvm.exec) (hb : c.code = cc) {b L i : Nat} {xs : Nat → Int32} (hX : va_X b L xs s H0) (hbl : b < H0.size) (hbA : ¬ A b) (hS : va_S A H0 H locs) (h0 : ls[0]? = some (.val (.ref b))) (h3 : ls[3]? = some (.val (.int (nI i)))) (k : Nat) (hk : i + k < L) (hL : L ≤ 448) {z : Int} (hz : (Int8.ofInt z).toInt32 = nI k) (d1 : decode cc pc = .ok (.aload_n 0, 1)) (d2 : decode cc (pc + 1) = .ok (.iload_n 3, 1)) (d3 : decode cc (pc + 2) = .ok (.bipush z, 2)) (d4 : decode cc (pc + 4) = .ok (.iadd, 1)) (d5 : decode cc (pc + 5) = .ok (.iaload, 1))
    (kk : W p l e R s m args below meth c H locs cells slots Q (F0 m (pc + 6) ls (.int (xs (i + k)) :: rest))) : W p l e R s m args below meth c H locs cells slots Q (F0 m pc ls rest) := by
  refine lv_aload_n hx hb d1 rfl h0 ?_
  refine lv_iload_n hx hb d2 rfl h3 ?_
  refine lv_bipush (v := nI k) hx hb d3 hz ?_
  refine lv_iadd hx hb d4 ?_
  rw [iAdd]
  refine va_sld hx hb hX hbl hbA hS (vp_in_nI hk (by omega)) d5 ?_
  rw [iCl (by omega)]
  exact kk
end LRD
section LRK
variable {p : Program} {l : Launch} {e : Env} {R : Room} {s : State} {m : MethodId} {args : Array Value} {below : List Frame} {meth : Method} {c : Code} {H H0 : Heap} {locs : List Loc} {cells slots : Nat} {Q : State → Prop}
  {Ts ws ws' : List Cond} {cc bytes : ByteArray} {nL maxL index n pc : Nat} {own C : String} {y : MethodName} {ret : Option FieldType} {rm : Room} {ls : Array Slot} {st0 rest As : List Value} {b : Nat} {A : Nat → Prop} {D : va_G} {Y : List (ClassId × FieldType)} {adK adV : Nat → Nat} {w0 wc wr w1 w2 : va_W}
theorem q_rwVlk {ci : Nat} {T : u_T} {N : Nat} {fs : List Value} {r : Int64} (S : CallFix p m c cc nL s args Ts own) (hM : Met l y ws rm (pcK D Y adK adV (.ref b :: As) wc H.size) (qlW D Y wc w1 H.size r) 0 0 (va_A wc H.size)) (cw : CallW R s args own C index y bytes maxL ret ws rm 0 0 n) (hE : kS adK adV A s H0) (hK : va_K D vwCl Y s) (hP : va_P D vwCl w0 H) (hD : va_D A w0) (hS : va_S A H0 H locs) (hA : ∀ q, H0.size ≤ q → A q) (isC isR isP : List Nat) (hC : isC.map (fun i => w0[i]?) = wc.map some) (hR : isR.map (fun i => w0[i]?) = wr.map some) (hn1 : va_nd isC = true) (hn2 : va_nd isR = true) (hdis : ∀ i ∈ isR, i ∉ isC) (hp : isP.map (fun i => (wr ++ w1)[i]?) = w2.map some) (hpn : va_nd isP = true) (hc : vwCl[ci]? = some (C, T, N)) (h0 : wc[0]? = some (b, .inr (ci, fs))) (hn : As.length = n) (hsize : ls.size = nL) (hst : st0 = As.reverse ++ .ref b :: rest) (hW : (rest.map fun v => v.category).sum ≤ 8) (hdg : decode cc pc = .ok (.invokevirtual index, 3)) (hf : cells + 0 ≤ R.cells ∧ slots + 0 ≤ R.slots)
    (kk : ∀ (H1 : Heap) (locs1 : List Loc), va_P D vwCl w2 H1 → va_D A w2 → va_S A H0 H1 locs1 → W p l e R s m args below meth c H1 locs1 cells slots Q (F0 m (pc + 3) ls (.long r :: rest))) : W p l e R s m args below meth c H locs cells slots Q (F0 m pc ls st0) := by
  obtain ⟨hPc, hDc⟩ := q_cut hP hD isC hC hn1
  have hFc := va_free hD hS hA isC hC
  have hEc : kS adK adV (va_A wc H.size) s H := (hE.kept hS.2.1).narrow hFc
  refine va_calll (va_runV (As := As) (rest := rest) S hM cw ⟨q_blK D Y adK adV _ wc _, va_recv hK hPc hc h0, fun U hU hW => ⟨rfl, by rw [hU], by rw [hU]; exact hPc, va_K.moved hW.alike hK, hDc, by rw [hU]; exact hEc.warm hW⟩⟩ rfl hn hsize hst (lv_room hW) hdg hf) hS (fun q _ h => hFc q h) hFc (fun z u t H1 locs1 ht hvm hw hB hz1 hk1 hS1 => ?_)
  obtain ⟨hP1, -, hD1⟩ := hB
  rw [ht] at hP1
  obtain ⟨hP2, hD2⟩ := q_back hP hD isC isR isP hC hR hn2 hdis rfl hk1 hFc hP1 hD1 hp hpn
  subst hw
  exact kk H1 locs1 hP2 hD2 hS1
end LRK
