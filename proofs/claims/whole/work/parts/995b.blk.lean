/-! worlds put together of blocks: a call by the blocks' places -/
def jn : List va_W → va_W
  | [] => []
  | b :: t => t.foldl (fun a c => a ++ c) b
theorem jn_fl : ∀ bs : List va_W, jn bs = bs.flatten
  | [] => rfl
  | b :: t => by
    have key : ∀ (t : List va_W) (b : va_W), t.foldl (fun a c => a ++ c) b = b ++ t.flatten := by
      intro t
      induction t with
      | nil => intro b; simp
      | cons c t ih => intro b; rw [List.foldl_cons, ih, List.flatten_cons, List.append_assoc]
    show t.foldl (fun a c => a ++ c) b = (b :: t).flatten
    rw [key, List.flatten_cons]
theorem b_p0 (bs : List va_W) (is : List Nat) (h : is.isPerm (List.range bs.length) = true) : List.Perm bs (is.map (fun i => bs.getD i [])) := by
  have h1 := (List.isPerm_iff.mp h).map (fun i => bs.getD i [])
  have h2 : (List.range bs.length).map (fun i => bs.getD i []) = bs := by
    apply List.ext_getElem
    · simp
    · intro i h1 h2
      simp [List.getD, List.getElem?_eq_getElem h2]
  rw [h2] at h1
  exact h1.symm
theorem b_p1 (bs : List va_W) (i1 i2 : List Nat) {n : Nat} (hn : bs.length = n) (h : (i1 ++ i2).isPerm (List.range n) = true) : List.Perm (jn bs) (jn (i1.map (fun i => bs.getD i [])) ++ jn (i2.map (fun i => bs.getD i []))) := by
  subst hn
  rw [jn_fl, jn_fl, jn_fl, ← List.flatten_append, ← List.map_append]
  exact (b_p0 bs (i1 ++ i2) h).flatten
theorem b_p2 (rs cs : List va_W) (is : List Nat) {n : Nat} (hn : (rs ++ cs).length = n) (h : is.isPerm (List.range n) = true) : List.Perm (jn rs ++ jn cs) (jn (is.map (fun i => (rs ++ cs).getD i []))) := by
  subst hn
  rw [jn_fl, jn_fl, jn_fl, ← List.flatten_append]
  exact (b_p0 (rs ++ cs) is h).flatten
theorem p_perm {D : va_G} {w w' : va_W} {H : Heap} (h : List.Perm w w') (hP : va_P D vwCl w H) : va_P D vwCl w' H := by
  intro k q hk
  obtain ⟨i, hi⟩ := List.getElem?_of_mem (h.symm.mem_iff.mp (List.mem_of_getElem? hk))
  exact hP i q hi
theorem p_left {D : va_G} {w w' : va_W} {H : Heap} (hP : va_P D vwCl (w ++ w') H) : va_P D vwCl w H := by
  intro k q hk
  obtain ⟨i, hi⟩ := List.getElem?_of_mem (List.mem_append_left w' (List.mem_of_getElem? hk))
  exact hP i q hi
theorem d_nd {A : Nat → Prop} {w : va_W} : va_D A w ↔ (w.Pairwise (fun p q => p.1 ≠ q.1) ∧ ∀ q ∈ w, A q.1) := by
  constructor
  · rintro ⟨h1, h2⟩
    refine ⟨List.pairwise_iff_getElem.mpr (fun i j hi hj hij e => ?_), fun q hq => ?_⟩
    · exact absurd (h1 i j _ _ (List.getElem?_eq_getElem hi) (List.getElem?_eq_getElem hj) e) (by omega)
    · obtain ⟨i, hi⟩ := List.getElem?_of_mem hq
      exact h2 i q hi
  · rintro ⟨h1, h2⟩
    refine ⟨fun i j p q hp hq e => ?_, fun k q hk => h2 q (List.mem_of_getElem? hk)⟩
    obtain ⟨hi, rfl⟩ := List.getElem?_eq_some_iff.mp hp
    obtain ⟨hj, rfl⟩ := List.getElem?_eq_some_iff.mp hq
    rcases Nat.lt_trichotomy i j with h | h | h
    · exact absurd e (List.pairwise_iff_getElem.mp h1 i j hi hj h)
    · exact h
    · exact absurd e.symm (List.pairwise_iff_getElem.mp h1 j i hj hi h)
theorem d_perm {A : Nat → Prop} {w w' : va_W} (h : List.Perm w w') (hD : va_D A w) : va_D A w' := by
  rw [d_nd] at hD ⊢
  exact ⟨(h.pairwise_iff (fun e e2 => e e2.symm)).mp hD.1, fun q hq => hD.2 q (h.symm.mem_iff.mp hq)⟩
theorem nd_ok : ∀ l : List Nat, l.Nodup → va_nd l = true
  | [], _ => rfl
  | a :: l, h => by
    rw [List.nodup_cons] at h
    simp [va_nd, h.1, nd_ok l h.2]
theorem l_cut1 (wc wr : va_W) : (List.range wc.length).map (fun i => (wc ++ wr)[i]?) = wc.map some := by
  apply List.ext_getElem
  · simp
  · intro i h1 h2
    have h3 : i < wc.length := by simpa using h2
    rw [List.getElem_map, List.getElem_map, List.getElem_range, List.getElem?_append_left h3, List.getElem?_eq_getElem h3]
theorem l_cut2 (wc wr : va_W) : (List.range' wc.length wr.length).map (fun i => (wc ++ wr)[i]?) = wr.map some := by
  apply List.ext_getElem
  · simp
  · intro i h1 h2
    have h3 : i < wr.length := by simpa using h2
    rw [List.getElem_map, List.getElem_map, List.getElem_range', Nat.one_mul, List.getElem?_append_right (by omega), Nat.add_sub_cancel_left, List.getElem?_eq_getElem h3]
theorem l_cut3 (w : va_W) : (List.range w.length).map (fun i => w[i]?) = w.map some := by
  have h := l_cut1 w []
  rw [List.append_nil] at h
  exact h
theorem l_dis (n k : Nat) : ∀ i ∈ List.range' n k, i ∉ List.range n := by
  intro i hi h
  have h1 := List.mem_range.mp h
  obtain ⟨j, hj, e⟩ := List.mem_range'.mp hi
  omega
section LBK
variable {p : Program} {l : Launch} {e : Env} {R : Room} {s : State} {m : MethodId} {args : Array Value} {below : List Frame} {meth : Method} {c : Code} {H H0 : Heap} {locs : List Loc} {cells slots : Nat} {Q : State → Prop}
  {Ts ws ws' : List Cond} {cc bytes : ByteArray} {nL maxL index n pc : Nat} {own C : String} {y : MethodName} {ret : Option FieldType} {rm : Room} {ls : Array Slot} {st0 rest As : List Value} {b : Nat} {A : Nat → Prop} {D : va_G} {Y : List (ClassId × FieldType)} {adK adV : Nat → Nat} {w0 wc wr w1 w2 : va_W}
theorem b_rwVl {ci : Nat} {T : u_T} {N : Nat} {fs : List Value} {r : Int64} (S : CallFix p m c cc nL s args Ts own) (hM : Met l y ws rm (pcW D Y (.ref b :: As) wc H.size) (qlW D Y wc w1 H.size r) 0 0 (va_A wc H.size)) (cw : CallW R s args own C index y bytes maxL ret ws rm 0 0 n) (hK : va_K D vwCl Y s) (hP : va_P D vwCl w0 H) (hD : va_D A w0) (hS : va_S A H0 H locs) (hA : ∀ q, H0.size ≤ q → A q) (h1 : List.Perm w0 (wc ++ wr)) (h2 : List.Perm (wr ++ w1) w2) (hc : vwCl[ci]? = some (C, T, N)) (h0 : wc[0]? = some (b, .inr (ci, fs))) (hn : As.length = n) (hsize : ls.size = nL) (hst : st0 = As.reverse ++ .ref b :: rest) (hW : (rest.map fun v => v.category).sum ≤ 8) (hdg : decode cc pc = .ok (.invokevirtual index, 3)) (hf : cells + 0 ≤ R.cells ∧ slots + 0 ≤ R.slots)
    (kk : ∀ (H1 : Heap) (locs1 : List Loc), va_P D vwCl w2 H1 → va_D A w2 → va_S A H0 H1 locs1 → W p l e R s m args below meth c H1 locs1 cells slots Q (F0 m (pc + 3) ls (.long r :: rest))) : W p l e R s m args below meth c H locs cells slots Q (F0 m pc ls st0) :=
  q_rwVl S hM cw hK (p_perm h1 hP) (d_perm h1 hD) hS hA (List.range wc.length) (List.range' wc.length wr.length) (List.range (wr ++ w1).length) (l_cut1 wc wr) (l_cut2 wc wr) (nd_ok _ List.nodup_range) (nd_ok _ (List.nodup_range' ..)) (l_dis _ _) (l_cut3 (wr ++ w1)) (nd_ok _ List.nodup_range) hc h0 hn hsize hst hW hdg hf (fun H1 locs1 a b c => kk H1 locs1 (p_perm h2 a) (d_perm h2 b) c)
theorem b_rwVi {ci : Nat} {T : u_T} {N : Nat} {fs : List Value} {r : Int32} (S : CallFix p m c cc nL s args Ts own) (hM : Met l y ws rm (pcW D Y (.ref b :: As) wc H.size) (qiW D Y wc w1 H.size r) 0 0 (va_A wc H.size)) (cw : CallW R s args own C index y bytes maxL ret ws rm 0 0 n) (hK : va_K D vwCl Y s) (hP : va_P D vwCl w0 H) (hD : va_D A w0) (hS : va_S A H0 H locs) (hA : ∀ q, H0.size ≤ q → A q) (h1 : List.Perm w0 (wc ++ wr)) (h2 : List.Perm (wr ++ w1) w2) (hc : vwCl[ci]? = some (C, T, N)) (h0 : wc[0]? = some (b, .inr (ci, fs))) (hn : As.length = n) (hsize : ls.size = nL) (hst : st0 = As.reverse ++ .ref b :: rest) (hW : (rest.map fun v => v.category).sum ≤ 8) (hdg : decode cc pc = .ok (.invokevirtual index, 3)) (hf : cells + 0 ≤ R.cells ∧ slots + 0 ≤ R.slots)
    (kk : ∀ (H1 : Heap) (locs1 : List Loc), va_P D vwCl w2 H1 → va_D A w2 → va_S A H0 H1 locs1 → W p l e R s m args below meth c H1 locs1 cells slots Q (F0 m (pc + 3) ls (.int r :: rest))) : W p l e R s m args below meth c H locs cells slots Q (F0 m pc ls st0) :=
  q_rwVi S hM cw hK (p_perm h1 hP) (d_perm h1 hD) hS hA (List.range wc.length) (List.range' wc.length wr.length) (List.range (wr ++ w1).length) (l_cut1 wc wr) (l_cut2 wc wr) (nd_ok _ List.nodup_range) (nd_ok _ (List.nodup_range' ..)) (l_dis _ _) (l_cut3 (wr ++ w1)) (nd_ok _ List.nodup_range) hc h0 hn hsize hst hW hdg hf (fun H1 locs1 a b c => kk H1 locs1 (p_perm h2 a) (d_perm h2 b) c)
theorem b_rwVlk {ci : Nat} {T : u_T} {N : Nat} {fs : List Value} {r : Int64} (S : CallFix p m c cc nL s args Ts own) (hM : Met l y ws rm (pcK D Y adK adV (.ref b :: As) wc H.size) (qlW D Y wc w1 H.size r) 0 0 (va_A wc H.size)) (cw : CallW R s args own C index y bytes maxL ret ws rm 0 0 n) (hE : kS adK adV A s H0) (hK : va_K D vwCl Y s) (hP : va_P D vwCl w0 H) (hD : va_D A w0) (hS : va_S A H0 H locs) (hA : ∀ q, H0.size ≤ q → A q) (h1 : List.Perm w0 (wc ++ wr)) (h2 : List.Perm (wr ++ w1) w2) (hc : vwCl[ci]? = some (C, T, N)) (h0 : wc[0]? = some (b, .inr (ci, fs))) (hn : As.length = n) (hsize : ls.size = nL) (hst : st0 = As.reverse ++ .ref b :: rest) (hW : (rest.map fun v => v.category).sum ≤ 8) (hdg : decode cc pc = .ok (.invokevirtual index, 3)) (hf : cells + 0 ≤ R.cells ∧ slots + 0 ≤ R.slots)
    (kk : ∀ (H1 : Heap) (locs1 : List Loc), va_P D vwCl w2 H1 → va_D A w2 → va_S A H0 H1 locs1 → W p l e R s m args below meth c H1 locs1 cells slots Q (F0 m (pc + 3) ls (.long r :: rest))) : W p l e R s m args below meth c H locs cells slots Q (F0 m pc ls st0) :=
  q_rwVlk S hM cw hE hK (p_perm h1 hP) (d_perm h1 hD) hS hA (List.range wc.length) (List.range' wc.length wr.length) (List.range (wr ++ w1).length) (l_cut1 wc wr) (l_cut2 wc wr) (nd_ok _ List.nodup_range) (nd_ok _ (List.nodup_range' ..)) (l_dis _ _) (l_cut3 (wr ++ w1)) (nd_ok _ List.nodup_range) hc h0 hn hsize hst hW hdg hf (fun H1 locs1 a b c => kk H1 locs1 (p_perm h2 a) (d_perm h2 b) c)
end LBK
