/-! pick, move, crack, undo -/
def rU (r : Nat → Nat) (i v : Nat) : Nat → Nat := fun x => if x = i then v else r x
theorem rU_same (r : Nat → Nat) (i v : Nat) : rU r i v i = v := if_pos rfl
theorem rU_ne (r : Nat → Nat) {i x : Nat} (v : Nat) (n : ¬ x = i) : rU r i v x = r x := if_neg n
theorem HM_up {s : St} {r : Nat → Nat} (M : HM s r) {i v : Nat} (hi : i < 2 ^ 31) : HM (uA s 5 (nI i) (nI v)) (rU r i v) := by
  intro x
  show upd (s 5) (nI i).toNatClampNeg (nI v) x = nI (if x = i then v else r x)
  rw [iCl hi]
  by_cases c : x = i
  · rw [c, upd_same, if_pos rfl]
  · rw [upd_diff c, if_neg c]; exact M x
theorem HV_f9 {h : Hl} (v : HV h) {f : Nat → Nat} (hf : ∀ t, t < h 12 0 → f t ≤ 9) : HV (h2 h 9 f) :=
  ⟨v.1, v.2.1, v.2.2.1, v.2.2.2.1, v.2.2.2.2.1, v.2.2.2.2.2.1, fun t ht => ⟨(v.2.2.2.2.2.2.1 t ht).1, (v.2.2.2.2.2.2.1 t ht).2.1, (v.2.2.2.2.2.2.1 t ht).2.2.1, hf t ht⟩, v.2.2.2.2.2.2.2⟩
theorem RR_f9 {h : Hl} {r r' : Nat → Nat} (v : HV h) (R : RR h r) {f : Nat → Nat} (e1 : ∀ t, t < h 12 0 → r' (47 + 3 * t + 2) = f t) (e2 : ∀ i, (∀ t, t < h 12 0 → ¬ i = 47 + 3 * t + 2) → r' i = r i) : RR (h2 h 9 f) r' := by
  obtain ⟨v1, v2, v3, _⟩ := v
  obtain ⟨r1, r2, r3, r4, r5, r6, r7⟩ := R
  refine ⟨(e2 0 (fun t _ => by omega)).trans r1, (e2 1 (fun t _ => by omega)).trans r2, (e2 2 (fun t _ => by omega)).trans r3, fun j hj => (e2 _ (fun t _ => by omega)).trans (r4 j hj), fun g hg i hi => ?_, fun k hk => ?_, fun t ht => ?_⟩
  · have hg : g < h 10 0 := hg
    rw [e2 _ (fun t _ => by omega), r5 g hg i hi, h2_ne _ _ (by omega)]
  · have hk : k < h 11 0 := hk
    rw [e2 _ (fun t _ => by omega), e2 _ (fun t _ => by omega), e2 _ (fun t _ => by omega)]
    exact r6 k hk
  · have ht : t < h 12 0 := ht
    rw [e2 _ (fun t _ => by omega), e2 _ (fun t _ => by omega), e1 t ht]
    exact ⟨(r7 t ht).1, (r7 t ht).2.1, rfl⟩
theorem uAct_sub {h : Hl} {e0 g z : Nat} (h0 : e0 = 0 ∨ e0 = 1) (hz : ∀ x, x < h 12 0 → g.testBit x = true → z ≤ h 9 x) : uAct (e0, g, z) (h2 h 9 (fun x => if x < h 12 0 ∧ g.testBit x = true then h 9 x - z else h 9 x)) = h := by
  unfold uAct
  rw [if_neg (show ¬ e0 = 2 by omega), if_neg (show ¬ e0 = 3 by omega), h2_h2, h2_same, h2_ne _ _ (show ¬ 12 = 9 by decide)]
  refine h2_self h 9 ?_
  funext x
  show (if x < h 12 0 ∧ g.testBit x = true then (if x < h 12 0 ∧ g.testBit x = true then h 9 x - z else h 9 x) + z else (if x < h 12 0 ∧ g.testBit x = true then h 9 x - z else h 9 x)) = h 9 x
  by_cases c : x < h 12 0 ∧ g.testBit x = true
  · rw [if_pos c, if_pos c]
    have := hz x c.1 c.2
    omega
  · rw [if_neg c, if_neg c]
theorem RR_f1 {h : Hl} {r : Nat → Nat} (v : HV h) (R : RR h r) {g p : Nat} (hg : g < h 10 0) : RR (hA h 1 g p) (rU r (15 + 4 * g) p) := by
  obtain ⟨v1, v2, v3, _⟩ := v
  obtain ⟨r1, r2, r3, r4, r5, r6, r7⟩ := R
  refine ⟨(rU_ne r p (by omega)).trans r1, (rU_ne r p (by omega)).trans r2, (rU_ne r p (by omega)).trans r3, fun j hj => (rU_ne r p (by omega)).trans (r4 j hj), fun g' hg' i hi => ?_, fun k hk => ?_, fun t ht => ?_⟩
  · have hg' : g' < h 10 0 := hg'
    by_cases c : i = 0
    · subst c
      show rU r (15 + 4 * g) p (15 + 4 * g' + 0) = if g' = g then p else h 1 g'
      by_cases c2 : g' = g
      · subst c2; rw [if_pos rfl, Nat.add_zero, rU_same]
      · rw [if_neg c2, rU_ne _ _ (by omega)]; exact r5 g' hg' 0 hi
    · unfold hA
      rw [h2_ne _ _ (by omega), rU_ne _ _ (by omega)]; exact r5 g' hg' i hi
  · have hk : k < h 11 0 := hk
    rw [rU_ne _ _ (by omega), rU_ne _ _ (by omega), rU_ne _ _ (by omega)]
    exact r6 k hk
  · have ht : t < h 12 0 := ht
    rw [rU_ne _ _ (by omega), rU_ne _ _ (by omega), rU_ne _ _ (by omega)]
    exact r7 t ht
theorem HV_f1 {h : Hl} (v : HV h) {g p : Nat} (hp : p ≤ 30) : HV (hA h 1 g p) :=
  ⟨v.1, v.2.1, v.2.2.1, v.2.2.2.1, fun g' hg' => ⟨by
    show (if g' = g then p else h 1 g') ≤ 30
    split
    · exact hp
    · exact (v.2.2.2.2.1 g' hg').1, (v.2.2.2.2.1 g' hg').2⟩, v.2.2.2.2.2.1, v.2.2.2.2.2.2.1, v.2.2.2.2.2.2.2⟩
theorem or_bit {a k : Nat} (ha : a < 16) (hk : k < 4) (h : ¬ a.testBit k = true) : a ||| 2 ^ k = a + 2 ^ k := by
  have key : ∀ a : Fin 16, ∀ k : Fin 4, ¬ a.val.testBit k.val = true → a.val ||| 2 ^ k.val = a.val + 2 ^ k.val := by decide +kernel
  exact key ⟨a, ha⟩ ⟨k, hk⟩ h
theorem clr_bit {a k : Nat} (ha : a < 16) (hk : k < 4) (h : a.testBit k = true) : nI a &&& (((1 : Int32) <<< (nI k &&& 31)) ^^^ (-1 : Int32)) = nI (a - 2 ^ k) := by
  have key : ∀ a : Fin 16, ∀ k : Fin 4, a.val.testBit k.val = true → nI a.val &&& (((1 : Int32) <<< (nI k.val &&& 31)) ^^^ (-1 : Int32)) = nI (a.val - 2 ^ k.val) := by decide +kernel
  exact key ⟨a, ha⟩ ⟨k, hk⟩ h
theorem bit_or {a k j : Nat} : (a ||| 2 ^ k).testBit j = (a.testBit j || decide (k = j)) := by rw [Nat.testBit_or, Nat.testBit_two_pow]
theorem RR_c {h : Hl} {r : Nat → Nat} (v : HV h) (R : RR h r) {k : Nat} (hk : k < h 11 0) : RR (h1 h 13 (h 13 0 ||| 2 ^ k)) (rU r (35 + 3 * k + 2) 1) := by
  obtain ⟨v1, v2, v3, _⟩ := v
  obtain ⟨r1, r2, r3, r4, r5, r6, r7⟩ := R
  refine ⟨(rU_ne r 1 (by omega)).trans r1, (rU_ne r 1 (by omega)).trans r2, (rU_ne r 1 (by omega)).trans r3, fun j hj => (rU_ne r 1 (by omega)).trans (r4 j hj), fun g hg i hi => ?_, fun k' hk' => ?_, fun t ht => ?_⟩
  · have hg : g < h 10 0 := hg
    rw [rU_ne _ _ (by omega), r5 g hg i hi]
    unfold h1
    rw [h2_ne _ _ (by omega)]
  · have hk' : k' < h 11 0 := hk'
    rw [rU_ne _ _ (by omega), rU_ne _ _ (by omega)]
    refine ⟨(r6 k' hk').1, (r6 k' hk').2.1, ?_⟩
    show rU r (35 + 3 * k + 2) 1 (35 + 3 * k' + 2) = if (h 13 0 ||| 2 ^ k).testBit k' = true then 1 else 0
    rw [bit_or]
    by_cases c : k' = k
    · subst c; rw [rU_same]; simp
    · rw [rU_ne _ _ (by omega), (r6 k' hk').2.2]
      have : decide (k = k') = false := decide_eq_false (fun q => c q.symm)
      rw [this, Bool.or_false]
  · have ht : t < h 12 0 := ht
    rw [rU_ne _ _ (by omega), rU_ne _ _ (by omega), rU_ne _ _ (by omega)]
    exact r7 t ht
theorem HV_c {h : Hl} (v : HV h) {a : Nat} (ha : a < 2 ^ h 11 0) : HV (h1 h 13 a) :=
  ⟨v.1, v.2.1, v.2.2.1, v.2.2.2.1, v.2.2.2.2.1, v.2.2.2.2.2.1, v.2.2.2.2.2.2.1, ha⟩
section OPS
variable {ro ta ac bo i6 i7 st sp x m : St}
theorem RelA {h' : Hl} {r' : Nat → Nat} {ac' m' : St} (R : RelC ro ta ac bo i6 i7 st sp x m) (v' : HV h') (R' : RR h' r') (M' : HM m' r') (ha : rActs ac' h' (m' 8) (m' 9 0)) (hm : ∀ k, ¬ k = 0 → ¬ k = 5 → ¬ k = 8 → ¬ k = 9 → m' k = m k) : RelC ro ta ac' bo i6 i7 (cst h') sp x m' := by
  obtain ⟨h, h6, h7, h9, e1, e2, e3, e4, ⟨hv, r, hR, hM⟩, hrow, htape, hacts, himg, htr, hx⟩ := R
  have a1 := hm 1 (by decide) (by decide) (by decide) (by decide)
  have a2 := hm 2 (by decide) (by decide) (by decide) (by decide)
  have a3 := hm 3 (by decide) (by decide) (by decide) (by decide)
  have a4 := hm 4 (by decide) (by decide) (by decide) (by decide)
  have a7 := hm 7 (by decide) (by decide) (by decide) (by decide)
  have a10 := hm 10 (by decide) (by decide) (by decide) (by decide)
  have a11 := hm 11 (by decide) (by decide) (by decide) (by decide)
  have a12 := hm 12 (by decide) (by decide) (by decide) (by decide)
  have a23 := hm 23 (by decide) (by decide) (by decide) (by decide)
  have a24 := hm 24 (by decide) (by decide) (by decide) (by decide)
  have a25 := hm 25 (by decide) (by decide) (by decide) (by decide)
  have a26 := hm 26 (by decide) (by decide) (by decide) (by decide)
  refine ⟨h', h6, h7, h9, rfl, e2, e3, e4, ⟨v', r', R', M'⟩, ?_, ?_, ha, ?_, ?_, ?_⟩
  · rw [a2, a3, a4]; exact hrow
  · rw [a10, a11]; exact htape
  · rw [a23, a24]; exact himg
  · rw [a25, a26]; exact htr
  · rw [a7, a12, a1]; exact hx
theorem actK {h : Hl} {m9 : Int32} {m8 : Nat → Int32} (A : rActs ac h m8 m9) : ∀ j, h 13 j = h 13 0 := by
  obtain ⟨n, nx, hs, rs, E, a1, a2, a3, a4, a5, a6, a7, a8⟩ := A
  intro j
  rw [← a6]
  exact a7 n (Nat.le_refl n) j
theorem move_sim (R : RelC ro ta ac bo i6 i7 st sp x m) (p q : Int32) : ∃ (v : Int64) (st' ac' m' : St), fX7_move st ac p q = some (v, st', ac') ∧ fX8_move m p q = some (v, m') ∧ RelC ro ta ac' bo i6 i7 st' sp x m' := by
  have R0 := Rel0 R
  have RR0 := R
  obtain ⟨h, h6, h7, h9, rfl, rfl, rfl, rfl, ⟨hv, r, hR, hM⟩, hrow, htape, hacts, himg, htr, hx⟩ := R
  have hM0 : HM (u1 m 0 0) r := hM
  unfold fX7_move fX8_move
  rw [q_lts (u1 m 0 0), c_isGrave h hv, m_isGrave hv hR hM0, q_b1s, q_b1s, ck_in]
  simp only [b01]
  by_cases c1 : inN p (h 10 0) = true
  · have k1 : ¬ ¬ inN p (h 10 0) = true := fun n => n c1
    rw [if_neg k1, if_neg k1, inp_ok q 0 30 0 30 rfl rfl, q_b1s, show (0 : Int32).toInt = 0 from rfl, show (30 : Int32).toInt = 30 from rfl]
    simp only [b01]
    by_cases c2 : inR q 0 30 = true
    · have k2 : ¬ ¬ inR q 0 30 = true := fun n => n c2
      have h10 := hv.1
      obtain ⟨g, hg, rfl⟩ := inN_nI (by omega) c1
      obtain ⟨z, z1, z2, z3, rfl⟩ := inR_of (by decide) (by decide) c2
      have ib : inb (nI g) 5 := by rw [iIn (by omega)]; omega
      have ib2 : inb (nI (15 + 4 * g)) 59 := by rw [iIn (by omega)]; omega
      have hgv := hv.2.2.2.2.1 g hg
      obtain ⟨n, a', n1, n2, e1, e2⟩ := keepA (h' := hA h 1 g z) hacts hv hR 2 g (h 1 g) (by
        show hA (hA h 1 g z) 1 g (h 1 g) = h
        unfold hA
        rw [h2_h2, h2_same]
        refine h2_self h 1 ?_
        funext y
        by_cases c : y = g
        · subst c; rw [if_pos rfl]
        · rw [if_neg c, if_neg c]) (Or.inl ⟨rfl, hg, hgv.1⟩) (fun j => show h 13 j = h 13 0 from actK hacts j)
      obtain ⟨s', f1, f2, f3, f4, f5⟩ := m_keep (s := u1 m 0 0) n1 n2
      have hMs : HM s' r := fun i => by rw [f2 5 (by decide) (by decide)]; exact hM0 i
      have eo : fX8_ofGrave s' (nI g) 0 = some (nI (h 1 g)) := m_ofGrave hv hR hMs hg (i := 0) (by decide)
      rw [if_pos c2, if_neg k2, if_pos ib, q_lts, if_pos ib, q_lts, iCl (by omega), cst_at, f1, q_b1s, eo, q_b1s, show (15 : Int32) = nI 15 from rfl, show (4 : Int32) = nI 4 from rfl, iMul, iAdd, if_pos ib2, q_lts]
      have e1 : fX0_keep ac 2 (nI g) (nI (h 1 g)) = some a' := e1
      rw [e1, q_b1s, uA_cst _ _ _ _ (by omega)]
      refine ⟨_, _, _, _, rfl, rfl, RelA RR0 (HV_f1 hv (by omega)) (RR_f1 hv hR hg) (HM_up hMs (by omega)) ?_ (fun k k0 k5 k8 k9 => by rw [uA_ne k5, f2 k k8 k9, u1_ne k0])⟩
      rw [uA_ne (by decide), uA_ne (by decide), f3]
      exact e2 _ f4 (fun i hi => by rw [f5 i hi]; exact hM0 i)
    · exact ⟨_, _, _, _, by rw [if_neg c2], by rw [if_pos c2], R0⟩
  · exact ⟨_, _, _, _, by rw [if_pos c1], by rw [if_pos c1], R0⟩
theorem crack_sim (R : RelC ro ta ac bo i6 i7 st sp x m) (p : Int32) : ∃ (v : Int64) (st' ac' m' : St), fX7_crack st ac p = some (v, st', ac') ∧ fX8_crack m p = some (v, m') ∧ RelC ro ta ac' bo i6 i7 st' sp x m' := by
  have R0 := Rel0 R
  have RR0 := R
  obtain ⟨h, h6, h7, h9, rfl, rfl, rfl, rfl, ⟨hv, r, hR, hM⟩, hrow, htape, hacts, himg, htr, hx⟩ := R
  have hM0 : HM (u1 m 0 0) r := hM
  unfold fX7_crack fX8_crack
  rw [q_lts (u1 m 0 0), c_isHorn h hv, m_isHorn hv hR hM0, q_b1s, q_b1s]
  simp only [b01]
  by_cases c1 : inN p (h 11 0) = true
  · have k1 : ¬ ¬ inN p (h 11 0) = true := fun n => n c1
    have h11 := hv.2.1
    have h13 := hv.cr
    obtain ⟨k, hk, rfl⟩ := inN_nI (by omega) c1
    have ib2 : inb (nI (35 + 3 * k + 2)) 59 := by rw [iIn (by omega)]; omega
    have ec : fX3_isCracked (cst h) (nI k) = some (if (h 13 0).testBit k = true then nI 1 else nI 0) := by
      unfold fX3_isCracked
      rw [cst_at, has_ok (by omega) (by omega), q_b1s]
      simp only [isb_ite, if_true]
    rw [if_neg k1, if_neg k1, ec, q_b1s, show (35 : Int32) = nI 35 from rfl, show (3 : Int32) = nI 3 from rfl, show (2 : Int32) = nI 2 from rfl, iMul, iAdd, iAdd, if_pos ib2]
    simp only [iCl (show 35 + 3 * k + 2 < 2 ^ 31 by omega), hM0 (35 + 3 * k + 2), (hR.2.2.2.2.2.1 k hk).2.2]
    by_cases c2 : (h 13 0).testBit k = true
    · simp only [if_pos c2]
      rw [if_neg (show ¬ nI 1 = 0 by decide), if_pos (show nI 1 = 1 from rfl)]
      exact ⟨_, _, _, _, rfl, rfl, R0⟩
    · simp only [if_neg c2]
      rw [if_pos (show nI 0 = 0 from rfl), if_neg (show ¬ nI 0 = 1 by decide)]
      have eo : h 13 0 ||| 2 ^ k = h 13 0 + 2 ^ k := or_bit h13 (by omega) c2
      have cK := actK hacts
      obtain ⟨n, a', n1, n2, e1, e2⟩ := keepA (h' := h1 h 13 (h 13 0 ||| 2 ^ k)) hacts hv hR 3 k 0 (by
        show h1 (h1 h 13 (h 13 0 ||| 2 ^ k)) 13 ((h 13 0 ||| 2 ^ k) - 2 ^ k) = h
        unfold h1
        rw [h2_h2, eo, Nat.add_sub_cancel]
        refine h2_self h 13 ?_
        funext y
        exact (cK y).symm) (Or.inr (Or.inl ⟨rfl, hk, by
          show (h 13 0 ||| 2 ^ k).testBit k = true
          rw [bit_or]; simp⟩)) (fun j => rfl)
      obtain ⟨s', f1, f2, f3, f4, f5⟩ := m_keep (s := u1 m 0 0) n1 n2
      have hMs : HM s' r := fun i => by rw [f2 5 (by decide) (by decide)]; exact hM0 i
      have e1 : fX0_keep ac 3 (nI k) 0 = some a' := e1
      have e1 : fX0_keep ac (nI 3) (nI k) 0 = some a' := e1
      rw [f1, q_b1s, if_pos ib2, q_lts, q_lts, e1, q_b1s, cst_at]
      have es : (1 : Int32) <<< (nI k &&& 31) = nI (2 ^ k) := iShl (by omega)
      rw [es, iOr, u1_cst]
      refine ⟨_, _, _, _, rfl, rfl, RelA RR0 (HV_c hv (Nat.or_lt_two_pow hv.2.2.2.2.2.2.2 (Nat.pow_lt_pow_right (by decide) hk))) (RR_c hv hR hk) (HM_up hMs (by omega)) ?_ (fun k k0 k5 k8 k9 => by rw [uA_ne k5, f2 k k8 k9, u1_ne k0])⟩
      rw [uA_ne (by decide), uA_ne (by decide), f3]
      exact e2 _ f4 (fun i hi => by rw [f5 i hi]; exact hM0 i)
  · exact ⟨_, _, _, _, by rw [if_pos c1], by rw [if_pos c1], R0⟩
theorem pick_sim (R : RelC ro ta ac bo i6 i7 st sp x m) (p q : Int32) : ∃ (v : Int64) (st' ac' m' : St), fX7_pick st ac p q = some (v, st', ac') ∧ fX8_pick m p q = some (v, m') ∧ RelC ro ta ac' bo i6 i7 st' sp x m' := by
  have R0 := Rel0 R
  have RR0 := R
  obtain ⟨h, h6, h7, h9, rfl, rfl, rfl, rfl, ⟨hv, r, hR, hM⟩, hrow, htape, hacts, himg, htr, hx⟩ := R
  have hM0 : HM (u1 m 0 0) r := hM
  unfold fX7_pick fX8_pick
  rw [q_lts, c_isTree h hv, m_isTree hv hR hM0, q_b1s, q_b1s, ck_in]
  simp only [b01]
  by_cases c1 : inN p (h 12 0) = true
  · have k1 : ¬ ¬ inN p (h 12 0) = true := fun n => n c1
    rw [if_neg k1, if_neg k1, inp_ok q 1 9 1 9 rfl rfl, q_b1s, show (1 : Int32).toInt = 1 from rfl, show (9 : Int32).toInt = 9 from rfl]
    simp only [b01]
    by_cases c2 : inR q 1 9 = true
    · have k2 : ¬ ¬ inR q 1 9 = true := fun n => n c2
      have h12 := hv.2.2.1
      obtain ⟨t, ht, rfl⟩ := inN_nI (by omega) c1
      obtain ⟨z, z1, z2, z3, rfl⟩ := inR_of (by decide) (by decide) c2
      have ib : inb (nI t) 4 := by rw [iIn (by omega)]; omega
      have ib2 : inb (nI (47 + 3 * t + 2)) 59 := by rw [iIn (by omega)]; omega
      have htv := hv.2.2.2.2.2.2.1 t ht
      rw [if_pos c2, if_neg k2, if_pos ib, m_fruit hv hR hM0 ht, q_b1s]
      simp only [iCl (show t < 2 ^ 31 by omega), cst_at, iLe z3 (show h 9 t < 2 ^ 31 by omega)]
      by_cases c3 : z ≤ h 9 t
      · rw [if_pos c3, if_pos c3]
        have es : (1 : Int32) <<< (nI t &&& 31) = nI (2 ^ t) := iShl (by omega)
        have h2t : 2 ^ t < 16 := Nat.pow_lt_pow_right (n := 4) (by decide) (by omega)
        have hz : ∀ x, x < h 12 0 → (2 ^ t).testBit x = true → z ≤ h 9 x := fun x hx hb => by
          rw [Nat.testBit_two_pow] at hb
          have : t = x := of_decide_eq_true hb
          rw [← this]; exact c3
        have ea := add_ok h (g := 2 ^ t) (w := -nI z) (nv := fun x => h 9 x - z) h2t h12 (fun x hx hb => by rw [← Int32.sub_eq_add_neg, iSub (hz x hx hb)])
        obtain ⟨n, a', n1, n2, e1, e2⟩ := keepA (h' := h2 h 9 (fun x => if x < h 12 0 ∧ (2 ^ t).testBit x = true then h 9 x - z else h 9 x)) hacts hv hR 1 (2 ^ t) z (uAct_sub (Or.inr rfl) hz) (Or.inr (Or.inr ⟨Or.inr rfl, h2t, by show z ≤ 9; omega⟩)) (fun j => show h 13 j = h 13 0 from actK hacts j)
        obtain ⟨s', f1, f2, f3, f4, f5⟩ := m_keep (s := u1 m 0 0) n1 n2
        have hMs : HM s' r := fun i => by rw [f2 5 (by decide) (by decide)]; exact hM0 i
        have e1 : fX0_keep ac 1 (nI (2 ^ t)) (nI z) = some a' := e1
        have ft : (if t < h 12 0 ∧ (2 ^ t).testBit t = true then h 9 t - z else h 9 t) = h 9 t - z := if_pos ⟨ht, by rw [Nat.testBit_two_pow]; simp⟩
        have v' : HV (h2 h 9 (fun x => if x < h 12 0 ∧ (2 ^ t).testBit x = true then h 9 x - z else h 9 x)) := HV_f9 hv (fun y hy => by
          have := (hv.2.2.2.2.2.2.1 y hy).2.2.2
          split <;> omega)
        have R' : RR (h2 h 9 (fun x => if x < h 12 0 ∧ (2 ^ t).testBit x = true then h 9 x - z else h 9 x)) (rU r (47 + 3 * t + 2) (h 9 t - z)) := RR_f9 hv hR (fun y hy => by
          by_cases c : y = t
          · subst c; rw [rU_same, ft]
          · rw [rU_ne _ _ (by omega), (hR.2.2.2.2.2.2 y hy).2.2, if_neg]
            rintro ⟨_, q⟩
            rw [Nat.testBit_two_pow] at q
            exact c (of_decide_eq_true q).symm) (fun i hi => rU_ne _ _ (hi t ht))
        rw [es, ea, q_b1s, e1, q_b1s, if_pos ib, f1, q_b1s, show (47 : Int32) = nI 47 from rfl, show (3 : Int32) = nI 3 from rfl, show (2 : Int32) = nI 2 from rfl, iMul, iAdd, iAdd, if_pos ib2, if_pos ib2, q_lts, iCl (show 47 + 3 * t + 2 < 2 ^ 31 by omega), hMs, (hR.2.2.2.2.2.2 t ht).2.2, iSub c3]
        have M' := HM_up hMs (i := 47 + 3 * t + 2) (v := h 9 t - z) (by omega)
        have ef := m_fruit v' R' M' (t := t) ht
        rw [h2_same, ft] at ef
        rw [ef, q_b1s, cst_at, h2_same, ft]
        refine ⟨_, _, _, _, rfl, rfl, RelA RR0 v' R' M' ?_ (fun k k0 k5 k8 k9 => by rw [uA_ne k5, f2 k k8 k9, u1_ne k0])⟩
        rw [uA_ne (by decide), uA_ne (by decide), f3]
        exact e2 _ f4 (fun i hi => by rw [f5 i hi]; exact hM0 i)
      · exact ⟨_, _, _, _, by rw [if_neg c3], by rw [if_neg c3], R0⟩
    · exact ⟨_, _, _, _, by rw [if_neg c2], by rw [if_pos c2], R0⟩
  · exact ⟨_, _, _, _, by rw [if_pos c1], by rw [if_pos c1], R0⟩
theorem m_undoL {n : Nat} (hn : n < 24) : ∀ d k i (s : St), i + d = 59 → d < k → s 9 0 = nI n → ∃ s' : St, fX8_undo_L28 k (nI i) s = some s' ∧ (∀ z, ¬ z = 5 → s' z = s z) ∧ ∀ x, s' 5 x = if i ≤ x ∧ x < 59 then s 8 (59 * n + x) else s 5 x := by
  intro d
  induction d with
  | zero =>
    intro k i s e hk h9
    cases k with
    | zero => omega
    | succ k =>
      have e : i = 59 := by omega
      subst e
      refine ⟨s, ?_, fun k _ => rfl, fun x => by rw [if_neg (by omega)]⟩
      rw [fX8_undo_L28, if_pos (by decide)]
  | succ d ih =>
    intro k i s e hk h9
    cases k with
    | zero => omega
    | succ k =>
      obtain ⟨s', f1, f2, f3⟩ := ih k (i + 1) (uA s 5 (nI i) (s 8 (59 * n + i))) (by omega) (by omega) h9
      refine ⟨s', ?_, fun k hk => by rw [f2 k hk, uA_ne hk], fun x => ?_⟩
      · rw [fX8_undo_L28, if_neg (by rw [show (59 : Int32) = nI 59 from rfl, iLe (by decide) (by omega)]; omega), h9, show (59 : Int32) = nI 59 from rfl, iMul, iAdd, if_pos (by rw [iIn (by omega)]; omega), if_pos (by rw [iIn (by omega)]; omega), q_lts, nI_1, iCl (show 59 * n + i < 2 ^ 31 by omega)]
        exact f1
      · rw [f3 x, uA_ne (by decide)]
        show (if _ then _ else upd (s 5) (nI i).toNatClampNeg (s 8 (59 * n + i)) x) = _
        rw [iCl (by omega)]
        by_cases c : x = i
        · rw [if_neg (by omega), c, upd_same, if_pos (by omega)]
        · rw [upd_diff c]
          by_cases c2 : i ≤ x ∧ x < 59
          · rw [if_pos (by omega), if_pos c2]
          · rw [if_neg (by omega), if_neg c2]
theorem undo_sim (R : RelC ro ta ac bo i6 i7 st sp x m) : ∃ (v : Int64) (st' ac' m' : St), fX7_undo ac st = some (v, ac', st') ∧ fX8_undo m = some (v, m') ∧ RelC ro ta ac' bo i6 i7 st' sp x m' := by
  have R0 := Rel0 R
  have RR0 := R
  obtain ⟨h, h6, h7, h9, rfl, rfl, rfl, rfl, ⟨hv, r, hR, hM⟩, hrow, htape, hacts, himg, htr, hx⟩ := R
  have hM0 : HM (u1 m 0 0) r := hM
  obtain ⟨n, nx, hs, rs, E, a1, a2, a3, a4, a5, a6, a7, a8⟩ := hacts
  unfold fX7_undo fX8_undo fX0_kept
  rw [q_lts, q_b1s, a4, show (u1 m 0 0) 9 0 = m 9 0 from rfl, a5]
  by_cases c0 : n = 0
  · subst c0
    rw [if_pos (show nI 0 = 0 from rfl), if_pos (show nI 0 = 0 from rfl)]
    exact ⟨_, _, _, _, rfl, rfl, R0⟩
  · have z0 : ¬ nI n = 0 := by rw [show (0 : Int32) = nI 0 from rfl, iEq (by omega) (by decide)]; exact c0
    obtain ⟨k, rfl⟩ : ∃ k, n = k + 1 := ⟨n - 1, by omega⟩
    have e1 : nI (k + 1) - 1 = nI k := nI_pred k
    obtain ⟨s', f1, f2, f3⟩ := m_undoL (n := k) (by omega) 59 5000 0 (u1 (u1 m 0 0) 9 (nI k)) (by omega) (by omega) rfl
    have f1 : fX8_undo_L28 5000 0 (u1 (u1 m 0 0) 9 (nI k)) = some s' := f1
    obtain ⟨b1, b2, b3, b4, b5, b6, b7, b8⟩ := a8 k (by omega)
    rw [a6] at b4 b5
    have p0 : (nx + 24 - (k + 1) + k) % 24 = (nx + 23) % 24 := by omega
    rw [p0] at b6 b7 b8
    rw [if_neg z0, if_neg z0, e1, q_lts, f1, q_b1s]
    have e9 : s' 9 0 = nI k := by rw [f2 9 (by decide)]; rfl
    have h10 := hv.1
    have h11 := hv.2.1
    have h12 := hv.2.2.1
    have h13 := hv.cr
    have eu : fX0_undoLatest ac (cst h) = some (u1 (u1 ac 4 (nI k)) 3 (nI ((nx + 23) % 24)), cst (hs k)) := by
      have ev : (q_b1 (if (u1 ac 4 (nI k)) 3 0 = 0 then some (23 : Int32) else some ((u1 ac 4 (nI k)) 3 0 - 1)) fun v => some v) = some (nI ((nx + 23) % 24)) := by
        rw [show (u1 ac 4 (nI k)) 3 0 = nI nx from a3]
        by_cases c : nx = 0
        · subst c; rfl
        · rw [if_neg (by rw [show (0 : Int32) = nI 0 from rfl, iEq (by omega) (by decide)]; exact c), q_b1s, show (1 : Int32) = nI 1 from rfl, iSub (by omega)]
          congr 2; omega
      have ib : inb (nI ((nx + 23) % 24)) 24 := by rw [iIn (by omega)]; omega
      have g3 : (u1 (u1 ac 4 (nI k)) 3 (nI ((nx + 23) % 24))) 3 0 = nI ((nx + 23) % 24) := rfl
      have g0 : (u1 (u1 ac 4 (nI k)) 3 (nI ((nx + 23) % 24))) 0 = ac 0 := rfl
      have g1 : (u1 (u1 ac 4 (nI k)) 3 (nI ((nx + 23) % 24))) 1 = ac 1 := rfl
      have g2 : (u1 (u1 ac 4 (nI k)) 3 (nI ((nx + 23) % 24))) 2 = ac 2 := rfl
      obtain ⟨vv, ev1, ev2⟩ : ∃ vv, (if (u1 ac 4 (nI k)) 3 0 = 0 then some (23 : Int32) else some ((u1 ac 4 (nI k)) 3 0 - 1)) = some vv ∧ vv = nI ((nx + 23) % 24) := by
        revert ev
        split
        · intro ev; exact ⟨_, rfl, by rw [q_b1s] at ev; exact Option.some.inj ev⟩
        · intro ev; exact ⟨_, rfl, by rw [q_b1s] at ev; exact Option.some.inj ev⟩
      subst ev2
      unfold fX0_undoLatest
      rw [a4, if_neg z0, e1, q_lts, ev1, q_b1s, q_lts, g3, g0, g1, g2, if_pos ib, q_lts, if_pos ib]
      simp only [iCl (show (nx + 23) % 24 < 2 ^ 31 by omega), b7]
      rcases b5 with ⟨c1, c2, c3⟩ | ⟨c1, c2, c3⟩ | ⟨c1, c2, c3⟩
      · rw [if_pos (by rw [b6, c1]; rfl), isGrave_ok h hv (by omega), if_pos c2, q_b1s, if_neg (show ¬ nI 1 = 0 by decide), if_pos ib, if_pos (by rw [iIn (by omega)]; omega), q_lts, b8, uA_cst _ _ _ _ (by omega)]
        rw [← b4]; unfold uAct; rw [if_pos c1]
      · rw [if_neg (by rw [b6, c1]; decide), if_pos ib, if_pos (by rw [b6, c1]; rfl), q_lts, cst_at, clr_bit h13 (by omega) c3, u1_cst]
        rw [← b4]; unfold uAct; rw [if_neg (by omega), if_pos c1]
      · have ea := add_ok h (g := (E k).2.1) (w := nI (E k).2.2) (nv := fun x => h 9 x + (E k).2.2) c2 h12 (fun x hx hb => iAdd _ _)
        have eh : cst (h2 h 9 (fun x => if x < h 12 0 ∧ (E k).2.1.testBit x = true then h 9 x + (E k).2.2 else h 9 x)) = cst (hs k) := by
          rw [← b4]; unfold uAct; rw [if_neg (by omega), if_neg (by omega)]
        rw [eh] at ea
        rcases c1 with c1 | c1
        · rw [if_neg (by rw [b6, c1]; decide), if_pos ib, if_neg (by rw [b6, c1]; decide), if_pos ib, if_pos (by rw [b6, c1]; rfl), if_pos ib, b8, ea, q_b1s]
        · rw [if_neg (by rw [b6, c1]; decide), if_pos ib, if_neg (by rw [b6, c1]; decide), if_pos ib, if_neg (by rw [b6, c1]; decide), if_pos ib, if_pos (by rw [b6, c1]; rfl), if_pos ib, b8, ea, q_b1s]
    rw [eu, q_b2s, q_b1s, e9]
    refine ⟨_, _, _, _, rfl, rfl, RelA (r' := fun i => if i < 59 then rs k i else r i) RR0 b1 (RR_congr b1 b2 (fun i hi => if_pos hi)) ?_ ?_ (fun z z0 z5 z8 z9 => by rw [f2 z z5, u1_ne z9, u1_ne z0])⟩
    · intro i
      rw [f3 i]
      show _ = nI (if i < 59 then rs k i else r i)
      by_cases c : i < 59
      · rw [if_pos ⟨Nat.zero_le i, c⟩, if_pos c]; exact b3 i c
      · rw [if_neg (fun q => c q.2), if_neg c]; exact hM i
    · rw [e9, f2 8 (by decide)]
      refine ⟨k, (nx + 23) % 24, hs, rs, E, by omega, by omega, rfl, rfl, rfl, rfl, fun y hy => a7 y (by omega), fun y hy => ?_⟩
      obtain ⟨d1, d2, d3, d4, d5, d6, d7, d8⟩ := a8 y (by omega)
      have pe : ((nx + 23) % 24 + 24 - k + y) % 24 = (nx + 24 - (k + 1) + y) % 24 := by omega
      rw [pe]
      exact ⟨d1, d2, d3, d4, d5, d6, d7, d8⟩
end OPS
