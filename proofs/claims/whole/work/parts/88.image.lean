/-! image, restore -/
theorem va0 (f g : Nat → Int32) (n j : Nat) : va_cpy f g 0 0 n j = if j < n then f j else g j := by
  unfold va_cpy
  by_cases c : j < n
  · rw [if_pos ⟨Nat.zero_le j, by omega⟩, if_pos c, Nat.sub_zero, Nat.zero_add]
  · rw [if_neg (by omega), if_neg c]
/-- the hill s after it became t -/
def becH (s t : Hl) : Hl := fun k j => if k = 0 then (if j < 12 then t 0 j else s 0 j) else if k < 5 then (if j < 5 then t k j else s k j) else if k < 10 then (if j < 4 then t k j else s k j) else if k < 14 then t k 0 else s k j
theorem bec_ok (s t : Hl) : fX3_become (cst s) (cst t) = some (cst (becH s t)) := by
  unfold fX3_become
  simp only [q_lts]
  congr 1
  funext k j
  have v12 : (12 : Int32).toNatClampNeg = 12 := rfl
  have v5 : (5 : Int32).toNatClampNeg = 5 := rfl
  have v4 : (4 : Int32).toNatClampNeg = 4 := rfl
  have v0 : (0 : Int32).toNatClampNeg = 0 := rfl
  simp only [v12, v5, v4, v0]
  rcases k with _ | _ | _ | _ | _ | _ | _ | _ | _ | _ | _ | _ | _ | _ | k
  · show va_cpy (cst t 0) (cst s 0) 0 0 12 j = nI (if j < 12 then t 0 j else s 0 j)
    rw [va0]; split <;> rfl
  · show va_cpy (cst t 1) (cst s 1) 0 0 5 j = nI (if j < 5 then t 1 j else s 1 j)
    rw [va0]; split <;> rfl
  · show va_cpy (cst t 2) (cst s 2) 0 0 5 j = nI (if j < 5 then t 2 j else s 2 j)
    rw [va0]; split <;> rfl
  · show va_cpy (cst t 3) (cst s 3) 0 0 5 j = nI (if j < 5 then t 3 j else s 3 j)
    rw [va0]; split <;> rfl
  · show va_cpy (cst t 4) (cst s 4) 0 0 5 j = nI (if j < 5 then t 4 j else s 4 j)
    rw [va0]; split <;> rfl
  · show va_cpy (cst t 5) (cst s 5) 0 0 4 j = nI (if j < 4 then t 5 j else s 5 j)
    rw [va0]; split <;> rfl
  · show va_cpy (cst t 6) (cst s 6) 0 0 4 j = nI (if j < 4 then t 6 j else s 6 j)
    rw [va0]; split <;> rfl
  · show va_cpy (cst t 7) (cst s 7) 0 0 4 j = nI (if j < 4 then t 7 j else s 7 j)
    rw [va0]; split <;> rfl
  · show va_cpy (cst t 8) (cst s 8) 0 0 4 j = nI (if j < 4 then t 8 j else s 8 j)
    rw [va0]; split <;> rfl
  · show va_cpy (cst t 9) (cst s 9) 0 0 4 j = nI (if j < 4 then t 9 j else s 9 j)
    rw [va0]; split <;> rfl
  · rfl
  · rfl
  · rfl
  · rfl
  · show nI (s (k + 14) j) = nI (becH s t (k + 14) j)
    unfold becH
    rw [if_neg (by omega), if_neg (by omega), if_neg (by omega), if_neg (by omega)]
theorem bec0 (s t : Hl) {j : Nat} (h : j < 12) : becH s t 0 j = t 0 j := by show (if j < 12 then _ else _) = _; rw [if_pos h]
theorem bec5 (s t : Hl) {k j : Nat} (h0 : ¬ k = 0) (h1 : k < 5) (h : j < 5) : becH s t k j = t k j := by unfold becH; rw [if_neg h0, if_pos h1, if_pos h]
theorem bec4 (s t : Hl) {k j : Nat} (h0 : 5 ≤ k) (h1 : k < 10) (h : j < 4) : becH s t k j = t k j := by unfold becH; rw [if_neg (by omega), if_neg (by omega), if_pos h1, if_pos h]
theorem bec1 (s t : Hl) {k j : Nat} (h0 : 10 ≤ k) (h1 : k < 14) : becH s t k j = t k 0 := by unfold becH; rw [if_neg (by omega), if_neg (by omega), if_neg (by omega), if_pos h1]
theorem bec_HV {s t : Hl} (v : HV t) : HV (becH s t) := by
  obtain ⟨v1, v2, v3, v4, v5, v6, v7, v8⟩ := v
  have e10 := bec1 s t (k := 10) (j := 0) (by decide) (by decide)
  have e11 := bec1 s t (k := 11) (j := 0) (by decide) (by decide)
  have e12 := bec1 s t (k := 12) (j := 0) (by decide) (by decide)
  have e13 := bec1 s t (k := 13) (j := 0) (by decide) (by decide)
  unfold HV
  rw [e10, e11, e12, e13]
  refine ⟨v1, v2, v3, fun j hj => by rw [bec0 s t hj]; exact v4 j hj, fun g hg => ?_, fun k hk => ?_, fun g hg => ?_, v8⟩
  · rw [bec5 s t (k := 1) (j := g) (by decide) (by decide) (by omega), bec5 s t (k := 2) (j := g) (by decide) (by decide) (by omega), bec5 s t (k := 3) (j := g) (by decide) (by decide) (by omega), bec5 s t (k := 4) (j := g) (by decide) (by decide) (by omega)]
    exact v5 g hg
  · rw [bec4 s t (k := 5) (j := k) (by decide) (by decide) (by omega), bec4 s t (k := 6) (j := k) (by decide) (by decide) (by omega)]
    exact v6 k hk
  · rw [bec4 s t (k := 7) (j := g) (by decide) (by decide) (by omega), bec4 s t (k := 8) (j := g) (by decide) (by decide) (by omega), bec4 s t (k := 9) (j := g) (by decide) (by decide) (by omega)]
    exact v7 g hg
theorem bec_RR {s t : Hl} {r : Nat → Nat} (v : HV t) (R : RR t r) : RR (becH s t) r := by
  obtain ⟨v1, v2, v3, _⟩ := v
  obtain ⟨r1, r2, r3, r4, r5, r6, r7⟩ := R
  have e10 := bec1 s t (k := 10) (j := 0) (by decide) (by decide)
  have e11 := bec1 s t (k := 11) (j := 0) (by decide) (by decide)
  have e12 := bec1 s t (k := 12) (j := 0) (by decide) (by decide)
  have e13 := bec1 s t (k := 13) (j := 0) (by decide) (by decide)
  unfold RR
  rw [e10, e11, e12, e13]
  refine ⟨r1, r2, r3, fun j hj => by rw [bec0 s t hj]; exact r4 j hj, fun g hg i hi => ?_, fun k hk => ?_, fun g hg => ?_⟩
  · rw [bec5 s t (k := 1 + i) (j := g) (by omega) (by omega) (by omega)]
    exact r5 g hg i hi
  · rw [bec4 s t (k := 5) (j := k) (by decide) (by decide) (by omega), bec4 s t (k := 6) (j := k) (by decide) (by decide) (by omega)]
    exact r6 k hk
  · rw [bec4 s t (k := 7) (j := g) (by decide) (by decide) (by omega), bec4 s t (k := 8) (j := g) (by decide) (by decide) (by omega), bec4 s t (k := 9) (j := g) (by decide) (by decide) (by omega)]
    exact r7 g hg
theorem RR_congr {t : Hl} {r r' : Nat → Nat} (v : HV t) (R : RR t r) (e : ∀ i, i < 59 → r' i = r i) : RR t r' := by
  obtain ⟨v1, v2, v3, _⟩ := v
  obtain ⟨r1, r2, r3, r4, r5, r6, r7⟩ := R
  refine ⟨by rw [e 0 (by omega)]; exact r1, by rw [e 1 (by omega)]; exact r2, by rw [e 2 (by omega)]; exact r3, fun j hj => by rw [e _ (by omega)]; exact r4 j hj, fun g hg i hi => by rw [e _ (by omega)]; exact r5 g hg i hi, fun k hk => by rw [e _ (by omega), e _ (by omega), e _ (by omega)]; exact r6 k hk, fun g hg => by rw [e _ (by omega), e _ (by omega), e _ (by omega)]; exact r7 g hg⟩
theorem m_imL {p : Nat} (hp : p < 2) : ∀ d n i (s : St), i + d = 59 → d < n → ∃ s' : St, fX8_image_L32 (nI p) n (nI i) s = some s' ∧ (∀ k, ¬ k = 24 → s' k = s k) ∧ ∀ x, s' 24 x = if 59 * p + i ≤ x ∧ x < 59 * p + 59 then s 5 (x - 59 * p) else s 24 x := by
  intro d
  induction d with
  | zero =>
    intro n i s e hn
    cases n with
    | zero => omega
    | succ n =>
      have e : i = 59 := by omega
      subst e
      refine ⟨s, ?_, fun k _ => rfl, fun x => by rw [if_neg (by omega)]⟩
      rw [fX8_image_L32, if_pos (by decide)]
  | succ d ih =>
    intro n i s e hn
    cases n with
    | zero => omega
    | succ n =>
      obtain ⟨s', f1, f2, f3⟩ := ih n (i + 1) (uA s 24 (nI (59 * p + i)) (s 5 i)) (by omega) (by omega)
      refine ⟨s', ?_, fun k hk => by rw [f2 k hk, uA_ne hk], fun x => ?_⟩
      · rw [fX8_image_L32, if_neg (by rw [show (59 : Int32) = nI 59 from rfl, iLe (by decide) (by omega)]; omega), show (59 : Int32) = nI 59 from rfl, iMul, iAdd, if_pos (by rw [iIn (by omega)]; omega), if_pos (by rw [iIn (by omega)]; omega), q_lts, nI_1, iCl (show i < 2 ^ 31 by omega)]
        exact f1
      · rw [f3 x, uA_ne (by decide)]
        show (if _ then _ else upd (s 24) (nI (59 * p + i)).toNatClampNeg (s 5 i) x) = _
        rw [iCl (by omega)]
        by_cases c : x = 59 * p + i
        · rw [if_neg (by omega), c, upd_same, if_pos (by omega)]; congr 1; omega
        · rw [upd_diff c]
          by_cases c2 : 59 * p + i ≤ x ∧ x < 59 * p + 59
          · rw [if_pos (by omega), if_pos c2]
          · rw [if_neg (by omega), if_neg c2]
theorem m_reL {p : Nat} (hp : p < 2) : ∀ d n i (s : St), i + d = 59 → d < n → ∃ s' : St, fX8_restore_L34 (nI p) n (nI i) s = some s' ∧ (∀ k, ¬ k = 5 → s' k = s k) ∧ ∀ x, s' 5 x = if i ≤ x ∧ x < 59 then s 24 (59 * p + x) else s 5 x := by
  intro d
  induction d with
  | zero =>
    intro n i s e hn
    cases n with
    | zero => omega
    | succ n =>
      have e : i = 59 := by omega
      subst e
      refine ⟨s, ?_, fun k _ => rfl, fun x => by rw [if_neg (by omega)]⟩
      rw [fX8_restore_L34, if_pos (by decide)]
  | succ d ih =>
    intro n i s e hn
    cases n with
    | zero => omega
    | succ n =>
      obtain ⟨s', f1, f2, f3⟩ := ih n (i + 1) (uA s 5 (nI i) (s 24 (59 * p + i))) (by omega) (by omega)
      refine ⟨s', ?_, fun k hk => by rw [f2 k hk, uA_ne hk], fun x => ?_⟩
      · rw [fX8_restore_L34, if_neg (by rw [show (59 : Int32) = nI 59 from rfl, iLe (by decide) (by omega)]; omega), show (59 : Int32) = nI 59 from rfl, iMul, iAdd, if_pos (by rw [iIn (by omega)]; omega), if_pos (by rw [iIn (by omega)]; omega), q_lts, nI_1, iCl (show 59 * p + i < 2 ^ 31 by omega)]
        exact f1
      · rw [f3 x, uA_ne (by decide)]
        show (if _ then _ else upd (s 5) (nI i).toNatClampNeg (s 24 (59 * p + i)) x) = _
        rw [iCl (by omega)]
        by_cases c : x = i
        · rw [if_neg (by omega), c, upd_same, if_pos (by omega)]
        · rw [upd_diff c]
          by_cases c2 : i ≤ x ∧ x < 59
          · rw [if_pos (by omega), if_pos c2]
          · rw [if_neg (by omega), if_neg c2]
section OPS
variable {ro ta ac bo i6 i7 st sp x m : St}
theorem im_or (a b : Bool) (p : Bool) : nI ((if a = true then 1 else 0) + (if b = true then 2 else 0)) ||| ((1 : Int32) <<< (nI (if p = true then 1 else 0) &&& 31)) = nI ((if (a || !p) = true then 1 else 0) + (if (b || p) = true then 2 else 0)) := by
  cases a <;> cases b <;> cases p <;> decide
theorem im_bit (a b : Bool) (p : Bool) : ((nI ((if a = true then 1 else 0) + (if b = true then 2 else 0)) >>> (nI (if p = true then 1 else 0) &&& 31)) &&& (1 : Int32) = 0) = ¬ (if p = true then b else a) = true := by
  cases a <;> cases b <;> cases p <;> exact propext (by decide)
theorem image_sim (R : RelC ro ta ac bo i6 i7 st sp x m) (p : Int32) : ∃ (v : Int64) (x' i6' i7' m' : St), fX7_image x st i6 i7 p = some (v, x', i6', i7') ∧ fX8_image m p = some (v, m') ∧ RelC ro ta ac bo i6' i7' st sp x' m' := by
  have R0 := Rel0 R
  obtain ⟨h, h6, h7, h9, rfl, rfl, rfl, rfl, ⟨hv, r, hR, hM⟩, hrow, htape, hacts, himg, htr, hx⟩ := R
  have hM0 : HM (u1 m 0 0) r := hM
  unfold fX7_image fX8_image
  rw [q_lts, c_isImage, inp_ok p 0 1 0 1 rfl rfl, q_b1s, q_b1s]
  simp only [b01]
  by_cases c1 : inR p 0 1 = true
  · have k1 : ¬ ¬ inR p 0 1 = true := fun n => n c1
    rw [if_neg k1, if_neg k1, hx.1, show (u1 m 0 0) 7 0 = m 7 0 from rfl]
    by_cases c0 : m 7 0 = 0
    · exact ⟨_, _, _, _, _, by rw [if_pos c0], by rw [if_pos c0], R0⟩
    rw [if_neg c0, if_neg c0]
    obtain ⟨a, b, g1, g2, g3, g4, g5⟩ := himg
    obtain ⟨j, j1, j2, j3, rfl⟩ := inR_of (by decide) (by decide) c1
    obtain ⟨s', f1, f2, f3⟩ := m_imL (p := j) (by omega) 59 5000 0 (u1 m 0 0) (by omega) (by omega)
    have f1 : fX8_image_L32 (nI j) 5000 0 (u1 m 0 0) = some s' := f1
    have ib : inb (nI j) 2 := by rw [iIn j3]; omega
    rw [f1, q_b1s, if_pos ib, q_lts]
    have hj : j = 0 ∨ j = 1 := by omega
    rcases hj with rfl | rfl
    · rw [if_pos (show nI 0 = 0 from rfl), bec_ok, q_b1s, q_lts]
      refine ⟨_, _, _, _, _, rfl, rfl, h, becH h6 h, h7, h9, rfl, rfl, rfl, rfl, ⟨hv, r, hR, ?_⟩, ?_, ?_, ?_, ?_, ?_, ?_⟩
      · intro i; rw [uA_ne (by decide), f2 5 (by decide)]; exact hM0 i
      · rw [uA_ne (by decide), uA_ne (by decide), uA_ne (by decide), f2 2 (by decide), f2 3 (by decide), f2 4 (by decide)]; exact hrow
      · rw [uA_ne (by decide), uA_ne (by decide), f2 10 (by decide), f2 11 (by decide)]; exact htape
      · rw [uA_ne (by decide), uA_ne (by decide), f2 8 (by decide), f2 9 (by decide)]; exact hacts
      · refine ⟨true, b, ?_, ?_, ?_, fun _ => ⟨bec_HV hv, r, bec_RR hv hR, fun i hi => ?_⟩, fun hb => ?_⟩
        · show x 11 0 ||| _ = _
          rw [g1]
          exact (im_or a b false).trans (by cases a <;> cases b <;> rfl)
        · rfl
        · show upd (s' 23) 0 (vp_nar .boolean 1) 1 = _
          rw [upd_diff (by decide), f2 23 (by decide)]; exact g3
        · rw [uA_ne (by decide), f3 i, if_pos (by omega)]
          show m 5 (i - 59 * 0) = _
          rw [Nat.mul_zero, Nat.sub_zero]; exact hM i
        · obtain ⟨q1, q2, q3, q4⟩ := g5 hb
          refine ⟨q1, q2, q3, fun i hi => ?_⟩
          rw [uA_ne (by decide), f3, if_neg (by omega)]
          exact q4 i hi
      · rw [uA_ne (by decide), uA_ne (by decide), f2 25 (by decide), f2 26 (by decide)]; exact htr
      · rw [uA_ne (by decide), uA_ne (by decide), uA_ne (by decide), f2 7 (by decide), f2 12 (by decide), f2 1 (by decide)]; exact hx
    · rw [if_neg (show ¬ nI 1 = 0 by decide), bec_ok, q_b1s, q_lts]
      refine ⟨_, _, _, _, _, rfl, rfl, h, h6, becH h7 h, h9, rfl, rfl, rfl, rfl, ⟨hv, r, hR, ?_⟩, ?_, ?_, ?_, ?_, ?_, ?_⟩
      · intro i; rw [uA_ne (by decide), f2 5 (by decide)]; exact hM0 i
      · rw [uA_ne (by decide), uA_ne (by decide), uA_ne (by decide), f2 2 (by decide), f2 3 (by decide), f2 4 (by decide)]; exact hrow
      · rw [uA_ne (by decide), uA_ne (by decide), f2 10 (by decide), f2 11 (by decide)]; exact htape
      · rw [uA_ne (by decide), uA_ne (by decide), f2 8 (by decide), f2 9 (by decide)]; exact hacts
      · refine ⟨a, true, ?_, ?_, ?_, fun ha => ?_, fun _ => ⟨bec_HV hv, r, bec_RR hv hR, fun i hi => ?_⟩⟩
        · show x 11 0 ||| _ = _
          rw [g1]
          exact (im_or a b true).trans (by cases a <;> cases b <;> rfl)
        · show upd (s' 23) 1 (vp_nar .boolean 1) 0 = _
          rw [upd_diff (by decide), f2 23 (by decide)]; exact g2
        · rfl
        · obtain ⟨q1, q2, q3, q4⟩ := g4 ha
          refine ⟨q1, q2, q3, fun i hi => ?_⟩
          rw [uA_ne (by decide), f3, if_neg (by omega)]
          exact q4 i hi
        · rw [uA_ne (by decide), f3, if_pos (by omega)]
          show m 5 (59 + i - 59 * 1) = _
          rw [show 59 + i - 59 * 1 = i by omega]; exact hM i
      · rw [uA_ne (by decide), uA_ne (by decide), f2 25 (by decide), f2 26 (by decide)]; exact htr
      · rw [uA_ne (by decide), uA_ne (by decide), uA_ne (by decide), f2 7 (by decide), f2 12 (by decide), f2 1 (by decide)]; exact hx
  · exact ⟨_, _, _, _, _, by rw [if_pos c1], by rw [if_pos c1], R0⟩
theorem actsNil {a : St} {h h' : Hl} {m8 m8' : Nat → Int32} {m9 : Int32} (A : rActs a h m8 m9) (c : ∀ j, h' 13 j = h' 13 0) : rActs (u1 a 4 0) h' m8' 0 := by
  obtain ⟨n, nx, hs, rs, E, a1, a2, a3, a4, a5, a6, a7⟩ := A
  exact ⟨0, nx, fun _ => h', rs, E, by decide, a2, a3, rfl, rfl, rfl, fun _ _ => c, fun k hk => by omega⟩
theorem restore_sim (R : RelC ro ta ac bo i6 i7 st sp x m) (p : Int32) : ∃ (v : Int64) (st' ac' m' : St), fX7_restore x st i6 i7 ac p = some (v, st', ac') ∧ fX8_restore m p = some (v, m') ∧ RelC ro ta ac' bo i6 i7 st' sp x m' := by
  have R0 := Rel0 R
  obtain ⟨h, h6, h7, h9, rfl, rfl, rfl, rfl, ⟨hv, r, hR, hM⟩, hrow, htape, hacts, himg, htr, hx⟩ := R
  have hM0 : HM (u1 m 0 0) r := hM
  have himg2 := himg
  unfold fX7_restore fX8_restore
  rw [q_lts, c_isImage, inp_ok p 0 1 0 1 rfl rfl, q_b1s, q_b1s]
  simp only [b01]
  by_cases c1 : inR p 0 1 = true
  · have k1 : ¬ ¬ inR p 0 1 = true := fun n => n c1
    obtain ⟨a, b, g1, g2, g3, g4, g5⟩ := himg
    obtain ⟨j, j1, j2, j3, rfl⟩ := inR_of (by decide) (by decide) c1
    have ib : inb (nI j) 2 := by rw [iIn j3]; omega
    rw [if_neg k1, if_neg k1, if_pos ib, show (u1 m 0 0) 23 = m 23 from rfl, iCl j3, g1]
    obtain ⟨s', f1, f2, f3⟩ := m_reL (p := j) (by omega) 59 5000 0 (u1 m 0 0) (by omega) (by omega)
    have f1 : fX8_restore_L34 (nI j) 5000 0 (u1 m 0 0) = some s' := f1
    have hj : j = 0 ∨ j = 1 := by omega
    have fin : ∀ (h8 : Hl) (r8 : Nat → Nat), HV h8 → RR h8 r8 → (∀ i, i < 59 → m 24 (59 * j + i) = nI (r8 i)) → RelC ro ta (u1 ac 4 0) bo (cst h6) (cst h7) (cst (becH h h8)) (cst h9) x (u1 s' 9 0) := by
      intro h8 r8 v8 q8 w8
      refine ⟨becH h h8, h6, h7, h9, rfl, rfl, rfl, rfl, ⟨bec_HV v8, fun i => if i < 59 then r8 i else r i, RR_congr (bec_HV v8) (bec_RR v8 q8) (fun i hi => if_pos hi), fun i => ?_⟩, ?_, ?_, ?_, ?_, ?_, ?_⟩
      · rw [u1_ne (by decide), f3 i]
        show _ = nI (if i < 59 then r8 i else r i)
        by_cases c : i < 59
        · rw [if_pos ⟨Nat.zero_le i, c⟩, if_pos c]; exact w8 i c
        · rw [if_neg (fun q => c q.2), if_neg c]; exact hM i
      · rw [u1_ne (by decide), u1_ne (by decide), u1_ne (by decide), f2 2 (by decide), f2 3 (by decide), f2 4 (by decide)]; exact hrow
      · rw [u1_ne (by decide), u1_ne (by decide), f2 10 (by decide), f2 11 (by decide)]; exact htape
      · exact actsNil hacts (fun j => by rw [bec1 h h8 (by decide) (by decide), bec1 h h8 (by decide) (by decide)])
      · rw [u1_ne (by decide), u1_ne (by decide), f2 23 (by decide), f2 24 (by decide)]; exact himg2
      · rw [u1_ne (by decide), u1_ne (by decide), f2 25 (by decide), f2 26 (by decide)]; exact htr
      · rw [u1_ne (by decide), u1_ne (by decide), u1_ne (by decide), f2 7 (by decide), f2 12 (by decide), f2 1 (by decide)]; exact hx
    unfold fX0_forgetAll
    rcases hj with rfl | rfl
    · have e0 := im_bit a b false
      have e0 : ((nI ((if a = true then 1 else 0) + (if b = true then 2 else 0)) >>> (nI 0 &&& 31)) &&& (1 : Int32) = 0) = ¬ a = true := e0
      rw [g2]
      simp only [e0]
      cases a with
      | false => exact ⟨_, _, _, _, by rw [if_pos (by decide)], by rw [if_pos (by decide)], R0⟩
      | true =>
        obtain ⟨q1, q2, q3, q4⟩ := g4 rfl
        rw [if_neg (show ¬ ¬ true = true by decide), if_neg (show ¬ nI (if true = true then 1 else 0) = 0 by decide), if_pos (show nI 0 = 0 from rfl), bec_ok, q_b1s, q_lts, q_b1s, f1, q_b1s, q_lts]
        exact ⟨_, _, _, _, rfl, rfl, fin h6 q2 q1 q3 (fun i hi => by rw [show 59 * 0 + i = i by omega]; exact q4 i hi)⟩
    · have e0 := im_bit a b true
      have e0 : ((nI ((if a = true then 1 else 0) + (if b = true then 2 else 0)) >>> (nI 1 &&& 31)) &&& (1 : Int32) = 0) = ¬ b = true := e0
      rw [g3]
      simp only [e0]
      cases b with
      | false => exact ⟨_, _, _, _, by rw [if_pos (by decide)], by rw [if_pos (by decide)], R0⟩
      | true =>
        obtain ⟨q1, q2, q3, q4⟩ := g5 rfl
        rw [if_neg (show ¬ ¬ true = true by decide), if_neg (show ¬ nI (if true = true then 1 else 0) = 0 by decide), if_neg (show ¬ nI 1 = 0 by decide), bec_ok, q_b1s, q_lts, q_b1s, f1, q_b1s, q_lts]
        exact ⟨_, _, _, _, rfl, rfl, fin h7 q2 q1 q3 (fun i hi => by rw [show 59 * 1 + i = 59 + i by omega]; exact q4 i hi)⟩
  · exact ⟨_, _, _, _, by rw [if_pos c1], by rw [if_pos c1], R0⟩
end OPS
