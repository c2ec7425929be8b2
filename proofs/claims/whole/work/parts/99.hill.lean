/-! hill -/
theorem nI_back {v : Nat} (h : v < 2 ^ 32) : (nI v).toBitVec.toNat = v := by
  show (BitVec.ofNat 32 v).toNat = v
  rw [BitVec.toNat_ofNat, Nat.mod_eq_of_lt h]
theorem nI_any (x : Int32) : nI x.toBitVec.toNat = x := by
  apply Int32.toBitVec_inj.mp
  show BitVec.ofNat 32 x.toBitVec.toNat = x.toBitVec
  rw [BitVec.ofNat_toNat, BitVec.setWidth_eq]
section H99
variable {m0 : St} {b : Nat → Nat} {u p q s : Nat} {a m m1 rd : St} {hp : Hl}
theorem zeroL : ∀ d n i (m : St), i + d = 59 → d < n → ∃ m', fX8_hill_L11 n (nI i) m = some m' ∧ (∀ k, ¬ k = 6 → m' k = m k) ∧ (∀ x, x < i → m' 6 x = m 6 x) ∧ ∀ x, i ≤ x → x < 59 → m' 6 x = 0 := by
  intro d
  induction d with
  | zero =>
    intro n i m e hn
    cases n with
    | zero => omega
    | succ n =>
      have e : i = 59 := by omega
      subst e
      exact ⟨m, by rw [fX8_hill_L11, if_pos (by decide)], fun _ _ => rfl, fun _ _ => rfl, fun x a b => by omega⟩
  | succ d ih =>
    intro n i m e hn
    cases n with
    | zero => omega
    | succ n =>
      obtain ⟨m', f1, f2, f3, f4⟩ := ih n (i + 1) (uA m 6 (nI i) 0) (by omega) (by omega)
      refine ⟨m', ?_, fun k hk => by rw [f2 k hk, uA_ne hk], fun x hx => ?_, fun x h1 h2 => ?_⟩
      · rw [fX8_hill_L11, if_neg (by rw [show (59 : Int32) = nI 59 from rfl, iLe (by decide) (by omega)]; omega), if_pos (by rw [iIn (by omega)]; omega), q_lts, nI_1]
        exact f1
      · rw [f3 x (by omega)]
        show upd (m 6) (nI i).toNatClampNeg 0 x = _
        rw [iCl (by omega), upd_diff (by omega)]
      · by_cases c : x = i
        · rw [f3 x (by omega), c]
          show upd (m 6) (nI i).toNatClampNeg 0 i = _
          rw [iCl (by omega), upd_same]
        · exact f4 x (by omega) h2
theorem cpL : ∀ d n i (m : St), i + d = 59 → d < n → ∃ m', fX8_hill_L145 n (nI i) m = some m' ∧ (∀ k, ¬ k = 5 → m' k = m k) ∧ ∀ x, m' 5 x = if i ≤ x ∧ x < 59 then m 6 x else m 5 x := by
  intro d
  induction d with
  | zero =>
    intro n i m e hn
    cases n with
    | zero => omega
    | succ n =>
      have e : i = 59 := by omega
      subst e
      exact ⟨m, by rw [fX8_hill_L145, if_pos (by decide)], fun _ _ => rfl, fun x => by rw [if_neg (by omega)]⟩
  | succ d ih =>
    intro n i m e hn
    cases n with
    | zero => omega
    | succ n =>
      obtain ⟨m', f1, f2, f3⟩ := ih n (i + 1) (uA m 5 (nI i) (m 6 i)) (by omega) (by omega)
      refine ⟨m', ?_, fun k hk => by rw [f2 k hk, uA_ne hk], fun x => ?_⟩
      · rw [fX8_hill_L145, if_neg (by rw [show (59 : Int32) = nI 59 from rfl, iLe (by decide) (by omega)]; omega), if_pos (by rw [iIn (by omega)]; omega), if_pos (by rw [iIn (by omega)]; omega), q_lts, nI_1, iCl (by omega)]
        exact f1
      · rw [f3 x, uA_ne (by decide)]
        show (if _ then _ else upd (m 5) (nI i).toNatClampNeg (m 6 i) x) = _
        rw [iCl (by omega)]
        by_cases c : x = i
        · rw [if_neg (by omega), c, upd_same, if_pos (by omega)]
        · rw [upd_diff c]
          by_cases c2 : i ≤ x ∧ x < 59
          · rw [if_pos (by omega), if_pos c2]
          · rw [if_neg (by omega), if_neg c2]
theorem PH_HV (P : PH hp (m 6) 12) : HV hp := by
  obtain ⟨⟨a1, a2, a3, a4⟩, ⟨b1, b2, b3⟩, c, d, e, e2, f⟩ := P
  refine ⟨a1, a2, a3, fun j hj => (c j hj).2, fun g hg => (d g hg).2.2.2.2, fun k hk => (e k hk).2.2, fun t ht => (f t ht).2.2.2, ?_⟩
  rw [a4 0]
  exact Nat.pow_pos (by decide)
theorem PH_RR (P : PH hp (m 6) 12) (r0 : Nat → Nat) : RR hp (fun i => if i < 59 then (m 6 i).toBitVec.toNat else r0 i) := by
  obtain ⟨⟨a1, a2, a3, a4⟩, ⟨b1, b2, b3⟩, c, d, e, e2, f⟩ := P
  have key : ∀ i v, i < 59 → m 6 i = nI v → v < 2 ^ 31 → (if i < 59 then (m 6 i).toBitVec.toNat else r0 i) = v := fun i v hi h hv => by
    rw [if_pos hi, h]; exact nI_back (by omega)
  refine ⟨key 0 _ (by decide) b1 (by omega), key 1 _ (by decide) b2 (by omega), key 2 _ (by decide) b3 (by omega), fun j hj => key _ _ (by omega) (c j hj).1 (by have := (c j hj).2; omega), fun g hg i hi => ?_, fun k hk => ?_, fun t ht => ?_⟩
  · obtain ⟨d1, d2, d3, d4, d5, d6, d7, d8⟩ := d g hg
    have : i = 0 ∨ i = 1 ∨ i = 2 ∨ i = 3 := by omega
    rcases this with q | q | q | q <;> subst q
    · exact key _ (hp 1 g) (by omega) d1 (by omega)
    · exact key _ (hp 2 g) (by omega) d2 (by omega)
    · exact key _ (hp 3 g) (by omega) d3 (by omega)
    · exact key _ (hp 4 g) (by omega) d4 (by omega)
  · obtain ⟨d1, d2, d3, d4⟩ := e k hk
    refine ⟨key _ _ (by omega) d1 (by omega), key _ _ (by omega) d2 (by omega), ?_⟩
    rw [a4 0, Nat.zero_testBit]
    exact key _ 0 (by omega) (e2 k (by omega)) (by decide)
  · obtain ⟨d1, d2, d3, d4, d5, d6, d7⟩ := f t ht
    exact ⟨key _ _ (by omega) d1 (by omega), key _ _ (by omega) d2 (by omega), key _ _ (by omega) d3 (by omega)⟩
/-- the reference after its winds, up to the fault or the end -/
def mBody (z7 : St) : Option St :=
  q_b1 (fX8_readWinds z7) fun sc11 =>
  q_b1 (fX8_hill_L34 5000 sc11) (fun (z15 : St) =>
  q_b1 (fX8_hill_L52 5000 z15) (fun (z23 : St) =>
  q_b1 (fX8_hill_L70 5000 z23) (fun (z31 : St) =>
  q_b1 (if (z31 18 0) = 0 then
  (if (z31 15 0) = (1 : Int32) then
  some z31
  else
  q_b1 (fX8_bad z31 (1 : Int32)) fun sc54 =>
  some sc54)
  else
  some z31) (fun (sj37 : St) => some sj37))))
def cBody (rd a hl : St) : Option (Int32 × St × St × St) :=
  q_b4 (fX4_readWinds rd a hl) fun r5 sc6 sc7 sc8 =>
  (if r5 = 0 then
  some ((0 : Int32), sc6, sc7, sc8)
  else
  q_b4 (fX4_readGraves sc6 sc7 sc8) fun r11 sc12 sc13 sc14 =>
  (if r11 = 0 then
  some ((0 : Int32), sc12, sc13, sc14)
  else
  q_b4 (fX4_readHorns sc12 sc13 sc14) fun r17 sc18 sc19 sc20 =>
  (if r17 = 0 then
  some ((0 : Int32), sc18, sc19, sc20)
  else
  q_b4 (fX4_readTrees sc18 sc19 sc20) fun r23 sc24 sc25 sc26 =>
  (if r23 = 0 then
  some ((0 : Int32), sc24, sc25, sc26)
  else
  q_b1 (fX6_isSort sc25 (0 : Int32)) fun r29 =>
  (if r29 = 0 then
  q_b2 (fX4_refuse sc24 sc25 (1 : Int32)) fun r32 sc33 =>
  (if r32 = 0 then
  some ((0 : Int32), sc33, sc25, sc26)
  else
  some ((1 : Int32), sc33, sc25, sc26))
  else
  some ((1 : Int32), sc24, sc25, sc26))))))
theorem body_ok (G : GD m0 b u p q s a m) (P : PH hp (m 6) 0) (h10 : hp 10 0 = 0) (h11 : hp 11 0 = 0) (h12 : hp 12 0 = 0) (rd : St) : (∃ (rd' a' m' : St) (hp' : Hl), cBody rd a (cst hp) = some (1, rd', a', cst hp') ∧ mBody m = some m' ∧ m' 18 0 = 0 ∧ Fr m0 m' ∧ PH hp' (m' 6) 12) ∨ (∃ (f pl : Nat) (rd' a' m' : St) (hp' : Hl), cBody rd a (cst hp) = some (0, rd', a', cst hp') ∧ mBody m = some m' ∧ RF f pl rd' ∧ BD m0 b u f pl a' m') := by
  have n1 : ¬ (1 : Int32) = 0 := by decide
  unfold cBody mBody
  rcases winds_ok G P rd with ⟨p1, q1, s1, rd1, a1, m1, hp1, x1, x2, x3, x4, x5, x6, x7⟩ | ⟨f, pl, rd1, a1, m1, hp1, x1, x2, x3, x4⟩
  · rw [x1, x2, q_b4s, q_b1s, if_neg n1]
    rcases gravesB 5 5000 5000 0 p1 q1 s1 rd1 a1 m1 hp1 (by decide) (by decide) (by decide) x3 x4 (x5.trans h10) with ⟨p2, q2, s2, rd2, a2, m2, hp2, y1, y2, y3, y4, y5, y6⟩ | ⟨f, pl, rd2, a2, m2, hp2, y1, y2, y3, y4⟩
    · have y1 : fX4_readGraves rd1 a1 (cst hp1) = some (1, rd2, a2, cst hp2) := y1
      rw [y1, y2, q_b4s, q_b1s, if_neg n1]
      rcases hornsB 4 5000 5000 0 p2 q2 s2 rd2 a2 m2 hp2 (by decide) (by decide) (by decide) y3 y4 (y5.trans (x6.trans h11)) with ⟨p3, q3, s3, rd3, a3, m3, hp3, v1, v2, v3, v4, v5⟩ | ⟨f, pl, rd3, a3, m3, hp3, v1, v2, v3, v4⟩
      · have v1 : fX4_readHorns rd2 a2 (cst hp2) = some (1, rd3, a3, cst hp3) := v1
        rw [v1, v2, q_b4s, q_b1s, if_neg n1]
        rcases treesB 4 5000 5000 0 p3 q3 s3 rd3 a3 m3 hp3 (by decide) (by decide) (by decide) v3 v4 (v5.trans (y6.trans (x7.trans h12))) with ⟨p4, q4, s4, rd4, a4, m4, hp4, w1, w2, w3, w4⟩ | ⟨f, pl, rd4, a4, m4, hp4, w1, w2, w3, w4⟩
        · have w1 : fX4_readTrees rd3 a3 (cst hp3) = some (1, rd4, a4, cst hp4) := w1
          have T := w3.1
          have es : fX6_isSort a4 0 = some (if s4 = 0 then 1 else 0) := sort_c T (k := 0) (by decide)
          have e15 : (m4 15 0 = 1) = (s4 = 0) := sort_m T (k := 0) (j := 1) (by decide) rfl
          rw [w1, w2, q_b4s, q_b1s, if_neg n1, es, q_b1s, if_pos w3.2.1]
          by_cases c : s4 = 0
          · refine Or.inl ⟨rd4, a4, m4, hp4, ?_, ?_, w3.2.1, w3.2.2, w4⟩
            · rw [if_pos c, if_neg n1]
            · rw [if_pos (by rw [e15]; exact c), q_b1s]
          · obtain ⟨m', y1, y2, y3⟩ := bad_ok w3 (f := 1) (by decide) (by decide)
            have y1 : fX8_bad m4 1 = some m' := y1
            obtain ⟨rd', z1, z2⟩ := refuse_ok T rd4 1
            have z1 : fX4_refuse rd4 a4 1 = some (0, rd') := z1
            refine Or.inr ⟨1, p4, rd', a4, m', hp4, ?_, ?_, z2, y2⟩
            · rw [if_neg c, if_pos rfl, z1, q_b2s, if_pos rfl]
            · rw [if_neg (by rw [e15]; exact c), y1, q_b1s, q_b1s]
        · have w1 : fX4_readTrees rd3 a3 (cst hp3) = some (0, rd4, a4, cst hp4) := w1
          refine Or.inr ⟨f, pl, rd4, a4, m4, hp4, ?_, ?_, w3, w4⟩
          · rw [w1, q_b4s, if_pos rfl]
          · rw [w2, q_b1s, if_neg (bd18 w4).1, q_b1s]
      · have v1 : fX4_readHorns rd2 a2 (cst hp2) = some (0, rd3, a3, cst hp3) := v1
        refine Or.inr ⟨f, pl, rd3, a3, m3, hp3, ?_, ?_, v3, v4⟩
        · rw [v1, q_b4s, if_pos rfl]
        · rw [v2, q_b1s, stop70 v4, q_b1s, if_neg (bd18 v4).1, q_b1s]
    · have y1 : fX4_readGraves rd1 a1 (cst hp1) = some (0, rd2, a2, cst hp2) := y1
      refine Or.inr ⟨f, pl, rd2, a2, m2, hp2, ?_, ?_, y3, y4⟩
      · rw [y1, q_b4s, if_pos rfl]
      · rw [y2, q_b1s, stop52 y4, q_b1s, stop70 y4, q_b1s, if_neg (bd18 y4).1, q_b1s]
  · refine Or.inr ⟨f, pl, rd1, a1, m1, hp1, ?_, ?_, x3, x4⟩
    · rw [x1, q_b4s, if_pos rfl]
    · rw [x2, q_b1s, stop34 x4, q_b1s, stop52 x4, q_b1s, stop70 x4, q_b1s, if_neg (bd18 x4).1, q_b1s]
end H99
section OPS
variable {ro ta ac bo i6 i7 st sp x m : St}
theorem hill_sim (R : RelC ro ta ac bo i6 i7 st sp x m) (g : Nat → Nat) (rd : St) : ∃ (v : Int64) (g' : Nat → Nat) (x' rd' ta' sp' ac' m' : St), fX7_hill g x rd ta sp ac = some (v, g', x', rd', ta', sp', ac') ∧ fX8_hill m = some (v, m') ∧ ((g' = g ∧ RelC ro ta' ac' bo i6 i7 st sp' x' m') ∨ (g' = gU (gU g 8 (g 9)) 9 (g 8) ∧ RelC ro ta' ac' bo i6 i7 sp' st x' m')) := by
  obtain ⟨h, h6, h7, h9, rfl, rfl, rfl, rfl, ⟨hv, r, hR, hM⟩, hrow, htape, hacts, himg, htr, hx⟩ := R
  obtain ⟨u, b, tu, t1, t2, t3, t4⟩ := htape
  have ef : ∃ mb : St, mb = u1 (u1 (u1 (u1 (u1 m 0 0) 13 (nI u)) 11 0) 14 0) 18 0 := ⟨_, rfl⟩
  obtain ⟨mb, hmb⟩ := ef
  have eb : ∀ k, ¬ k = 0 → ¬ k = 11 → ¬ k = 13 → ¬ k = 14 → ¬ k = 18 → mb k = m k := fun k k0 k1 k2 k3 k4 => by rw [hmb, u1_ne k4, u1_ne k3, u1_ne k1, u1_ne k2, u1_ne k0]
  have Tb0 : Tb b u (u1 ta 3 0) mb := ⟨tu, t3, by rw [u1_ne (by decide)]; exact t1, by rw [hmb]; rfl, fun i hi => by rw [u1_ne (by decide), eb 10 (by decide) (by decide) (by decide) (by decide) (by decide)]; exact t4 i hi⟩
  obtain ⟨p, q, s, a1, m1, f1, f2, f3, f4, f5⟩ := nextL Tb0 (q := 0) (Nat.zero_le u) rfl (by rw [hmb]; rfl)
  obtain ⟨m2, z1, z2, z3, z4⟩ := zeroL 59 5000 0 m1 (by decide) (by decide)
  have z1 : fX8_hill_L11 5000 0 m1 = some m2 := z1
  have em2 : m2 = u2 m1 6 (m2 6) := by
    funext k
    by_cases c : k = 6
    · rw [c, u2_at]
    · rw [u2_ne c, z2 k c]
  have G1 : GD mb b u p q s a1 m1 := ⟨f3, by rw [f5 18 (by decide) (by decide) (by decide) (by decide), hmb]; rfl, fun k k6 hk => f5 k (by omega) (by omega) (by omega) (by omega)⟩
  have G : GD mb b u p q s a1 m2 := by rw [em2]; exact gd_6 G1 _
  have hcl : fX3_clear (cst h9) = some (cst (h1 (h1 (h1 (h1 h9 10 0) 11 0) 12 0) 13 0)) := by
    unfold fX3_clear
    rw [q_lts, q_lts, q_lts, q_lts, show (0 : Int32) = nI 0 from rfl, u1_cst, u1_cst, u1_cst, u1_cst]
  have P : PH (h1 (h1 (h1 (h1 h9 10 0) 11 0) 12 0) 13 0) (m2 6) 0 := ⟨⟨Nat.zero_le _, Nat.zero_le _, Nat.zero_le _, fun j => rfl⟩, ⟨z4 0 (by decide) (by decide), z4 1 (by decide) (by decide), z4 2 (by decide) (by decide)⟩, fun j hj => by omega, fun k hk => absurd hk (Nat.not_lt_zero k), fun k hk => absurd hk (Nat.not_lt_zero k), fun k hk => z4 _ (by omega) (by omega), fun k hk => absurd hk (Nat.not_lt_zero k)⟩
  have ebeg : fX8_begin (u1 m 0 0) = some m1 := by
    unfold fX8_begin
    rw [q_lts, q_lts, q_lts, q_lts, show (u1 m 0 0) 11 0 = nI u from t2, ← hmb, f2, q_b1s]
  have efst : fX6_readFirst ta = some a1 := by
    unfold fX6_readFirst
    rw [q_lts, f1, q_b1s]
  have einto : fX4_readInto rd ta (cst h9) = cBody rd a1 (cst (h1 (h1 (h1 (h1 h9 10 0) 11 0) 12 0) 13 0)) := by
    unfold fX4_readInto
    rw [hcl, q_b1s, efst, q_b1s]
    rfl
  have ehill : ∀ mz, mBody m2 = some mz → fX8_hill m = (if (mz 18 0) ≤ 0 then
      q_lt (u1 mz 7 (1 : Int32)) fun sn40 =>
      q_lt (u1 sn40 9 (0 : Int32)) fun sn41 =>
      q_b1 (fX8_hill_L145 5000 (0 : Int32) sn41) (fun (z45 : St) =>
      if inb (0 : Int32) 59 then
      some (((z45 5 (0 : Int32).toNatClampNeg).toInt64), z45)
      else none)
      else
      q_lt (u1 mz 12 (mz 18 0)) fun sn51 =>
      some (((-9000000000000000100 : Int64) - ((sn51 19 0).toInt64)), sn51)) := by
    intro mz e
    unfold fX8_hill
    rw [q_lts, ebeg, q_b1s, z1, q_b1s]
    unfold mBody at e
    cases y1 : fX8_readWinds m2 with
    | none => rw [y1] at e; cases e
    | some w1 =>
      rw [y1, q_b1s] at e
      rw [q_b1s]
      cases y2 : fX8_hill_L34 5000 w1 with
      | none => rw [y2] at e; cases e
      | some w2 =>
        rw [y2, q_b1s] at e
        rw [q_b1s]
        cases y3 : fX8_hill_L52 5000 w2 with
        | none => rw [y3] at e; cases e
        | some w3 =>
          rw [y3, q_b1s] at e
          rw [q_b1s]
          cases y4 : fX8_hill_L70 5000 w3 with
          | none => rw [y4] at e; cases e
          | some w4 =>
            rw [y4, q_b1s] at e
            rw [q_b1s]
            revert e
            generalize (if (w4 18 0) = 0 then (if (w4 15 0) = (1 : Int32) then some w4 else q_b1 (fX8_bad w4 (1 : Int32)) fun sc54 => some sc54) else some w4) = o
            intro e
            cases o with
            | none => cases e
            | some w5 =>
              rw [q_b1s] at e
              cases e
              rfl
  unfold fX7_hill
  rw [einto]
  rcases body_ok G P rfl rfl rfl rd with ⟨rd', a', m3, hp', x1, x2, x3, x4, x5⟩ | ⟨f, pl, rd', a', m3, hp', x1, x2, x3, x4⟩
  · have em3 : ∀ k, ¬ k = 0 → ¬ k = 6 → ¬ k = 11 → ¬ k = 13 → (k < 14 ∨ 19 < k) → m3 k = m k := fun k k0 k6 k11 k13 hk => by rw [x4 k k6 hk, eb k k0 k11 k13 (by omega) (by omega)]
    rw [x1, q_b4s, ehill m3 x2, if_pos (by rw [x3]; decide), q_lts (u1 m3 7 1), q_lts (u1 (u1 m3 7 1) 9 0)]
    obtain ⟨m4, c1, c2, c3⟩ := cpL 59 5000 0 (u1 (u1 m3 7 1) 9 0) (by decide) (by decide)
    have c1 : fX8_hill_L145 5000 0 (u1 (u1 m3 7 1) 9 0) = some m4 := c1
    have e5 : m4 5 (0 : Int32).toNatClampNeg = cst hp' 10 0 := by
      show m4 5 0 = _
      rw [c3 0, if_pos (by decide), u1_ne (by decide), u1_ne (by decide)]
      exact x5.2.1.1
    have em4 : ∀ k, ¬ k = 0 → ¬ k = 5 → ¬ k = 6 → ¬ k = 7 → ¬ k = 9 → ¬ k = 11 → ¬ k = 13 → (k < 14 ∨ 19 < k) → m4 k = m k := fun k k0 k5 k6 k7 k9 k11 k13 hk => by rw [c2 k k5, u1_ne k9, u1_ne k7, em3 k k0 k6 k11 k13 hk]
    rw [c1, q_b1s, if_pos (by decide), e5]
    unfold fX6_clear fX0_forgetAll
    rw [q_lts, q_b1s, if_neg (show ¬ (1 : Int32) = 0 by decide), q_lts, q_lts, q_lts, q_lts, q_b1s]
    have M4 : HM m4 (fun i => if i < 59 then (m3 6 i).toBitVec.toNat else r i) := by
      intro i
      show _ = nI (if i < 59 then (m3 6 i).toBitVec.toNat else r i)
      rw [c3 i]
      by_cases c : i < 59
      · rw [if_pos ⟨Nat.zero_le i, c⟩, if_pos c, nI_any, u1_ne (by decide), u1_ne (by decide)]
      · rw [if_neg (fun q => c q.2), if_neg c, u1_ne (by decide), u1_ne (by decide), em3 5 (by decide) (by decide) (by decide) (by decide) (by decide)]; exact hM i
    refine ⟨_, _, _, _, _, _, _, _, rfl, rfl, Or.inr ⟨rfl, hp', h6, h7, h, rfl, rfl, rfl, rfl, ⟨PH_HV x5, _, PH_RR x5 r, M4⟩, ?_, ?_, ?_, ?_, ?_, ?_⟩⟩
    · rw [em4 2 (by decide) (by decide) (by decide) (by decide) (by decide) (by decide) (by decide) (by decide), em4 3 (by decide) (by decide) (by decide) (by decide) (by decide) (by decide) (by decide) (by decide), em4 4 (by decide) (by decide) (by decide) (by decide) (by decide) (by decide) (by decide) (by decide)]; exact hrow
    · refine ⟨0, fun _ => 0, by decide, rfl, ?_, fun _ => show 0 < 256 by decide, fun i hi => by omega⟩
      rw [c2 11 (by decide), u1_ne (by decide), u1_ne (by decide), x4 11 (by decide) (by decide), hmb]; rfl
    · have e9 : m4 9 0 = 0 := by rw [c2 9 (by decide)]; rfl
      rw [e9]
      exact actsNil hacts (fun j => by rw [x5.1.2.2.2 j, x5.1.2.2.2 0])
    · rw [em4 23 (by decide) (by decide) (by decide) (by decide) (by decide) (by decide) (by decide) (by decide), em4 24 (by decide) (by decide) (by decide) (by decide) (by decide) (by decide) (by decide) (by decide)]; exact himg
    · rw [em4 25 (by decide) (by decide) (by decide) (by decide) (by decide) (by decide) (by decide) (by decide), em4 26 (by decide) (by decide) (by decide) (by decide) (by decide) (by decide) (by decide) (by decide)]; exact htr
    · have e7 : m4 7 0 = 1 := by rw [c2 7 (by decide)]; rfl
      rw [e7, em4 12 (by decide) (by decide) (by decide) (by decide) (by decide) (by decide) (by decide) (by decide), em4 1 (by decide) (by decide) (by decide) (by decide) (by decide) (by decide) (by decide) (by decide)]
      exact ⟨rfl, Or.inr rfl, hx.2.2.1, hx.2.2.2⟩
  · obtain ⟨B0, B1, B2, B3, B4, B5⟩ := x4
    have em3 : ∀ k, ¬ k = 0 → ¬ k = 6 → ¬ k = 11 → ¬ k = 13 → (k < 14 ∨ 19 < k) → m3 k = m k := fun k k0 k6 k11 k13 hk => by rw [B5 k k6 hk, eb k k0 k11 k13 (by omega) (by omega)]
    rw [x1, q_b4s, ehill m3 x2, if_neg (by rw [B1, show (0 : Int32) = nI 0 from rfl, iLe (by omega) (by decide)]; omega), q_lts (u1 m3 12 (m3 18 0))]
    have em4 : ∀ k, ¬ k = 0 → ¬ k = 6 → ¬ k = 11 → ¬ k = 12 → ¬ k = 13 → (k < 14 ∨ 19 < k) → (u1 m3 12 (m3 18 0)) k = m k := fun k k0 k6 k11 k12 k13 hk => by rw [u1_ne k12, em3 k k0 k6 k11 k13 hk]
    unfold fX6_clear fX4_faultNumber fX4_faultPlace
    rw [q_lts, q_b1s, if_pos rfl, q_b1s, q_lts, q_b1s, x3.1, x3.2, show (u1 m3 12 (m3 18 0)) 19 0 = nI pl from B4]
    refine ⟨_, _, _, _, _, _, _, _, rfl, rfl, Or.inl ⟨rfl, h, h6, h7, hp', rfl, rfl, rfl, rfl, ⟨hv, r, hR, fun i => by rw [em4 5 (by decide) (by decide) (by decide) (by decide) (by decide) (by decide)]; exact hM i⟩, ?_, ?_, ?_, ?_, ?_, ?_⟩⟩
    · rw [em4 2 (by decide) (by decide) (by decide) (by decide) (by decide) (by decide), em4 3 (by decide) (by decide) (by decide) (by decide) (by decide) (by decide), em4 4 (by decide) (by decide) (by decide) (by decide) (by decide) (by decide)]; exact hrow
    · refine ⟨0, fun _ => 0, by decide, rfl, ?_, fun _ => show 0 < 256 by decide, fun i hi => by omega⟩
      rw [u1_ne (by decide), B5 11 (by decide) (by decide), hmb]; rfl
    · rw [em4 8 (by decide) (by decide) (by decide) (by decide) (by decide) (by decide), em4 9 (by decide) (by decide) (by decide) (by decide) (by decide) (by decide)]; exact hacts
    · rw [em4 23 (by decide) (by decide) (by decide) (by decide) (by decide) (by decide), em4 24 (by decide) (by decide) (by decide) (by decide) (by decide) (by decide)]; exact himg
    · rw [em4 25 (by decide) (by decide) (by decide) (by decide) (by decide) (by decide), em4 26 (by decide) (by decide) (by decide) (by decide) (by decide) (by decide)]; exact htr
    · rw [em4 7 (by decide) (by decide) (by decide) (by decide) (by decide) (by decide), em4 1 (by decide) (by decide) (by decide) (by decide) (by decide) (by decide)]
      refine ⟨hx.1, hx.2.1, ?_, hx.2.2.2⟩
      show nI f = m3 18 0
      rw [B1]
end OPS
