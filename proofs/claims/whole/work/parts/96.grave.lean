/-! reading graves and horns -/
section R96
variable {m0 : St} {b : Nat → Nat} {u p q s : Nat} {a m m1 rd : St} {hp : Hl}
theorem begin_bad (G : GD m0 b u p q s a m) {i n : Nat} (hi : i < 59) (e : m 6 i = nI n) : ∃ m', fX8_begins m (nI i) (nI n) = some m' ∧ BD m0 b u 3 p a m' := by
  obtain ⟨m', y1, y2, y3⟩ := bad_ok G (f := 3) (by decide) (by decide)
  have y1 : fX8_bad m 3 = some m' := y1
  refine ⟨m', ?_, y2⟩
  unfold fX8_begins
  rw [if_pos (by rw [iIn (by omega)]; exact hi), if_pos (by rw [iCl (by omega)]; exact e), y1, q_b1s, q_b1s, bd_must y2, q_b1s]
theorem begin_ok (G : GD m0 b u p q s a m) {i n k : Nat} (hi : i < 59) (e : m 6 i = nI k) (hk : k < 2 ^ 31) (hn : n < 2 ^ 31) (ne : ¬ k = n) {m' : St} (y : fX8_next m = some m') : fX8_begins m (nI i) (nI n) = some m' := by
  unfold fX8_begins
  rw [if_pos (by rw [iIn (by omega)]; exact hi), if_neg (by rw [iCl (by omega), e, iEq hk hn]; exact ne), q_b1s, must1 G y, q_b1s]
theorem ib0 : inb (0 : Int32) 59 := by decide
theorem ib1 : inb (1 : Int32) 59 := by decide
theorem ib2 : inb (2 : Int32) 59 := by decide
theorem bd_grave {f pl : Nat} (B : BD m0 b u f pl a m1) (e : fX8_begins m 0 5 = some m1) : fX8_readGrave m = some m1 := by
  unfold fX8_readGrave
  rw [e, q_b1s, bd_num B, q_b2s, bd_num B, q_b2s, bd_num B, q_b2s, bd_num B, q_b2s, bd_end B, q_b1s, if_neg (bd18 B).1]
theorem graveR (eb : fX8_begins m 0 5 = some m1) (G : GD m0 b u p q s a m1) (rd : St) {k : Nat} (hk : hp 10 0 = k) (k5 : k < 5) (P : PH hp (m1 6) 12) : (∃ (p' q' s' : Nat) (rd' a' m' : St) (hp' : Hl), fX4_readGrave rd a (cst hp) (nI k) = some (1, rd', a', cst hp') ∧ fX8_readGrave m = some m' ∧ GD m0 b u p' q' s' a' m' ∧ PH (h1 hp' 10 (k + 1)) (m' 6) 12 ∧ hp' 11 0 = hp 11 0 ∧ hp' 12 0 = hp 12 0) ∨ (∃ (f pl : Nat) (rd' a' m' : St) (hp' : Hl), fX4_readGrave rd a (cst hp) (nI k) = some (0, rd', a', cst hp') ∧ fX8_readGrave m = some m' ∧ RF f pl rd' ∧ BD m0 b u f pl a' m') := by
  have ib : inb (nI k) 5 := by rw [iIn (by omega)]; exact k5
  have n1 : ¬ (1 : Int32) = 0 := by decide
  unfold fX4_readGrave fX8_readGrave
  rw [eb, q_b1s]
  rcases takeN G rd (lo := 0) (hi := 30) (by decide) (by decide) with ⟨z1, p1, q1, s1, rd1, a1, m1', z1a, z1b, x1, x2, x3, x4, x5⟩ | ⟨f, pl, r, rd', m', x1, x2, x3, x4⟩
  · have x1 : fX4_takeNumber rd a 0 30 = some (1, rd1, a1) := x1
    have x3 : fX8_number m1 0 30 = some (nI z1, m1') := x3
    rw [x1, x3, q_b3s, q_b2s, if_neg n1, if_pos ib, q_lts, x2, uA_cst _ _ _ _ (by omega)]
    rcases takeN x4 rd1 (lo := 0) (hi := 9) (by decide) (by decide) with ⟨z2, p2, q2, s2, rd2, a2, m2', z2a, z2b, y1, y2, y3, y4, y5⟩ | ⟨f, pl, r, rd', m', y1, y2, y3, y4⟩
    · have y1 : fX4_takeNumber rd1 a1 0 9 = some (1, rd2, a2) := y1
      have y3 : fX8_number m1' 0 9 = some (nI z2, m2') := y3
      rw [y1, y3, q_b3s, q_b2s, if_neg n1, if_pos ib, q_lts, y2, uA_cst _ _ _ _ (by omega)]
      rcases takeN y4 rd2 (lo := 0) (hi := 9) (by decide) (by decide) with ⟨z3, p3, q3, s3, rd3, a3, m3', z3a, z3b, v1, v2, v3, v4, v5⟩ | ⟨f, pl, r, rd', m', v1, v2, v3, v4⟩
      · have v1 : fX4_takeNumber rd2 a2 0 9 = some (1, rd3, a3) := v1
        have v3 : fX8_number m2' 0 9 = some (nI z3, m3') := v3
        rw [v1, v3, q_b3s, q_b2s, if_neg n1, if_pos ib, q_lts, v2, uA_cst _ _ _ _ (by omega)]
        rcases takeN v4 rd3 (lo := 0) (hi := 15) (by decide) (by decide) with ⟨z4, p4, q4, s4, rd4, a4, m4', z4a, z4b, w1, w2, w3, w4, w5⟩ | ⟨f, pl, r, rd', m', w1, w2, w3, w4⟩
        · have w1 : fX4_takeNumber rd3 a3 0 15 = some (1, rd4, a4) := w1
          have w3 : fX8_number m3' 0 15 = some (nI z4, m4') := w3
          rw [w1, w3, q_b3s, q_b2s, if_neg n1, if_pos ib, q_lts, w2, uA_cst _ _ _ _ (by omega)]
          rcases takeS w4 rd4 with ⟨p5, q5, s5, a5, m5', t1, t2, t3, t4⟩ | ⟨f, pl, rd', m', t1, t2, t3, t4⟩
          · have e6 : m5' 6 = m1 6 := by rw [t4, w5, v5, y5, x5]
            have e60 : m5' 6 (0 : Int32).toNatClampNeg = nI k := by rw [e6, ← hk]; exact P.2.1.1
            rw [t1, q_b3s, if_pos (Or.inr rfl), t2, q_b1s, if_pos t3.2.1, if_pos ib0, e60, show (15 : Int32) = nI 15 from rfl, show (4 : Int32) = nI 4 from rfl, iMul, iAdd, q_lts, if_pos (by rw [iIn (by omega)]; omega), q_lts, nI_1, if_pos (by rw [iIn (by omega)]; omega), q_lts, show (2 : Int32) = nI 2 from rfl, iAdd, if_pos (by rw [iIn (by omega)]; omega), q_lts, show (3 : Int32) = nI 3 from rfl, iAdd, if_pos (by rw [iIn (by omega)]; omega), q_lts, if_pos ib0, if_pos ib0, q_lts]
            have ef : ∃ m' : St, m' = u2 m5' 6 (upd (upd (upd (upd (upd (m5' 6) (15 + 4 * k) (nI z1)) (15 + 4 * k + 1) (nI z2)) (15 + 4 * k + 2) (nI z3)) (15 + 4 * k + 3) (nI z4)) 0 (nI (k + 1))) := ⟨_, rfl⟩
            obtain ⟨m', hm'⟩ := ef
            refine Or.inl ⟨p5, q5, s5, rd4, a5, m', _, rfl, ?_, by rw [hm']; exact gd_6 t3 _, ?_, rfl, rfl⟩
            · rw [hm']
              unfold uA
              simp only [u2_at, u2_u2, iCl (show 15 + 4 * k < 2 ^ 31 by omega), iCl (show 15 + 4 * k + 1 < 2 ^ 31 by omega), iCl (show 15 + 4 * k + 2 < 2 ^ 31 by omega), iCl (show 15 + 4 * k + 3 < 2 ^ 31 by omega), show (0 : Int32).toNatClampNeg = 0 from rfl]
              rw [upd_diff (show ¬ 0 = 15 + 4 * k + 3 by omega), upd_diff (show ¬ 0 = 15 + 4 * k + 2 by omega), upd_diff (show ¬ 0 = 15 + 4 * k + 1 by omega), upd_diff (show ¬ 0 = 15 + 4 * k by omega), show m5' 6 0 = nI k from e60, nI_1]
            · rw [hm', u2_at, e6]
              exact PH_g P hk k5 z1b z2b z3b z4b
          · refine Or.inr ⟨f, pl, rd', a4, m', hA (hA (hA (hA hp 1 k z1) 2 k z2) 3 k z3) 4 k z4, ?_, ?_, t2, t4⟩
            · rw [t1, q_b3s, if_pos (Or.inl rfl)]
            · rw [t3, q_b1s, if_neg (bd18 t4).1]
        · have w1 : fX4_takeNumber rd3 a3 0 15 = some (0, rd', a3) := w1
          have w3 : fX8_number m3' 0 15 = some (r, m') := w3
          refine Or.inr ⟨f, pl, rd', a3, m', hA (hA (hA hp 1 k z1) 2 k z2) 3 k z3, ?_, ?_, w2, w4⟩
          · rw [w1, q_b3s, if_pos rfl]
          · rw [w3, q_b2s, bd_end w4, q_b1s, if_neg (bd18 w4).1]
      · have v1 : fX4_takeNumber rd2 a2 0 9 = some (0, rd', a2) := v1
        have v3 : fX8_number m2' 0 9 = some (r, m') := v3
        refine Or.inr ⟨f, pl, rd', a2, m', hA (hA hp 1 k z1) 2 k z2, ?_, ?_, v2, v4⟩
        · rw [v1, q_b3s, if_pos rfl]
        · rw [v3, q_b2s, bd_num v4, q_b2s, bd_end v4, q_b1s, if_neg (bd18 v4).1]
    · have y1 : fX4_takeNumber rd1 a1 0 9 = some (0, rd', a1) := y1
      have y3 : fX8_number m1' 0 9 = some (r, m') := y3
      refine Or.inr ⟨f, pl, rd', a1, m', hA hp 1 k z1, ?_, ?_, y2, y4⟩
      · rw [y1, q_b3s, if_pos rfl]
      · rw [y3, q_b2s, bd_num y4, q_b2s, bd_num y4, q_b2s, bd_end y4, q_b1s, if_neg (bd18 y4).1]
  · have x1 : fX4_takeNumber rd a 0 30 = some (0, rd', a) := x1
    have x3 : fX8_number m1 0 30 = some (r, m') := x3
    refine Or.inr ⟨f, pl, rd', a, m', hp, ?_, ?_, x2, x4⟩
    · rw [x1, q_b3s, if_pos rfl]
    · rw [x3, q_b2s, bd_num x4, q_b2s, bd_num x4, q_b2s, bd_num x4, q_b2s, bd_end x4, q_b1s, if_neg (bd18 x4).1]
theorem stop34 {f pl : Nat} (B : BD m0 b u f pl a m) (n : Nat) : fX8_hill_L34 (n + 1) m = some m := by
  rw [fX8_hill_L34, bd_name B, q_b1s, if_neg (by decide +kernel)]
theorem gravesB : ∀ d n n' k (p q s : Nat) (rd a m : St) (hp : Hl), k + d = 5 → d < n → d + 1 < n' → GD m0 b u p q s a m → PH hp (m 6) 12 → hp 10 0 = k → (∃ (p' q' s' : Nat) (rd' a' m' : St) (hp' : Hl), fX4_readGraves_L2 n (nI k) rd a (cst hp) = some (1, rd', a', cst hp') ∧ fX8_hill_L34 n' m = some m' ∧ GD m0 b u p' q' s' a' m' ∧ PH hp' (m' 6) 12 ∧ hp' 11 0 = hp 11 0 ∧ hp' 12 0 = hp 12 0) ∨ (∃ (f pl : Nat) (rd' a' m' : St) (hp' : Hl), fX4_readGraves_L2 n (nI k) rd a (cst hp) = some (0, rd', a', cst hp') ∧ fX8_hill_L34 n' m = some m' ∧ RF f pl rd' ∧ BD m0 b u f pl a' m') := by
  intro d
  induction d with
  | zero =>
    intro n n' k p q s rd a m hp e hn hn' G P hk
    cases n with
    | zero => omega
    | succ n =>
      cases n' with
      | zero => omega
      | succ n' =>
        cases n' with
        | zero => omega
        | succ n' =>
          have e : k = 5 := by omega
          subst e
          have T := G.1
          rw [fX4_readGraves_L2, fX8_hill_L34, if_pos (by decide), word_ok T (by decide), q_b1s, name_ok T G.2.1, q_b1s, kk_1]
          simp only [b01, name_eq T (show 1 < 9 by decide)]
          by_cases c : WM b p q s 1 = true
          · obtain ⟨m1, y1, y2⟩ := begin_bad G (i := 0) (n := 5) (by decide) (by rw [← hk]; exact P.2.1.1)
            have y1 : fX8_begins m 0 5 = some m1 := y1
            obtain ⟨rd', x1, x2⟩ := refuse_ok T rd 3
            have x1 : fX4_refuse rd a 3 = some (0, rd') := x1
            refine Or.inr ⟨3, p, rd', a, m1, hp, ?_, ?_, x2, y2⟩
            · rw [if_neg (fun n => n c), x1, q_b2s, if_pos rfl]
            · rw [if_pos c, bd_grave y2 y1, q_b1s, stop34 y2]
          · refine Or.inl ⟨p, q, s, rd, a, m, hp, ?_, ?_, G, P, rfl, rfl⟩
            · rw [if_pos c]
            · rw [if_neg c]
  | succ d ih =>
    intro n n' k p q s rd a m hp e hn hn' G P hk
    cases n with
    | zero => omega
    | succ n =>
      cases n' with
      | zero => omega
      | succ n' =>
        have T := G.1
        have nle : ¬ (5 : Int32) ≤ nI k := by rw [show (5 : Int32) = nI 5 from rfl, iLe (by decide) (by omega)]; omega
        rw [fX4_readGraves_L2, fX8_hill_L34, if_neg nle, word_ok T (by decide), q_b1s, q_b1s, name_ok T G.2.1, q_b1s, kk_1]
        simp only [b01, name_eq T (show 1 < 9 by decide)]
        by_cases c : WM b p q s 1 = true
        · obtain ⟨p1, q1, s1, a1, m1, y1, y2, y3, y4⟩ := gd_next G
          have eb : fX8_begins m 0 5 = some m1 := begin_ok G (i := 0) (n := 5) (k := k) (by decide) (by rw [← hk]; exact P.2.1.1) (by omega) (by decide) (by omega) y2
          rw [if_neg (fun n => n c), y1, q_b1s, if_pos c]
          rcases graveR eb y3 rd hk (by omega) (by rw [y4]; exact P) with ⟨p2, q2, s2, rd2, a2, m2, hp2, x1, x2, x3, x4, x5, x6⟩ | ⟨f, pl, rd2, a2, m2, hp2, x1, x2, x3, x4⟩
          · rw [x1, q_b4s, if_neg (show ¬ (1 : Int32) = 0 by decide), q_lts, x2, q_b1s, nI_1, u1_cst]
            rcases ih n n' (k + 1) p2 q2 s2 rd2 a2 m2 (h1 hp2 10 (k + 1)) (by omega) (by omega) (by omega) x3 x4 rfl with ⟨p3, q3, s3, rd3, a3, m3, hp3, g1, g2, g3, g4, g5, g6⟩ | g
            · refine Or.inl ⟨p3, q3, s3, rd3, a3, m3, hp3, g1, ?_, g3, g4, g5.trans x5, g6.trans x6⟩
              exact g2
            · exact Or.inr g
          · refine Or.inr ⟨f, pl, rd2, a2, m2, hp2, ?_, ?_, x3, x4⟩
            · rw [x1, q_b4s, if_pos rfl]
            · obtain ⟨z, rfl⟩ : ∃ z, n' = z + 1 := ⟨n' - 1, by omega⟩
              rw [x2, q_b1s, stop34 x4]
        · refine Or.inl ⟨p, q, s, rd, a, m, hp, ?_, ?_, G, P, rfl, rfl⟩
          · rw [if_pos c, if_pos c]
          · rw [if_neg c]
end R96
