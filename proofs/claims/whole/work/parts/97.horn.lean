/-! reading horns and trees -/
section R97
variable {m0 : St} {b : Nat → Nat} {u p q s : Nat} {a m m1 rd : St} {hp : Hl}
theorem bd_horn {f pl : Nat} (B : BD m0 b u f pl a m1) (e : fX8_begins m 1 4 = some m1) : fX8_readHorn m = some m1 := by
  unfold fX8_readHorn
  rw [e, q_b1s, bd_num B, q_b2s, bd_num B, q_b2s, bd_end B, q_b1s, if_neg (bd18 B).1]
theorem hornR (eb : fX8_begins m 1 4 = some m1) (G : GD m0 b u p q s a m1) (rd : St) {k : Nat} (hk : hp 11 0 = k) (k5 : k < 4) (P : PH hp (m1 6) 12) : (∃ (p' q' s' : Nat) (rd' a' m' : St) (hp' : Hl), fX4_readHorn rd a (cst hp) (nI k) = some (1, rd', a', cst hp') ∧ fX8_readHorn m = some m' ∧ GD m0 b u p' q' s' a' m' ∧ PH (h1 hp' 11 (k + 1)) (m' 6) 12 ∧ hp' 12 0 = hp 12 0) ∨ (∃ (f pl : Nat) (rd' a' m' : St) (hp' : Hl), fX4_readHorn rd a (cst hp) (nI k) = some (0, rd', a', cst hp') ∧ fX8_readHorn m = some m' ∧ RF f pl rd' ∧ BD m0 b u f pl a' m') := by
  have ib : inb (nI k) 4 := by rw [iIn (by omega)]; exact k5
  have n1 : ¬ (1 : Int32) = 0 := by decide
  unfold fX4_readHorn fX8_readHorn
  rw [eb, q_b1s]
  rcases takeN G rd (lo := 0) (hi := 30) (by decide) (by decide) with ⟨z1, p1, q1, s1, rd1, a1, m1', z1a, z1b, x1, x2, x3, x4, x5⟩ | ⟨f, pl, r, rd', m', x1, x2, x3, x4⟩
  · have x1 : fX4_takeNumber rd a 0 30 = some (1, rd1, a1) := x1
    have x3 : fX8_number m1 0 30 = some (nI z1, m1') := x3
    rw [x1, x3, q_b3s, q_b2s, if_neg n1, if_pos ib, q_lts, x2, uA_cst _ _ _ _ (by omega)]
    rcases takeN x4 rd1 (lo := 1) (hi := 40) (by decide) (by decide) with ⟨z2, p2, q2, s2, rd2, a2, m2', z2a, z2b, y1, y2, y3, y4, y5⟩ | ⟨f, pl, r, rd', m', y1, y2, y3, y4⟩
    · have y1 : fX4_takeNumber rd1 a1 1 40 = some (1, rd2, a2) := y1
      have y3 : fX8_number m1' 1 40 = some (nI z2, m2') := y3
      rw [y1, y3, q_b3s, q_b2s, if_neg n1, if_pos ib, q_lts, y2, uA_cst _ _ _ _ (by omega)]
      rcases takeS y4 rd2 with ⟨p5, q5, s5, a5, m5', t1, t2, t3, t4⟩ | ⟨f, pl, rd', m', t1, t2, t3, t4⟩
      · have e6 : m5' 6 = m1 6 := by rw [t4, y5, x5]
        have e60 : m5' 6 (1 : Int32).toNatClampNeg = nI k := by rw [e6, ← hk]; exact P.2.1.2.1
        have e61 : (uA m5' 6 (nI (35 + 3 * k)) (nI z1)) 6 (1 : Int32).toNatClampNeg = nI k := by
          show upd (m5' 6) (nI (35 + 3 * k)).toNatClampNeg (nI z1) 1 = _
          rw [iCl (by omega), upd_diff (by omega)]; exact e60
        have e62 : (uA (uA m5' 6 (nI (35 + 3 * k)) (nI z1)) 6 (nI (35 + 3 * k + 1)) (nI z2)) 6 (1 : Int32).toNatClampNeg = nI k := by
          show upd ((uA m5' 6 (nI (35 + 3 * k)) (nI z1)) 6) (nI (35 + 3 * k + 1)).toNatClampNeg (nI z2) 1 = _
          rw [iCl (by omega), upd_diff (by omega)]; exact e61
        rw [t1, q_b3s, if_pos (Or.inr rfl), t2, q_b1s, if_pos t3.2.1, if_pos ib1, e60, show (35 : Int32) = nI 35 from rfl, show (3 : Int32) = nI 3 from rfl, iMul, iAdd, if_pos (by rw [iIn (by omega)]; omega), q_lts, if_pos ib1, e61, iMul, iAdd, nI_1, if_pos (by rw [iIn (by omega)]; omega), q_lts, if_pos ib1, if_pos ib1, e62, nI_1, q_lts]
        have ef : ∃ m' : St, m' = u2 m5' 6 (upd (upd (upd (m5' 6) (35 + 3 * k) (nI z1)) (35 + 3 * k + 1) (nI z2)) 1 (nI (k + 1))) := ⟨_, rfl⟩
        obtain ⟨m', hm'⟩ := ef
        refine Or.inl ⟨p5, q5, s5, rd2, a5, m', _, rfl, ?_, by rw [hm']; exact gd_6 t3 _, ?_, rfl⟩
        · rw [hm']
          unfold uA
          simp only [u2_at, u2_u2, iCl (show 35 + 3 * k < 2 ^ 31 by omega), iCl (show 35 + 3 * k + 1 < 2 ^ 31 by omega), show (1 : Int32).toNatClampNeg = 1 from rfl]
        · rw [hm', u2_at, e6]
          exact PH_h P hk k5 z1b z2b
      · refine Or.inr ⟨f, pl, rd', a2, m', hA (hA hp 5 k z1) 6 k z2, ?_, ?_, t2, t4⟩
        · rw [t1, q_b3s, if_pos (Or.inl rfl)]
        · rw [t3, q_b1s, if_neg (bd18 t4).1]
    · have y1 : fX4_takeNumber rd1 a1 1 40 = some (0, rd', a1) := y1
      have y3 : fX8_number m1' 1 40 = some (r, m') := y3
      refine Or.inr ⟨f, pl, rd', a1, m', hA hp 5 k z1, ?_, ?_, y2, y4⟩
      · rw [y1, q_b3s, if_pos rfl]
      · rw [y3, q_b2s, bd_end y4, q_b1s, if_neg (bd18 y4).1]
  · have x1 : fX4_takeNumber rd a 0 30 = some (0, rd', a) := x1
    have x3 : fX8_number m1 0 30 = some (r, m') := x3
    refine Or.inr ⟨f, pl, rd', a, m', hp, ?_, ?_, x2, x4⟩
    · rw [x1, q_b3s, if_pos rfl]
    · rw [x3, q_b2s, bd_num x4, q_b2s, bd_end x4, q_b1s, if_neg (bd18 x4).1]
theorem stop52 {f pl : Nat} (B : BD m0 b u f pl a m) (n : Nat) : fX8_hill_L52 (n + 1) m = some m := by
  rw [fX8_hill_L52, bd_name B, q_b1s, if_neg (by decide +kernel)]
theorem hornsB : ∀ d n n' k (p q s : Nat) (rd a m : St) (hp : Hl), k + d = 4 → d < n → d + 1 < n' → GD m0 b u p q s a m → PH hp (m 6) 12 → hp 11 0 = k → (∃ (p' q' s' : Nat) (rd' a' m' : St) (hp' : Hl), fX4_readHorns_L2 n (nI k) rd a (cst hp) = some (1, rd', a', cst hp') ∧ fX8_hill_L52 n' m = some m' ∧ GD m0 b u p' q' s' a' m' ∧ PH hp' (m' 6) 12 ∧ hp' 12 0 = hp 12 0) ∨ (∃ (f pl : Nat) (rd' a' m' : St) (hp' : Hl), fX4_readHorns_L2 n (nI k) rd a (cst hp) = some (0, rd', a', cst hp') ∧ fX8_hill_L52 n' m = some m' ∧ RF f pl rd' ∧ BD m0 b u f pl a' m') := by
  intro d
  induction d with
  | zero =>
    intro n n' k p q s rd a m hp e hn hn' G P hk
    cases n with
    | zero => omega
    | succ n =>
      cases n' with
      | zero => omega
      | succ n' =>
        cases n' with
        | zero => omega
        | succ n' =>
          have e : k = 4 := by omega
          subst e
          have T := G.1
          rw [fX4_readHorns_L2, fX8_hill_L52, if_pos (by decide), word_ok T (by decide), q_b1s, name_ok T G.2.1, q_b1s, kk_2]
          simp only [b01, name_eq T (show 2 < 9 by decide)]
          by_cases c : WM b p q s 2 = true
          · obtain ⟨m1, y1, y2⟩ := begin_bad G (i := 1) (n := 4) (by decide) (by rw [← hk]; exact P.2.1.2.1)
            have y1 : fX8_begins m 1 4 = some m1 := y1
            obtain ⟨rd', x1, x2⟩ := refuse_ok T rd 3
            have x1 : fX4_refuse rd a 3 = some (0, rd') := x1
            refine Or.inr ⟨3, p, rd', a, m1, hp, ?_, ?_, x2, y2⟩
            · rw [if_neg (fun n => n c), x1, q_b2s, if_pos rfl]
            · rw [if_pos c, bd_horn y2 y1, q_b1s, stop52 y2]
          · refine Or.inl ⟨p, q, s, rd, a, m, hp, ?_, ?_, G, P, rfl⟩
            · rw [if_pos c]
            · rw [if_neg c]
  | succ d ih =>
    intro n n' k p q s rd a m hp e hn hn' G P hk
    cases n with
    | zero => omega
    | succ n =>
      cases n' with
      | zero => omega
      | succ n' =>
        have T := G.1
        have nle : ¬ (4 : Int32) ≤ nI k := by rw [show (4 : Int32) = nI 4 from rfl, iLe (by decide) (by omega)]; omega
        rw [fX4_readHorns_L2, fX8_hill_L52, if_neg nle, word_ok T (by decide), q_b1s, q_b1s, name_ok T G.2.1, q_b1s, kk_2]
        simp only [b01, name_eq T (show 2 < 9 by decide)]
        by_cases c : WM b p q s 2 = true
        · obtain ⟨p1, q1, s1, a1, m1, y1, y2, y3, y4⟩ := gd_next G
          have eb : fX8_begins m 1 4 = some m1 := begin_ok G (i := 1) (n := 4) (k := k) (by decide) (by rw [← hk]; exact P.2.1.2.1) (by omega) (by decide) (by omega) y2
          rw [if_neg (fun n => n c), y1, q_b1s, if_pos c]
          rcases hornR eb y3 rd hk (by omega) (by rw [y4]; exact P) with ⟨p2, q2, s2, rd2, a2, m2, hp2, x1, x2, x3, x4, x6⟩ | ⟨f, pl, rd2, a2, m2, hp2, x1, x2, x3, x4⟩
          · rw [x1, q_b4s, if_neg (show ¬ (1 : Int32) = 0 by decide), q_lts, x2, q_b1s, nI_1, u1_cst]
            rcases ih n n' (k + 1) p2 q2 s2 rd2 a2 m2 (h1 hp2 11 (k + 1)) (by omega) (by omega) (by omega) x3 x4 rfl with ⟨p3, q3, s3, rd3, a3, m3, hp3, g1, g2, g3, g4, g6⟩ | g
            · exact Or.inl ⟨p3, q3, s3, rd3, a3, m3, hp3, g1, g2, g3, g4, g6.trans x6⟩
            · exact Or.inr g
          · refine Or.inr ⟨f, pl, rd2, a2, m2, hp2, ?_, ?_, x3, x4⟩
            · rw [x1, q_b4s, if_pos rfl]
            · obtain ⟨z, rfl⟩ : ∃ z, n' = z + 1 := ⟨n' - 1, by omega⟩
              rw [x2, q_b1s, stop52 x4]
        · refine Or.inl ⟨p, q, s, rd, a, m, hp, ?_, ?_, G, P, rfl⟩
          · rw [if_pos c, if_pos c]
          · rw [if_neg c]
theorem toldC (h12 : hp 12 0 ≤ 4) (hb : ∀ x, x < hp 12 0 → hp 8 x ≤ 30) {N : Nat} (hN : N < 2 ^ 31) : ∀ d n i, i + d = hp 12 0 → d < n → ∃ ok : Bool, fX3_hasTreeAt_L2 (nI N) (cst hp) n (nI i) = some (if ok = true then 1 else 0) ∧ (ok = true ↔ ∃ x, i ≤ x ∧ x < hp 12 0 ∧ hp 8 x = N) := by
  intro d
  induction d with
  | zero =>
    intro n i e hn
    cases n with
    | zero => omega
    | succ n =>
      refine ⟨false, ?_, ⟨fun h => absurd h (by decide), fun ⟨x, h1, h2, _⟩ => by omega⟩⟩
      rw [fX3_hasTreeAt_L2, cst_at, if_pos (by rw [iLe (by omega) (by omega)]; omega)]; rfl
  | succ d ih =>
    intro n i e hn
    cases n with
    | zero => omega
    | succ n =>
      obtain ⟨ok, f1, f2⟩ := ih n (i + 1) (by omega) (by omega)
      have h8 := hb i (by omega)
      rw [fX3_hasTreeAt_L2, cst_at, if_neg (by rw [iLe (by omega) (by omega)]; omega), if_pos (by rw [iIn (by omega)]; omega), iCl (by omega), cst_at, nI_1]
      by_cases c : hp 8 i = N
      · refine ⟨true, ?_, ⟨fun _ => ⟨i, Nat.le_refl i, by omega, c⟩, fun _ => rfl⟩⟩
        rw [if_pos (by rw [c])]; rfl
      · refine ⟨ok, ?_, ?_⟩
        · rw [if_neg (by rw [iEq (by omega) hN]; exact c)]; exact f1
        · rw [f2]
          constructor
          · rintro ⟨x, h1, h2, h3⟩; exact ⟨x, by omega, h2, h3⟩
          · rintro ⟨x, h1, h2, h3⟩
            refine ⟨x, ?_, h2, h3⟩
            by_cases q : x = i
            · rw [q] at h3; exact absurd h3 c
            · omega
theorem toldM (P : PH hp (m 6) 12) {N : Nat} (hN : N < 2 ^ 31) : ∀ d n i (fl : Bool), i + d = hp 12 0 → d < n → ∃ ok : Bool, fX8_isTold_L4 (nI N) m n (if fl = true then 1 else 0) (nI i) = some (if ok = true then 1 else 0) ∧ (ok = true ↔ fl = true ∨ ∃ x, i ≤ x ∧ x < hp 12 0 ∧ hp 8 x = N) := by
  have h12 := P.1.2.2.1
  have e2 : m 6 (2 : Int32).toNatClampNeg = nI (hp 12 0) := P.2.1.2.2
  have ib2 : inb (2 : Int32) 59 := by decide
  intro d
  induction d with
  | zero =>
    intro n i fl e hn
    cases n with
    | zero => omega
    | succ n =>
      refine ⟨fl, ?_, ⟨fun h => Or.inl h, fun h => h.elim id (fun ⟨x, h1, h2, _⟩ => by omega)⟩⟩
      rw [fX8_isTold_L4, if_pos ib2, e2, if_pos (by rw [iLe (by omega) (by omega)]; omega)]
  | succ d ih =>
    intro n i fl e hn
    cases n with
    | zero => omega
    | succ n =>
      have hP := P.2.2.2.2.2.2 i (by omega)
      have h8 := hP.2.2.2.2.2.1
      obtain ⟨ok, f1, f2⟩ := ih n (i + 1) (fl || decide (hp 8 i = N)) (by omega) (by omega)
      refine ⟨ok, ?_, ?_⟩
      · have e8 : m 6 (nI (47 + 3 * i + 1)).toNatClampNeg = nI (hp 8 i) := by rw [iCl (by omega)]; exact hP.2.1
        have ev : (if (if fl = true then (1 : Int32) else 0) = 0 then if inb (nI (47 + 3 * i + 1)) 59 then (if m 6 (nI (47 + 3 * i + 1)).toNatClampNeg = nI N then some (1 : Int32) else some 0) else none else some 1) = some (if (fl || decide (hp 8 i = N)) = true then 1 else 0) := by
          rw [if_pos (show inb (nI (47 + 3 * i + 1)) 59 by rw [iIn (by omega)]; omega), e8]
          simp only [iEq (show hp 8 i < 2 ^ 31 by omega) hN]
          cases fl
          · by_cases c : hp 8 i = N
            · rw [if_pos (show (if false = true then (1 : Int32) else 0) = 0 from rfl), if_pos c, decide_eq_true c]; rfl
            · rw [if_pos (show (if false = true then (1 : Int32) else 0) = 0 from rfl), if_neg c, decide_eq_false c]; rfl
          · rfl
        rw [fX8_isTold_L4, if_pos ib2, e2, if_neg (by rw [iLe (by omega) (by omega)]; omega), show (47 : Int32) = nI 47 from rfl, show (3 : Int32) = nI 3 from rfl, iMul, iAdd, nI_1, nI_1, ev, q_b1s]
        exact f1
      · rw [f2, Bool.or_eq_true, decide_eq_true_iff]
        constructor
        · rintro ((h | h) | ⟨x, h1, h2, h3⟩)
          · exact Or.inl h
          · exact Or.inr ⟨i, Nat.le_refl i, by omega, h⟩
          · exact Or.inr ⟨x, by omega, h2, h3⟩
        · rintro (h | ⟨x, h1, h2, h3⟩)
          · exact Or.inl (Or.inl h)
          · by_cases q : x = i
            · exact Or.inl (Or.inr (by rw [← q]; exact h3))
            · exact Or.inr ⟨x, by omega, h2, h3⟩
end R97
