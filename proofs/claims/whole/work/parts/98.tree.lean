/-! reading trees -/
def cRest (rd a : St) (hl : St) (k : Int32) : Option (Int32 × St × St × St) :=
  q_b3 (fX4_takeNumber rd a (0 : Int32) (30 : Int32)) fun r11 sc12 sc13 =>
  (if r11 = 0 then
  some ((0 : Int32), sc12, sc13, hl)
  else
  if inb k 4 then
  q_lt (uA hl 8 k (sc12 1 0)) fun sn17 =>
  q_b3 (fX4_takeNumber sc12 sc13 (0 : Int32) (9 : Int32)) fun r18 sc19 sc20 =>
  (if r18 = 0 then
  some ((0 : Int32), sc19, sc20, sn17)
  else
  if inb k 4 then
  q_lt (uA sn17 9 k (sc19 1 0)) fun sn24 =>
  q_b3 (fX4_takeSign sc19 sc20) fun r25 sc26 sc27 =>
  if isb r25 then
  some (r25, sc26, sc27, sn24)
  else none
  else none)
  else none)
def mRest (m : St) (r5 : Int32) : Option St :=
  q_b2 (fX8_number m (0 : Int32) (30 : Int32)) fun r11 sc12 =>
  q_b2 (fX8_number sc12 (0 : Int32) (9 : Int32)) fun r14 sc15 =>
  q_b1 (fX8_mustEnd sc15) fun sc17 =>
  (if (sc17 18 0) = 0 then
  if inb (2 : Int32) 59 then
  q_lt ((47 : Int32) + ((3 : Int32) * (sc17 6 (2 : Int32).toNatClampNeg)) : Int32) fun x21 =>
  if inb x21 59 then
  q_lt (uA sc17 6 x21 r5) fun sn23 =>
  if inb (x21 + (1 : Int32)) 59 then
  q_lt (uA sn23 6 (x21 + (1 : Int32)) r11) fun sn25 =>
  if inb (x21 + (2 : Int32)) 59 then
  q_lt (uA sn25 6 (x21 + (2 : Int32)) r14) fun sn27 =>
  if inb (2 : Int32) 59 then
  if inb (2 : Int32) 59 then
  q_lt (uA sn27 6 (2 : Int32) ((sn27 6 (2 : Int32).toNatClampNeg) + (1 : Int32))) fun sn30 =>
  some (sn30)
  else none
  else none
  else none
  else none
  else none
  else none
  else
  some (sc17))
section R98
variable {m0 : St} {b : Nat → Nat} {u p q s : Nat} {a m m1 rd : St} {hp : Hl}
theorem bd_mRest {f pl : Nat} (B : BD m0 b u f pl a m) (r5 : Int32) : mRest m r5 = some m := by
  unfold mRest
  rw [bd_num B, q_b2s, bd_num B, q_b2s, bd_end B, q_b1s, if_neg (bd18 B).1]
theorem restR (G : GD m0 b u p q s a m) (rd : St) {k K : Nat} (hk : hp 12 0 = k) (k5 : k < 4) (K1 : 1 ≤ K) (K5 : K ≤ 5) (P : PH hp (m 6) 12) : (∃ (p' q' s' : Nat) (rd' a' m' : St) (hp' : Hl), cRest rd a (cst (hA hp 7 k K)) (nI k) = some (1, rd', a', cst hp') ∧ mRest m (nI K) = some m' ∧ GD m0 b u p' q' s' a' m' ∧ PH (h1 hp' 12 (k + 1)) (m' 6) 12) ∨ (∃ (f pl : Nat) (rd' a' m' : St) (hp' : Hl), cRest rd a (cst (hA hp 7 k K)) (nI k) = some (0, rd', a', cst hp') ∧ mRest m (nI K) = some m' ∧ RF f pl rd' ∧ BD m0 b u f pl a' m') := by
  have ib : inb (nI k) 4 := by rw [iIn (by omega)]; exact k5
  have n1 : ¬ (1 : Int32) = 0 := by decide
  unfold cRest mRest
  rcases takeN G rd (lo := 0) (hi := 30) (by decide) (by decide) with ⟨z1, p1, q1, s1, rd1, a1, m1', z1a, z1b, x1, x2, x3, x4, x5⟩ | ⟨f, pl, r, rd', m', x1, x2, x3, x4⟩
  · have x1 : fX4_takeNumber rd a 0 30 = some (1, rd1, a1) := x1
    have x3 : fX8_number m 0 30 = some (nI z1, m1') := x3
    rw [x1, x3, q_b3s, q_b2s, if_neg n1, if_pos ib, q_lts, x2, uA_cst _ _ _ _ (by omega)]
    rcases takeN x4 rd1 (lo := 0) (hi := 9) (by decide) (by decide) with ⟨z2, p2, q2, s2, rd2, a2, m2', z2a, z2b, y1, y2, y3, y4, y5⟩ | ⟨f, pl, r, rd', m', y1, y2, y3, y4⟩
    · have y1 : fX4_takeNumber rd1 a1 0 9 = some (1, rd2, a2) := y1
      have y3 : fX8_number m1' 0 9 = some (nI z2, m2') := y3
      rw [y1, y3, q_b3s, q_b2s, if_neg n1, if_pos ib, q_lts, y2, uA_cst _ _ _ _ (by omega)]
      rcases takeS y4 rd2 with ⟨p5, q5, s5, a5, m5', t1, t2, t3, t4⟩ | ⟨f, pl, rd', m', t1, t2, t3, t4⟩
      · have e6 : m5' 6 = m 6 := by rw [t4, y5, x5]
        have e60 : m5' 6 (2 : Int32).toNatClampNeg = nI k := by rw [e6, ← hk]; exact P.2.1.2.2
        rw [t1, q_b3s, if_pos (Or.inr rfl), t2, q_b1s, if_pos t3.2.1, if_pos ib2, e60, show (47 : Int32) = nI 47 from rfl, show (3 : Int32) = nI 3 from rfl, iMul, iAdd, q_lts, if_pos (by rw [iIn (by omega)]; omega), q_lts, nI_1, if_pos (by rw [iIn (by omega)]; omega), q_lts]
        have ea : nI (47 + 3 * k) + (2 : Int32) = nI (47 + 3 * k + 2) := iAdd _ 2
        rw [ea, if_pos (by rw [iIn (by omega)]; omega), q_lts, if_pos ib2, if_pos ib2, q_lts]
        have ef : ∃ m' : St, m' = u2 m5' 6 (upd (upd (upd (upd (m5' 6) (47 + 3 * k) (nI K)) (47 + 3 * k + 1) (nI z1)) (47 + 3 * k + 2) (nI z2)) 2 (nI (k + 1))) := ⟨_, rfl⟩
        obtain ⟨m', hm'⟩ := ef
        refine Or.inl ⟨p5, q5, s5, rd2, a5, m', _, rfl, ?_, by rw [hm']; exact gd_6 t3 _, ?_⟩
        · rw [hm']
          unfold uA
          simp only [u2_at, u2_u2, iCl (show 47 + 3 * k < 2 ^ 31 by omega), iCl (show 47 + 3 * k + 1 < 2 ^ 31 by omega), iCl (show 47 + 3 * k + 2 < 2 ^ 31 by omega), show (2 : Int32).toNatClampNeg = 2 from rfl]
          rw [upd_diff (show ¬ 2 = 47 + 3 * k + 2 by omega), upd_diff (show ¬ 2 = 47 + 3 * k + 1 by omega), upd_diff (show ¬ 2 = 47 + 3 * k by omega), show m5' 6 2 = nI k from e60, nI_1]
        · rw [hm', u2_at, e6]
          exact PH_t P hk k5 K1 K5 z1b z2b
      · refine Or.inr ⟨f, pl, rd', a2, m', hA (hA (hA hp 7 k K) 8 k z1) 9 k z2, ?_, ?_, t2, t4⟩
        · rw [t1, q_b3s, if_pos (Or.inl rfl)]
        · rw [t3, q_b1s, if_neg (bd18 t4).1]
    · have y1 : fX4_takeNumber rd1 a1 0 9 = some (0, rd', a1) := y1
      have y3 : fX8_number m1' 0 9 = some (r, m') := y3
      refine Or.inr ⟨f, pl, rd', a1, m', hA (hA hp 7 k K) 8 k z1, ?_, ?_, y2, y4⟩
      · rw [y1, q_b3s, if_pos rfl]
      · rw [y3, q_b2s, bd_end y4, q_b1s, if_neg (bd18 y4).1]
  · have x1 : fX4_takeNumber rd a 0 30 = some (0, rd', a) := x1
    have x3 : fX8_number m 0 30 = some (r, m') := x3
    refine Or.inr ⟨f, pl, rd', a, m', hA hp 7 k K, ?_, ?_, x2, x4⟩
    · rw [x1, q_b3s, if_pos rfl]
    · rw [x3, q_b2s, bd_num x4, q_b2s, bd_end x4, q_b1s, if_neg (bd18 x4).1]
theorem bd_tree {f pl : Nat} (B : BD m0 b u f pl a m1) (e : fX8_begins m 2 4 = some m1) : fX8_readTree m = some m1 := by
  have hz : ∃ r5, fX8_kindBy 0 = some r5 := ⟨_, rfl⟩
  obtain ⟨r5, hz⟩ := hz
  unfold fX8_readTree
  rw [e, q_b1s, bd_name B, q_b1s, hz, q_b1s, if_neg (bd18 B).1, q_b1s, if_neg (bd18 B).1, q_b1s]
  exact bd_mRest B r5
theorem treeR (eb : fX8_begins m 2 4 = some m1) (G : GD m0 b u p q s a m1) (rd : St) {k : Nat} (hk : hp 12 0 = k) (k5 : k < 4) (P : PH hp (m1 6) 12) : (∃ (p' q' s' : Nat) (rd' a' m' : St) (hp' : Hl), fX4_readTree rd a (cst hp) (nI k) = some (1, rd', a', cst hp') ∧ fX8_readTree m = some m' ∧ GD m0 b u p' q' s' a' m' ∧ PH (h1 hp' 12 (k + 1)) (m' 6) 12) ∨ (∃ (f pl : Nat) (rd' a' m' : St) (hp' : Hl), fX4_readTree rd a (cst hp) (nI k) = some (0, rd', a', cst hp') ∧ fX8_readTree m = some m' ∧ RF f pl rd' ∧ BD m0 b u f pl a' m') := by
  have ib : inb (nI k) 4 := by rw [iIn (by omega)]; exact k5
  have T := G.1
  unfold fX4_readTree fX8_readTree
  rw [eb, q_b1s, kd_c T, q_b1s, name_ok T G.2.1, q_b1s, kd_m T, q_b1s, if_pos G.2.1]
  cases hK : kdO b p q s with
  | none =>
    obtain ⟨m', y1, y2, y3⟩ := bad_ok G (f := 1) (by decide) (by decide)
    have y1 : fX8_bad m1 1 = some m' := y1
    obtain ⟨rd', x1, x2⟩ := refuse_ok T rd 1
    have x1 : fX4_refuse rd a 1 = some (0, rd') := x1
    refine Or.inr ⟨1, p, rd', a, m', hp, ?_, ?_, x2, y2⟩
    · rw [if_pos (show tI none = -1000000 from rfl), x1, q_b2s, if_pos (Or.inl rfl)]
    · rw [if_pos (show tI none = -1000000 from rfl), q_b1s, must0 G y1 y2, q_b1s, q_b1s, if_neg (bd18 y2).1, q_b1s]
      exact bd_mRest y2 _
  | some K =>
    obtain ⟨K1, K5⟩ := kd_r hK
    have nK : ¬ tI (some K) = -1000000 := nI_neNONE (by omega)
    obtain ⟨p2, q2, s2, a2, m2, y1, y2, y3, y4⟩ := gd_next G
    have T2 := y3.1
    have es : fX6_isSort a2 2 = some (if s2 = 2 then 1 else 0) := sort_c T2 (k := 2) (by decide)
    have e15 : (m2 15 0 = 3) = (s2 = 2) := sort_m T2 (k := 2) (j := 3) (by decide) rfl
    have P2 : PH hp (m2 6) 12 := by rw [y4]; exact P
    rw [if_neg nK, if_pos ib, q_lts, y1, q_b1s, es, q_b1s, if_neg nK, q_b1s, must1 G y2, q_b1s, q_b1s, if_pos y3.2.1, tI_some, uA_cst _ _ _ _ (by omega)]
    by_cases c : s2 = 2
    · obtain ⟨N, n1, n2, n3⟩ := num_ok T2 c
      have hP := P.2.2.2.2.2.2
      have h12 := P.1.2.2.1
      obtain ⟨ok, g1, g2⟩ := toldC (hp := hA hp 7 k K) (N := N) h12 (fun x hx => (hP x hx).2.2.2.2.2.1) (by omega) (hp 12 0) 5000 0 (Nat.zero_add _) (by omega)
      have g2 : ok = true ↔ ∃ x, 0 ≤ x ∧ x < hp 12 0 ∧ hp 8 x = N := g2
      have g1 : fX3_hasTreeAt (cst (hA hp 7 k K)) (nI N) = some (if ok = true then 1 else 0) := g1
      obtain ⟨ok', o1, o2⟩ := toldM P2 (N := N) (by omega) (hp 12 0) 5000 0 false (Nat.zero_add _) (by omega)
      have o1 : fX8_isTold_L4 (nI N) m2 5000 0 0 = some (if ok' = true then 1 else 0) := o1
      have eo : ok' = ok := by
        rw [Bool.eq_iff_iff, o2, g2]
        constructor
        · rintro (h | h)
          · cases h
          · exact h
        · exact Or.inr
      rw [eo] at o1
      have o3 : fX8_isTold m2 (nI N) = some (if ok = true then 1 else 0) := by
        unfold fX8_isTold
        rw [o1, q_b1s]
        simp only [isb01, if_true]
      rw [if_pos c, if_neg (show ¬ (1 : Int32) = 0 by decide), n2, q_b1s, g1, q_b1s, if_pos (show m2 15 0 = 3 by rw [e15]; exact c), n3, q_b1s, o3, q_b1s]
      cases ok with
      | true =>
        obtain ⟨m', w1, w2, w3⟩ := bad_ok y3 (f := 2) (by decide) (by decide)
        have w1 : fX8_bad m2 2 = some m' := w1
        obtain ⟨rd', x1, x2⟩ := refuse_ok T2 rd 2
        have x1 : fX4_refuse rd a2 2 = some (0, rd') := x1
        refine Or.inr ⟨2, p2, rd', a2, m', hA hp 7 k K, ?_, ?_, x2, w2⟩
        · rw [if_neg (show ¬ (if true = true then (1 : Int32) else 0) = 0 by decide), x1, q_b2s, if_pos (Or.inl rfl)]
        · rw [if_neg (show ¬ (if true = true then (1 : Int32) else 0) = 0 by decide), w1, q_b1s, q_b1s]
          exact bd_mRest w2 _
      | false =>
        have := restR y3 rd hk k5 K1 K5 P2
        rw [if_pos (show (if false = true then (1 : Int32) else 0) = 0 by decide), if_pos (show (if false = true then (1 : Int32) else 0) = 0 by decide), q_b1s]
        exact this
    · have := restR y3 rd hk k5 K1 K5 P2
      rw [if_neg c, if_pos rfl, if_neg (by rw [e15]; exact c), q_b1s]
      exact this
theorem stop70 {f pl : Nat} (B : BD m0 b u f pl a m) (n : Nat) : fX8_hill_L70 (n + 1) m = some m := by
  rw [fX8_hill_L70, bd_name B, q_b1s, if_neg (by decide +kernel)]
theorem treesB : ∀ d n n' k (p q s : Nat) (rd a m : St) (hp : Hl), k + d = 4 → d < n → d + 1 < n' → GD m0 b u p q s a m → PH hp (m 6) 12 → hp 12 0 = k → (∃ (p' q' s' : Nat) (rd' a' m' : St) (hp' : Hl), fX4_readTrees_L2 n (nI k) rd a (cst hp) = some (1, rd', a', cst hp') ∧ fX8_hill_L70 n' m = some m' ∧ GD m0 b u p' q' s' a' m' ∧ PH hp' (m' 6) 12) ∨ (∃ (f pl : Nat) (rd' a' m' : St) (hp' : Hl), fX4_readTrees_L2 n (nI k) rd a (cst hp) = some (0, rd', a', cst hp') ∧ fX8_hill_L70 n' m = some m' ∧ RF f pl rd' ∧ BD m0 b u f pl a' m') := by
  intro d
  induction d with
  | zero =>
    intro n n' k p q s rd a m hp e hn hn' G P hk
    cases n with
    | zero => omega
    | succ n =>
      cases n' with
      | zero => omega
      | succ n' =>
        cases n' with
        | zero => omega
        | succ n' =>
          have e : k = 4 := by omega
          subst e
          have T := G.1
          rw [fX4_readTrees_L2, fX8_hill_L70, if_pos (by decide), word_ok T (by decide), q_b1s, name_ok T G.2.1, q_b1s, kk_3]
          simp only [b01, name_eq T (show 3 < 9 by decide)]
          by_cases c : WM b p q s 3 = true
          · obtain ⟨m1, y1, y2⟩ := begin_bad G (i := 2) (n := 4) (by decide) (by rw [← hk]; exact P.2.1.2.2)
            have y1 : fX8_begins m 2 4 = some m1 := y1
            obtain ⟨rd', x1, x2⟩ := refuse_ok T rd 3
            have x1 : fX4_refuse rd a 3 = some (0, rd') := x1
            refine Or.inr ⟨3, p, rd', a, m1, hp, ?_, ?_, x2, y2⟩
            · rw [if_neg (fun n => n c), x1, q_b2s, if_pos rfl]
            · rw [if_pos c, bd_tree y2 y1, q_b1s, stop70 y2]
          · refine Or.inl ⟨p, q, s, rd, a, m, hp, ?_, ?_, G, P⟩
            · rw [if_pos c]
            · rw [if_neg c]
  | succ d ih =>
    intro n n' k p q s rd a m hp e hn hn' G P hk
    cases n with
    | zero => omega
    | succ n =>
      cases n' with
      | zero => omega
      | succ n' =>
        have T := G.1
        have nle : ¬ (4 : Int32) ≤ nI k := by rw [show (4 : Int32) = nI 4 from rfl, iLe (by decide) (by omega)]; omega
        rw [fX4_readTrees_L2, fX8_hill_L70, if_neg nle, word_ok T (by decide), q_b1s, q_b1s, name_ok T G.2.1, q_b1s, kk_3]
        simp only [b01, name_eq T (show 3 < 9 by decide)]
        by_cases c : WM b p q s 3 = true
        · obtain ⟨p1, q1, s1, a1, m1, y1, y2, y3, y4⟩ := gd_next G
          have eb : fX8_begins m 2 4 = some m1 := begin_ok G (i := 2) (n := 4) (k := k) (by decide) (by rw [← hk]; exact P.2.1.2.2) (by omega) (by decide) (by omega) y2
          rw [if_neg (fun n => n c), y1, q_b1s, if_pos c]
          rcases treeR eb y3 rd hk (by omega) (by rw [y4]; exact P) with ⟨p2, q2, s2, rd2, a2, m2, hp2, x1, x2, x3, x4⟩ | ⟨f, pl, rd2, a2, m2, hp2, x1, x2, x3, x4⟩
          · rw [x1, q_b4s, if_neg (show ¬ (1 : Int32) = 0 by decide), q_lts, x2, q_b1s, nI_1, u1_cst]
            exact ih n n' (k + 1) p2 q2 s2 rd2 a2 m2 (h1 hp2 12 (k + 1)) (by omega) (by omega) (by omega) x3 x4 rfl
          · refine Or.inr ⟨f, pl, rd2, a2, m2, hp2, ?_, ?_, x3, x4⟩
            · rw [x1, q_b4s, if_pos rfl]
            · obtain ⟨z, rfl⟩ : ∃ z, n' = z + 1 := ⟨n' - 1, by omega⟩
              rw [x2, q_b1s, stop70 x4]
        · refine Or.inl ⟨p, q, s, rd, a, m, hp, ?_, ?_, G, P⟩
          · rw [if_pos c, if_pos c]
          · rw [if_neg c]
end R98
