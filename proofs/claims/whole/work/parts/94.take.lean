/-! taking numbers and signs -/
def Fr (m0 m : St) : Prop := ∀ k, ¬ k = 6 → (k < 14 ∨ 19 < k) → m k = m0 k
def GD (m0 : St) (b : Nat → Nat) (u p q s : Nat) (a m : St) : Prop := Tok b u p q s a m ∧ m 18 0 = 0 ∧ Fr m0 m
/-- a fault f was found at the place pl -/
def BD (m0 : St) (b : Nat → Nat) (u f pl : Nat) (a m : St) : Prop := (∃ p q s, Tok b u p q s a m) ∧ m 18 0 = nI f ∧ 1 ≤ f ∧ f ≤ 3 ∧ m 19 0 = nI pl ∧ Fr m0 m
def RF (f pl : Nat) (rd : St) : Prop := rd 2 0 = nI f ∧ rd 3 0 = nI pl
section T94
variable {m0 : St} {b : Nat → Nat} {u p q s : Nat} {a m rd : St}
theorem Tok_of {a' m' : St} (T : Tok b u p q s a m) (ea : a' = a) (e : ∀ k, k = 10 ∨ k = 13 ∨ k = 14 ∨ k = 15 ∨ k = 16 ∨ k = 17 → m' k = m k) : Tok b u p q s a' m' := by
  subst ea
  obtain ⟨T1, T2, t1, t2, t3, t4, t5, t6, t7⟩ := T
  refine ⟨Tb_of T1 rfl rfl (e 10 (by omega)) (e 13 (by omega)), T2, t1, t2, t3, ?_, ?_, ?_, ?_⟩
  · rw [e 16 (by omega)]; exact t4
  · rw [e 14 (by omega)]; exact t5
  · rw [e 17 (by omega)]; exact t6
  · rw [e 15 (by omega)]; exact t7
theorem bad_ok (G : GD m0 b u p q s a m) {f : Nat} (h1 : 1 ≤ f) (h3 : f ≤ 3) : ∃ m', fX8_bad m (nI f) = some m' ∧ BD m0 b u f p a m' ∧ m' 6 = m 6 := by
  obtain ⟨T, h18, F⟩ := G
  unfold fX8_bad
  rw [if_pos h18, q_lts, q_lts]
  refine ⟨_, rfl, ⟨⟨p, q, s, Tok_of T rfl (fun k hk => by rw [u1_ne (by omega), u1_ne (by omega)])⟩, rfl, h1, h3, T.2.2.2.2.2.1, fun k k6 hk => by rw [u1_ne (by omega), u1_ne (by omega)]; exact F k k6 hk⟩, rfl⟩
theorem refuse_ok (T : Tok b u p q s a m) (rd : St) (f : Nat) : ∃ rd', fX4_refuse rd a (nI f) = some (0, rd') ∧ RF f p rd' := by
  unfold fX4_refuse fX6_tokenStart
  rw [q_lts, q_b1s, q_lts]
  exact ⟨_, rfl, rfl, T.2.2.1⟩
theorem bd18 {f pl : Nat} (B : BD m0 b u f pl a m) : ¬ m 18 0 = 0 ∧ ¬ m 18 0 ≤ 0 := by
  obtain ⟨_, h, h1, h3, _⟩ := B
  rw [h]
  exact ⟨by rw [show (0 : Int32) = nI 0 from rfl, iEq (by omega) (by decide)]; omega, by rw [show (0 : Int32) = nI 0 from rfl, iLe (by omega) (by decide)]; omega⟩
theorem bd_bad {f pl : Nat} (B : BD m0 b u f pl a m) (v : Int32) : fX8_bad m v = some m := by
  unfold fX8_bad
  rw [if_neg (bd18 B).1]
theorem bd_must {f pl : Nat} (B : BD m0 b u f pl a m) (v : Int32) : fX8_must m v = some m := by
  unfold fX8_must
  by_cases c : v = 0
  · rw [if_pos c, bd_bad B, q_b1s, q_b1s, if_neg (bd18 B).1]
  · rw [if_neg c, q_b1s, if_neg (bd18 B).1]
theorem bd_num {f pl : Nat} (B : BD m0 b u f pl a m) (x y : Int32) : fX8_number m x y = some (0, m) := by
  unfold fX8_number
  rw [if_neg (bd18 B).2]
theorem bd_end {f pl : Nat} (B : BD m0 b u f pl a m) : fX8_mustEnd m = some m := by
  unfold fX8_mustEnd
  rw [if_neg (bd18 B).1]
theorem bd_begins {f pl : Nat} (B : BD m0 b u f pl a m) {i : Int32} (hi : inb i 59) (n : Int32) : fX8_begins m i n = some m := by
  unfold fX8_begins
  rw [if_pos hi]
  by_cases c : m 6 i.toNatClampNeg = n
  · rw [if_pos c, bd_bad B, q_b1s, q_b1s, bd_must B, q_b1s]
  · rw [if_neg c, q_b1s, bd_must B, q_b1s]
theorem bd_name {f pl : Nat} (B : BD m0 b u f pl a m) : fX8_name m = some 0 := by
  have h := (bd18 B).1
  obtain ⟨⟨p, q, s, T⟩, _⟩ := B
  exact name_bd T h
theorem bd_6 {f pl : Nat} (B : BD m0 b u f pl a m) (g : Nat → Int32) : BD m0 b u f pl a (u2 m 6 g) := by
  obtain ⟨⟨p, q, s, T⟩, h, h1, h3, h19, F⟩ := B
  exact ⟨⟨p, q, s, Tok_of T rfl (fun k hk => u2_ne (by omega))⟩, h, h1, h3, h19, fun k k6 hk => by rw [u2_ne k6]; exact F k k6 hk⟩
theorem gd_6 (G : GD m0 b u p q s a m) (g : Nat → Int32) : GD m0 b u p q s a (u2 m 6 g) := by
  obtain ⟨T, h, F⟩ := G
  exact ⟨Tok_of T rfl (fun k hk => u2_ne (by omega)), h, fun k k6 hk => by rw [u2_ne k6]; exact F k k6 hk⟩
theorem gd_next (G : GD m0 b u p q s a m) : ∃ (p' q' s' : Nat) (a' m' : St), fX6_readNext a = some a' ∧ fX8_next m = some m' ∧ GD m0 b u p' q' s' a' m' ∧ m' 6 = m 6 := by
  obtain ⟨T, h, F⟩ := G
  obtain ⟨Tb, ⟨k1, k2, k3, k4, k5⟩, t1, t2, t3, t4, t5, t6, t7⟩ := T
  obtain ⟨p', q', s', a', m', f1, f2, f3, f4, f5⟩ := nextL Tb k2 t2 t5
  exact ⟨p', q', s', a', m', f1, f2, ⟨f3, by rw [f5 18 (by decide) (by decide) (by decide) (by decide)]; exact h, fun k k6 hk => by rw [f5 k (by omega) (by omega) (by omega) (by omega)]; exact F k k6 hk⟩, f5 6 (by decide) (by decide) (by decide) (by decide)⟩
theorem must1 (G : GD m0 b u p q s a m) {m' : St} (e : fX8_next m = some m') : fX8_must m 1 = some m' := by
  unfold fX8_must
  rw [if_neg (by decide), q_b1s, if_pos G.2.1, e, q_b1s]
theorem must0 (G : GD m0 b u p q s a m) {m' : St} (e : fX8_bad m 1 = some m') (B : BD m0 b u 1 p a m') : fX8_must m 0 = some m' := by
  unfold fX8_must
  rw [if_pos rfl, e, q_b1s, q_b1s, if_neg (bd18 B).1]
theorem sort_c (T : Tok b u p q s a m) {k : Nat} (hk : k ≤ 4) : fX6_isSort a (nI k) = some (if s = k then 1 else 0) := by
  obtain ⟨Tb, ⟨k1, k2, k3, k4, k5⟩, t1, t2, t3, t4, t5, t6, t7⟩ := T
  unfold fX6_isSort
  simp only [t3, iEq (show s < 2 ^ 31 by omega) (show k < 2 ^ 31 by omega)]
  rw [ite_so]
theorem sort_m (T : Tok b u p q s a m) {k j : Nat} (hk : k ≤ 4) (hj : j = (k + 1) % 5) : (m 15 0 = nI j) = (s = k) := by
  obtain ⟨Tb, ⟨k1, k2, k3, k4, k5⟩, t1, t2, t3, t4, t5, t6, t7⟩ := T
  rw [t7, iEq (by omega) (by omega)]
  apply propext
  omega
theorem takeN (G : GD m0 b u p q s a m) (rd : St) {lo hi : Nat} (hl : lo < 2 ^ 31) (hh : hi < 2 ^ 31) : (∃ (z p' q' s' : Nat) (rd' a' m' : St), lo ≤ z ∧ z ≤ hi ∧ fX4_takeNumber rd a (nI lo) (nI hi) = some (1, rd', a') ∧ rd' 1 0 = nI z ∧ fX8_number m (nI lo) (nI hi) = some (nI z, m') ∧ GD m0 b u p' q' s' a' m' ∧ m' 6 = m 6) ∨ (∃ (f pl : Nat) (r : Int32) (rd' m' : St), fX4_takeNumber rd a (nI lo) (nI hi) = some (0, rd', a) ∧ RF f pl rd' ∧ fX8_number m (nI lo) (nI hi) = some (r, m') ∧ BD m0 b u f pl a m') := by
  have T := G.1
  have h18 := G.2.1
  have le0 : m 18 0 ≤ 0 := by rw [h18]; decide
  have e15 : (m 15 0 = 3) = (s = 2) := sort_m T (k := 2) (j := 3) (by decide) rfl
  have es : fX6_isSort a 2 = some (if s = 2 then 1 else 0) := sort_c T (k := 2) (by decide)
  unfold fX4_takeNumber fX8_number
  rw [es, q_b1s, if_pos le0]
  by_cases c : s = 2
  · obtain ⟨N, n1, n2, n3⟩ := num_ok T c
    have c15 : m 15 0 = 3 := by rw [e15]; exact c
    have ein := in_ok (nI N).toInt64 lo hi (nI lo).toInt64 (nI hi).toInt64 (by rw [Int32.toInt_toInt64, nI_toInt hl]) (by rw [Int32.toInt_toInt64, nI_toInt hh])
    rw [Int32.toInt_toInt64, nI_toInt (by omega)] at ein
    rw [if_pos c, if_neg (show ¬ (1 : Int32) = 0 by decide), n2, q_b1s, n3, q_b1s, if_pos c15, ein, q_b1s, q_lts, show (u1 rd 1 (nI N)) 1 0 = nI N from rfl]
    have nb : N < 2 ^ 31 := by omega
    by_cases d1 : N < lo
    · obtain ⟨m', y1, y2, y3⟩ := bad_ok G (f := 2) (by decide) (by decide)
      have y1 : fX8_bad m 2 = some m' := y1
      obtain ⟨rd', x1, x2⟩ := refuse_ok T (u1 rd 1 (nI N)) 2
      have x1 : fX4_refuse (u1 rd 1 (nI N)) a 2 = some (0, rd') := x1
      refine Or.inr ⟨2, p, nI N, rd', m', ?_, x2, ?_, y2⟩
      · rw [if_pos (by rw [iLt nb hl]; exact d1), x1, q_b2s, if_pos (Or.inl rfl)]
      · rw [if_neg (show ¬ ((lo : Int) ≤ (N : Int) ∧ (N : Int) ≤ (hi : Int)) by omega), if_pos rfl, y1, q_b1s, q_b1s]
        by_cases c2 : m' 15 0 = 3
        · rw [if_pos c2, q_b1s, bd_must y2, q_b1s]
        · rw [if_neg c2, q_b1s, bd_must y2, q_b1s]
    · by_cases d2 : N ≤ hi
      · obtain ⟨p', q', s', a', m', y1, y2, y3, y4⟩ := gd_next G
        refine Or.inl ⟨N, p', q', s', u1 rd 1 (nI N), a', m', by omega, d2, ?_, rfl, ?_, y3, y4⟩
        · rw [if_neg (by rw [iLt nb hl]; exact d1), if_pos (by rw [iLe nb hh]; exact d2), y1, q_b1s]
        · rw [if_pos (show ((lo : Int) ≤ (N : Int) ∧ (N : Int) ≤ (hi : Int)) by omega), if_neg (show ¬ (1 : Int32) = 0 by decide), q_b1s, if_pos c15, q_b1s, must1 G y2, q_b1s]
      · obtain ⟨m', y1, y2, y3⟩ := bad_ok G (f := 2) (by decide) (by decide)
        have y1 : fX8_bad m 2 = some m' := y1
        obtain ⟨rd', x1, x2⟩ := refuse_ok T (u1 rd 1 (nI N)) 2
        have x1 : fX4_refuse (u1 rd 1 (nI N)) a 2 = some (0, rd') := x1
        refine Or.inr ⟨2, p, nI N, rd', m', ?_, x2, ?_, y2⟩
        · rw [if_neg (by rw [iLt nb hl]; exact d1), if_neg (by rw [iLe nb hh]; exact d2), x1, q_b2s, if_pos (Or.inl rfl)]
        · rw [if_neg (show ¬ ((lo : Int) ≤ (N : Int) ∧ (N : Int) ≤ (hi : Int)) by omega), if_pos rfl, y1, q_b1s, q_b1s]
          by_cases c2 : m' 15 0 = 3
          · rw [if_pos c2, q_b1s, bd_must y2, q_b1s]
          · rw [if_neg c2, q_b1s, bd_must y2, q_b1s]
  · have c15 : ¬ m 15 0 = 3 := by rw [e15]; exact c
    obtain ⟨m', y1, y2, y3⟩ := bad_ok G (f := 1) (by decide) (by decide)
    have y1 : fX8_bad m 1 = some m' := y1
    obtain ⟨rd', x1, x2⟩ := refuse_ok T rd 1
    have x1 : fX4_refuse rd a 1 = some (0, rd') := x1
    refine Or.inr ⟨1, p, 0, rd', m', ?_, x2, ?_, y2⟩
    · rw [if_neg c, if_pos rfl, x1, q_b2s, if_pos (Or.inl rfl)]
    · rw [fig_no T c, q_b1s, if_neg c15, q_b1s, if_neg c15, q_b1s, must0 G y1 y2, q_b1s]
theorem takeS (G : GD m0 b u p q s a m) (rd : St) : (∃ (p' q' s' : Nat) (a' m' : St), fX4_takeSign rd a = some (1, rd, a') ∧ fX8_mustEnd m = some m' ∧ GD m0 b u p' q' s' a' m' ∧ m' 6 = m 6) ∨ (∃ (f pl : Nat) (rd' m' : St), fX4_takeSign rd a = some (0, rd', a) ∧ RF f pl rd' ∧ fX8_mustEnd m = some m' ∧ BD m0 b u f pl a m') := by
  have T := G.1
  have h18 := G.2.1
  have e15 : (m 15 0 = 4) = (s = 3) := sort_m T (k := 3) (j := 4) (by decide) rfl
  have es : fX6_isSort a 3 = some (if s = 3 then 1 else 0) := sort_c T (k := 3) (by decide)
  unfold fX4_takeSign fX8_mustEnd
  rw [es, q_b1s, if_pos h18]
  by_cases c : s = 3
  · obtain ⟨p', q', s', a', m', y1, y2, y3, y4⟩ := gd_next G
    refine Or.inl ⟨p', q', s', a', m', ?_, ?_, y3, y4⟩
    · rw [if_pos c, if_neg (show ¬ (1 : Int32) = 0 by decide), y1, q_b1s]
    · rw [if_pos (by rw [e15]; exact c), q_b1s, must1 G y2, q_b1s]
  · obtain ⟨m', y1, y2, y3⟩ := bad_ok G (f := 1) (by decide) (by decide)
    have y1 : fX8_bad m 1 = some m' := y1
    obtain ⟨rd', x1, x2⟩ := refuse_ok T rd 1
    have x1 : fX4_refuse rd a 1 = some (0, rd') := x1
    refine Or.inr ⟨1, p, rd', m', ?_, x2, ?_, y2⟩
    · rw [if_neg c, if_pos rfl, x1, q_b2s, if_pos (Or.inl rfl)]
    · rw [if_neg (by rw [e15]; exact c), q_b1s, must0 G y1 y2, q_b1s]
end T94
