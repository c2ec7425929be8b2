/-! rows -/
theorem RelR {ro ta ac bo i6 i7 st sp x m ro' m' : St} (R : RelC ro ta ac bo i6 i7 st sp x m) (v : Int32) (hr : rRows ro' (m' 2) (m' 3) (m' 4)) (hm : ∀ k, 5 ≤ k → m' k = m k) (h1 : m' 1 0 = v) : RelC ro' ta ac bo i6 i7 st sp (u1 x 13 v) m' := by
  obtain ⟨h, h6, h7, h9, e1, e2, e3, e4, ⟨hv, r, hR, hM⟩, hrow, htape, hacts, himg, htr, hx⟩ := R
  have a5 := hm 5 (by omega)
  have a7 := hm 7 (by omega)
  have a8 := hm 8 (by omega)
  have a9 := hm 9 (by omega)
  have a10 := hm 10 (by omega)
  have a11 := hm 11 (by omega)
  have a12 := hm 12 (by omega)
  have a23 := hm 23 (by omega)
  have a24 := hm 24 (by omega)
  have a25 := hm 25 (by omega)
  have a26 := hm 26 (by omega)
  refine ⟨h, h6, h7, h9, e1, e2, e3, e4, ⟨hv, r, hR, fun i => by rw [a5]; exact hM i⟩, hr, ?_, ?_, ?_, ?_, ?_⟩
  · rw [a10, a11]; exact htape
  · rw [a8, a9]; exact hacts
  · rw [a23, a24]; exact himg
  · rw [a25, a26]; exact htr
  · rw [a7, a12, h1]; exact ⟨hx.1, hx.2.1, hx.2.2.1, rfl⟩
theorem upd_same {f : Nat → Int32} {i : Nat} {v : Int32} : upd f i v i = v := by unfold upd; rw [if_pos rfl]
theorem upd_diff {f : Nat → Int32} {i x : Nat} {v : Int32} (h : ¬ x = i) : upd f i v x = f x := by unfold upd; rw [if_neg h]
theorem lane_ge {x : Int32} (h : x = -1 ∨ x = 0 ∨ x = 1 ∨ x = 2) : (0 ≤ x) = ¬ x = -1 := by
  rcases h with e | e | e | e <;> subst e <;> exact propext (by decide)
theorem lane_lt {x : Int32} (h : x = -1 ∨ x = 0 ∨ x = 1 ∨ x = 2) : (x < 0) = (x = -1) := by
  rcases h with e | e | e | e <;> subst e <;> exact propext (by decide)
theorem c_missing (a : St) {j : Nat} (hj : j < 8) : fX5_isMissing a (nI j) = some (if a 0 j = -1 then 1 else 0) := by
  have c1 : inR (nI j) 0 7 = true := by rw [inR_i, nI_toInt (by omega)]; omega
  have k1 : ¬ ¬ inR (nI j) 0 7 = true := fun n => n c1
  unfold fX5_isMissing
  rw [c_isRow, q_b1s]
  simp only [b01]
  rw [if_neg k1, if_pos (by rw [iIn (show j < 2 ^ 31 by omega)]; exact hj), iCl (show j < 2 ^ 31 by omega), ite_so]
def hB (a : St) (j n : Nat) (p q : Int32) : Bool := decide (¬ a 0 j = -1 ∧ 0 ≤ p.toInt ∧ 0 ≤ q.toInt ∧ p.toInt + q.toInt ≤ n)
theorem hB_i {a : St} {j n : Nat} {p q : Int32} : (hB a j n p q = true) = (¬ a 0 j = -1 ∧ 0 ≤ p.toInt ∧ 0 ≤ q.toInt ∧ p.toInt + q.toInt ≤ n) := by unfold hB; simp
theorem c_holds (a : St) {j n : Nat} (hj : j < 8) (hn : n ≤ 40) (ha : a 1 j = nI n) (p q : Int32) : fX5_holds a (nI j) p q = some (if hB a j n p q = true then 1 else 0) := by
  have ib : inb (nI j) 8 := by rw [iIn (show j < 2 ^ 31 by omega)]; exact hj
  unfold fX5_holds
  rw [c_missing a hj, q_b1s]
  simp only [b01]
  by_cases c0 : a 0 j = -1
  · rw [if_neg (fun n => n c0), if_neg (by rw [hB_i]; exact fun k => k.1 c0)]
  rw [if_pos c0]
  simp only [hB_i, c0, not_false_iff, true_and]
  by_cases c1 : p < 0
  · rw [if_pos c1, if_neg (fun k => ?_)]
    rw [Int32.lt_iff_toInt_lt] at c1
    have : p.toInt < 0 := c1
    omega
  rw [if_neg c1]
  by_cases c2 : q < 0
  · rw [if_pos c2, if_neg (fun k => ?_)]
    rw [Int32.lt_iff_toInt_lt] at c2
    have : q.toInt < 0 := c2
    omega
  obtain ⟨b, b1, rfl⟩ := nI_of c1
  obtain ⟨d, d1, rfl⟩ := nI_of c2
  rw [if_neg c2, if_pos ib, nI_toInt b1, nI_toInt d1]
  simp only [iCl (show j < 2 ^ 31 by omega), ha, iLt (show n < 2 ^ 31 by omega) b1]
  by_cases c3 : n < b
  · rw [if_pos c3, if_neg (fun k => by omega)]
  rw [if_neg c3, if_pos ib, iSub (by omega)]
  simp only [iLt (show n - b < 2 ^ 31 by omega) d1]
  by_cases c4 : n - b < d
  · rw [if_pos c4, if_neg (fun k => by omega)]
  · rw [if_neg c4, if_pos ⟨by omega, by omega, by omega⟩]
theorem c_item (a : St) {j n b : Nat} (hj : j < 8) (hn : n ≤ 40) (ha : a 1 j = nI n) (h0 : ¬ a 0 j = -1) (hb : b < n) : fX5_item a (nI j) (nI b) = some (a 2 (40 * j + b)) := by
  have c1 : hB a j n (nI b) 1 = true := by
    rw [hB_i, nI_toInt (by omega)]
    have : (1 : Int32).toInt = 1 := rfl
    exact ⟨h0, by omega, by omega, by omega⟩
  have k1 : ¬ ¬ hB a j n (nI b) 1 = true := fun n => n c1
  unfold fX5_item
  rw [c_holds a hj hn ha, q_b1s]
  simp only [b01]
  rw [if_neg k1, show (40 : Int32) = nI 40 from rfl, iMul, iAdd, if_pos (by rw [iIn (by omega)]; omega), iCl (by omega), Nat.mul_comm j 40]
theorem rowsUpd {a a' : St} {m2 m3 m4 m2' m3' m4' : Nat → Int32} {j n : Nat} {lane : Int32} (hr : rRows a m2 m3 m4) (hj : j < 8) (hn : n ≤ 40) (hl : lane = -1 ∨ lane = 0 ∨ lane = 1 ∨ lane = 2) (e0 : a' 0 = upd (a 0) j lane) (f0 : m2' = upd m2 j lane) (e1 : a' 1 = upd (a 1) j (nI n)) (f1 : m3' = upd m3 j (nI n)) (e2 : ∀ x, (x < 40 * j ∨ 40 * j + 40 ≤ x) → a' 2 x = a 2 x) (f2 : ∀ x, (x < 40 * j ∨ 40 * j + 40 ≤ x) → m4' x = m4 x) (eq : ∀ i, i < n → a' 2 (40 * j + i) = m4' (40 * j + i)) : rRows a' m2' m3' m4' := by
  intro k hk
  obtain ⟨h1, h2, h3, n', h4, h5, h6⟩ := hr k hk
  by_cases c : k = j
  · subst c
    refine ⟨?_, ?_, ?_, n, hn, ?_, eq⟩
    · rw [e0, f0, upd_same, upd_same]
    · rw [e1, f1, upd_same, upd_same]
    · rw [f0, upd_same]; exact hl
    · rw [f1, upd_same]
  · refine ⟨?_, ?_, ?_, n', h4, ?_, fun i hi => ?_⟩
    · rw [e0, f0, upd_diff c, upd_diff c]; exact h1
    · rw [e1, f1, upd_diff c, upd_diff c]; exact h2
    · rw [f0, upd_diff c]; exact h3
    · rw [f1, upd_diff c]; exact h5
    · rw [e2 _ (by omega), f2 _ (by omega)]; exact h6 i hi
theorem makeL {j N : Nat} (hj : j < 8) (hN : N ≤ 40) : ∀ d n i (s : St), i + d = N → d < n → ∃ s' : St, fX5_make_L44 (nI j) (nI N) n (nI i) s = some s' ∧ (∀ k, ¬ k = 2 → s' k = s k) ∧ (∀ x, (x < 40 * j + i ∨ 40 * j + 40 ≤ x) → s' 2 x = s 2 x) ∧ ∀ x, 40 * j + i ≤ x → x < 40 * j + N → s' 2 x = 0 := by
  intro d
  induction d with
  | zero =>
    intro n i s e hn
    cases n with
    | zero => omega
    | succ n =>
      refine ⟨s, ?_, fun k _ => rfl, fun x _ => rfl, fun x a b => by omega⟩
      rw [fX5_make_L44, if_pos (by rw [iLe (show N < 2 ^ 31 by omega) (show i < 2 ^ 31 by omega)]; omega)]
  | succ d ih =>
    intro n i s e hn
    cases n with
    | zero => omega
    | succ n =>
      obtain ⟨s', f1, f2, f3, f4⟩ := ih n (i + 1) (uA s 2 (nI (j * 40 + i)) 0) (by omega) (by omega)
      refine ⟨s', ?_, ?_, ?_, ?_⟩
      · rw [fX5_make_L44, if_neg (by rw [iLe (show N < 2 ^ 31 by omega) (show i < 2 ^ 31 by omega)]; omega), show (40 : Int32) = nI 40 from rfl, show (1 : Int32) = nI 1 from rfl, iMul, iAdd, if_pos (by rw [iIn (by omega)]; omega), q_lts, iAdd]
        exact f1
      · intro k hk; rw [f2 k hk, uA_ne hk]
      · intro x hx
        rw [f3 x (by omega)]
        show upd (s 2) (nI (j * 40 + i)).toNatClampNeg 0 x = _
        rw [iCl (by omega), upd_diff (by omega)]
      · intro x h1 h2
        by_cases c : x = 40 * j + i
        · rw [f3 x (by omega)]
          show upd (s 2) (nI (j * 40 + i)).toNatClampNeg 0 x = _
          rw [iCl (by omega), c, Nat.mul_comm, upd_same]
        · exact f4 x (by omega) h2
theorem m_rowL {j : Nat} (hj : j < 8) : ∀ d n i (s : St), i + d = 40 → d < n → ∃ s' : St, fX8_row_L66 (nI j) n (nI i) s = some s' ∧ (∀ k, ¬ k = 4 → s' k = s k) ∧ (∀ x, (x < 40 * j + i ∨ 40 * j + 40 ≤ x) → s' 4 x = s 4 x) ∧ ∀ x, 40 * j + i ≤ x → x < 40 * j + 40 → s' 4 x = 0 := by
  intro d
  induction d with
  | zero =>
    intro n i s e hn
    cases n with
    | zero => omega
    | succ n =>
      refine ⟨s, ?_, fun k _ => rfl, fun x _ => rfl, fun x a b => by omega⟩
      rw [fX8_row_L66, if_pos (by rw [show (40 : Int32) = nI 40 from rfl, iLe (show 40 < 2 ^ 31 by omega) (show i < 2 ^ 31 by omega)]; omega)]
  | succ d ih =>
    intro n i s e hn
    cases n with
    | zero => omega
    | succ n =>
      obtain ⟨s', f1, f2, f3, f4⟩ := ih n (i + 1) (uA s 4 (nI (40 * j + i)) 0) (by omega) (by omega)
      refine ⟨s', ?_, ?_, ?_, ?_⟩
      · rw [fX8_row_L66, show (40 : Int32) = nI 40 from rfl, show (1 : Int32) = nI 1 from rfl, if_neg (by rw [iLe (show 40 < 2 ^ 31 by omega) (show i < 2 ^ 31 by omega)]; omega), iMul, iAdd, if_pos (by rw [iIn (by omega)]; omega), q_lts, iAdd]
        exact f1
      · intro k hk; rw [f2 k hk, uA_ne hk]
      · intro x hx
        rw [f3 x (by omega)]
        show upd (s 4) (nI (40 * j + i)).toNatClampNeg 0 x = _
        rw [iCl (by omega), upd_diff (by omega)]
      · intro x h1 h2
        by_cases c : x = 40 * j + i
        · rw [f3 x (by omega)]
          show upd (s 4) (nI (40 * j + i)).toNatClampNeg 0 x = _
          rw [iCl (by omega), c, upd_same]
        · exact f4 x (by omega) h2
section OPS
variable {ro ta ac bo i6 i7 st sp x m : St}
theorem inb8 {j : Nat} (hj : j < 8) : inb (nI j) 8 := by rw [iIn (show j < 2 ^ 31 by omega)]; exact hj
theorem row_sim (R : RelC ro ta ac bo i6 i7 st sp x m) (p q k : Int32) : ∃ (v : Int64) (ro' x' m' : St), fX7_row x ro p q k = some (v, x', ro') ∧ fX8_row m p q k = some (v, m') ∧ RelC ro' ta ac bo i6 i7 st sp x' m' := by
  have R0 := Rel0 R
  have hrow : rRows ro (m 2) (m 3) (m 4) := by obtain ⟨h, h6, h7, h9, e1, e2, e3, e4, hh, hrow, _⟩ := R; exact hrow
  unfold fX7_row fX8_row
  rw [q_lts, c_isRow, m_isRow, q_b1s, q_b1s]
  simp only [b01]
  by_cases c1 : inR p 0 7 = true
  · have k1 : ¬ ¬ inR p 0 7 = true := fun n => n c1
    rw [if_neg k1, if_neg k1, c_isLane, inp_ok q 0 2 0 2 rfl rfl, q_b1s, q_b1s]
    simp only [b01]
    by_cases c2 : inR q 0 2 = true
    · have k2 : ¬ ¬ inR q 0 2 = true := fun n => n c2
      rw [if_neg k2, if_neg k2]
      by_cases c3 : k ≤ 40
      · rw [if_pos c3, if_pos c3, q_lts]
        by_cases c4 : 0 ≤ k
        · rw [if_pos c4, if_pos c4]
          obtain ⟨j, j1, j2, j3, rfl⟩ := inR_of (by decide) (by decide) c1
          obtain ⟨z, z1, z2, rfl⟩ := nI_of2 (M := 40) (n := 40) rfl (Int32.not_lt.mpr c4) c3
          have hq : q = -1 ∨ q = 0 ∨ q = 1 ∨ q = 2 := by
            obtain ⟨b, b1, b2, b3, rfl⟩ := inR_of (by decide) (by decide) c2
            have : b = 0 ∨ b = 1 ∨ b = 2 := by omega
            rcases this with e | e | e <;> subst e <;> decide
          obtain ⟨s', f1, f2, f3, f4⟩ := makeL (j := j) (N := z) (by omega) (by omega) z 5000 0 (uA (uA ro 0 (nI j) q) 1 (nI j) (nI z)) (by omega) (by omega)
          have f1 : fX5_make_L44 (nI j) (nI z) 5000 0 (uA (uA ro 0 (nI j) q) 1 (nI j) (nI z)) = some s' := f1
          obtain ⟨m', g1, g2, g3, g4⟩ := m_rowL (j := j) (by omega) 40 5000 0 (uA (uA (u1 (u1 m 0 0) 1 0) 2 (nI j) q) 3 (nI j) (nI z)) (by omega) (by omega)
          have g1 : fX8_row_L66 (nI j) 5000 0 (uA (uA (u1 (u1 m 0 0) 1 0) 2 (nI j) q) 3 (nI j) (nI z)) = some m' := g1
          have em : fX5_make ro (nI j) q (nI z) = some s' := by
            unfold fX5_make
            rw [c_isRow, q_b1s]
            simp only [b01]
            rw [if_neg k1, c_isLane, q_b1s]
            simp only [b01]
            rw [if_neg k2, if_neg (Int32.not_lt.mpr c4), if_pos c3, if_pos (inb8 (by omega)), q_lts, if_pos (inb8 (by omega)), q_lts, f1, q_b1s]
          rw [em, q_b1s, if_pos (inb8 (by omega)), q_lts, if_pos (inb8 (by omega)), q_lts, g1, q_b1s]
          refine ⟨_, s', u1 x 13 0, m', rfl, rfl, RelR R 0 ?_ ?_ ?_⟩
          · refine rowsUpd (j := j) (n := z) (lane := q) hrow (by omega) (by omega) hq ?_ ?_ ?_ ?_ ?_ ?_ ?_
            · rw [f2 0 (by decide)]
              show upd (ro 0) (nI j).toNatClampNeg q = _
              rw [iCl (by omega)]
            · rw [g2 2 (by decide)]
              show upd (m 2) (nI j).toNatClampNeg q = _
              rw [iCl (by omega)]
            · rw [f2 1 (by decide)]
              show upd (ro 1) (nI j).toNatClampNeg (nI z) = _
              rw [iCl (by omega)]
            · rw [g2 3 (by decide)]
              show upd (m 3) (nI j).toNatClampNeg (nI z) = _
              rw [iCl (by omega)]
            · intro x hx; exact f3 x (by omega)
            · intro x hx; exact g3 x (by omega)
            · intro i hi; rw [f4 _ (by omega) (by omega), g4 _ (by omega) (by omega)]
          · intro k hk
            rw [g2 k (by omega), uA_ne (by omega), uA_ne (by omega), u1_ne (by omega), u1_ne (by omega)]
          · rw [g2 1 (by decide)]; rfl
        · rw [if_neg c4, if_neg c4]
          exact ⟨_, ro, u1 x 13 4, u1 (u1 (u1 m 0 0) 1 0) 1 4, rfl, rfl, RelF R 4 (fun k a b => by rw [u1_ne b, u1_ne b, u1_ne a]) rfl⟩
      · exact ⟨_, _, _, _, by rw [if_neg c3], by rw [if_neg c3], R0⟩
    · exact ⟨_, _, _, _, by rw [if_pos c2], by rw [if_pos c2], R0⟩
  · exact ⟨_, _, _, _, by rw [if_pos c1], by rw [if_pos c1], R0⟩
theorem drop_sim (R : RelC ro ta ac bo i6 i7 st sp x m) (p : Int32) : ∃ (v : Int64) (ro' x' m' : St), fX7_drop x ro p = some (v, x', ro') ∧ fX8_drop m p = some (v, m') ∧ RelC ro' ta ac bo i6 i7 st sp x' m' := by
  have R0 := Rel0 R
  have hrow : rRows ro (m 2) (m 3) (m 4) := by obtain ⟨h, h6, h7, h9, e1, e2, e3, e4, hh, hrow, _⟩ := R; exact hrow
  unfold fX7_drop fX8_drop
  rw [q_lts, c_isRow, m_isRow, q_b1s, q_b1s]
  simp only [b01]
  by_cases c1 : inR p 0 7 = true
  · have k1 : ¬ ¬ inR p 0 7 = true := fun n => n c1
    obtain ⟨j, j1, j2, j3, rfl⟩ := inR_of (by decide) (by decide) c1
    have hj : j < 8 := by omega
    obtain ⟨r1, r2, r3, n, r4, r5, r6⟩ := hrow j hj
    rw [if_neg k1, if_neg k1, c_missing ro hj, q_b1s, q_lts, if_pos (inb8 hj)]
    simp only [b01]
    simp only [iCl j3, show (u1 (u1 m 0 0) 1 0) 2 = m 2 from rfl, lane_ge r3, r1]
    by_cases c2 : m 2 j = -1
    · rw [if_neg (fun n => n c2), if_neg (fun n => n c2)]
      exact ⟨_, ro, u1 x 13 1, u1 (u1 (u1 m 0 0) 1 0) 1 1, rfl, rfl, RelF R 1 (fun k a b => by rw [u1_ne b, u1_ne b, u1_ne a]) rfl⟩
    · rw [if_pos c2, if_pos c2, if_pos (inb8 hj), q_lts, if_pos (inb8 hj)]
      have el : fX5_lose ro (nI j) = some (m 3 j, uA ro 0 (nI j) (-1)) := by
        unfold fX5_lose
        rw [c_missing ro hj, q_b1s]
        simp only [b01]
        rw [r1, if_pos c2, if_pos (inb8 hj), q_lts, if_pos (inb8 hj), iCl j3, uA_ne (by decide), r2]
      rw [el, q_b2s]
      refine ⟨_, _, _, _, rfl, rfl, RelR R 0 ?_ ?_ rfl⟩
      · intro k hk
        obtain ⟨s1, s2, s3, n', s4, s5, s6⟩ := hrow k hk
        show upd (ro 0) (nI j).toNatClampNeg (-1) k = upd (m 2) (nI j).toNatClampNeg (-1) k ∧ ro 1 k = m 3 k ∧ _
        rw [iCl j3]
        by_cases c : k = j
        · subst c
          refine ⟨by rw [upd_same, upd_same], s2, ?_, n', s4, s5, s6⟩
          left
          show upd (m 2) (nI k).toNatClampNeg (-1) k = _
          rw [iCl j3, upd_same]
        · refine ⟨by rw [upd_diff c, upd_diff c]; exact s1, s2, ?_, n', s4, s5, s6⟩
          have : (uA (u1 (u1 m 0 0) 1 0) 2 (nI j) (-1)) 2 k = m 2 k := by
            show upd (m 2) (nI j).toNatClampNeg (-1) k = _
            rw [iCl j3, upd_diff c]
          rw [this]
          exact s3
      · intro k hk
        rw [uA_ne (by omega), u1_ne (by omega), u1_ne (by omega)]
  · exact ⟨_, _, _, _, by rw [if_pos c1], by rw [if_pos c1], R0⟩
theorem set_sim (R : RelC ro ta ac bo i6 i7 st sp x m) (p q w : Int32) : ∃ (v : Int64) (ro' x' m' : St), fX7_set x ro p q w = some (v, x', ro') ∧ fX8_set m p q w = some (v, m') ∧ RelC ro' ta ac bo i6 i7 st sp x' m' := by
  have R0 := Rel0 R
  have hrow : rRows ro (m 2) (m 3) (m 4) := by obtain ⟨h, h6, h7, h9, e1, e2, e3, e4, hh, hrow, _⟩ := R; exact hrow
  unfold fX7_set fX8_set
  rw [q_lts, c_isRow, m_isRow, q_b1s, q_b1s]
  simp only [b01]
  by_cases c1 : inR p 0 7 = true
  · have k1 : ¬ ¬ inR p 0 7 = true := fun n => n c1
    obtain ⟨j, j1, j2, j3, rfl⟩ := inR_of (by decide) (by decide) c1
    have hj : j < 8 := by omega
    obtain ⟨r1, r2, r3, n, r4, r5, r6⟩ := hrow j hj
    rw [if_neg k1, if_neg k1, c_missing ro hj, q_b1s, q_lts, if_pos (inb8 hj)]
    simp only [b01]
    simp only [iCl j3, show (u1 (u1 m 0 0) 1 0) 2 = m 2 from rfl, show (u1 (u1 m 0 0) 1 0) 3 = m 3 from rfl, lane_ge r3, r1]
    by_cases c2 : m 2 j = -1
    · rw [if_neg (fun n => n c2), if_neg (fun n => n c2)]
      exact ⟨_, ro, u1 x 13 1, u1 (u1 (u1 m 0 0) 1 0) 1 1, rfl, rfl, RelF R 1 (fun k a b => by rw [u1_ne b, u1_ne b, u1_ne a]) rfl⟩
    · rw [if_pos c2, if_pos c2, c_holds ro hj r4 (r2.trans r5), q_b1s, if_pos (inb8 hj), r5, inp_ok q 0 _ 0 _ rfl (nI_m1 (show n < 2 ^ 31 by omega)), q_b1s]
      simp only [b01]
      have e0 : ¬ ro 0 j = -1 := by rw [r1]; exact c2
      have hE : hB ro j n q 1 = inN q n := by
        rw [Bool.eq_iff_iff, hB_i, inR_i, show (1 : Int32).toInt = 1 from rfl]
        constructor
        · intro k; exact ⟨k.2.1, by omega⟩
        · intro k; exact ⟨e0, k.1, by omega, by omega⟩
      rw [hE]
      by_cases c3 : inN q n = true
      · have k3 : ¬ ¬ inN q n = true := fun n => n c3
        rw [if_neg k3, if_neg k3, if_pos (inb8 hj)]
        obtain ⟨b, hb, rfl⟩ := inN_nI (by omega) c3
        have ix : inb (nI (40 * j + b)) 320 := by rw [iIn (by omega)]; omega
        have hcut : (q_b1 (fX5_cutToLane (m 2 j) w) fun v => some v) = (if m 2 j = 0 then some w.toInt8.toInt32 else if inb (nI j) 8 then (if m 2 j = 1 then some w.toInt16.toInt32 else some w) else none) := by
          rw [if_pos (inb8 hj)]
          unfold fX5_cutToLane
          split
          · rfl
          split <;> rfl
        obtain ⟨cv, hcv⟩ : ∃ cv, fX5_cutToLane (m 2 j) w = some cv := by
          unfold fX5_cutToLane
          split
          · exact ⟨_, rfl⟩
          split
          · exact ⟨_, rfl⟩
          · exact ⟨_, rfl⟩
        rw [hcv, q_b1s] at hcut
        have ep : fX5_put ro (nI j) (nI b) w = some (cv, uA ro 2 (nI (40 * j + b)) cv) := by
          unfold fX5_put
          rw [c_holds ro hj r4 (r2.trans r5), q_b1s]
          simp only [b01]
          rw [hE, if_neg k3, if_pos (inb8 hj), iCl j3, r1, hcv, q_b1s, show (40 : Int32) = nI 40 from rfl, iMul, iAdd, Nat.mul_comm j 40, if_pos ix, q_lts]
        rw [ep, q_b2s, ← hcut, q_b1s, show (40 : Int32) = nI 40 from rfl, iMul, iAdd, if_pos ix, q_lts, if_pos ix]
        have e4 : (uA (u1 (u1 m 0 0) 1 0) 4 (nI (40 * j + b)) cv) 4 (nI (40 * j + b)).toNatClampNeg = cv := by
          show upd (m 4) (nI (40 * j + b)).toNatClampNeg cv (nI (40 * j + b)).toNatClampNeg = _
          rw [upd_same]
        rw [e4]
        refine ⟨_, _, _, _, rfl, rfl, RelR R 0 ?_ ?_ rfl⟩
        · intro k hk
          obtain ⟨s1, s2, s3, n', s4, s5, s6⟩ := hrow k hk
          refine ⟨s1, s2, s3, n', s4, s5, fun i hi => ?_⟩
          show upd (ro 2) (nI (40 * j + b)).toNatClampNeg cv (40 * k + i) = upd (m 4) (nI (40 * j + b)).toNatClampNeg cv (40 * k + i)
          by_cases c : 40 * k + i = (nI (40 * j + b)).toNatClampNeg
          · rw [← c, upd_same, upd_same]
          · rw [upd_diff c, upd_diff c]; exact s6 i hi
        · intro k hk
          rw [uA_ne (by omega), u1_ne (by omega), u1_ne (by omega)]
      · rw [if_pos c3, if_pos c3]
        exact ⟨_, ro, u1 x 13 2, u1 (u1 (u1 m 0 0) 1 0) 1 2, rfl, rfl, RelF R 2 (fun k a b => by rw [u1_ne b, u1_ne b, u1_ne a]) rfl⟩
  · exact ⟨_, _, _, _, by rw [if_pos c1], by rw [if_pos c1], R0⟩
end OPS
