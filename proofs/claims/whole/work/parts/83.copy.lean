/-! copy, council -/
theorem sumL (a b : Int32) : (a.toInt64 + b.toInt64).toInt = a.toInt + b.toInt := by
  have h1 := Int32.toInt_lt a
  have h2 := Int32.le_toInt a
  have h3 := Int32.toInt_lt b
  have h4 := Int32.le_toInt b
  rw [Int64.toInt_add, Int32.toInt_toInt64, Int32.toInt_toInt64]
  apply Int.bmod_eq_of_le <;> omega
theorem sum_le (a b : Int32) {n : Nat} (hn : n ≤ 40) : (lg_cmp (a.toInt64 + b.toInt64) (nI n).toInt64 ≤ 0) = (a.toInt + b.toInt ≤ n) := by
  rw [cLe, Int64.le_iff_toInt_le, sumL, Int32.toInt_toInt64, nI_toInt (by omega)]
theorem sum_gt (a b : Int32) {n : Nat} (hn : n ≤ 40) : (0 < lg_cmp (a.toInt64 + b.toInt64) (nI n).toInt64) = ((n : Int) < a.toInt + b.toInt) := by
  rw [cGt, Int64.lt_iff_toInt_lt, sumL, Int32.toInt_toInt64, nI_toInt (by omega)]
theorem m_copyA {p q j z N : Nat} {s0 : St} (hp : 40 * p + j + N ≤ 320) (hq : 40 * q + z + N ≤ 320) (sep : 40 * q + z ≤ 40 * p + j ∨ ∀ i i', i < N → i' < N → 40 * p + j + i ≠ 40 * q + z + i') : ∀ d n i (s : St), i + d = N → d < n → (∀ k, ¬ k = 4 → s k = s0 k) → (∀ x, s 4 x = if 40 * q + z ≤ x ∧ x < 40 * q + z + i then s0 4 (40 * p + j + (x - (40 * q + z))) else s0 4 x) → ∃ s' : St, fX8_copy_L144 (nI p) (nI j) (nI q) (nI z) (nI N) 1 n (nI i) s = some s' ∧ (∀ k, ¬ k = 4 → s' k = s0 k) ∧ ∀ x, s' 4 x = if 40 * q + z ≤ x ∧ x < 40 * q + z + N then s0 4 (40 * p + j + (x - (40 * q + z))) else s0 4 x := by
  intro d
  induction d with
  | zero =>
    intro n i s e hn h1 h2
    cases n with
    | zero => omega
    | succ n =>
      have e : i = N := by omega
      subst e
      refine ⟨s, ?_, h1, h2⟩
      rw [fX8_copy_L144, if_pos (by rw [iLe (show i < 2 ^ 31 by omega) (show i < 2 ^ 31 by omega)]; exact Nat.le_refl _)]
  | succ d ih =>
    intro n i s e hn h1 h2
    cases n with
    | zero => omega
    | succ n =>
      have hs : s 4 (40 * p + j + i) = s0 4 (40 * p + j + i) := by
        rw [h2, if_neg]
        intro c
        rcases sep with k | k
        · omega
        · exact k i (40 * p + j + i - (40 * q + z)) (by omega) (by omega) (by omega)
      obtain ⟨s', f1, f2⟩ := ih n (i + 1) (uA s 4 (nI (40 * q + z + i)) (s 4 (40 * p + j + i))) (by omega) (by omega) (fun k hk => by rw [uA_ne hk]; exact h1 k hk) (fun x => by
        show upd (s 4) (nI (40 * q + z + i)).toNatClampNeg _ x = _
        rw [iCl (by omega)]
        by_cases c : x = 40 * q + z + i
        · rw [c, upd_same, hs, if_pos ⟨by omega, by omega⟩]; congr 1; omega
        · rw [upd_diff c, h2]
          by_cases k : 40 * q + z ≤ x ∧ x < 40 * q + z + i
          · rw [if_pos k, if_pos ⟨k.1, by omega⟩]
          · rw [if_neg k, if_neg (by omega)])
      refine ⟨s', ?_, f2⟩
      rw [fX8_copy_L144, if_neg (by rw [iLe (show N < 2 ^ 31 by omega) (show i < 2 ^ 31 by omega)]; omega), if_neg (show ¬ (1 : Int32) = 0 by decide), q_b1s, show (40 : Int32) = nI 40 from rfl, iMul, iAdd, iAdd, iMul, iAdd, iAdd, if_pos (by rw [iIn (by omega)]; omega), if_pos (by rw [iIn (by omega)]; omega), q_lts, iCl (show 40 * p + j + i < 2 ^ 31 by omega), show (1 : Int32) = nI 1 from rfl, iAdd]
      exact f1
theorem m_copyD {p q j z N : Nat} {s0 : St} (hp : 40 * p + j + N ≤ 320) (hq : 40 * q + z + N ≤ 320) (sep : 40 * p + j ≤ 40 * q + z ∨ ∀ i i', i < N → i' < N → 40 * p + j + i ≠ 40 * q + z + i') : ∀ d n i (s : St), i + d = N → d < n → (∀ k, ¬ k = 4 → s k = s0 k) → (∀ x, s 4 x = if 40 * q + z + d ≤ x ∧ x < 40 * q + z + N then s0 4 (40 * p + j + (x - (40 * q + z))) else s0 4 x) → ∃ s' : St, fX8_copy_L144 (nI p) (nI j) (nI q) (nI z) (nI N) 0 n (nI i) s = some s' ∧ (∀ k, ¬ k = 4 → s' k = s0 k) ∧ ∀ x, s' 4 x = if 40 * q + z ≤ x ∧ x < 40 * q + z + N then s0 4 (40 * p + j + (x - (40 * q + z))) else s0 4 x := by
  intro d
  induction d with
  | zero =>
    intro n i s e hn h1 h2
    cases n with
    | zero => omega
    | succ n =>
      have e : i = N := by omega
      subst e
      refine ⟨s, ?_, h1, h2⟩
      rw [fX8_copy_L144, if_pos (by rw [iLe (show i < 2 ^ 31 by omega) (show i < 2 ^ 31 by omega)]; exact Nat.le_refl _)]
  | succ d ih =>
    intro n i s e hn h1 h2
    cases n with
    | zero => omega
    | succ n =>
      have hs : s 4 (40 * p + j + d) = s0 4 (40 * p + j + d) := by
        rw [h2, if_neg]
        intro c
        rcases sep with k | k
        · omega
        · exact k d (40 * p + j + d - (40 * q + z)) (by omega) (by omega) (by omega)
      obtain ⟨s', f1, f2⟩ := ih n (i + 1) (uA s 4 (nI (40 * q + z + d)) (s 4 (40 * p + j + d))) (by omega) (by omega) (fun k hk => by rw [uA_ne hk]; exact h1 k hk) (fun x => by
        show upd (s 4) (nI (40 * q + z + d)).toNatClampNeg _ x = _
        rw [iCl (by omega)]
        by_cases c : x = 40 * q + z + d
        · rw [c, upd_same, hs, if_pos ⟨by omega, by omega⟩]; congr 1; omega
        · rw [upd_diff c, h2]
          by_cases k : 40 * q + z + (d + 1) ≤ x ∧ x < 40 * q + z + N
          · rw [if_pos k, if_pos ⟨by omega, k.2⟩]
          · rw [if_neg k, if_neg (by omega)])
      refine ⟨s', ?_, f2⟩
      rw [fX8_copy_L144, if_neg (by rw [iLe (show N < 2 ^ 31 by omega) (show i < 2 ^ 31 by omega)]; omega), if_pos rfl, q_b1s, show (40 : Int32) = nI 40 from rfl, show (1 : Int32) = nI 1 from rfl, iSub (show 1 ≤ N by omega), iSub (show i ≤ N - 1 by omega), show N - 1 - i = d by omega, iMul, iAdd, iAdd, iMul, iAdd, iAdd, if_pos (by rw [iIn (by omega)]; omega), if_pos (by rw [iIn (by omega)]; omega), q_lts, iCl (show 40 * p + j + d < 2 ^ 31 by omega), iAdd]
      exact f1
section OPS
variable {ro ta ac bo i6 i7 st sp x m : St}
theorem copy_sim (R : RelC ro ta ac bo i6 i7 st sp x m) (p q k w c : Int32) : ∃ (v : Int64) (ro' x' m' : St), fX7_copy x ro p q k w c = some (v, x', ro') ∧ fX8_copy m p q k w c = some (v, m') ∧ RelC ro' ta ac bo i6 i7 st sp x' m' := by
  have R0 := Rel0 R
  have hrow : rRows ro (m 2) (m 3) (m 4) := by obtain ⟨h, h6, h7, h9, e1, e2, e3, e4, hh, hrow, _⟩ := R; exact hrow
  unfold fX7_copy fX8_copy
  rw [q_lts, c_isRow, m_isRow, q_b1s, q_b1s]
  simp only [b01]
  by_cases c1 : inR p 0 7 = true
  · have k1 : ¬ ¬ inR p 0 7 = true := fun n => n c1
    rw [if_neg k1, if_neg k1, c_isRow, m_isRow, q_b1s, q_b1s]
    simp only [b01]
    by_cases c2 : inR k 0 7 = true
    · have k2 : ¬ ¬ inR k 0 7 = true := fun n => n c2
      rw [if_neg k2, if_neg k2]
      obtain ⟨j, j1, j2, j3, rfl⟩ := inR_of (by decide) (by decide) c1
      have hj : j < 8 := by omega
      obtain ⟨r1, r2, r3, n, r4, r5, r6⟩ := hrow j hj
      obtain ⟨i, g1, g2, g3, rfl⟩ := inR_of (by decide) (by decide) c2
      have hi : i < 8 := by omega
      obtain ⟨s1, s2, s3, n', s4, s5, s6⟩ := hrow i hi
      have fin : ∀ z : Int32, ∃ (v : Int64) (ro' x' m' : St), (q_b2 (fX7_finding x z) fun r33 sc34 => some (r33, sc34, ro)) = some (v, x', ro') ∧ (q_b2 (fX8_finding (u1 (u1 m 0 0) 1 0) z) fun r33 sc34 => some (r33, sc34)) = some (v, m') ∧ RelC ro' ta ac bo i6 i7 st sp x' m' := fun z => ⟨_, ro, u1 x 13 z, u1 (u1 (u1 m 0 0) 1 0) 1 z, rfl, rfl, RelF R z (fun k a b => by rw [u1_ne b, u1_ne b, u1_ne a]) rfl⟩
      rw [c_missing ro hj, q_b1s, q_lts, if_pos (inb8 hj)]
      simp only [b01, iCl j3, iCl g3, show (u1 (u1 m 0 0) 1 0) 2 = m 2 from rfl, show (u1 (u1 m 0 0) 1 0) 3 = m 3 from rfl, lane_lt r3, lane_ge s3, r1]
      by_cases c3 : m 2 j = -1
      · rw [if_neg (fun n => n c3), if_pos c3]
        exact fin 1
      rw [if_pos c3, if_neg c3, c_missing ro hi, q_b1s, if_pos (inb8 hi)]
      simp only [b01, s1]
      by_cases c4 : m 2 i = -1
      · rw [if_neg (fun n => n c4), if_neg (fun n => n c4)]
        exact fin 1
      rw [if_pos c4, if_pos c4, if_pos (inb8 hj), if_pos (inb8 hi)]
      have el : fX5_areOfOneLane ro (nI j) (nI i) = some (if m 2 j = m 2 i then 1 else 0) := by
        unfold fX5_areOfOneLane
        rw [c_isRow, q_b1s]
        simp only [b01]
        rw [if_neg k1, c_isRow, q_b1s]
        simp only [b01]
        rw [if_neg k2, if_pos (inb8 hj), if_pos (inb8 hi)]
        simp only [iCl j3, iCl g3, r1, s1]
        rw [ite_so]
      rw [el, q_b1s]
      simp only [b01]
      by_cases c5 : m 2 j = m 2 i
      · rw [if_neg (fun n => n c5), if_pos c5, c_holds ro hj r4 (r2.trans r5), q_b1s]
        simp only [b01]
        have e0 : ¬ ro 0 j = -1 := by rw [r1]; exact c3
        have e0' : ¬ ro 0 i = -1 := by rw [s1]; exact c4
        rw [c_holds ro hi s4 (s2.trans s5), q_b1s]
        simp only [b01, hB_i, r5, s5, sum_gt q c r4, sum_le w c s4]
        by_cases d1 : q < 0
        · have d1' : q.toInt < 0 := by rw [Int32.lt_iff_toInt_lt] at d1; exact d1
          rw [if_pos d1, if_pos (fun k => by omega)]
          exact fin 2
        rw [if_neg d1]
        by_cases d3 : c < 0
        · have d3' : c.toInt < 0 := by rw [Int32.lt_iff_toInt_lt] at d3; exact d3
          rw [if_pos d3, ite_self, if_pos (fun k => by omega)]
          exact fin 2
        rw [if_neg d3]
        obtain ⟨b, b1, rfl⟩ := nI_of d1
        obtain ⟨N, N1, rfl⟩ := nI_of d3
        rw [if_pos (inb8 hj), if_pos (inb8 hi)]
        by_cases d4 : (n : Int) < (nI b).toInt + (nI N).toInt
        · rw [if_pos d4, ite_self, if_pos (fun k => by omega)]
          exact fin 2
        rw [if_neg d4]
        have A : ¬ ro 0 j = -1 ∧ 0 ≤ (nI b).toInt ∧ 0 ≤ (nI N).toInt ∧ (nI b).toInt + (nI N).toInt ≤ (n : Int) := by
          rw [nI_toInt b1, nI_toInt N1] at d4 ⊢
          exact ⟨e0, by omega, by omega, by omega⟩
        rw [if_neg (fun k => k A)]
        by_cases d2 : w < 0
        · have d2' : w.toInt < 0 := by rw [Int32.lt_iff_toInt_lt] at d2; exact d2
          rw [if_pos d2, if_pos (fun k => by omega)]
          exact fin 2
        rw [if_neg d2]
        obtain ⟨z, z1, rfl⟩ := nI_of d2
        by_cases d5 : (nI z).toInt + (nI N).toInt ≤ (n' : Int)
        · have B : ¬ ro 0 i = -1 ∧ 0 ≤ (nI z).toInt ∧ 0 ≤ (nI N).toInt ∧ (nI z).toInt + (nI N).toInt ≤ (n' : Int) := by
            rw [nI_toInt z1, nI_toInt N1] at d5 ⊢
            exact ⟨e0', by omega, by omega, by omega⟩
          rw [if_neg (fun k => k B), if_pos d5]
          rw [nI_toInt b1, nI_toInt N1] at A
          rw [nI_toInt z1, nI_toInt N1] at B
          have A4 := A.2.2.2
          have B4 := B.2.2.2
          have hA : hB ro j n (nI b) (nI N) = true := by rw [hB_i, nI_toInt b1, nI_toInt N1]; exact A
          have hB' : hB ro i n' (nI z) (nI N) = true := by rw [hB_i, nI_toInt z1, nI_toInt N1]; exact B
          have kA : ¬ ¬ hB ro j n (nI b) (nI N) = true := fun n => n hA
          have kB : ¬ ¬ hB ro i n' (nI z) (nI N) = true := fun n => n hB'
          have ec : fX5_carry ro (nI j) (nI b) (nI i) (nI z) (nI N) = some (u2 ro 2 (va_cpy (ro 2) (ro 2) (40 * j + b) (40 * i + z) N)) := by
            unfold fX5_carry
            rw [c_holds ro hj r4 (r2.trans r5), q_b1s]
            simp only [b01]
            rw [if_neg kA, c_holds ro hi s4 (s2.trans s5), q_b1s]
            simp only [b01]
            rw [if_neg kB, show (40 : Int32) = nI 40 from rfl, iMul, iAdd, iMul, iAdd, iCl (show j * 40 + b < 2 ^ 31 by omega), iCl (show i * 40 + z < 2 ^ 31 by omega), iCl N1, if_pos (nI_pos (by omega)), if_pos (nI_pos (by omega)), if_pos (nI_pos N1), if_pos (by omega), if_pos (by omega), q_lts, Nat.mul_comm j 40, Nat.mul_comm i 40]
          rw [ec, q_b1s]
          have dis : j = i ∨ ∀ i1 i2, i1 < N → i2 < N → 40 * j + b + i1 ≠ 40 * i + z + i2 := by
            by_cases e : j = i
            · exact Or.inl e
            · exact Or.inr (fun i1 i2 h1 h2 => by omega)
          have fe : ∀ s' : St, (∀ k, ¬ k = 4 → s' k = (u1 (u1 m 0 0) 1 0) k) → (∀ x, s' 4 x = if 40 * i + z ≤ x ∧ x < 40 * i + z + N then m 4 (40 * j + b + (x - (40 * i + z))) else m 4 x) → RelC (u2 ro 2 (va_cpy (ro 2) (ro 2) (40 * j + b) (40 * i + z) N)) ta ac bo i6 i7 st sp (u1 x 13 0) s' := by
            intro s' f2 f3
            refine RelR R 0 ?_ (fun k hk => by rw [f2 k (by omega), u1_ne (by omega), u1_ne (by omega)]) (by rw [f2 1 (by decide)]; rfl)
            intro k hk
            obtain ⟨t1, t2, t3, n2, t4, t5, t6⟩ := hrow k hk
            refine ⟨?_, ?_, ?_, n2, t4, ?_, fun o ho => ?_⟩
            · rw [f2 2 (by decide)]; exact t1
            · rw [f2 3 (by decide)]; exact t2
            · rw [f2 2 (by decide)]; exact t3
            · rw [f2 3 (by decide)]; exact t5
            · rw [f3]
              show va_cpy (ro 2) (ro 2) (40 * j + b) (40 * i + z) N (40 * k + o) = _
              unfold va_cpy
              by_cases y : 40 * i + z ≤ 40 * k + o ∧ 40 * k + o < 40 * i + z + N
              · rw [if_pos y, if_pos y]
                have := r6 (b + (40 * k + o - (40 * i + z))) (by omega)
                rw [← Nat.add_assoc] at this
                exact this
              · rw [if_neg y, if_neg y]
                exact t6 o ho
          by_cases d6 : nI b < nI z
          · rw [if_pos d6, q_b1s]
            rw [iLt b1 z1] at d6
            obtain ⟨s', f1, f2, f3⟩ := m_copyD (p := j) (q := i) (j := b) (z := z) (N := N) (s0 := u1 (u1 m 0 0) 1 0) (by omega) (by omega) (dis.elim (fun e => Or.inl (by omega)) Or.inr) N 5000 0 (u1 (u1 m 0 0) 1 0) (by omega) (by omega) (fun k _ => rfl) (fun x => by rw [if_neg (by omega)])
            have f1 : fX8_copy_L144 (nI j) (nI b) (nI i) (nI z) (nI N) 0 5000 0 (u1 (u1 m 0 0) 1 0) = some s' := f1
            rw [f1, q_b1s]
            exact ⟨_, _, _, _, rfl, rfl, fe s' f2 f3⟩
          · rw [if_neg d6, q_b1s]
            rw [iLt b1 z1] at d6
            obtain ⟨s', f1, f2, f3⟩ := m_copyA (p := j) (q := i) (j := b) (z := z) (N := N) (s0 := u1 (u1 m 0 0) 1 0) (by omega) (by omega) (dis.elim (fun e => Or.inl (by omega)) Or.inr) N 5000 0 (u1 (u1 m 0 0) 1 0) (by omega) (by omega) (fun k _ => rfl) (fun x => by rw [if_neg (by omega)])
            have f1 : fX8_copy_L144 (nI j) (nI b) (nI i) (nI z) (nI N) 1 5000 0 (u1 (u1 m 0 0) 1 0) = some s' := f1
            rw [f1, q_b1s]
            exact ⟨_, _, _, _, rfl, rfl, fe s' f2 f3⟩
        · rw [if_pos (fun k => d5 k.2.2.2), if_neg d5]
          exact fin 2
      · rw [if_pos c5, if_neg c5]
        exact fin 5
    · exact ⟨_, _, _, _, by rw [if_pos c2], by rw [if_pos c2], R0⟩
  · exact ⟨_, _, _, _, by rw [if_pos c1], by rw [if_pos c1], R0⟩
end OPS
