/-! calls that only tell: minds, odds, grave, tree, kind, as -/
section M77
variable {h : Hl} {r : Nat → Nat} {s : St}
theorem m_mindsL (v : HV h) (R : RR h r) (M : HM s r) {m thr : Nat} (hm : m < 16) (hthr : thr < 16) : ∀ d n g, g + d = h 10 0 → d < n → fX8_minds_L39 (nI m) (nI thr) s n (nI (bs (mindB h m thr 0) g)) (nI g) = some (nI (minding h m thr 0)) := by
  have h0 := v.1
  have r0 : s 5 0 = nI (h 10 0) := by rw [M, R.1]
  intro d
  induction d with
  | zero =>
    intro n g e hn
    cases n with
    | zero => omega
    | succ n =>
      have e : g = h 10 0 := by omega
      subst e
      rw [fX8_minds_L39]
      simp only [z_0, z_1, z_2, z_3, z_4, z_5, z_6, z_7, z_8, z_9, z_10, z_11, z_12, z_13, z_14, z_15, z_16, z_20, z_21, z_22, z_23, z_24, z_30, z_31, z_32, z_35, z_40, z_47, z_48, z_57, z_59, z_97, z_100, z_122, z_400, z_1000, iIn (show 0 < 2 ^ 31 by decide), iCl (show 0 < 2 ^ 31 by decide), show 0 < 59 by decide, if_true, r0, iLe (show h 10 0 < 2 ^ 31 by omega) (show h 10 0 < 2 ^ 31 by omega), Nat.le_refl]
      rfl
  | succ d ih =>
    intro n g e hn
    cases n with
    | zero => omega
    | succ n =>
      have hg : g < h 10 0 := by omega
      have IH := ih n (g + 1) (by omega) (by omega)
      rw [show bs (mindB h m thr 0) (g + 1) = if mindB h m thr 0 g = true then bs (mindB h m thr 0) g ||| 2 ^ g else bs (mindB h m thr 0) g from rfl] at IH
      rw [fX8_minds_L39]
      simp only [z_0, z_1, z_2, z_3, z_4, z_5, z_6, z_7, z_8, z_9, z_10, z_11, z_12, z_13, z_14, z_15, z_16, z_20, z_21, z_22, z_23, z_24, z_30, z_31, z_32, z_35, z_40, z_47, z_48, z_57, z_59, z_97, z_100, z_122, z_400, z_1000, iIn (show 0 < 2 ^ 31 by decide), iCl (show 0 < 2 ^ 31 by decide), show 0 < 59 by decide, if_true, r0, iLe (show h 10 0 < 2 ^ 31 by omega) (show g < 2 ^ 31 by omega), show ¬ h 10 0 ≤ g by omega, if_false, m_doesMind v R M hg hm hthr (show 0 < 2 ^ 31 by decide), q_b1s, iB0, iShl (show g < 31 by omega), iAdd]
      by_cases c : mindB h m thr 0 g = true
      · rw [if_pos c] at IH
        simpa [c, q_b1s, iOr] using IH
      · rw [if_neg c] at IH
        simpa [c, q_b1s, iOr] using IH
theorem m_treeL2 (v : HV h) (R : RR h r) (M : HM s r) {t : Nat} (ht : t < 2 ^ 31) : ∀ d n g, g + d = h 10 0 → d < n → fX8_tree_L34 (nI t) s n (nI (bs (fun g => decide (itsT h g 0 = some t)) g)) (nI g) = some (nI (gravesOf h t)) := by
  have h0 := v.1
  have r0 : s 5 0 = nI (h 10 0) := by rw [M, R.1]
  intro d
  induction d with
  | zero =>
    intro n g e hn
    cases n with
    | zero => omega
    | succ n =>
      have e : g = h 10 0 := by omega
      subst e
      rw [fX8_tree_L34]
      simp only [z_0, z_1, z_2, z_3, z_4, z_5, z_6, z_7, z_8, z_9, z_10, z_11, z_12, z_13, z_14, z_15, z_16, z_20, z_21, z_22, z_23, z_24, z_30, z_31, z_32, z_35, z_40, z_47, z_48, z_57, z_59, z_97, z_100, z_122, z_400, z_1000, iIn (show 0 < 2 ^ 31 by decide), iCl (show 0 < 2 ^ 31 by decide), show 0 < 59 by decide, if_true, r0, iLe (show h 10 0 < 2 ^ 31 by omega) (show h 10 0 < 2 ^ 31 by omega), Nat.le_refl]
      rfl
  | succ d ih =>
    intro n g e hn
    cases n with
    | zero => omega
    | succ n =>
      have hg : g < h 10 0 := by omega
      have IH := ih n (g + 1) (by omega) (by omega)
      rw [fX8_tree_L34]
      simp only [z_0, z_1, z_2, z_3, z_4, z_5, z_6, z_7, z_8, z_9, z_10, z_11, z_12, z_13, z_14, z_15, z_16, z_20, z_21, z_22, z_23, z_24, z_30, z_31, z_32, z_35, z_40, z_47, z_48, z_57, z_59, z_97, z_100, z_122, z_400, z_1000, iIn (show 0 < 2 ^ 31 by decide), iCl (show 0 < 2 ^ 31 by decide), show 0 < 59 by decide, if_true, r0, iLe (show h 10 0 < 2 ^ 31 by omega) (show g < 2 ^ 31 by omega), show ¬ h 10 0 ≤ g by omega, if_false, m_itsTree v R M hg (show 0 < 2 ^ 31 by decide), q_b1s, tI_eqN (itsT_lt h v g 0) ht, iShl (show g < 31 by omega), iAdd]
      by_cases c : itsT h g 0 = some t
      · simpa [c, bs, q_b1s, iOr] using IH
      · simpa [c, bs, q_b1s, iOr] using IH
theorem m_kindOf (v : HV h) (R : RR h r) (M : HM s r) {t : Nat} (ht : t < h 12 0) : fX8_kindOf s (nI t) = some (nI (h 7 t)) := by
  have h0 := v.2.2.1
  unfold fX8_kindOf
  simp only [show (47 : Int32) = nI 47 from rfl, show (3 : Int32) = nI 3 from rfl, iMul, iAdd, iIn (show 47 + 3 * t < 2 ^ 31 by omega), iCl (show 47 + 3 * t < 2 ^ 31 by omega), show 47 + 3 * t < 59 by omega, if_true]
  rw [M, (R.2.2.2.2.2.2 t ht).1]
theorem m_oddsV (v : HV h) (R : RR h r) (M : HM s r) (t : Lt) {m thr hr : Nat} (hm : m < 16) (hthr : thr < 16) (hh : hr < 12) (w : Int32) : ∃ t' : Lt, fX8_layOdds s t (nI m) (nI thr) (nI hr) 0 = some t' ∧ fX8_partOf (t' 21) (t' 22) w = some (lN (lowP (upN h m thr hr 0) (10 ^ exN h m thr 0) (decide (w = 0)))) := by
  obtain ⟨t', e3, e4, e5⟩ := m_layOdds v R M t (m := m) (thr := thr) (hr := hr) (gone := 0) hm hthr hh (by decide)
  have hup := upN_le h m thr hr 0
  have hex := ten_le (exN_le h v m thr 0)
  have hpos : 0 < 10 ^ exN h m thr 0 := Nat.pow_pos (by decide)
  have hlt : 10 ^ exN h m thr 0 < 2 ^ 63 := Nat.lt_of_le_of_lt hex (by decide)
  refine ⟨t', e3, ?_⟩
  rw [e4, e5]
  exact part_ok (Nat.lt_of_le_of_lt hup hlt) hlt hpos w
theorem nine (h : Hl) (v : HV h) (m thr gone : Nat) : 10 ^ (9 - exN h m thr gone) * 10 ^ exN h m thr gone = 10 ^ 9 := by
  rw [← Nat.pow_add]
  congr 1
  have := exN_le h v m thr gone
  omega
theorem passN_le (h : Hl) (v : HV h) (m thr hr gone : Nat) : passN h m thr hr gone ≤ 10 ^ 9 := by
  rw [passN_eq h v, ← nine h v m thr gone]
  exact Nat.mul_le_mul_left _ (upN_le h m thr hr gone)
theorem pass_low (h : Hl) (v : HV h) (m thr hr gone : Nat) (z : Bool) : lowP (passN h m thr hr gone) (10 ^ 9) z = lowP (upN h m thr hr gone) (10 ^ exN h m thr gone) z := by
  rw [passN_eq h v, ← nine h v m thr gone]
  exact lowP_scale (Nat.pow_pos (by decide)) z
theorem lN_e9 : (1000000000 : Int64) = lN (10 ^ 9) := by decide +kernel
theorem c_oddsV (v : HV h) (f : Lt) {m thr hr : Nat} (w : Int32) : ∃ f' : Lt, fX2_become f (lN (passN h m thr hr 0)) 1000000000 = some f' ∧ fX2_part f' w = some (lN (lowP (upN h m thr hr 0) (10 ^ exN h m thr 0) (decide (w = 0)))) := by
  have hlt : passN h m thr hr 0 < 2 ^ 63 := Nat.lt_of_le_of_lt (passN_le h v m thr hr 0) (by decide)
  obtain ⟨f', g1, g2, g3⟩ := become_ok f (a := passN h m thr hr 0) (b := 10 ^ 9) hlt (by decide) (by decide)
  refine ⟨f', by rw [lN_e9]; exact g1, ?_⟩
  rw [fpart_ok]
  by_cases cw : w = 0
  · rw [if_pos cw, g2, pass_low h v, decide_eq_true cw]
  · rw [if_neg cw, g3, pass_low h v, decide_eq_false cw]
end M77
theorem t_0_0 : (nI 0 = (0 : Int32)) = True := eq_true (by decide)
theorem t_0_1 : (nI 0 = (1 : Int32)) = False := eq_false (by decide)
theorem t_0_2 : (nI 0 = (2 : Int32)) = False := eq_false (by decide)
theorem t_0_3 : (nI 0 = (3 : Int32)) = False := eq_false (by decide)
theorem t_0_4 : (nI 0 = (4 : Int32)) = False := eq_false (by decide)
theorem t_0_5 : (nI 0 = (5 : Int32)) = False := eq_false (by decide)
theorem t_0_6 : (nI 0 = (6 : Int32)) = False := eq_false (by decide)
theorem t_1_0 : (nI 1 = (0 : Int32)) = False := eq_false (by decide)
theorem t_1_1 : (nI 1 = (1 : Int32)) = True := eq_true (by decide)
theorem t_1_2 : (nI 1 = (2 : Int32)) = False := eq_false (by decide)
theorem t_1_3 : (nI 1 = (3 : Int32)) = False := eq_false (by decide)
theorem t_1_4 : (nI 1 = (4 : Int32)) = False := eq_false (by decide)
theorem t_1_5 : (nI 1 = (5 : Int32)) = False := eq_false (by decide)
theorem t_1_6 : (nI 1 = (6 : Int32)) = False := eq_false (by decide)
theorem t_2_0 : (nI 2 = (0 : Int32)) = False := eq_false (by decide)
theorem t_2_1 : (nI 2 = (1 : Int32)) = False := eq_false (by decide)
theorem t_2_2 : (nI 2 = (2 : Int32)) = True := eq_true (by decide)
theorem t_2_3 : (nI 2 = (3 : Int32)) = False := eq_false (by decide)
theorem t_2_4 : (nI 2 = (4 : Int32)) = False := eq_false (by decide)
theorem t_2_5 : (nI 2 = (5 : Int32)) = False := eq_false (by decide)
theorem t_2_6 : (nI 2 = (6 : Int32)) = False := eq_false (by decide)
theorem t_3_0 : (nI 3 = (0 : Int32)) = False := eq_false (by decide)
theorem t_3_1 : (nI 3 = (1 : Int32)) = False := eq_false (by decide)
theorem t_3_2 : (nI 3 = (2 : Int32)) = False := eq_false (by decide)
theorem t_3_3 : (nI 3 = (3 : Int32)) = True := eq_true (by decide)
theorem t_3_4 : (nI 3 = (4 : Int32)) = False := eq_false (by decide)
theorem t_3_5 : (nI 3 = (5 : Int32)) = False := eq_false (by decide)
theorem t_3_6 : (nI 3 = (6 : Int32)) = False := eq_false (by decide)
theorem t_4_0 : (nI 4 = (0 : Int32)) = False := eq_false (by decide)
theorem t_4_1 : (nI 4 = (1 : Int32)) = False := eq_false (by decide)
theorem t_4_2 : (nI 4 = (2 : Int32)) = False := eq_false (by decide)
theorem t_4_3 : (nI 4 = (3 : Int32)) = False := eq_false (by decide)
theorem t_4_4 : (nI 4 = (4 : Int32)) = True := eq_true (by decide)
theorem t_4_5 : (nI 4 = (5 : Int32)) = False := eq_false (by decide)
theorem t_4_6 : (nI 4 = (6 : Int32)) = False := eq_false (by decide)
theorem t_5_0 : (nI 5 = (0 : Int32)) = False := eq_false (by decide)
theorem t_5_1 : (nI 5 = (1 : Int32)) = False := eq_false (by decide)
theorem t_5_2 : (nI 5 = (2 : Int32)) = False := eq_false (by decide)
theorem t_5_3 : (nI 5 = (3 : Int32)) = False := eq_false (by decide)
theorem t_5_4 : (nI 5 = (4 : Int32)) = False := eq_false (by decide)
theorem t_5_5 : (nI 5 = (5 : Int32)) = True := eq_true (by decide)
theorem t_5_6 : (nI 5 = (6 : Int32)) = False := eq_false (by decide)
theorem t_6_0 : (nI 6 = (0 : Int32)) = False := eq_false (by decide)
theorem t_6_1 : (nI 6 = (1 : Int32)) = False := eq_false (by decide)
theorem t_6_2 : (nI 6 = (2 : Int32)) = False := eq_false (by decide)
theorem t_6_3 : (nI 6 = (3 : Int32)) = False := eq_false (by decide)
theorem t_6_4 : (nI 6 = (4 : Int32)) = False := eq_false (by decide)
theorem t_6_5 : (nI 6 = (5 : Int32)) = False := eq_false (by decide)
theorem t_6_6 : (nI 6 = (6 : Int32)) = True := eq_true (by decide)
theorem t4_0 : ((4 : Int32) ≤ nI 0) = False := eq_false (by decide)
theorem t4_1 : ((4 : Int32) ≤ nI 1) = False := eq_false (by decide)
theorem t4_2 : ((4 : Int32) ≤ nI 2) = False := eq_false (by decide)
theorem t4_3 : ((4 : Int32) ≤ nI 3) = False := eq_false (by decide)
theorem t4_4 : ((4 : Int32) ≤ nI 4) = True := eq_true (by decide)
theorem t4_5 : ((4 : Int32) ≤ nI 5) = True := eq_true (by decide)
theorem t4_6 : ((4 : Int32) ≤ nI 6) = True := eq_true (by decide)
section OPS
variable {ro ta ac bo i6 i7 st sp x m : St}
theorem n1z : ((1 : Int32) = 0) = False := eq_false (by decide)
theorem z7 {a : Int32} (h : a = 0 ∨ a = 1) : ¬ a = 0 → a = 1 := fun q => h.resolve_left q
theorem minds_sim (R : RelC ro ta ac bo i6 i7 st sp x m) (p q : Int32) : ∃ (v : Int64) (m' : St), fX7_minds x st p q = some v ∧ fX8_minds m p q = some (v, m') ∧ RelC ro ta ac bo i6 i7 st sp x m' := by
  have R0 := Rel0 R
  obtain ⟨h, h6, h7, h9, rfl, rfl, rfl, rfl, ⟨hv, r, hR, hM⟩, hrow, htape, hacts, himg, htr, hx⟩ := R
  have hM0 : HM (u1 m 0 0) r := hM
  unfold fX7_minds fX8_minds
  rw [q_lts, hx.1, show (u1 m 0 0) 7 0 = m 7 0 from rfl]
  by_cases c0 : m 7 0 = 0
  · exact ⟨_, _, by rw [if_pos c0], by rw [if_pos c0], R0⟩
  simp only [c0, if_false, c_isMatter, c_isHorns, m_isMatter, m_areHorns, q_b1s, b01]
  by_cases c1 : inR p 1 15 = true
  · by_cases c2 : inR q 0 15 = true
    · obtain ⟨a, a1, a2, a3, rfl⟩ := inR_of (by decide) (by decide) c1
      obtain ⟨b, b1, b2, b3, rfl⟩ := inR_of (by decide) (by decide) c2
      have h0 := hv.1
      have e1 : fX3_minding (cst h) (nI a) (nI b) 0 = some (nI (minding h a b 0)) := minding_ok h hv (by omega) (by omega) (by decide)
      have e2 : fX8_minds_L39 (nI a) (nI b) (u1 m 0 0) 5000 0 0 = some (nI (minding h a b 0)) := m_mindsL hv hR hM0 (by omega) (by omega) (h 10 0) 5000 0 (by omega) (by omega)
      simp only [c1, c2, not_true, if_false, e1, e2, q_b1s]
      exact ⟨_, _, rfl, rfl, R0⟩
    · exact ⟨_, _, by rw [if_neg (fun n => n c1), if_pos c2], by rw [if_neg (fun n => n c1), if_pos c2], R0⟩
  · exact ⟨_, _, by rw [if_pos c1], by rw [if_pos c1], R0⟩
theorem odds_sim (R : RelC ro ta ac bo i6 i7 st sp x m) (f t : Lt) (p q k w : Int32) : ∃ (v : Int64) (f' : Lt) (m' : St) (t' : Lt), fX7_odds x st f p q k w = some (v, f') ∧ fX8_odds m t p q k w = some (v, m', t') ∧ RelC ro ta ac bo i6 i7 st sp x m' := by
  have R0 := Rel0 R
  obtain ⟨h, h6, h7, h9, rfl, rfl, rfl, rfl, ⟨hv, r, hR, hM⟩, hrow, htape, hacts, himg, htr, hx⟩ := R
  have hM0 : HM (u1 m 0 0) r := hM
  unfold fX7_odds fX8_odds
  rw [q_lts, hx.1, show (u1 m 0 0) 7 0 = m 7 0 from rfl]
  by_cases c0 : m 7 0 = 0
  · exact ⟨_, _, _, _, by rw [if_pos c0], by rw [if_pos c0], R0⟩
  simp only [c0, if_false, c_isAsked, m_isMatter, m_areHorns, m_isHour, c_isPart, inp_ok w 0 1 0 1 rfl rfl, q_b1s, b01]
  by_cases c1 : inR p 1 15 = true
  · by_cases c2 : inR q 0 15 = true
    · by_cases c3 : inR k 0 11 = true
      · by_cases c4 : inR w 0 1 = true
        · obtain ⟨a, a1, a2, a3, rfl⟩ := inR_of (by decide) (by decide) c1
          obtain ⟨b, b1, b2, b3, rfl⟩ := inR_of (by decide) (by decide) c2
          obtain ⟨d, d1, d2, d3, rfl⟩ := inR_of (by decide) (by decide) c3
          have e1 : fX3_minding (cst h) (nI a) (nI b) 0 = some (nI (minding h a b 0)) := minding_ok h hv (by omega) (by omega) (by decide)
          have e2 : fX3_passing (cst h) (nI (minding h a b 0)) (nI d) 0 = some (lN (passN h a b d 0)) := passing_ok h hv (by omega) (by decide)
          obtain ⟨t', e3, e4⟩ := m_oddsV hv hR hM0 t (m := a) (thr := b) (hr := d) (by omega) (by omega) (by omega) w
          obtain ⟨f', e5, e6⟩ := c_oddsV hv f (m := a) (thr := b) (hr := d) w
          refine ⟨lN (lowP (upN h a b d 0) (10 ^ exN h a b 0) (decide (w = 0))), f', u1 m 0 0, t', ?_, ?_, R0⟩
          · rw [if_neg (fun n => n ⟨c1, c2, c3⟩), if_neg (fun n => n c4), e1, q_b1s, e2, q_b1s, e5, q_b1s, e6, q_b1s]
          · rw [if_neg (fun n => n c1), if_neg (fun n => n c2), if_neg (fun n => n c3), if_neg (fun n => n c4), e3, q_b1s, e4, q_b1s]
        · exact ⟨_, _, _, _, by simp only [c1, c2, c3, c4, and_self, not_true, if_false, not_false_iff, if_true]; rfl, by simp only [c1, c2, c3, c4, not_true, if_false, not_false_iff, if_true]; rfl, R0⟩
      · exact ⟨_, _, _, _, by simp only [c1, c2, c3, and_false, not_false_iff, if_true]; rfl, by simp only [c1, c2, c3, not_true, if_false, not_false_iff, if_true]; rfl, R0⟩
    · exact ⟨_, _, _, _, by simp only [c1, c2, false_and, and_false, not_false_iff, if_true]; rfl, by simp only [c1, c2, not_true, if_false, not_false_iff, if_true]; rfl, R0⟩
  · exact ⟨_, _, _, _, by simp only [c1, false_and, not_false_iff, if_true]; rfl, by simp only [c1, not_false_iff, if_true]; rfl, R0⟩
theorem eq_of_in {p : Int32} {b : Nat} (hb : b < 2 ^ 31) (c : inR p 0 b = true) : ∃ j : Nat, j ≤ b ∧ p = nI j := by
  obtain ⟨j, h1, h2, h3⟩ := inR_nI (by omega) c
  exact ⟨j, by omega, h3⟩
theorem ne_of_nin {p : Int32} {b : Nat} (hb : b < 2 ^ 31) (c : ¬ inR p 0 b = true) {j : Nat} (hj : j ≤ b) : ¬ p = nI j := by
  intro e
  apply c
  rw [e, inR_i, nI_toInt (by omega)]
  exact ⟨by omega, by omega⟩
theorem grave_sim (R : RelC ro ta ac bo i6 i7 st sp x m) (p q : Int32) : ∃ (v : Int64) (m' : St), fX7_grave st p q = some v ∧ fX8_grave m p q = some (v, m') ∧ RelC ro ta ac bo i6 i7 st sp x m' := by
  have R0 := Rel0 R
  obtain ⟨h, h6, h7, h9, rfl, rfl, rfl, rfl, ⟨hv, r, hR, hM⟩, hrow, htape, hacts, himg, htr, hx⟩ := R
  have hM0 : HM (u1 m 0 0) r := hM
  unfold fX7_grave fX8_grave
  rw [q_lts]
  simp only [c_isGrave h hv, m_isGrave hv hR hM0, inp_ok q 0 5 0 5 rfl rfl, q_b1s, b01]
  by_cases c1 : inN p (h 10 0) = true
  · have h0 := hv.1
    obtain ⟨g, hg, rfl⟩ := inN_nI (by omega) c1
    have g5 : g < 5 := by omega
    by_cases c2 : inR q 0 5 = true
    · obtain ⟨w, hw, rfl⟩ := eq_of_in (b := 5) (by decide) c2
      have og := fun i (hi : i < 4) => m_ofGrave hv hR hM0 hg hi
      have e1 : fX3_treeOf (cst h) (nI g) 0 = some (tI (itsT h g 0)) := treeOf_ok h hv hg (by decide)
      have e2 := heard_ok h hv hg
      have e3 : fX8_itsTree (u1 m 0 0) (nI g) 0 = some (tI (itsT h g 0)) := m_itsTree hv hR hM0 hg (by decide)
      have e4 := m_heard hv hR hM0 hg
      have hw2 : w = 0 ∨ w = 1 ∨ w = 2 ∨ w = 3 ∨ w = 4 ∨ w = 5 := by omega
      simp only [c1, c2, not_true, if_false]
      have i1 : inb (nI g) 5 = True := by rw [iIn (show g < 2 ^ 31 by omega)]; exact eq_true g5
      rcases hw2 with e | e | e | e | e | e <;> subst e <;> simp only [t_0_0, t_0_1, t_0_2, t_0_3, t_0_4, t_0_5, t_0_6, t_1_0, t_1_1, t_1_2, t_1_3, t_1_4, t_1_5, t_1_6, t_2_0, t_2_1, t_2_2, t_2_3, t_2_4, t_2_5, t_2_6, t_3_0, t_3_1, t_3_2, t_3_3, t_3_4, t_3_5, t_3_6, t_4_0, t_4_1, t_4_2, t_4_3, t_4_4, t_4_5, t_4_6, t_5_0, t_5_1, t_5_2, t_5_3, t_5_4, t_5_5, t_5_6, t_6_0, t_6_1, t_6_2, t_6_3, t_6_4, t_6_5, t_6_6, t4_0, t4_1, t4_2, t4_3, t4_4, t4_5, t4_6, if_true, if_false, i1, iCl (show g < 2 ^ 31 by omega), cst_at]
      · rw [og 0 (by decide)]; exact ⟨_, _, rfl, rfl, R0⟩
      · rw [og 1 (by decide)]; exact ⟨_, _, rfl, rfl, R0⟩
      · rw [og 2 (by decide)]; exact ⟨_, _, rfl, rfl, R0⟩
      · rw [og 3 (by decide)]; exact ⟨_, _, rfl, rfl, R0⟩
      · rw [e1, e3]; exact ⟨_, _, rfl, rfl, R0⟩
      · rw [e2, e4]; exact ⟨_, _, rfl, rfl, R0⟩
    · have n := fun {j} (hj : j ≤ 5) => ne_of_nin (b := 5) (by decide) c2 hj
      have n0 : ¬ q = 0 := n (j := 0) (by decide)
      have n1 : ¬ q = 1 := n (j := 1) (by decide)
      have n2 : ¬ q = 2 := n (j := 2) (by decide)
      have n3 : ¬ q = 3 := n (j := 3) (by decide)
      have n4 : ¬ q = 4 := n (j := 4) (by decide)
      have n5 : ¬ q = 5 := n (j := 5) (by decide)
      exact ⟨_, _, by simp only [c1, not_true, if_false, n0, n1, n2, n3, n4, n5]; rfl, by simp only [c1, c2, not_true, if_false, not_false_iff, if_true]; rfl, R0⟩
  · exact ⟨_, _, by simp only [c1, not_false_iff, if_true]; rfl, by simp only [c1, not_false_iff, if_true]; rfl, R0⟩
end OPS
