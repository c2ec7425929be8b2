/-! fell -/
section M79
variable {h : Hl} {r : Nat → Nat} {s : St}
theorem m_fellL (v : HV h) (R : RR h r) (M : HM s r) {m thr tt : Nat} (hm : m < 16) (hthr : thr < 16) (htt : tt < 2 ^ 31) : ∀ d n g (t : Lt), g + d = h 10 0 → d < n → t 21 = lN (PN (susB h m thr tt) (h 3) g) → t 22 = lN (10 ^ CN (susB h m thr tt) g) → ∃ t' : Lt, fX8_fell_L79 (nI m) (nI thr) (nI tt) s n (nI (bs (fun g => susB h m thr tt g && decide (0 < h 3 g)) g)) (nI g) t = some (nI (whoN h m thr tt), t') ∧ t' 21 = lN (PN (susB h m thr tt) (h 3) (h 10 0)) ∧ t' 22 = lN (10 ^ CN (susB h m thr tt) (h 10 0)) := by
  have h0 := v.1
  have r0 : s 5 0 = nI (h 10 0) := by rw [M, R.1]
  intro d
  induction d with
  | zero =>
    intro n g t e hn h1 h2
    cases n with
    | zero => omega
    | succ n =>
      have e : g = h 10 0 := by omega
      subst e
      refine ⟨t, ?_, h1, h2⟩
      rw [fX8_fell_L79]
      simp only [z_0, z_1, z_2, z_3, z_4, z_5, z_6, z_7, z_8, z_9, z_10, z_11, z_12, z_13, z_14, z_15, z_16, z_20, z_21, z_22, z_23, z_24, z_30, z_31, z_32, z_35, z_40, z_47, z_48, z_57, z_59, z_97, z_100, z_122, z_400, z_1000, iIn (show 0 < 2 ^ 31 by decide), iCl (show 0 < 2 ^ 31 by decide), show 0 < 59 by decide, if_true, r0, iLe (show h 10 0 < 2 ^ 31 by omega) (show h 10 0 < 2 ^ 31 by omega), Nat.le_refl]
      rfl
  | succ d ih =>
    intro n g t e hn h1 h2
    cases n with
    | zero => omega
    | succ n =>
      have hg : g < h 10 0 := by omega
      have h4 := v.2.2.2.2.1 g hg
      have og2 : fX8_ofGrave s (nI g) (nI 2) = some (nI (h 3 g)) := m_ofGrave v R M hg (show 2 < 4 by decide)
      have hb : bs (fun g => susB h m thr tt g && decide (0 < h 3 g)) (g + 1) = if (susB h m thr tt g && decide (0 < h 3 g)) = true then bs (fun g => susB h m thr tt g && decide (0 < h 3 g)) g ||| 2 ^ g else bs (fun g => susB h m thr tt g && decide (0 < h 3 g)) g := rfl
      have hP : PN (susB h m thr tt) (h 3) (g + 1) = if susB h m thr tt g = true then PN (susB h m thr tt) (h 3) g * (10 - h 3 g) else PN (susB h m thr tt) (h 3) g := rfl
      have hC : CN (susB h m thr tt) (g + 1) = if susB h m thr tt g = true then CN (susB h m thr tt) g + 1 else CN (susB h m thr tt) g := rfl
      rw [fX8_fell_L79]
      simp only [z_0, z_1, z_2, z_3, z_4, z_5, z_6, z_7, z_8, z_9, z_10, z_11, z_12, z_13, z_14, z_15, z_16, z_20, z_21, z_22, z_23, z_24, z_30, z_31, z_32, z_35, z_40, z_47, z_48, z_57, z_59, z_97, z_100, z_122, z_400, z_1000, iIn (show 0 < 2 ^ 31 by decide), iCl (show 0 < 2 ^ 31 by decide), show 0 < 59 by decide, if_true, r0, iLe (show h 10 0 < 2 ^ 31 by omega) (show g < 2 ^ 31 by omega), show ¬ h 10 0 ≤ g by omega, if_false, m_doesMind v R M hg hm hthr (show 0 < 2 ^ 31 by decide), q_b1s, iB0, m_itsTree v R M hg (show 0 < 2 ^ 31 by decide), tI_eqN (itsT_lt h v g 0) htt, og2, iSub (show h 3 g ≤ 10 by omega), iLe (show h 3 g < 2 ^ 31 by omega) (show 0 < 2 ^ 31 by decide), iShl (show g < 31 by omega), iAdd]
      by_cases c1 : mindB h m thr 0 g = true
      · by_cases c2 : itsT h g 0 = some tt
        · have hs : susB h m thr tt g = true := by unfold susB; simp [c1, c2]
          obtain ⟨t1, e1, e2, e3⟩ := m_times t (show 10 - h 3 g < 2 ^ 31 by omega) h1 h2
          rw [if_neg (fun n => n c1), if_pos c2, e1, q_b1s]
          have IH := ih n (g + 1) t1 (by omega) (by omega) (by rw [hP, if_pos hs, e2]) (by rw [hC, if_pos hs, e3, Nat.pow_succ])
          rw [hb, hs] at IH
          by_cases c3 : h 3 g ≤ 0
          · rw [if_pos c3, q_b1s, q_b2s, iOr, Nat.or_zero]
            rw [if_neg (by simp; omega)] at IH
            exact IH
          · rw [if_neg c3, q_b1s, q_b2s, iOr]
            rw [if_pos (by simp; omega)] at IH
            exact IH
        · have hs : ¬ susB h m thr tt g = true := by unfold susB; simp [c2]
          rw [if_neg (fun n => n c1), if_neg c2, q_b2s]
          have IH := ih n (g + 1) t (by omega) (by omega) (by rw [hP, if_neg hs]; exact h1) (by rw [hC, if_neg hs]; exact h2)
          rw [hb, if_neg (by simp [hs])] at IH
          exact IH
      · have hs : ¬ susB h m thr tt g = true := by unfold susB; simp [c1]
        rw [if_pos c1, q_b2s]
        have IH := ih n (g + 1) t (by omega) (by omega) (by rw [hP, if_neg hs]; exact h1) (by rw [hC, if_neg hs]; exact h2)
        rw [hb, if_neg (by simp [hs])] at IH
        exact IH
theorem m_blow (v : HV h) (R : RR h r) (M : HM s r) {t hr : Nat} (ht : t < h 12 0) (hh : hr < 12) : q_b1 (fX8_fruit s (nI t)) (fun r48 => q_b1 (if r48 ≤ 0 then some (10 : Int32) else q_b1 (fX8_loose s (nI t)) fun r58 => if inb (3 + nI hr) 59 then some (10 - (r58 * (s 5 (3 + nI hr).toNatClampNeg))) else none) (fun v50 => some v50)) = some (nI (10 - blow h t hr)) := by
  have h9 := v.2.2.2.2.2.2.1 t ht
  have hw := v.2.2.2.1 hr hh
  have hlo := loosK_le (h 7 t)
  have hlw : loosK (h 7 t) * h 0 hr ≤ 9 := Nat.mul_le_mul hlo hw
  simp only [z_0, z_1, z_2, z_3, z_4, z_5, z_6, z_7, z_8, z_9, z_10, z_11, z_12, z_13, z_14, z_15, z_16, z_20, z_21, z_22, z_23, z_24, z_30, z_31, z_32, z_35, z_40, z_47, z_48, z_57, z_59, z_97, z_100, z_122, z_400, z_1000, m_fruit v R M ht, m_loose v R M ht, q_b1s, iLe (show h 9 t < 2 ^ 31 by omega) (show 0 < 2 ^ 31 by decide), iAdd, iIn (show 3 + hr < 2 ^ 31 by omega), iCl (show 3 + hr < 2 ^ 31 by omega), show 3 + hr < 59 by omega, if_true, M (3 + hr), R.2.2.2.1 hr hh, iMul, iSub (show loosK (h 7 t) * h 0 hr ≤ 10 by omega)]
  unfold blow
  by_cases c : h 9 t ≤ 0
  · rw [if_pos c, q_b1s, if_neg (by omega)]
  · rw [if_neg c, q_b1s, if_pos (by omega)]
end M79
theorem lN_sub' {a b : Nat} (h : b ≤ a) : lN a - lN b = lN (a - b) := lN_sub h
section C79
variable {h : Hl}
/-- of ten times ten to the count: with what the wind keeps, and without -/
theorem objLow (v : HV h) {m thr t hr : Nat} (hh : hr < 12) (f : Lt) (w : Int32) (hw : w = 0 ∨ w = 1) : ∃ f' : Lt, fX7_setObjection (cst h) f (nI (gravesOf h t &&& minding h m thr 0)) (nI (blow h t hr)) = some f' ∧ fX2_part f' w = some (if PN (susB h m thr t) (h 3) (h 10 0) * (10 - blow h t hr) = 10 ^ CN (susB h m thr t) (h 10 0) * 10 then w.toInt64 else lN (lowP (10 ^ CN (susB h m thr t) (h 10 0) * 10 - PN (susB h m thr t) (h 3) (h 10 0) * 10) (10 ^ CN (susB h m thr t) (h 10 0) * 10 - PN (susB h m thr t) (h 3) (h 10 0) * (10 - blow h t hr)) (decide (w = 0)))) := by
  have h0 := v.1
  have ha : gravesOf h t &&& minding h m thr 0 < 32 := Nat.lt_of_le_of_lt Nat.and_le_left (gravesOf_lt h v t)
  have hk : fX3_keptBy (cst h) (nI (gravesOf h t &&& minding h m thr 0)) 1000000000 = some (lN (KN (susB h m thr t) (h 3) (h 10 0) (10 ^ 9))) := by
    rw [lN_e9, keptBy_ok h v ha (by decide)]
    congr 2
    exact KN_congr (fun k hk => ⟨sus_bit h m thr t k hk, fun _ => rfl⟩)
  have hc := CN_le (susB h m thr t) (h 10 0)
  have hP := PN_le (susB h m thr t) (h 3) (h 10 0)
  have hP0 := PN_pos (susB h m thr t) (h 3) (h 10 0) (fun k hk => (v.2.2.2.2.1 k hk).2.2.1)
  have hbl := blow_le h v t hh
  have hK := KN_eq (susB h m thr t) (h 3) 1 9 (h 10 0) (by omega)
  rw [Nat.mul_one, Nat.one_mul] at hK
  generalize hCe : CN (susB h m thr t) (h 10 0) = C at *
  generalize hPe : PN (susB h m thr t) (h 3) (h 10 0) = P at *
  generalize hBe : blow h t hr = B at *
  have hC8 : C ≤ 8 := by omega
  have e9 : 10 ^ (9 - C) = 10 * 10 ^ (8 - C) := by rw [show 9 - C = (8 - C) + 1 by omega, Nat.pow_succ, Nat.mul_comm]
  have eN : 10 ^ 9 = 10 ^ (8 - C) * (10 ^ C * 10) := by
    rw [← Nat.mul_assoc, ← Nat.pow_add, show 8 - C + C = 8 by omega]
  have hg : 10 ^ (9 - C) * P = 10 ^ (8 - C) * (P * 10) := by rw [e9, Nat.mul_comm 10, Nat.mul_assoc, Nat.mul_comm 10]
  have hq : 10 ^ (9 - C) * P / 10 * (10 - B) = 10 ^ (8 - C) * (P * (10 - B)) := by
    rw [e9, Nat.mul_assoc, Nat.mul_div_cancel_left _ (by decide), Nat.mul_assoc]
  have hpos : 0 < 10 ^ (8 - C) := Nat.pow_pos (by decide)
  have hP10 : P * 10 ≤ 10 ^ C * 10 := Nat.mul_le_mul_right 10 hP
  have hPB : P * (10 - B) ≤ 10 ^ C * 10 := Nat.mul_le_mul hP (by omega)
  have l1 : 10 ^ (8 - C) * (P * 10) ≤ 10 ^ 9 := by rw [eN]; exact Nat.mul_le_mul_left _ hP10
  have l2 : 10 ^ (8 - C) * (P * (10 - B)) ≤ 10 ^ 9 := by rw [eN]; exact Nat.mul_le_mul_left _ hPB
  have s9 : 10 ^ 9 < 2 ^ 62 := by decide
  unfold fX7_setObjection
  rw [hk, q_b1s, hK, kept_ok (by rw [hg]; exact Nat.lt_of_le_of_lt l1 s9) (by omega), q_b1s, hq, hg]
  have hcond : (lg_cmp (lN (10 ^ (8 - C) * (P * (10 - B)))) 1000000000 = 0) = (P * (10 - B) = 10 ^ C * 10) := by
    rw [cEq, lN_e9, lN_inj63 (Nat.lt_of_le_of_lt l2 (by decide)) (by decide)]
    apply propext
    constructor
    · intro e
      rw [eN] at e
      exact Nat.eq_of_mul_eq_mul_left hpos e
    · intro e
      rw [eN, e]
  by_cases c : P * (10 - B) = 10 ^ C * 10
  · obtain ⟨f', g1, g2, g3⟩ := become_ok f (a := 0) (b := 1) (by decide) (by decide) (by decide)
    have g1 : fX2_become f 0 1 = some f' := g1
    refine ⟨f', ?_, ?_⟩
    · rw [if_pos (hcond.mpr c), g1, q_b1s]
    · rw [fpart_ok, if_pos c]
      rcases hw with rfl | rfl
      · rw [if_pos rfl, g2]; rfl
      · rw [if_neg (by decide), g3]; rfl
  · have l3 : lN (10 ^ 9) - lN (10 ^ (8 - C) * (P * 10)) = lN (10 ^ 9 - 10 ^ (8 - C) * (P * 10)) := lN_sub' l1
    have l4 : lN (10 ^ 9) - lN (10 ^ (8 - C) * (P * (10 - B))) = lN (10 ^ 9 - 10 ^ (8 - C) * (P * (10 - B))) := lN_sub' l2
    have m1 : 10 ^ 9 - 10 ^ (8 - C) * (P * 10) = 10 ^ (8 - C) * (10 ^ C * 10 - P * 10) := by rw [Nat.mul_sub, ← eN]
    have m2 : 10 ^ 9 - 10 ^ (8 - C) * (P * (10 - B)) = 10 ^ (8 - C) * (10 ^ C * 10 - P * (10 - B)) := by rw [Nat.mul_sub (10 ^ (8 - C)) (10 ^ C * 10) (P * (10 - B)), ← eN]
    have b1 : 10 ^ 9 - 10 ^ (8 - C) * (P * 10) < 2 ^ 63 := Nat.lt_of_le_of_lt (Nat.sub_le _ _) (by decide)
    have b2 : 10 ^ 9 - 10 ^ (8 - C) * (P * (10 - B)) < 2 ^ 63 := Nat.lt_of_le_of_lt (Nat.sub_le _ _) (by decide)
    have b3 : 0 < 10 ^ 9 - 10 ^ (8 - C) * (P * (10 - B)) := by rw [m2]; exact Nat.mul_pos hpos (by omega)
    obtain ⟨f', g1, g2, g3⟩ := become_ok f b1 b2 b3
    refine ⟨f', ?_, ?_⟩
    · rw [if_neg (fun q => c (hcond.mp q)), lN_e9, l3, l4, g1, q_b1s]
    · rw [fpart_ok, if_neg c]
      have low : ∀ z, lowP (10 ^ 9 - 10 ^ (8 - C) * (P * 10)) (10 ^ 9 - 10 ^ (8 - C) * (P * (10 - B))) z = lowP (10 ^ C * 10 - P * 10) (10 ^ C * 10 - P * (10 - B)) z := fun z => by rw [m1, m2]; exact lowP_scale hpos z
      by_cases cw : w = 0
      · rw [if_pos cw, g2, low, decide_eq_true cw]
      · rw [if_neg cw, g3, low, decide_eq_false cw]
end C79
section OPS
variable {ro ta ac bo i6 i7 st sp x m : St}
theorem fell_sim (R : RelC ro ta ac bo i6 i7 st sp x m) (f t : Lt) (p q k tp w : Int32) : ∃ (v : Int64) (f' : Lt) (m' : St) (t' : Lt), fX7_fell x st f p q k tp w = some (v, f') ∧ fX8_fell m t p q k tp w = some (v, m', t') ∧ RelC ro ta ac bo i6 i7 st sp x m' := by
  have R0 := Rel0 R
  obtain ⟨h, h6, h7, h9, rfl, rfl, rfl, rfl, ⟨hv, r, hR, hM⟩, hrow, htape, hacts, himg, htr, hx⟩ := R
  have hM0 : HM (u1 m 0 0) r := hM
  unfold fX7_fell fX8_fell
  rw [q_lts, hx.1, show (u1 m 0 0) 7 0 = m 7 0 from rfl, ck_in]
  by_cases c0 : m 7 0 = 0
  · exact ⟨_, _, _, _, by rw [if_pos c0], by rw [if_pos c0], R0⟩
  rw [if_neg c0, if_neg c0, c_isAsked, m_isMatter, q_b1s, q_b1s]
  rw [show (0 : Int32).toInt = 0 from rfl, show (2 : Int32).toInt = 2 from rfl]
  simp only [b01, c_isTree h hv, q_b1s]
  by_cases c1 : inR p 1 15 = true
  · by_cases c2 : inR q 0 15 = true
    · by_cases c3 : inR k 0 11 = true
      · have k123 : ¬ ¬ (inR p 1 15 = true ∧ inR q 0 15 = true ∧ inR k 0 11 = true) := fun n => n ⟨c1, c2, c3⟩
        have k1 : ¬ ¬ inR p 1 15 = true := fun n => n c1
        have k2 : ¬ ¬ inR q 0 15 = true := fun n => n c2
        have k3 : ¬ ¬ inR k 0 11 = true := fun n => n c3
        rw [if_neg k123, if_neg k1, m_areHorns, q_b1s]
        simp only [b01]
        rw [if_neg k2, m_isHour, q_b1s]
        simp only [b01]
        rw [if_neg k3, m_isTree hv hR hM0, q_b1s]
        simp only [b01]
        by_cases c4 : inN tp (h 12 0) = true
        · have k4 : ¬ ¬ inN tp (h 12 0) = true := fun n => n c4
          rw [if_neg k4, if_neg k4, inp_ok w 0 2 0 2 rfl rfl, q_b1s]
          simp only [b01]
          by_cases c5 : inR w 0 2 = true
          · have k5 : ¬ ¬ inR w 0 2 = true := fun n => n c5
            rw [if_pos c5, if_neg k5]
            clear k123 k1 k2 k3 k4 k5
            obtain ⟨a, a1, a2, a3, rfl⟩ := inR_of (by decide) (by decide) c1
            obtain ⟨b, b1, b2, b3, rfl⟩ := inR_of (by decide) (by decide) c2
            obtain ⟨d, d1, d2, d3, rfl⟩ := inR_of (by decide) (by decide) c3
            have h0 := hv.2.2.1
            have h0g := hv.1
            obtain ⟨tt, htt, rfl⟩ := inN_nI (by omega) c4
            have e1 := gravesOf_ok h hv (t := tt) (by omega)
            have e2 : fX3_minding (cst h) (nI a) (nI b) 0 = some (nI (minding h a b 0)) := minding_ok h hv (by omega) (by omega) (by decide)
            obtain ⟨t1, e3, e4, e5⟩ := m_fellL hv hR hM0 (m := a) (thr := b) (tt := tt) (by omega) (by omega) (by omega) (h 10 0) 5000 0 (uL (uL t 21 1) 22 1) (by omega) (by omega) rfl rfl
            have e3 : fX8_fell_L79 (nI a) (nI b) (nI tt) (u1 m 0 0) 5000 0 0 (uL (uL t 21 1) 22 1) = some (nI (whoN h a b tt), t1) := e3
            rw [e1, q_b1s, e2, q_b1s, q_lts, q_lts, e3, q_b2s, iAnd]
            by_cases c6 : w = 2
            · rw [if_pos c6, if_pos c6, with_ok h hv, q_b1s]
              exact ⟨_, _, _, _, rfl, rfl, R0⟩
            · rw [if_neg c6, if_neg c6]
              have hw01 : w = 0 ∨ w = 1 := by
                obtain ⟨j, hj, rfl⟩ := eq_of_in (b := 2) (by decide) c5
                have : j = 0 ∨ j = 1 ∨ j = 2 := by omega
                rcases this with e | e | e
                · subst e; exact Or.inl rfl
                · subst e; exact Or.inr rfl
                · subst e; exact absurd rfl c6
              have e6 := blown_ok h hv htt (show d < 12 by omega)
              obtain ⟨f', g1, g2⟩ := objLow hv (m := a) (thr := b) (t := tt) (hr := d) (by omega) f w hw01
              have e7 := m_blow hv hR hM0 htt (show d < 12 by omega)
              have hbl := blow_le h hv tt (show d < 12 by omega)
              have hP := PN_le (susB h a b tt) (h 3) (h 10 0)
              have hC := CN_le (susB h a b tt) (h 10 0)
              obtain ⟨t2, e8, e9, e10⟩ := m_times t1 (show 10 - blow h tt d < 2 ^ 31 by omega) e4 e5
              rw [e6, q_b1s, g1, q_b1s, g2, q_b1s, q_lts]
              have hgen : ∀ (α : Type) (K : Int32 → Option α), q_b1 (fX8_fruit (u1 m 0 0) (nI tt)) (fun r48 => q_b1 (if r48 ≤ 0 then some (10 : Int32) else q_b1 (fX8_loose (u1 m 0 0) (nI tt)) fun r58 => if inb (3 + nI d) 59 then some (10 - (r58 * ((u1 m 0 0) 5 (3 + nI d).toNatClampNeg))) else none) K) = K (nI (10 - blow h tt d)) := by
                intro α K
                have z := congrArg (fun y => q_b1 y K) e7
                rw [q_b1s] at z
                rw [← z]
                cases fX8_fruit (u1 m 0 0) (nI tt) with
                | none => rfl
                | some y =>
                  rw [q_b1s, q_b1s]
                  cases (if y ≤ 0 then some (10 : Int32) else q_b1 (fX8_loose (u1 m 0 0) (nI tt)) fun r58 => if inb (3 + nI d) 59 then some (10 - (r58 * ((u1 m 0 0) 5 (3 + nI d).toNatClampNeg))) else none) with
                  | none => rfl
                  | some y2 => rfl
              rw [hgen, e8, q_b1s, e9, e10, e4]
              have hT : 10 ^ CN (susB h a b tt) (h 10 0) * 10 < 2 ^ 63 := by
                have : 10 ^ CN (susB h a b tt) (h 10 0) ≤ 10 ^ 9 := ten_le (by omega)
                have e : 10 ^ 9 * 10 < 2 ^ 63 := by decide
                exact Nat.lt_of_le_of_lt (Nat.mul_le_mul_right 10 this) e
              have hPB : PN (susB h a b tt) (h 3) (h 10 0) * (10 - blow h tt d) ≤ 10 ^ CN (susB h a b tt) (h 10 0) * 10 := Nat.mul_le_mul hP (by omega)
              have hP10 : PN (susB h a b tt) (h 3) (h 10 0) * 10 ≤ 10 ^ CN (susB h a b tt) (h 10 0) * 10 := Nat.mul_le_mul_right 10 hP
              have hcond : (lg_cmp (lN (PN (susB h a b tt) (h 3) (h 10 0) * (10 - blow h tt d))) (lN (10 ^ CN (susB h a b tt) (h 10 0) * 10)) = 0) = (PN (susB h a b tt) (h 3) (h 10 0) * (10 - blow h tt d) = 10 ^ CN (susB h a b tt) (h 10 0) * 10) := by
                rw [cEq, lN_inj63 (Nat.lt_of_le_of_lt hPB hT) hT]
              by_cases c7 : PN (susB h a b tt) (h 3) (h 10 0) * (10 - blow h tt d) = 10 ^ CN (susB h a b tt) (h 10 0) * 10
              · rw [if_pos c7, if_pos (hcond.mpr c7)]
                exact ⟨_, _, _, _, rfl, rfl, R0⟩
              · rw [if_neg c7, if_neg (fun n => c7 (hcond.mp n)), show lN (PN (susB h a b tt) (h 3) (h 10 0)) * 10 = lN (PN (susB h a b tt) (h 3) (h 10 0) * 10) from lN_mul _ 10, lN_sub' hP10, lN_sub' hPB]
                rw [part_ok (Nat.lt_of_le_of_lt (Nat.sub_le _ _) hT) (Nat.lt_of_le_of_lt (Nat.sub_le _ _) hT) (by omega) w, q_b1s]
                exact ⟨_, _, _, _, rfl, rfl, R0⟩
          · exact ⟨_, _, _, _, by rw [if_neg c5], by rw [if_pos c5], R0⟩
        · exact ⟨_, _, _, _, by rw [if_pos c4], by rw [if_pos c4], R0⟩
      · exact ⟨_, _, _, _, by rw [if_pos (fun n => c3 n.2.2)], by rw [if_neg (fun n => n c1), m_areHorns, q_b1s]; simp only [b01]; rw [if_neg (fun n => n c2), m_isHour, q_b1s]; simp only [b01]; rw [if_pos c3], R0⟩
    · exact ⟨_, _, _, _, by rw [if_pos (fun n => c2 n.2.1)], by rw [if_neg (fun n => n c1), m_areHorns, q_b1s]; simp only [b01]; rw [if_pos c2], R0⟩
  · exact ⟨_, _, _, _, by rw [if_pos (fun n => c1 n.1)], by rw [if_pos c1], R0⟩
end OPS
