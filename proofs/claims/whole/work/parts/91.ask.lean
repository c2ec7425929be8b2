/-! ask -/
def nxt (x : Int64) : Int64 := (x * 16807) - (x * 16807) / 2147483647 * 2147483647
abbrev low (x : Int64) (p : Int32) : Prop := lg_cmp (x - x / 10 * 10) p.toInt64 < 0
theorem m_draws (t : Lt) (p : Int32) : fX8_draws t p = some (if low (nxt (t 20)) p then 1 else 0, uL t 20 (nxt (t 20))) := by
  unfold fX8_draws
  rw [q_lts]
  have e : (uL t 20 (((t 20) * 16807) - ((t 20) * 16807) / 2147483647 * 2147483647)) 20 = nxt (t 20) := rfl
  rw [e]
  by_cases c : low (nxt (t 20)) p
  · have c2 : ¬ 0 ≤ lg_cmp (nxt (t 20) - nxt (t 20) / 10 * 10) p.toInt64 := Int32.not_le.mpr c
    rw [if_neg c2, if_pos c]; rfl
  · have c2 : 0 ≤ lg_cmp (nxt (t 20) - nxt (t 20) / 10 * 10) p.toInt64 := Int32.not_lt.mp c
    rw [if_pos c2, if_neg c]; rfl
section A91
variable {h : Hl} {r : Nat → Nat} {s : St}
theorem drawIn (v : HV h) (R : RR h r) (M : HM s r) {m thr t : Nat} (hm : m < 16) (hthr : thr < 16) (ht : t < 2 ^ 31) : ∀ d n g (b : Bool) (l : Lt), g + d = h 10 0 → d < n → ∃ (b' : Bool) (l' : Lt), fX3_drawFallen_L69 (nI (minding h m thr 0)) (cst h) (nI t) n (l 20) (if b = true then 1 else 0) (nI g) = some (l' 20, if b' = true then 1 else 0) ∧ fX8_ask_L111 (nI m) (nI thr) s (nI t) n (if b = true then 1 else 0) (nI g) l = some (if b' = true then 1 else 0, l') := by
  have h0 := v.1
  have r0 : s 5 0 = nI (h 10 0) := by rw [M, R.1]
  have ib0 : inb (0 : Int32) 59 := by decide
  have hml := minding_lt h v m thr 0
  intro d
  induction d with
  | zero =>
    intro n g b l e hn
    cases n with
    | zero => omega
    | succ n =>
      have le : nI (h 10 0) ≤ nI g := by rw [iLe (by omega) (by omega)]; omega
      exact ⟨b, l, by rw [fX3_drawFallen_L69, cst_at, if_pos le], by rw [fX8_ask_L111, if_pos ib0, if_pos (by show s 5 0 ≤ _; rw [r0]; exact le)]⟩
  | succ d ih =>
    intro n g b l e hn
    cases n with
    | zero => omega
    | succ n =>
      have hg : g < h 10 0 := by omega
      have nle : ¬ nI (h 10 0) ≤ nI g := by rw [iLe (by omega) (by omega)]; omega
      have nle2 : ¬ s 5 (0 : Int32).toNatClampNeg ≤ nI g := by show ¬ s 5 0 ≤ _; rw [r0]; exact nle
      have eh : fX3_has (nI (minding h m thr 0)) (nI g) = some (if mindB h m thr 0 g = true then nI 1 else nI 0) := by
        rw [has_ok (by omega) (by omega)]
        congr 2
        unfold minding
        rw [bs_bit, decide_eq_true hg, Bool.true_and]
      have ed : fX8_doesMind s (nI g) (nI m) (nI thr) 0 = some (if mindB h m thr 0 g = true then nI 1 else nI 0) := m_doesMind v R M hg hm hthr (show 0 < 2 ^ 31 by decide)
      have et : fX3_treeOf (cst h) (nI g) 0 = some (tI (itsT h g 0)) := treeOf_ok h v hg (show 0 < 2 ^ 31 by decide)
      have em : fX8_itsTree s (nI g) 0 = some (tI (itsT h g 0)) := m_itsTree v R M hg (show 0 < 2 ^ 31 by decide)
      have eo : fX8_ofGrave s (nI g) 2 = some (nI (h 3 g)) := m_ofGrave v R M hg (show 2 < 4 by decide)
      by_cases c : mindB h m thr 0 g = true
      · by_cases c2 : itsT h g 0 = some t
        · obtain ⟨b', l', f1, f2⟩ := ih n (g + 1) (decide (low (nxt (l 20)) (nI (h 3 g))) || b) (uL l 20 (nxt (l 20))) (by omega) (by omega)
          refine ⟨b', l', ?_, ?_⟩
          · rw [fX3_drawFallen_L69, cst_at, if_neg nle, eh, q_b1s, if_pos c, if_neg (show ¬ nI 1 = 0 by decide), et, q_b1s, c2, if_pos (show tI (some t) = nI t from rfl), q_lts, if_pos (by rw [iIn (by omega)]; omega), iCl (by omega), cst_at]
            have : (if lg_cmp ((l 20 * 16807 - l 20 * 16807 / 2147483647 * 2147483647) - (l 20 * 16807 - l 20 * 16807 / 2147483647 * 2147483647) / 10 * 10) (nI (h 3 g)).toInt64 < 0 then some (1 : Int32) else (if (if b = true then (1 : Int32) else 0) = 0 then some (0 : Int32) else some 1)) = some (if (decide (low (nxt (l 20)) (nI (h 3 g))) || b) = true then 1 else 0) := by
              show (if low (nxt (l 20)) (nI (h 3 g)) then _ else _) = _
              by_cases q : low (nxt (l 20)) (nI (h 3 g))
              · rw [if_pos q, decide_eq_true q]; rfl
              · rw [if_neg q, decide_eq_false q]; cases b <;> rfl
            rw [this, q_b1s, q_b2s, nI_1]
            exact f1
          · rw [fX8_ask_L111, if_pos ib0, if_neg nle2, ed, q_b1s, if_pos c, if_neg (show ¬ nI 1 = 0 by decide), em, q_b1s, c2, if_pos (show tI (some t) = nI t from rfl), eo, q_b1s, m_draws, q_b2s]
            have : (if (if low (nxt (l 20)) (nI (h 3 g)) then (1 : Int32) else 0) = 0 then (if (if b = true then (1 : Int32) else 0) = 0 then some (0 : Int32) else some 1) else some 1) = some (if (decide (low (nxt (l 20)) (nI (h 3 g))) || b) = true then 1 else 0) := by
              by_cases q : low (nxt (l 20)) (nI (h 3 g))
              · rw [if_pos q, decide_eq_true q]; rfl
              · rw [if_neg q, decide_eq_false q]; cases b <;> rfl
            rw [this, q_b1s, q_b2s, nI_1]
            exact f2
        · have c3 : ¬ tI (itsT h g 0) = nI t := by rw [tI_eqN (itsT_lt h v g 0) ht]; exact c2
          obtain ⟨b', l', f1, f2⟩ := ih n (g + 1) b l (by omega) (by omega)
          refine ⟨b', l', ?_, ?_⟩
          · rw [fX3_drawFallen_L69, cst_at, if_neg nle, eh, q_b1s, if_pos c, if_neg (show ¬ nI 1 = 0 by decide), et, q_b1s, if_neg c3, q_b2s, nI_1]
            exact f1
          · rw [fX8_ask_L111, if_pos ib0, if_neg nle2, ed, q_b1s, if_pos c, if_neg (show ¬ nI 1 = 0 by decide), em, q_b1s, if_neg c3, q_b2s, nI_1]
            exact f2
      · obtain ⟨b', l', f1, f2⟩ := ih n (g + 1) b l (by omega) (by omega)
        refine ⟨b', l', ?_, ?_⟩
        · rw [fX3_drawFallen_L69, cst_at, if_neg nle, eh, q_b1s, if_neg c, if_pos (show nI 0 = 0 from rfl), q_b2s, nI_1]
          exact f1
        · rw [fX8_ask_L111, if_pos ib0, if_neg nle2, ed, q_b1s, if_neg c, if_pos (show nI 0 = 0 from rfl), q_b2s, nI_1]
          exact f2
theorem drawOut (v : HV h) (R : RR h r) (M : HM s r) {m thr hr : Nat} (hm : m < 16) (hthr : thr < 16) (hh : hr < 12) : ∀ d n t F (l : Lt), t + d = h 12 0 → d < n → F < 2 ^ t → (∀ x, F.testBit x = true → 1 ≤ h 9 x) → ∃ (F' : Nat) (l' : Lt), F' < 2 ^ h 12 0 ∧ (∀ x, F'.testBit x = true → 1 ≤ h 9 x) ∧ fX3_drawFallen_L10 (nI (minding h m thr 0)) (nI hr) (cst h) n (nI F) (l 20) (nI t) = some (nI F') ∧ fX8_ask_L67 (nI m) (nI thr) (nI hr) s n (nI F) (nI t) l = some (nI F', l') := by
  have h0 := v.2.2.1
  have r2 : s 5 2 = nI (h 12 0) := by rw [M, R.2.2.1]
  have ib2 : inb (2 : Int32) 59 := by decide
  intro d
  induction d with
  | zero =>
    intro n t F l e hn hF hb
    cases n with
    | zero => omega
    | succ n =>
      have e : t = h 12 0 := by omega
      have le : nI (h 12 0) ≤ nI t := by rw [iLe (by omega) (by omega)]; omega
      exact ⟨F, l, by rw [← e]; exact hF, hb, by rw [fX3_drawFallen_L10, cst_at, if_pos le], by rw [fX8_ask_L67, if_pos ib2, if_pos (by show s 5 2 ≤ _; rw [r2]; exact le)]⟩
  | succ d ih =>
    intro n t F l e hn hF hb
    cases n with
    | zero => omega
    | succ n =>
      have ht : t < h 12 0 := by omega
      have nle : ¬ nI (h 12 0) ≤ nI t := by rw [iLe (by omega) (by omega)]; omega
      have nle2 : ¬ s 5 (2 : Int32).toNatClampNeg ≤ nI t := by show ¬ s 5 2 ≤ _; rw [r2]; exact nle
      have h9 := (v.2.2.2.2.2.2.1 t ht).2.2.2
      have eb : fX3_bears (cst h) (nI t) 0 = some (if bear h t 0 = true then nI 1 else nI 0) := bears_ok h v ht (show 0 < 2 ^ 31 by decide)
      have ebb : bear h t 0 = decide (0 < h 9 t) := by unfold bear; simp
      have hw := v.2.2.2.1 hr hh
      have hlo := loosK_le (h 7 t)
      by_cases c : 0 < h 9 t
      · have cb : bear h t 0 = true := by rw [ebb]; exact decide_eq_true c
        have c2 : ¬ nI (h 9 t) ≤ 0 := by rw [show (0 : Int32) = nI 0 from rfl, iLe (by omega) (by omega)]; omega
        have ebl := blown_ok h v ht hh
        have ebl2 : blow h t hr = loosK (h 7 t) * h 0 hr := if_pos c
        rw [ebl2] at ebl
        obtain ⟨b', l', f1, f2⟩ := drawIn v R M hm hthr (t := t) (by omega) (h 10 0) 5000 0 (decide (low (nxt (l 20)) (nI (loosK (h 7 t) * h 0 hr)))) (uL l 20 (nxt (l 20))) (by omega) (by have := v.1; omega)
        have f1 : fX3_drawFallen_L69 (nI (minding h m thr 0)) (cst h) (nI t) 5000 (nxt (l 20)) _ 0 = _ := f1
        have f2 : fX8_ask_L111 (nI m) (nI thr) s (nI t) 5000 _ 0 _ = _ := f2
        have ev : (if 0 ≤ lg_cmp ((l 20 * 16807 - l 20 * 16807 / 2147483647 * 2147483647) - (l 20 * 16807 - l 20 * 16807 / 2147483647 * 2147483647) / 10 * 10) (nI (loosK (h 7 t) * h 0 hr)).toInt64 then some (0 : Int32) else some 1) = some (if decide (low (nxt (l 20)) (nI (loosK (h 7 t) * h 0 hr))) = true then 1 else 0) := by
          by_cases q : low (nxt (l 20)) (nI (loosK (h 7 t) * h 0 hr))
          · have q2 : ¬ 0 ≤ lg_cmp (nxt (l 20) - nxt (l 20) / 10 * 10) (nI (loosK (h 7 t) * h 0 hr)).toInt64 := Int32.not_le.mpr q
            rw [decide_eq_true q]
            exact if_neg q2
          · have q2 : 0 ≤ lg_cmp (nxt (l 20) - nxt (l 20) / 10 * 10) (nI (loosK (h 7 t) * h 0 hr)).toInt64 := Int32.not_lt.mp q
            rw [decide_eq_false q]
            exact if_pos q2
        have ed : (if low (nxt (l 20)) (nI (loosK (h 7 t) * h 0 hr)) then (1 : Int32) else 0) = (if decide (low (nxt (l 20)) (nI (loosK (h 7 t) * h 0 hr))) = true then 1 else 0) := by
          by_cases q : low (nxt (l 20)) (nI (loosK (h 7 t) * h 0 hr))
          · rw [if_pos q, decide_eq_true q]; rfl
          · rw [if_neg q, decide_eq_false q]; rfl
        have ew : s 5 (nI (3 + hr)).toNatClampNeg = nI (h 0 hr) := by rw [iCl (by omega), M, R.2.2.2.1 hr hh]
        have es : (1 : Int32) <<< (nI t &&& 31) = nI (2 ^ t) := iShl (by omega)
        obtain ⟨F', l2, g1, g2, g3, g4⟩ := ih n (t + 1) (if b' = true then F ||| 2 ^ t else F) l' (by omega) (by omega) (by
          have p1 : 2 ^ t < 2 ^ (t + 1) := Nat.pow_lt_pow_right (by decide) (Nat.lt_succ_self t)
          split
          · exact Nat.or_lt_two_pow (Nat.lt_trans hF p1) p1
          · exact Nat.lt_trans hF p1) (fun x hx => by
          cases b' with
          | false => exact hb x hx
          | true =>
            rw [if_pos rfl, bit_or, Bool.or_eq_true] at hx
            rcases hx with q | q
            · exact hb x q
            · have : t = x := of_decide_eq_true q
              rw [← this]; exact c)
        refine ⟨F', l2, g1, g2, ?_, ?_⟩
        · rw [fX3_drawFallen_L10, cst_at, if_neg nle, eb, q_b1s, if_pos cb, if_neg (show ¬ nI 1 = 0 by decide), q_lts, ebl, q_b1s, ev, q_b1s]
          rw [show l 20 * 16807 - l 20 * 16807 / 2147483647 * 2147483647 = nxt (l 20) from rfl, f1, q_b2s]
          cases b' with
          | true => rw [if_pos rfl, if_neg (show ¬ (1 : Int32) = 0 by decide), q_lts, es, iOr, q_b2s, nI_1]; exact g3
          | false => rw [if_neg (show ¬ false = true by decide), if_pos rfl, q_b2s, nI_1]; exact g3
        · rw [fX8_ask_L67, if_pos ib2, if_neg nle2, m_fruit v R M ht, q_b1s, if_neg c2, m_loose v R M ht, q_b1s, show (3 : Int32) = nI 3 from rfl, iAdd, if_pos (by rw [iIn (by omega)]; omega), ew, iMul, m_draws, q_b2s, ed, f2, q_b2s]
          cases b' with
          | true => rw [if_pos rfl, if_neg (show ¬ (1 : Int32) = 0 by decide), q_b1s, es, iOr, q_b2s, nI_1]; exact g4
          | false => rw [if_neg (show ¬ false = true by decide), if_pos rfl, q_b1s, show nI F ||| (0 : Int32) = nI F from (iOr F 0).trans (by rw [Nat.or_zero]), q_b2s, nI_1]; exact g4
      · have cb : ¬ bear h t 0 = true := by rw [ebb]; exact fun q => c (of_decide_eq_true q)
        have c2 : nI (h 9 t) ≤ 0 := by rw [show (0 : Int32) = nI 0 from rfl, iLe (by omega) (by omega)]; omega
        obtain ⟨F', l2, g1, g2, g3, g4⟩ := ih n (t + 1) F l (by omega) (by omega) (Nat.lt_trans hF (Nat.pow_lt_pow_right (by decide) (Nat.lt_succ_self t))) hb
        refine ⟨F', l2, g1, g2, ?_, ?_⟩
        · rw [fX3_drawFallen_L10, cst_at, if_neg nle, eb, q_b1s, if_neg cb, if_pos (show nI 0 = 0 from rfl), q_b2s, nI_1]; exact g3
        · rw [fX8_ask_L67, if_pos ib2, if_neg nle2, m_fruit v R M ht, q_b1s, if_pos c2, q_b2s, nI_1]; exact g4
theorem fallL {F : Nat} (v : HV h) (R : RR h r) (hF : F < 16) (hb : ∀ x, F.testBit x = true → 1 ≤ h 9 x) : ∀ d n i (s : St) (r1 : Nat → Nat), i + d = h 12 0 → d < n → HM s r1 → (∀ t, t < i → r1 (47 + 3 * t + 2) = if t < h 12 0 ∧ F.testBit t = true then h 9 t - 1 else h 9 t) → (∀ x, (∀ t, t < i → ¬ x = 47 + 3 * t + 2) → r1 x = r x) → ∃ (s' : St) (r' : Nat → Nat), fX8_ask_L209 (nI F) n (nI i) s = some s' ∧ (∀ k, ¬ k = 5 → s' k = s k) ∧ HM s' r' ∧ (∀ t, t < h 12 0 → r' (47 + 3 * t + 2) = if t < h 12 0 ∧ F.testBit t = true then h 9 t - 1 else h 9 t) ∧ ∀ x, (∀ t, t < h 12 0 → ¬ x = 47 + 3 * t + 2) → r' x = r x := by
  have h0 := v.2.2.1
  have ib2 : inb (2 : Int32) 59 := by decide
  intro d
  induction d with
  | zero =>
    intro n i s r1 e hn M h1 h2
    cases n with
    | zero => omega
    | succ n =>
      have e : i = h 12 0 := by omega
      subst e
      have r2 : s 5 2 = nI (h 12 0) := by rw [M, h2 2 (fun t _ => by omega), R.2.2.1]
      refine ⟨s, r1, ?_, fun _ _ => rfl, M, h1, h2⟩
      rw [fX8_ask_L209, if_pos ib2, if_pos (by show s 5 2 ≤ _; rw [r2, iLe (by omega) (by omega)]; exact Nat.le_refl _)]
  | succ d ih =>
    intro n i s r1 e hn M h1 h2
    cases n with
    | zero => omega
    | succ n =>
      have hi : i < h 12 0 := by omega
      have r2 : s 5 2 = nI (h 12 0) := by rw [M, h2 2 (fun t _ => by omega), R.2.2.1]
      have h9 := (v.2.2.2.2.2.2.1 i hi).2.2.2
      have ei : r1 (47 + 3 * i + 2) = h 9 i := by rw [h2 _ (fun t ht => by omega), (R.2.2.2.2.2.2 i hi).2.2]
      have ef : h 9 i - F / 2 ^ i % 2 = if i < h 12 0 ∧ F.testBit i = true then h 9 i - 1 else h 9 i := by
        by_cases q : F / 2 ^ i % 2 = 1
        · rw [if_pos ⟨hi, by rw [Nat.testBit_eq_decide_div_mod_eq]; exact decide_eq_true q⟩, q]
        · rw [if_neg (fun z => q (by have := z.2; rw [Nat.testBit_eq_decide_div_mod_eq] at this; exact of_decide_eq_true this))]
          omega
      have le : F / 2 ^ i % 2 ≤ h 9 i := by
        by_cases q : F / 2 ^ i % 2 = 1
        · have := hb i (by rw [Nat.testBit_eq_decide_div_mod_eq]; exact decide_eq_true q)
          omega
        · omega
      have ib : inb (nI (47 + 3 * i + 2)) 59 := by rw [iIn (by omega)]; omega
      obtain ⟨s', r', f1, f2, f3, f4⟩ := ih n (i + 1) (uA s 5 (nI (47 + 3 * i + 2)) (nI (h 9 i - F / 2 ^ i % 2))) (rU r1 (47 + 3 * i + 2) (h 9 i - F / 2 ^ i % 2)) (by omega) (by omega) (HM_up M (by omega)) (fun t ht => by
          by_cases c : t = i
          · subst c; rw [rU_same]; exact ef
          · rw [rU_ne _ _ (by omega)]; exact h1 t (by omega)) (fun x hx => by
          rw [rU_ne _ _ (hx i (by omega))]
          exact h2 x (fun t ht => hx t (by omega)))
      refine ⟨s', r', ?_, fun k hk => by rw [f2 k hk, uA_ne hk], f3, f4⟩
      rw [fX8_ask_L209, if_pos ib2, if_neg (by show ¬ s 5 2 ≤ _; rw [r2, iLe (by omega) (by omega)]; omega), show (47 : Int32) = nI 47 from rfl, show (3 : Int32) = nI 3 from rfl, show (2 : Int32) = nI 2 from rfl, iMul, iAdd, iAdd, if_pos ib, if_pos ib, q_lts, iCl (show 47 + 3 * i + 2 < 2 ^ 31 by omega), M, ei, show (31 : Int32) = nI 31 from rfl, show (1 : Int32) = nI 1 from rfl, iBit (by omega) (by omega), iSub le, iAdd]
      exact f1
end A91
section OPS
variable {ro ta ac bo i6 i7 st sp x m : St}
theorem ask_sim (R : RelC ro ta ac bo i6 i7 st sp x m) (t : Lt) (p q k w : Int32) : ∃ (v : Int64) (st' ac' m' : St) (t' : Lt), fX7_ask x st ac p q k w = some (v, st', ac') ∧ fX8_ask m t p q k w = some (v, m', t') ∧ RelC ro ta ac' bo i6 i7 st' sp x m' := by
  have R0 := Rel0 R
  have RR0 := R
  obtain ⟨h, h6, h7, h9, rfl, rfl, rfl, rfl, ⟨hv, r, hR, hM⟩, hrow, htape, hacts, himg, htr, hx⟩ := R
  have hM0 : HM (u1 m 0 0) r := hM
  unfold fX7_ask fX8_ask
  rw [q_lts, hx.1, show (u1 m 0 0) 7 0 = m 7 0 from rfl, ck_in]
  by_cases c0 : m 7 0 = 0
  · exact ⟨_, _, _, _, _, by rw [if_pos c0], by rw [if_pos c0], R0⟩
  rw [if_neg c0, if_neg c0, c_isAsked, m_isMatter, q_b1s, q_b1s]
  rw [show (1 : Int32).toInt = 1 from rfl, show (999999 : Int32).toInt = 999999 from rfl]
  simp only [b01]
  by_cases c1 : inR p 1 15 = true
  · by_cases c2 : inR q 0 15 = true
    · by_cases c3 : inR k 0 11 = true
      · have k123 : ¬ ¬ (inR p 1 15 = true ∧ inR q 0 15 = true ∧ inR k 0 11 = true) := fun n => n ⟨c1, c2, c3⟩
        have k1 : ¬ ¬ inR p 1 15 = true := fun n => n c1
        have k2 : ¬ ¬ inR q 0 15 = true := fun n => n c2
        have k3 : ¬ ¬ inR k 0 11 = true := fun n => n c3
        rw [if_neg k123, if_neg k1, m_areHorns, q_b1s]
        simp only [b01]
        rw [if_neg k2, m_isHour, q_b1s]
        simp only [b01]
        rw [if_neg k3, inp_ok w 1 999999 1 999999 rfl rfl, q_b1s]
        simp only [b01]
        by_cases c5 : inR w 1 999999 = true
        · have k5 : ¬ ¬ inR w 1 999999 = true := fun n => n c5
          rw [if_pos c5, if_neg k5]
          clear k123 k1 k2 k3 k5
          obtain ⟨a, a1, a2, a3, rfl⟩ := inR_of (by decide) (by decide) c1
          obtain ⟨b, b1, b2, b3, rfl⟩ := inR_of (by decide) (by decide) c2
          obtain ⟨d, d1, d2, d3, rfl⟩ := inR_of (by decide) (by decide) c3
          have hp := pw4 hv.2.2.1
          have h12 := hv.2.2.1
          have e1 : fX3_minding (cst h) (nI a) (nI b) 0 = some (nI (minding h a b 0)) := minding_ok h hv (by omega) (by omega) (show 0 < 2 ^ 31 by decide)
          obtain ⟨F, l', F1, F2, F3, F4⟩ := drawOut hv hR hM0 (m := a) (thr := b) (hr := d) (by omega) (by omega) (by omega) (h 12 0) 5000 0 0 (uL t 20 w.toInt64) (by omega) (by omega) (by decide) (fun x hx => by rw [Nat.zero_testBit] at hx; cases hx)
          have F3 : fX3_drawFallen_L10 (nI (minding h a b 0)) (nI d) (cst h) 5000 0 w.toInt64 0 = some (nI F) := F3
          have F4 : fX8_ask_L67 (nI a) (nI b) (nI d) (u1 m 0 0) 5000 0 0 (uL t 20 w.toInt64) = some (nI F, l') := F4
          have eD : fX3_drawFallen (cst h) (nI (minding h a b 0)) (nI d) w = some (nI F) := by
            unfold fX3_drawFallen
            rw [F3, q_b1s]
          have hF : F < 16 := by omega
          have ea := add_ok h (g := F) (w := -1) (nv := fun x => h 9 x - 1) hF h12 (fun x hx hb => by
            have := F2 x hb
            rw [show (-1 : Int32) = - nI 1 from rfl, ← Int32.sub_eq_add_neg, iSub this])
          obtain ⟨n, a', n1, n2, g1, g2⟩ := keepA (h' := h2 h 9 (fun x => if x < h 12 0 ∧ F.testBit x = true then h 9 x - 1 else h 9 x)) hacts hv hR 0 F 1 (uAct_sub (Or.inl rfl) (fun x _ hb => F2 x hb)) (Or.inr (Or.inr ⟨Or.inl rfl, hF, by show 1 ≤ 9; decide⟩)) (fun j => show h 13 j = h 13 0 from actK hacts j)
          have g1 : fX0_keep ac 0 (nI F) 1 = some a' := g1
          obtain ⟨s', f1, f2, f3, f4, f5⟩ := m_keep (s := u1 m 0 0) n1 n2
          have hMs : HM s' r := fun i => by rw [f2 5 (by decide) (by decide)]; exact hM0 i
          obtain ⟨s2, r2, y1, y2, y3, y4, y5⟩ := fallL hv hR hF F2 (h 12 0) 5000 0 s' r (by omega) (by omega) hMs (fun t ht => by omega) (fun x _ => rfl)
          have y1 : fX8_ask_L209 (nI F) 5000 0 s' = some s2 := y1
          rw [e1, q_b1s, eD, q_b1s, ea, q_b1s, g1, q_b1s, q_lts, F4, q_b2s, f1, q_b1s, y1, q_b1s]
          refine ⟨_, _, _, _, _, rfl, rfl, RelA RR0 (HV_f9 hv (fun y hy => by
            have := (hv.2.2.2.2.2.2.1 y hy).2.2.2
            split <;> omega)) (RR_f9 hv hR y4 y5) y3 ?_ (fun k k0 k5 k8 k9 => by rw [y2 k k5, f2 k k8 k9, u1_ne k0])⟩
          rw [y2 8 (by decide), y2 9 (by decide), f3]
          exact g2 _ f4 (fun i hi => by rw [f5 i hi]; exact hM0 i)
        · exact ⟨_, _, _, _, _, by rw [if_neg c5], by rw [if_pos c5], R0⟩
      · exact ⟨_, _, _, _, _, by rw [if_pos (fun n => c3 n.2.2)], by rw [if_neg (fun n => n c1), m_areHorns, q_b1s]; simp only [b01]; rw [if_neg (fun n => n c2), m_isHour, q_b1s]; simp only [b01]; rw [if_pos c3], R0⟩
    · exact ⟨_, _, _, _, _, by rw [if_pos (fun n => c2 n.2.1)], by rw [if_neg (fun n => n c1), m_areHorns, q_b1s]; simp only [b01]; rw [if_pos c2], R0⟩
  · exact ⟨_, _, _, _, _, by rw [if_pos (fun n => c1 n.1)], by rw [if_pos c1], R0⟩
end OPS
