/-! the reference's functions of a hill: its row of numbers r tells the hill h -/
def RR (h : Hl) (r : Nat → Nat) : Prop := r 0 = h 10 0 ∧ r 1 = h 11 0 ∧ r 2 = h 12 0 ∧ (∀ j, j < 12 → r (3 + j) = h 0 j) ∧ (∀ g, g < h 10 0 → ∀ i, i < 4 → r (15 + 4 * g + i) = h (1 + i) g) ∧ (∀ k, k < h 11 0 → r (35 + 3 * k) = h 5 k ∧ r (35 + 3 * k + 1) = h 6 k ∧ r (35 + 3 * k + 2) = if (h 13 0).testBit k = true then 1 else 0) ∧ (∀ t, t < h 12 0 → r (47 + 3 * t) = h 7 t ∧ r (47 + 3 * t + 1) = h 8 t ∧ r (47 + 3 * t + 2) = h 9 t)
/-- a reference state whose hill row is r -/
def HM (s : St) (r : Nat → Nat) : Prop := ∀ i, s 5 i = nI (r i)
section HMS
variable {h : Hl} {r : Nat → Nat} {s : St}
theorem m_ofGrave (v : HV h) (R : RR h r) (M : HM s r) {g i : Nat} (hg : g < h 10 0) (hi : i < 4) : fX8_ofGrave s (nI g) (nI i) = some (nI (h (1 + i) g)) := by
  have h0 := v.1
  unfold fX8_ofGrave
  simp only [show (15 : Int32) = nI 15 from rfl, show (4 : Int32) = nI 4 from rfl, iMul, iAdd, iIn (show 15 + 4 * g + i < 2 ^ 31 by omega), iCl (show 15 + 4 * g + i < 2 ^ 31 by omega), show 15 + 4 * g + i < 59 by omega, if_true]
  rw [M, R.2.2.2.2.1 g hg i hi]
theorem m_placeOf (v : HV h) (R : RR h r) (M : HM s r) {t : Nat} (ht : t < h 12 0) : fX8_placeOf s (nI t) = some (nI (h 8 t)) := by
  have h0 := v.2.2.1
  unfold fX8_placeOf
  simp only [show (47 : Int32) = nI 47 from rfl, show (3 : Int32) = nI 3 from rfl, show (1 : Int32) = nI 1 from rfl, iMul, iAdd, iIn (show 47 + 3 * t + 1 < 2 ^ 31 by omega), iCl (show 47 + 3 * t + 1 < 2 ^ 31 by omega), show 47 + 3 * t + 1 < 59 by omega, if_true]
  rw [M, (R.2.2.2.2.2.2 t ht).2.1]
theorem m_fruit (v : HV h) (R : RR h r) (M : HM s r) {t : Nat} (ht : t < h 12 0) : fX8_fruit s (nI t) = some (nI (h 9 t)) := by
  have h0 := v.2.2.1
  unfold fX8_fruit
  simp only [show (47 : Int32) = nI 47 from rfl, show (3 : Int32) = nI 3 from rfl, show (2 : Int32) = nI 2 from rfl, iMul, iAdd, iIn (show 47 + 3 * t + 2 < 2 ^ 31 by omega), iCl (show 47 + 3 * t + 2 < 2 ^ 31 by omega), show 47 + 3 * t + 2 < 59 by omega, if_true]
  rw [M, (R.2.2.2.2.2.2 t ht).2.2]
theorem m_loose (v : HV h) (R : RR h r) (M : HM s r) {t : Nat} (ht : t < h 12 0) : fX8_loose s (nI t) = some (nI (loosK (h 7 t))) := by
  have h0 := v.2.2.1
  have h7 := v.2.2.2.2.2.2.1 t ht
  unfold fX8_loose
  simp only [z_0, z_1, z_2, z_3, z_4, z_5, z_6, z_7, z_8, z_9, z_10, z_11, z_12, z_13, z_14, z_15, z_16, z_20, z_21, z_22, z_23, z_24, z_30, z_31, z_32, z_35, z_40, z_47, z_48, z_57, z_59, z_97, z_100, z_122, z_400, z_1000, iMul, iAdd, iIn (show 47 + 3 * t < 2 ^ 31 by omega), iCl (show 47 + 3 * t < 2 ^ 31 by omega), show 47 + 3 * t < 59 by omega, if_true, q_lts, M (47 + 3 * t), (R.2.2.2.2.2.2 t ht).1, iEq (show h 7 t < 2 ^ 31 by omega) (show 1 < 2 ^ 31 by decide), iEq (show h 7 t < 2 ^ 31 by omega) (show 4 < 2 ^ 31 by decide), iEq (show h 7 t < 2 ^ 31 by omega) (show 5 < 2 ^ 31 by decide)]
  unfold loosK
  have : h 7 t = 1 ∨ h 7 t = 2 ∨ h 7 t = 3 ∨ h 7 t = 4 ∨ h 7 t = 5 := by omega
  rcases this with e | e | e | e | e <;> simp [e]
theorem m_apart {a b : Nat} (ha : a < 2 ^ 31) (hb : b < 2 ^ 31) : fX8_apart (nI a) (nI b) = some (nI (dist a b)) := by
  unfold fX8_apart dist
  simp only [iLe hb ha]
  by_cases c : b ≤ a
  · rw [if_pos c, iSub c]
    by_cases d : a ≤ b
    · rw [if_pos d]; congr 2; omega
    · rw [if_neg d]
  · rw [if_neg c, if_pos (by omega), iSub (by omega)]
theorem m_heardL (v : HV h) (R : RR h r) (M : HM s r) {g : Nat} (hg : g < h 10 0) : ∀ d n k, k + d = h 11 0 → d < n → fX8_heard_L4 (nI g) s n (nI (bs (hears h g) k)) (nI k) = some (nI (heard h g)) := by
  have h1 := v.2.1
  have h0 := v.1
  have r1 : s 5 1 = nI (h 11 0) := by rw [M, R.2.1]
  have og0 := m_ofGrave v R M hg (i := 0) (by decide)
  have og1 := m_ofGrave v R M hg (i := 1) (by decide)
  intro d
  induction d with
  | zero =>
    intro n k e hn
    cases n with
    | zero => omega
    | succ n =>
      have e : k = h 11 0 := by omega
      subst e
      rw [fX8_heard_L4]
      simp only [z_0, z_1, z_2, z_3, z_4, z_5, z_6, z_7, z_8, z_9, z_10, z_11, z_12, z_13, z_14, z_15, z_16, z_20, z_21, z_22, z_23, z_24, z_30, z_31, z_32, z_35, z_40, z_47, z_48, z_57, z_59, z_97, z_100, z_122, z_400, z_1000, iIn (show 1 < 2 ^ 31 by decide), iCl (show 1 < 2 ^ 31 by decide), show 1 < 59 by decide, if_true, r1, iLe (show h 11 0 < 2 ^ 31 by omega) (show h 11 0 < 2 ^ 31 by omega), Nat.le_refl]
      rfl
  | succ d ih =>
    intro n k e hn
    cases n with
    | zero => omega
    | succ n =>
      have hk : k < h 11 0 := by omega
      have h5 := v.2.2.2.2.2.1 k hk
      have h4 := v.2.2.2.2.1 g hg
      have hdd := dist_le h5.1 h4.1
      have IH := ih n (k + 1) (by omega) (by omega)
      have hR := R.2.2.2.2.2.1 k hk
      have hs : bs (hears h g) (k + 1) = if hears h g k = true then bs (hears h g) k ||| 2 ^ k else bs (hears h g) k := rfl
      rw [hs] at IH
      rw [fX8_heard_L4]
      simp only [z_0, z_1, z_2, z_3, z_4, z_5, z_6, z_7, z_8, z_9, z_10, z_11, z_12, z_13, z_14, z_15, z_16, z_20, z_21, z_22, z_23, z_24, z_30, z_31, z_32, z_35, z_40, z_47, z_48, z_57, z_59, z_97, z_100, z_122, z_400, z_1000, iIn (show 1 < 2 ^ 31 by decide), iCl (show 1 < 2 ^ 31 by decide), show 1 < 59 by decide, if_true, r1, iLe (show h 11 0 < 2 ^ 31 by omega) (show k < 2 ^ 31 by omega), show ¬ h 11 0 ≤ k by omega, if_false, iMul, iAdd, q_lts, iIn (show 35 + 3 * k < 2 ^ 31 by omega), iCl (show 35 + 3 * k < 2 ^ 31 by omega), show 35 + 3 * k < 59 by omega, iIn (show 35 + 3 * k + 1 < 2 ^ 31 by omega), iCl (show 35 + 3 * k + 1 < 2 ^ 31 by omega), show 35 + 3 * k + 1 < 59 by omega, iIn (show 35 + 3 * k + 2 < 2 ^ 31 by omega), iCl (show 35 + 3 * k + 2 < 2 ^ 31 by omega), show 35 + 3 * k + 2 < 59 by omega, og0, og1, q_b1s, M (35 + 3 * k), M (35 + 3 * k + 1), M (35 + 3 * k + 2), hR.1, hR.2.1, hR.2.2, m_apart (show h 5 k < 2 ^ 31 by omega) (show h (1 + 0) g < 2 ^ 31 by show h 1 g < _; omega), iArr (show h 6 k < 1000 by omega) (show dist (h 5 k) (h (1 + 0) g) < 1000 by show dist (h 5 k) (h 1 g) < _; omega) (show h (1 + 1) g < 1000 by show h 2 g < _; omega), iShl (show k < 31 by omega)]
      cases q : (h 13 0).testBit k with
      | true =>
        rw [show hears h g k = false by simp [hears, q]] at IH
        simpa [n10, q_b1s, iOr] using IH
      | false =>
        by_cases c : h 6 k + h 2 g < 10 + dist (h 5 k) (h 1 g)
        · rw [show hears h g k = false by simp [hears, q]; omega] at IH
          simpa [c, q_b1s, iOr] using IH
        · rw [show hears h g k = true by simp [hears, q]; omega] at IH
          simpa [c, q_b1s, iOr] using IH
theorem m_heard (v : HV h) (R : RR h r) (M : HM s r) {g : Nat} (hg : g < h 10 0) : fX8_heard s (nI g) = some (nI (heard h g)) := by
  have h1 := v.2.1
  unfold fX8_heard
  have e : fX8_heard_L4 (nI g) s 5000 0 0 = some (nI (heard h g)) := m_heardL v R M hg (h 11 0) 5000 0 (by omega) (by omega)
  rw [e]
  rfl
theorem m_treeL (v : HV h) (R : RR h r) (M : HM s r) {g gone : Nat} (hg : g < h 10 0) (hgo : gone < 2 ^ 31) : ∀ d n t, t + d = h 12 0 → d < n → fX8_itsTree_L6 (nI g) (nI gone) s n (tI (itsL h g gone t)) (nI t) = some (tI (itsT h g gone)) := by
  have h1 := v.2.2.1
  have h0 := v.1
  have r2 : s 5 2 = nI (h 12 0) := by rw [M, R.2.2.1]
  have og0 := m_ofGrave v R M hg (i := 0) (by decide)
  intro d
  induction d with
  | zero =>
    intro n t e hn
    cases n with
    | zero => omega
    | succ n =>
      have e : t = h 12 0 := by omega
      subst e
      rw [fX8_itsTree_L6]
      simp only [z_0, z_1, z_2, z_3, z_4, z_5, z_6, z_7, z_8, z_9, z_10, z_11, z_12, z_13, z_14, z_15, z_16, z_20, z_21, z_22, z_23, z_24, z_30, z_31, z_32, z_35, z_40, z_47, z_48, z_57, z_59, z_97, z_100, z_122, z_400, z_1000, iIn (show 2 < 2 ^ 31 by decide), iCl (show 2 < 2 ^ 31 by decide), show 2 < 59 by decide, if_true, r2, iLe (show h 12 0 < 2 ^ 31 by omega) (show h 12 0 < 2 ^ 31 by omega), Nat.le_refl]
      rfl
  | succ d ih =>
    intro n t e hn
    cases n with
    | zero => omega
    | succ n =>
      have ht : t < h 12 0 := by omega
      have h8 := v.2.2.2.2.2.2.1 t ht
      have h4 := v.2.2.2.2.1 g hg
      have hdd := dist_le h8.2.2.1 h4.1
      have IH := ih n (t + 1) (by omega) (by omega)
      rw [itsL_succ] at IH
      rw [fX8_itsTree_L6]
      simp only [z_0, z_1, z_2, z_3, z_4, z_5, z_6, z_7, z_8, z_9, z_10, z_11, z_12, z_13, z_14, z_15, z_16, z_20, z_21, z_22, z_23, z_24, z_30, z_31, z_32, z_35, z_40, z_47, z_48, z_57, z_59, z_97, z_100, z_122, z_400, z_1000, iIn (show 2 < 2 ^ 31 by decide), iCl (show 2 < 2 ^ 31 by decide), show 2 < 59 by decide, if_true, r2, iLe (show h 12 0 < 2 ^ 31 by omega) (show t < 2 ^ 31 by omega), show ¬ h 12 0 ≤ t by omega, if_false, m_placeOf v R M ht, og0, q_b1s, m_apart (show h 8 t < 2 ^ 31 by omega) (show h (1 + 0) g < 2 ^ 31 by show h 1 g < _; omega), m_fruit v R M ht, iLe (show h 9 t < 2 ^ 31 by omega) (show 0 < 2 ^ 31 by decide), iBit hgo (show t < 31 by omega), iEq (show gone / 2 ^ t % 2 < 2 ^ 31 by omega) (show 0 < 2 ^ 31 by decide), iLt (show 3 < 2 ^ 31 by decide) (show dist (h 8 t) (h (1 + 0) g) < 2 ^ 31 by show dist (h 8 t) (h 1 g) < _; omega), iAdd]
      have hbear : bear h t gone = true ↔ 0 < h 9 t ∧ gone / 2 ^ t % 2 = 0 := by
        unfold bear
        rw [Nat.testBit_eq_decide_div_mod_eq]
        simp
      by_cases c1 : h 9 t ≤ 0
      · rw [if_neg (fun q => by have := (hbear.mp q.1).1; omega)] at IH
        simpa [c1, q_b1s] using IH
      by_cases c2 : gone / 2 ^ t % 2 = 0
      · have hb : bear h t gone = true := hbear.mpr ⟨by omega, c2⟩
        by_cases c3 : 3 < dist (h 8 t) (h 1 g)
        · have : dO h g (itsL h g gone t) ≤ 4 := dO_le h g gone t
          rw [if_neg (fun q => by omega)] at IH
          simpa [c1, c2, c3, q_b1s] using IH
        · cases q : itsL h g gone t with
          | none =>
            rw [q] at IH
            rw [if_pos ⟨hb, show dist (h 8 t) (h 1 g) < 4 by omega⟩] at IH
            simpa [c1, c2, c3, q_b1s, n10, tI_none, tI_some] using IH
          | some b =>
            rw [q] at IH
            have hbt := itsL_lt h g gone t b q
            have h8b := v.2.2.2.2.2.2.1 b (by omega)
            have hddb := dist_le h8b.2.2.1 h4.1
            rw [dO_some] at IH
            simp only [tI_some, nI_neNONE (show b < 2 ^ 31 by omega), m_placeOf v R M (show b < h 12 0 by omega), og0, q_b1s, m_apart (show h 8 b < 2 ^ 31 by omega) (show h (1 + 0) g < 2 ^ 31 by show h 1 g < _; omega), iLe (show dist (h 8 b) (h (1 + 0) g) < 2 ^ 31 by show dist (h 8 b) (h 1 g) < _; omega) (show dist (h 8 t) (h (1 + 0) g) < 2 ^ 31 by show dist (h 8 t) (h 1 g) < _; omega)]
            by_cases c4 : dist (h 8 b) (h 1 g) ≤ dist (h 8 t) (h 1 g)
            · rw [if_neg (fun q => by omega)] at IH
              simpa [c1, c2, c3, c4, q_b1s, n10, tI_some] using IH
            · rw [if_pos ⟨hb, by omega⟩] at IH
              simpa [c1, c2, c3, c4, q_b1s, n10, tI_some] using IH
      · rw [if_neg (fun q => c2 (hbear.mp q.1).2)] at IH
        simpa [c1, c2, q_b1s] using IH
theorem m_itsTree (v : HV h) (R : RR h r) (M : HM s r) {g gone : Nat} (hg : g < h 10 0) (hgo : gone < 2 ^ 31) : fX8_itsTree s (nI g) (nI gone) = some (tI (itsT h g gone)) := by
  have h1 := v.2.2.1
  unfold fX8_itsTree
  have e : fX8_itsTree_L6 (nI g) (nI gone) s 5000 (-1000000) 0 = some (tI (itsT h g gone)) := m_treeL v R M hg hgo (h 12 0) 5000 0 (by omega) (by omega)
  rw [e]
  rfl
theorem m_doesMind (v : HV h) (R : RR h r) (M : HM s r) {g m thr gone : Nat} (hg : g < h 10 0) (hm : m < 16) (hthr : thr < 16) (hgo : gone < 2 ^ 31) : fX8_doesMind s (nI g) (nI m) (nI thr) (nI gone) = some (if mindB h m thr gone g = true then nI 1 else nI 0) := by
  have hl := heard_lt h v g
  have h4 := v.2.2.2.2.1 g hg
  have a1 : h (1 + 3) g &&& m < 2 ^ 31 := Nat.lt_of_le_of_lt Nat.and_le_left (by show h 4 g < _; omega)
  have a2 : heard h g &&& thr < 2 ^ 31 := Nat.lt_of_le_of_lt Nat.and_le_left (by omega)
  unfold fX8_doesMind
  simp only [z_0, z_1, z_2, z_3, z_4, z_5, z_6, z_7, z_8, z_9, z_10, z_11, z_12, z_13, z_14, z_15, z_16, z_20, z_21, z_22, z_23, z_24, z_30, z_31, z_32, z_35, z_40, z_47, z_48, z_57, z_59, z_97, z_100, z_122, z_400, z_1000, m_heard v R M hg, m_ofGrave v R M hg (show 3 < 4 by decide), m_itsTree v R M hg hgo, q_b1s, iAnd, iEq a1 (show 0 < 2 ^ 31 by decide), iEq a2 (show 0 < 2 ^ 31 by decide), tI_isN (itsT_lt h v g gone)]
  by_cases c2 : heard h g &&& thr = 0
  · simp [c2, mindB]
  by_cases c1 : h 4 g &&& m = 0
  · have c1' : h (1 + 3) g &&& m = 0 := c1
    simp [c1, c1', c2, mindB]
  have c1' : ¬ h (1 + 3) g &&& m = 0 := c1
  cases c3 : itsT h g gone with
  | none => simp [c1, c1', c2, c3, mindB]
  | some z => simp [c1, c1', c2, c3, mindB]
end HMS
