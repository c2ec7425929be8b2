/-! what follows from a hill, and that the class's functions give it -/
theorem iB0 {c : Prop} [Decidable c] : ((if c then nI 1 else nI 0) = nI 0) = ¬ c := by
  by_cases h : c <;> simp [h] <;> decide
theorem n10 : (nI 1 = nI 0) = False := eq_false (by decide)
theorem isb_ite {c : Prop} [Decidable c] : isb (if c then nI 1 else nI 0) = True := by
  by_cases h : c <;> simp [h, isb] <;> decide
theorem isb1 : isb (nI 1) = True := eq_true (Or.inr rfl)
theorem isb0 : isb (nI 0) = True := eq_true (Or.inl rfl)
theorem ite_so {α : Type} {c : Prop} [Decidable c] {a b : α} : (if c then some a else some b) = some (if c then a else b) := by
  by_cases h : c <;> simp [h]
def HV (h : Hl) : Prop := h 10 0 ≤ 5 ∧ h 11 0 ≤ 4 ∧ h 12 0 ≤ 4 ∧ (∀ j, j < 12 → h 0 j ≤ 3) ∧ (∀ g, g < h 10 0 → h 1 g ≤ 30 ∧ h 2 g ≤ 9 ∧ h 3 g ≤ 9 ∧ h 4 g ≤ 15) ∧ (∀ k, k < h 11 0 → h 5 k ≤ 30 ∧ h 6 k ≤ 40) ∧ (∀ t, t < h 12 0 → 1 ≤ h 7 t ∧ h 7 t ≤ 5 ∧ h 8 t ≤ 30 ∧ h 9 t ≤ 9) ∧ h 13 0 < 2 ^ h 11 0
theorem HV.cr {h : Hl} (v : HV h) : h 13 0 < 16 := Nat.lt_of_lt_of_le v.2.2.2.2.2.2.2 (Nat.pow_le_pow_right (n := 2) (by decide) v.2.1)
def loosK (k : Nat) : Nat := if k = 1 then 2 else if k = 2 then 1 else if k = 3 then 1 else if k = 4 then 3 else 0
theorem loosK_le (k : Nat) : loosK k ≤ 3 := by
  unfold loosK
  split
  · decide
  split
  · decide
  split
  · decide
  split <;> decide
def bear (h : Hl) (t gone : Nat) : Bool := decide (0 < h 9 t) && !gone.testBit t
def blow (h : Hl) (t hr : Nat) : Nat := if 0 < h 9 t then loosK (h 7 t) * h 0 hr else 0
def hears (h : Hl) (g k : Nat) : Bool := !(h 13 0).testBit k && decide (10 + dist (h 5 k) (h 1 g) ≤ h 6 k + h 2 g)
def heard (h : Hl) (g : Nat) : Nat := bs (hears h g) (h 11 0)
def dO (h : Hl) (g : Nat) : Option Nat → Nat
  | none => 4
  | some b => dist (h 8 b) (h 1 g)
def itsL (h : Hl) (g gone : Nat) : Nat → Option Nat
  | 0 => none
  | t + 1 => if bear h t gone = true ∧ dist (h 8 t) (h 1 g) < dO h g (itsL h g gone t) then some t else itsL h g gone t
theorem itsL_succ (h : Hl) (g gone t : Nat) : itsL h g gone (t + 1) = if bear h t gone = true ∧ dist (h 8 t) (h 1 g) < dO h g (itsL h g gone t) then some t else itsL h g gone t := rfl
def itsT (h : Hl) (g gone : Nat) : Option Nat := itsL h g gone (h 12 0)
theorem itsL_lt (h : Hl) (g gone : Nat) : ∀ t b, itsL h g gone t = some b → b < t
  | 0, b, e => by cases e
  | t + 1, b, e => by
    rw [itsL_succ] at e
    split at e
    · cases e; omega
    · exact Nat.lt_succ_of_lt (itsL_lt h g gone t b e)
theorem dO_le (h : Hl) (g gone : Nat) : ∀ t, dO h g (itsL h g gone t) ≤ 4
  | 0 => Nat.le_refl 4
  | t + 1 => by
    have := dO_le h g gone t
    rw [itsL_succ]
    split
    · rename_i c; show dist (h 8 t) (h 1 g) ≤ 4; omega
    · exact this
theorem itsL_some (h : Hl) (g gone : Nat) : ∀ t b, itsL h g gone t = some b → dist (h 8 b) (h 1 g) ≤ 3 ∧ bear h b gone = true
  | 0, b, e => by cases e
  | t + 1, b, e => by
    have hd := dO_le h g gone t
    rw [itsL_succ] at e
    split at e
    · rename_i c
      cases e
      exact ⟨by omega, c.1⟩
    · exact itsL_some h g gone t b e
def mindB (h : Hl) (m thr gone g : Nat) : Bool := decide (¬ h 4 g &&& m = 0) && (decide (¬ heard h g &&& thr = 0) && (itsT h g gone).isSome)
def minding (h : Hl) (m thr gone : Nat) : Nat := bs (mindB h m thr gone) (h 10 0)
def gravesOf (h : Hl) (t : Nat) : Nat := bs (fun g => decide (itsT h g 0 = some t)) (h 10 0)
theorem isGrave_ok (h : Hl) (v : HV h) {j : Nat} (hj : j < 2 ^ 31) : fX3_isGrave (cst h) (nI j) = some (if j < h 10 0 then nI 1 else nI 0) := by
  have := v.1
  unfold fX3_isGrave
  simp only [cst_at, z_0, z_1, z_2, z_3, z_4, z_5, z_6, z_7, z_8, z_9, z_10, z_11, z_12, z_13, z_14, z_15, z_16, z_20, z_21, z_22, z_23, z_24, z_30, z_31, z_32, z_35, z_40, z_47, z_48, z_57, z_59, z_97, z_100, z_122, z_400, z_1000, iLt hj (show 0 < 2 ^ 31 by decide), iLe (show h 10 0 < 2 ^ 31 by omega) hj]
  by_cases q : j < h 10 0
  · simp [q, Nat.not_le.mpr q]
  · simp [q, Nat.not_lt.mp q]
theorem isHorn_ok (h : Hl) (v : HV h) {j : Nat} (hj : j < 2 ^ 31) : fX3_isHorn (cst h) (nI j) = some (if j < h 11 0 then nI 1 else nI 0) := by
  have := v.2.1
  unfold fX3_isHorn
  simp only [cst_at, z_0, z_1, z_2, z_3, z_4, z_5, z_6, z_7, z_8, z_9, z_10, z_11, z_12, z_13, z_14, z_15, z_16, z_20, z_21, z_22, z_23, z_24, z_30, z_31, z_32, z_35, z_40, z_47, z_48, z_57, z_59, z_97, z_100, z_122, z_400, z_1000, iLt hj (show 0 < 2 ^ 31 by decide), iLe (show h 11 0 < 2 ^ 31 by omega) hj]
  by_cases q : j < h 11 0
  · simp [q, Nat.not_le.mpr q]
  · simp [q, Nat.not_lt.mp q]
theorem isTree_ok (h : Hl) (v : HV h) {j : Nat} (hj : j < 2 ^ 31) : fX3_isTree (cst h) (nI j) = some (if j < h 12 0 then nI 1 else nI 0) := by
  have := v.2.2.1
  unfold fX3_isTree
  simp only [cst_at, z_0, z_1, z_2, z_3, z_4, z_5, z_6, z_7, z_8, z_9, z_10, z_11, z_12, z_13, z_14, z_15, z_16, z_20, z_21, z_22, z_23, z_24, z_30, z_31, z_32, z_35, z_40, z_47, z_48, z_57, z_59, z_97, z_100, z_122, z_400, z_1000, iLt hj (show 0 < 2 ^ 31 by decide), iLe (show h 12 0 < 2 ^ 31 by omega) hj]
  by_cases q : j < h 12 0
  · simp [q, Nat.not_le.mpr q]
  · simp [q, Nat.not_lt.mp q]
theorem loose_ok (h : Hl) (v : HV h) {t : Nat} (ht : t < h 12 0) : fX3_loose (cst h) (nI t) = some (nI (loosK (h 7 t))) := by
  have h1 := v.2.2.1
  have h2 := v.2.2.2.2.2.2.1 t ht
  unfold fX3_loose
  rw [isTree_ok h v (by omega), if_pos ht]
  simp only [q_b1s, cst_at, z_0, z_1, z_2, z_3, z_4, z_5, z_6, z_7, z_8, z_9, z_10, z_11, z_12, z_13, z_14, z_15, z_16, z_20, z_21, z_22, z_23, z_24, z_30, z_31, z_32, z_35, z_40, z_47, z_48, z_57, z_59, z_97, z_100, z_122, z_400, z_1000, iIn (show t < 2 ^ 31 by omega), iCl (show t < 2 ^ 31 by omega), show t < 4 by omega, if_true, iEq (show 1 < 2 ^ 31 by decide) (show 0 < 2 ^ 31 by decide), show ¬ (1 : Nat) = 0 by decide, if_false, iEq (show h 7 t < 2 ^ 31 by omega) (show 1 < 2 ^ 31 by decide), iEq (show h 7 t < 2 ^ 31 by omega) (show 2 < 2 ^ 31 by decide), iEq (show h 7 t < 2 ^ 31 by omega) (show 3 < 2 ^ 31 by decide), iEq (show h 7 t < 2 ^ 31 by omega) (show 4 < 2 ^ 31 by decide)]
  unfold loosK
  by_cases a1 : h 7 t = 1
  · simp [a1]
  by_cases a2 : h 7 t = 2
  · simp [a2]
  by_cases a3 : h 7 t = 3
  · simp [a3]
  by_cases a4 : h 7 t = 4
  · simp [a4]
  simp [a1, a2, a3, a4]
theorem bears_ok (h : Hl) (v : HV h) {t gone : Nat} (ht : t < h 12 0) (hg : gone < 2 ^ 31) : fX3_bears (cst h) (nI t) (nI gone) = some (if bear h t gone = true then nI 1 else nI 0) := by
  have h1 := v.2.2.1
  have h2 := v.2.2.2.2.2.2.1 t ht
  unfold fX3_bears
  rw [isTree_ok h v (by omega), if_pos ht]
  simp only [q_b1s, cst_at, z_0, z_1, z_2, z_3, z_4, z_5, z_6, z_7, z_8, z_9, z_10, z_11, z_12, z_13, z_14, z_15, z_16, z_20, z_21, z_22, z_23, z_24, z_30, z_31, z_32, z_35, z_40, z_47, z_48, z_57, z_59, z_97, z_100, z_122, z_400, z_1000, iIn (show t < 2 ^ 31 by omega), iCl (show t < 2 ^ 31 by omega), show t < 4 by omega, if_true, iEq (show 1 < 2 ^ 31 by decide) (show 0 < 2 ^ 31 by decide), show ¬ (1 : Nat) = 0 by decide, if_false, iLe (show h 9 t < 2 ^ 31 by omega) (show 0 < 2 ^ 31 by decide), has_ok hg (show t < 31 by omega), iB0, bear]
  by_cases a : h 9 t = 0
  · simp [a]
  · have b : ¬ h 9 t ≤ 0 := by omega
    have b2 : 0 < h 9 t := by omega
    by_cases q : gone.testBit t = true
    · simp [a, b2, q]
    · simp [a, b2, q]
theorem blown_ok (h : Hl) (v : HV h) {t hr : Nat} (ht : t < h 12 0) (hh : hr < 12) : fX3_blown (cst h) (nI t) (nI hr) = some (nI (blow h t hr)) := by
  have hb : fX3_bears (cst h) (nI t) 0 = some (if bear h t 0 = true then nI 1 else nI 0) := bears_ok h v ht (show 0 < 2 ^ 31 by decide)
  unfold fX3_blown
  rw [hb]
  simp only [q_b1s, cst_at, z_0, z_1, z_2, z_3, z_4, z_5, z_6, z_7, z_8, z_9, z_10, z_11, z_12, z_13, z_14, z_15, z_16, z_20, z_21, z_22, z_23, z_24, z_30, z_31, z_32, z_35, z_40, z_47, z_48, z_57, z_59, z_97, z_100, z_122, z_400, z_1000, iB0, loose_ok h v ht, iIn (show hr < 2 ^ 31 by omega), iCl (show hr < 2 ^ 31 by omega), hh, if_true, iLt (show hr < 2 ^ 31 by omega) (show 0 < 2 ^ 31 by decide), iLt (show hr < 2 ^ 31 by omega) (show 12 < 2 ^ 31 by decide), Nat.not_lt_zero, if_false, iMul, bear, blow]
  by_cases a : 0 < h 9 t
  · simp [a, n10]
  · simp [a, n10]
theorem iArr {a d b : Nat} (ha : a < 1000) (hd : d < 1000) (hb : b < 1000) : (nI a - nI d + nI b < nI 10) = (a + b < 10 + d) := by
  have e : nI a - nI d + nI b = nI (a + b) - nI d := by
    rw [← iAdd, Int32.sub_eq_add_neg, Int32.sub_eq_add_neg, Int32.add_assoc, Int32.add_assoc, Int32.add_comm (-nI d)]
  rw [e]
  by_cases h : d ≤ a + b
  · rw [iSub h, iLt (by omega) (by decide)]
    apply propext; omega
  · have h1 := pk_sneg (a := a + b) (b := d) (by omega) (by omega)
    apply propext
    constructor
    · intro _; omega
    · intro _
      exact Int32.lt_trans h1 (by decide)
theorem dist_le {a b m : Nat} (ha : a ≤ m) (hb : b ≤ m) : dist a b ≤ m := by unfold dist; split <;> omega
theorem heardL (h : Hl) (v : HV h) {g : Nat} (hg : g < h 10 0) : ∀ d n k, k + d = h 11 0 → d < n → fX3_hornsHeardBy_L4 (nI g) (cst h) n (nI (bs (hears h g) k)) (nI k) = some (nI (bs (hears h g) (h 11 0))) := by
  have h1 := v.2.1
  have h0 := v.1
  have hc := v.cr
  intro d
  induction d with
  | zero =>
    intro n k e hn
    cases n with
    | zero => omega
    | succ n =>
      have e : k = h 11 0 := by omega
      subst e
      rw [fX3_hornsHeardBy_L4]
      simp only [cst_at, iLe (show h 11 0 < 2 ^ 31 by omega) (show h 11 0 < 2 ^ 31 by omega), Nat.le_refl, if_true]
  | succ d ih =>
    intro n k e hn
    cases n with
    | zero => omega
    | succ n =>
      have hk : k < h 11 0 := by omega
      have h5 := v.2.2.2.2.2.1 k hk
      have h4 := v.2.2.2.2.1 g hg
      have hdd := dist_le h5.1 h4.1
      rw [fX3_hornsHeardBy_L4]
      have hbl : bs (hears h g) k < 2 ^ 31 := bs_lt31 _ (by omega)
      simp only [cst_at, z_0, z_1, z_2, z_3, z_4, z_5, z_6, z_7, z_8, z_9, z_10, z_11, z_12, z_13, z_14, z_15, z_16, z_20, z_21, z_22, z_23, z_24, z_30, z_31, z_32, z_35, z_40, z_47, z_48, z_57, z_59, z_97, z_100, z_122, z_400, z_1000, iLe (show h 11 0 < 2 ^ 31 by omega) (show k < 2 ^ 31 by omega), show ¬ h 11 0 ≤ k by omega, if_false, isGrave_ok h v (show g < 2 ^ 31 by omega), if_pos hg, q_b1s, iEq (show 1 < 2 ^ 31 by decide) (show 0 < 2 ^ 31 by decide), show ¬ (1 : Nat) = 0 by decide, fX3_isCracked, has_ok (show h 13 0 < 2 ^ 31 by omega) (show k < 31 by omega), isb_ite, if_true, iB0, fX3_arrives, iIn (show k < 2 ^ 31 by omega), iCl (show k < 2 ^ 31 by omega), iIn (show g < 2 ^ 31 by omega), iCl (show g < 2 ^ 31 by omega), show k < 4 by omega, show g < 5 by omega, iAbs (show h 5 k < 2 ^ 30 by omega) (show h 1 g < 2 ^ 30 by omega), iArr (show h 6 k < 1000 by omega) (show dist (h 5 k) (h 1 g) < 1000 by omega) (show h 2 g < 1000 by omega), iShl (show k < 31 by omega), iOr, q_lts, iAdd]
      have hs : bs (hears h g) (k + 1) = if hears h g k = true then bs (hears h g) k ||| 2 ^ k else bs (hears h g) k := rfl
      cases q : (h 13 0).testBit k with
      | true =>
        have hf : hears h g k = false := by simp [hears, q]
        rw [hf] at hs
        simp only [if_true, not_true, q_b1s, not_false_iff, if_false]
        have := ih n (k + 1) (by omega) (by omega)
        rw [hs] at this
        simpa using this
      | false =>
        by_cases c : h 6 k + h 2 g < 10 + dist (h 5 k) (h 1 g)
        · have hf : hears h g k = false := by simp [hears, q]; omega
          rw [hf] at hs
          have := ih n (k + 1) (by omega) (by omega)
          rw [hs] at this
          simpa [c, q_b1s] using this
        · have hf : hears h g k = true := by simp [hears, q]; omega
          rw [hf] at hs
          have := ih n (k + 1) (by omega) (by omega)
          rw [hs] at this
          simpa [c, q_b1s] using this
theorem heard_ok (h : Hl) (v : HV h) {g : Nat} (hg : g < h 10 0) : fX3_hornsHeardBy (cst h) (nI g) = some (nI (heard h g)) := by
  have h1 := v.2.1
  unfold fX3_hornsHeardBy
  rw [show (0 : Int32) = nI (bs (hears h g) 0) from rfl]
  have := heardL h v hg (h 11 0) 5000 0 (by omega) (by omega)
  rw [show nI (bs (hears h g) 0) = nI 0 from rfl] at this ⊢
  rw [this]
  rfl
theorem heard_lt (h : Hl) (v : HV h) (g : Nat) : heard h g < 16 := Nat.lt_of_lt_of_le (bs_lt _ _) (Nat.pow_le_pow_right (n := 2) (by decide) v.2.1)
