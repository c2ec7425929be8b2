/-! checks of numbers, greatest common divisors -/
theorem cGe (x y : Int64) : (0 ≤ lg_cmp x y) = (y ≤ x) := propext (lg_cmp_ge x y)
theorem cLe (x y : Int64) : (lg_cmp x y ≤ 0) = (x ≤ y) := propext (lg_cmp_le x y)
theorem cLt (x y : Int64) : (lg_cmp x y < 0) = (x < y) := by
  apply propext
  rw [← Int32.not_le, ← Int64.not_le, cGe]
theorem cGt (x y : Int64) : (0 < lg_cmp x y) = (y < x) := by
  apply propext
  rw [← Int32.not_le, ← Int64.not_le, cLe]
theorem cEq (x y : Int64) : (lg_cmp x y = 0) = (x = y) := by
  apply propext
  constructor
  · intro h
    have h1 : x ≤ y := by rw [← cLe, h]; decide
    have h2 : y ≤ x := by rw [← cGe, h]; decide
    exact Int64.le_antisymm h1 h2
  · intro h
    have h1 : lg_cmp x y ≤ 0 := by rw [cLe, h]; exact Int64.le_refl y
    have h2 : 0 ≤ lg_cmp x y := by rw [cGe, h]; exact Int64.le_refl y
    exact Int32.le_antisymm h1 h2
theorem zLt (x y : Int64) : (lg_cmp x y < nI 0) = (x < y) := cLt x y
theorem zGt (x y : Int64) : (nI 0 < lg_cmp x y) = (y < x) := cGt x y
theorem zEq (x y : Int64) : (lg_cmp x y = nI 0) = (x = y) := cEq x y
theorem zLe (x y : Int64) : (lg_cmp x y ≤ nI 0) = (x ≤ y) := cLe x y
theorem zGe (x y : Int64) : (nI 0 ≤ lg_cmp x y) = (y ≤ x) := cGe x y
def inR (p : Int32) (a b : Int) : Bool := decide (a ≤ p.toInt ∧ p.toInt ≤ b)
theorem inR_i {p : Int32} {a b : Int} : (inR p a b = true) = (a ≤ p.toInt ∧ p.toInt ≤ b) := by unfold inR; simp
theorem inR_nI {p : Int32} {b : Int} (hb : b < 2147483648) (h : inR p 0 b = true) : ∃ j : Nat, (j : Int) ≤ b ∧ j < 2 ^ 31 ∧ p = nI j := by
  rw [inR_i] at h
  obtain ⟨h1, h2⟩ := h
  refine ⟨p.toInt.toNat, by omega, by omega, ?_⟩
  show p = Int32.ofNat p.toInt.toNat
  have e : ((p.toInt.toNat : Nat) : Int) = p.toInt := by omega
  apply Int32.toInt_inj.mp
  rw [← e]
  exact (nI_toInt (by omega)).symm
theorem inR_of {p : Int32} {a b : Int} (ha : 0 ≤ a) (hb : b < 2147483648) (h : inR p a b = true) : ∃ j : Nat, a ≤ (j : Int) ∧ (j : Int) ≤ b ∧ j < 2 ^ 31 ∧ p = nI j := by
  rw [inR_i] at h
  obtain ⟨j, h1, h2, h3⟩ := inR_nI hb (by rw [inR_i]; exact ⟨by have := h.1; omega, h.2⟩)
  refine ⟨j, ?_, h1, h2, h3⟩
  have := h.1
  rw [h3, nI_toInt h2] at this
  exact this
theorem in_ok (x : Int64) (a b : Int) (A B : Int64) (hA : A.toInt = a) (hB : B.toInt = b) : fX8_in x A B = some (if a ≤ x.toInt ∧ x.toInt ≤ b then 1 else 0) := by
  unfold fX8_in
  simp only [cLt, cGt, Int64.lt_iff_toInt_lt, hA, hB]
  by_cases h1 : x.toInt < a
  · rw [if_pos h1, if_neg (fun q => by omega)]
  · by_cases h2 : b < x.toInt
    · rw [if_neg h1, if_pos h2, if_neg (fun q => by omega)]
    · rw [if_neg h1, if_neg h2, if_pos ⟨by omega, by omega⟩]

theorem inp_ok (p : Int32) (a b : Int) (A B : Int64) (hA : A.toInt = a) (hB : B.toInt = b) : fX8_in p.toInt64 A B = some (if inR p a b = true then 1 else 0) := by
  rw [in_ok _ a b A B hA hB, Int32.toInt_toInt64]
  simp only [inR_i]
theorem lN_inj63 {a b : Nat} (ha : a < 2 ^ 63) (hb : b < 2 ^ 63) : (lN a = lN b) = (a = b) := propext (pk_lEQ ha hb)
theorem gcd_step (a b : Nat) : Nat.gcd a b = Nat.gcd b (a % b) := by
  rw [Nat.gcd_comm a b, Nat.gcd_rec b a, Nat.gcd_comm]
theorem mod_half {k a b : Nat} (hb : b < 2 ^ (k + 1)) (hb0 : 0 < b) (h0 : 0 < a % b) : b % (a % b) < 2 ^ k := by
  have h1 : a % b < b := Nat.mod_lt _ hb0
  have h2 : b % (a % b) < a % b := Nat.mod_lt _ h0
  have h3 : 2 ^ (k + 1) = 2 * 2 ^ k := by rw [Nat.pow_succ, Nat.mul_comm]
  rcases Nat.lt_or_ge (2 ^ k) (a % b) with q | q
  · rw [Nat.mod_eq_sub_mod (Nat.le_of_lt h1), Nat.mod_eq_of_lt (by omega)]
    omega
  · omega
theorem gcdC : ∀ k a b n i, a < 2 ^ 63 → b < 2 ^ k → k ≤ 63 → i + 2 * k < 1000 → 2 * k < n → fX2_commonDivisor_L9 n (lN a) (lN b) (nI i) = some (lN (Nat.gcd a b)) := by
  intro k
  induction k with
  | zero =>
    intro a b n i ha hb hk hi hn
    cases n with
    | zero => omega
    | succ n =>
      have e : b = 0 := by omega
      subst e
      rw [fX2_commonDivisor_L9]
      simp only [show (0 : Int64) = lN 0 from rfl, show (1000 : Int32) = nI 1000 from rfl, cEq, iLe (show 1000 < 2 ^ 31 by decide) (show i < 2 ^ 31 by omega), show ¬ 1000 ≤ i by omega, if_false, if_true, Nat.gcd_zero_right]
  | succ k ih =>
    intro a b n i ha hb hk hi hn
    have hb63 : b < 2 ^ 63 := Nat.lt_of_lt_of_le hb (Nat.pow_le_pow_right (by decide) hk)
    cases n with
    | zero => omega
    | succ n =>
      rw [fX2_commonDivisor_L9]
      simp only [show (0 : Int64) = lN 0 from rfl, show (1 : Int32) = nI 1 from rfl, show (1000 : Int32) = nI 1000 from rfl, cEq, iLe (show 1000 < 2 ^ 31 by decide) (show i < 2 ^ 31 by omega), show ¬ 1000 ≤ i by omega, if_false, lN_inj63 hb63 (show 0 < 2 ^ 63 by decide), q_lts, iAdd]
      by_cases h0 : b = 0
      · subst h0; simp
      · rw [if_neg h0, if_pos h0, pk_lRem ha (by omega) hb63, gcd_step a b]
        have h1 : a % b < b := Nat.mod_lt _ (by omega)
        by_cases h2 : a % b = 0
        · rw [h2]
          cases n with
          | zero => omega
          | succ n =>
            rw [fX2_commonDivisor_L9]
            simp only [show (0 : Int64) = lN 0 from rfl, show (1000 : Int32) = nI 1000 from rfl, cEq, iLe (show 1000 < 2 ^ 31 by decide) (show i + 1 < 2 ^ 31 by omega), show ¬ 1000 ≤ i + 1 by omega, if_false, if_true, Nat.gcd_zero_right]
        · cases n with
          | zero => omega
          | succ n =>
            rw [fX2_commonDivisor_L9]
            simp only [show (0 : Int64) = lN 0 from rfl, show (1 : Int32) = nI 1 from rfl, show (1000 : Int32) = nI 1000 from rfl, cEq, iLe (show 1000 < 2 ^ 31 by decide) (show i + 1 < 2 ^ 31 by omega), show ¬ 1000 ≤ i + 1 by omega, if_false, lN_inj63 (show a % b < 2 ^ 63 by omega) (show 0 < 2 ^ 63 by decide), q_lts, iAdd]
            rw [if_neg h2, if_pos h2, pk_lRem hb63 (by omega) (by omega), gcd_step b (a % b)]
            exact ih (a % b) (b % (a % b)) n (i + 1 + 1) (by omega) (mod_half hb (by omega) (by omega)) (by omega) (by omega) (by omega)
theorem gcd_ok {a b : Nat} (ha : a < 2 ^ 63) (hb : b < 2 ^ 63) : fX2_commonDivisor (lN a) (lN b) = some (lN (Nat.gcd a b)) := by
  unfold fX2_commonDivisor
  have e : fX2_commonDivisor_L9 5000 (lN a) (lN b) 0 = some (lN (Nat.gcd a b)) := gcdC 63 a b 5000 0 ha hb (by omega) (by omega) (by omega)
  rw [e]
  rfl
theorem gcdM : ∀ k a b n, a < 2 ^ 63 → b < 2 ^ k → k ≤ 63 → 2 * k < n → fX8_partOf_L6 n (lN a) (lN b) = some (lN (Nat.gcd a b)) := by
  intro k
  induction k with
  | zero =>
    intro a b n ha hb hk hn
    cases n with
    | zero => omega
    | succ n =>
      have e : b = 0 := by omega
      subst e
      rw [fX8_partOf_L6]
      simp only [show (0 : Int64) = lN 0 from rfl, cEq, if_true, Nat.gcd_zero_right]
  | succ k ih =>
    intro a b n ha hb hk hn
    have hb63 : b < 2 ^ 63 := Nat.lt_of_lt_of_le hb (Nat.pow_le_pow_right (by decide) hk)
    cases n with
    | zero => omega
    | succ n =>
      rw [fX8_partOf_L6]
      simp only [show (0 : Int64) = lN 0 from rfl, cEq, lN_inj63 hb63 (show 0 < 2 ^ 63 by decide), q_lts]
      by_cases h0 : b = 0
      · subst h0; simp
      · rw [if_neg h0, if_pos h0, pk_lRem ha (by omega) hb63, gcd_step a b]
        have h1 : a % b < b := Nat.mod_lt _ (by omega)
        by_cases h2 : a % b = 0
        · rw [h2]
          cases n with
          | zero => omega
          | succ n =>
            rw [fX8_partOf_L6]
            simp only [show (0 : Int64) = lN 0 from rfl, cEq, if_true, Nat.gcd_zero_right]
        · cases n with
          | zero => omega
          | succ n =>
            rw [fX8_partOf_L6]
            simp only [show (0 : Int64) = lN 0 from rfl, cEq, lN_inj63 (show a % b < 2 ^ 63 by omega) (show 0 < 2 ^ 63 by decide), q_lts]
            rw [if_neg h2, if_pos h2, pk_lRem hb63 (by omega) (by omega), gcd_step b (a % b)]
            exact ih (a % b) (b % (a % b)) n (by omega) (mod_half hb (by omega) (by omega)) (by omega) (by omega)
/-- a part of a fraction in lowest terms -/
def lowP (a b : Nat) (w : Bool) : Nat := (if w = true then a else b) / Nat.gcd a b
theorem lowP_scale {a b k : Nat} (hk : 0 < k) (w : Bool) : lowP (k * a) (k * b) w = lowP a b w := by
  unfold lowP
  rw [Nat.gcd_mul_left]
  cases w
  · simp only [Bool.false_eq_true, if_false]; rw [Nat.mul_div_mul_left _ _ hk]
  · simp only [if_true]; rw [Nat.mul_div_mul_left _ _ hk]
theorem part_ok {a b : Nat} (ha : a < 2 ^ 63) (hb : b < 2 ^ 63) (h0 : 0 < b) (p : Int32) : fX8_partOf (lN a) (lN b) p = some (lN (lowP a b (decide (p = 0)))) := by
  have hg : 0 < Nat.gcd a b := Nat.gcd_pos_of_pos_right a h0
  have hg2 : Nat.gcd a b < 2 ^ 63 := Nat.lt_of_le_of_lt (Nat.le_of_dvd h0 (Nat.gcd_dvd_right a b)) hb
  unfold fX8_partOf lowP
  rw [gcdM 63 a b 5000 ha hb (by omega) (by omega), q_b1s]
  by_cases hp : p = 0
  · simp only [hp, if_true, q_b1s, decide_true]
    rw [if_pos (by rw [show (0 : Int64) = lN 0 from rfl, lN_inj63 hg2 (by decide)]; omega), pk_lDiv ha hg hg2]
  · simp only [hp, if_false, q_b1s, decide_false, Bool.false_eq_true]
    rw [if_pos (by rw [show (0 : Int64) = lN 0 from rfl, lN_inj63 hg2 (by decide)]; omega), pk_lDiv hb hg hg2]
theorem become_ok (t : Lt) {a b : Nat} (ha : a < 2 ^ 63) (hb : b < 2 ^ 63) (h0 : 0 < b) : ∃ t' : Lt, fX2_become t (lN a) (lN b) = some t' ∧ t' 0 = lN (lowP a b true) ∧ t' 1 = lN (lowP a b false) := by
  have hg : 0 < Nat.gcd a b := Nat.gcd_pos_of_pos_right a h0
  have hg2 : Nat.gcd a b < 2 ^ 63 := Nat.lt_of_le_of_lt (Nat.le_of_dvd h0 (Nat.gcd_dvd_right a b)) hb
  have hz : ¬ lN (Nat.gcd a b) = 0 := by rw [show (0 : Int64) = lN 0 from rfl, lN_inj63 hg2 (by decide)]; omega
  refine ⟨uL (uL t 0 (lN a / lN (Nat.gcd a b))) 1 (lN b / lN (Nat.gcd a b)), ?_, ?_, ?_⟩
  · unfold fX2_become
    rw [gcd_ok ha hb, q_b1s]
    simp only [cEq, hz, not_false_iff, if_true, if_false, q_lts]
  · show lN a / lN (Nat.gcd a b) = _
    rw [pk_lDiv ha hg hg2]; rfl
  · show lN b / lN (Nat.gcd a b) = _
    rw [pk_lDiv hb hg hg2]; rfl
theorem fpart_ok (t : Lt) (p : Int32) : fX2_part t p = some (if p = 0 then t 0 else t 1) := by
  unfold fX2_part
  by_cases h : p = 0 <;> simp [h]
