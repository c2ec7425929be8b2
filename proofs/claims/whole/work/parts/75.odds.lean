/-! checks of arguments; odds by the reference -/
theorem ck_lg (p a b : Int32) : (if p < a then some (0 : Int32) else (if b < p then some 0 else some 1)) = some (if inR p a.toInt b.toInt = true then 1 else 0) := by
  simp only [Int32.lt_iff_toInt_lt, inR_i]
  by_cases h1 : p.toInt < a.toInt
  · rw [if_pos h1, if_neg (fun q => by have := q.1; omega)]
  · by_cases h2 : b.toInt < p.toInt
    · rw [if_neg h1, if_pos h2, if_neg (fun q => by have := q.2; omega)]
    · rw [if_neg h1, if_neg h2, if_pos ⟨by omega, by omega⟩]
theorem ck_lle (p a b : Int32) : (if p < a then some (0 : Int32) else (if b ≤ p then some 0 else some 1)) = some (if inR p a.toInt (b.toInt - 1) = true then 1 else 0) := by
  simp only [Int32.lt_iff_toInt_lt, Int32.le_iff_toInt_le, inR_i]
  by_cases h1 : p.toInt < a.toInt
  · rw [if_pos h1, if_neg (fun q => by have := q.1; omega)]
  · by_cases h2 : b.toInt ≤ p.toInt
    · rw [if_neg h1, if_pos h2, if_neg (fun q => by have := q.2; omega)]
    · rw [if_neg h1, if_neg h2, if_pos ⟨by omega, by omega⟩]
/-- a check in a method's own body: below a or above b -/
theorem ck_in {α : Type} (p a b : Int32) (x y : α) : (if p < a then x else (if p ≤ b then y else x)) = if inR p a.toInt b.toInt = true then y else x := by
  simp only [Int32.lt_iff_toInt_lt, Int32.le_iff_toInt_le, inR_i]
  by_cases h1 : p.toInt < a.toInt
  · rw [if_pos h1, if_neg (fun q => by have := q.1; omega)]
  · by_cases h2 : p.toInt ≤ b.toInt
    · rw [if_neg h1, if_pos h2, if_pos ⟨by omega, h2⟩]
    · rw [if_neg h1, if_neg h2, if_neg (fun q => h2 q.2)]
theorem ck_in2 {α : Type} (p a b : Int32) (x y : α) : (if p < a then x else (if b < p then x else y)) = if inR p a.toInt b.toInt = true then y else x := by
  simp only [Int32.lt_iff_toInt_lt, inR_i]
  by_cases h1 : p.toInt < a.toInt
  · rw [if_pos h1, if_neg (fun q => by have := q.1; omega)]
  · by_cases h2 : b.toInt < p.toInt
    · rw [if_neg h1, if_pos h2, if_neg (fun q => by have := q.2; omega)]
    · rw [if_neg h1, if_neg h2, if_pos ⟨by omega, by omega⟩]
theorem b01 {c : Prop} [Decidable c] : ((if c then (1 : Int32) else 0) = 0) = ¬ c := by
  by_cases h : c <;> simp [h]
theorem isb01 {c : Prop} [Decidable c] : isb (if c then (1 : Int32) else 0) = True := by
  by_cases h : c <;> simp [h, isb]
theorem c_isMatter (p : Int32) : fX7_isMatter p = some (if inR p 1 15 = true then 1 else 0) := ck_lg p 1 15
theorem c_isHorns (p : Int32) : fX7_isHorns p = some (if inR p 0 15 = true then 1 else 0) := ck_lg p 0 15
theorem c_isHour (p : Int32) : fX7_isHour p = some (if inR p 0 11 = true then 1 else 0) := ck_lle p 0 12
theorem c_isImage (p : Int32) : fX7_isImage p = some (if inR p 0 1 = true then 1 else 0) := ck_lle p 0 2
theorem c_isRow (p : Int32) : fX5_isRow p = some (if inR p 0 7 = true then 1 else 0) := ck_lle p 0 8
theorem c_isLane (p : Int32) : fX5_isLane p = some (if inR p 0 2 = true then 1 else 0) := ck_lle p 0 3
theorem c_isPart (p : Int32) : fX7_isPart p = some (if inR p 0 1 = true then 1 else 0) := by
  unfold fX7_isPart
  by_cases h0 : p = 0
  · subst h0; rfl
  by_cases h1 : p = 1
  · subst h1; rfl
  rw [if_neg h0, if_neg h1, if_neg]
  rw [inR_i]
  rintro ⟨a, b⟩
  have : p.toInt = 0 ∨ p.toInt = 1 := by omega
  rcases this with e | e
  · exact h0 (Int32.toInt_inj.mp e)
  · exact h1 (Int32.toInt_inj.mp e)
theorem c_isAsked (p q r : Int32) : fX7_isAsked p q r = some (if inR p 1 15 = true ∧ inR q 0 15 = true ∧ inR r 0 11 = true then 1 else 0) := by
  unfold fX7_isAsked
  simp only [c_isMatter, c_isHorns, c_isHour, q_b1s, b01]
  by_cases h1 : inR p 1 15 = true
  · by_cases h2 : inR q 0 15 = true
    · by_cases h3 : inR r 0 11 = true
      · rw [if_neg (fun n => n h1), if_neg (fun n => n h2), if_neg (fun n => n h3), if_pos ⟨h1, h2, h3⟩]
      · rw [if_neg (fun n => n h1), if_neg (fun n => n h2), if_pos h3, if_neg (fun n => h3 n.2.2)]
    · rw [if_neg (fun n => n h1), if_pos h2, if_neg (fun n => h2 n.2.1)]
  · rw [if_pos h1, if_neg (fun n => h1 n.1)]
theorem m_isMatter (p : Int32) : fX8_isMatter p = some (if inR p 1 15 = true then 1 else 0) := by
  unfold fX8_isMatter
  rw [inp_ok p 1 15 1 15 rfl rfl, q_b1s]
  simp only [isb01, if_true]
theorem m_areHorns (p : Int32) : fX8_areHorns p = some (if inR p 0 15 = true then 1 else 0) := by
  unfold fX8_areHorns
  rw [inp_ok p 0 15 0 15 rfl rfl, q_b1s]
  simp only [isb01, if_true]
theorem m_isHour (p : Int32) : fX8_isHour p = some (if inR p 0 11 = true then 1 else 0) := by
  unfold fX8_isHour
  rw [inp_ok p 0 11 0 11 rfl rfl, q_b1s]
  simp only [isb01, if_true]
theorem m_isRow (p : Int32) : fX8_isRow p = some (if inR p 0 7 = true then 1 else 0) := by
  unfold fX8_isRow
  rw [inp_ok p 0 7 0 7 rfl rfl, q_b1s]
  simp only [isb01, if_true]
/-- p is one of the first n -/
abbrev inN (p : Int32) (n : Nat) : Bool := inR p 0 ((n : Int) - 1)
theorem inN_nI {p : Int32} {n : Nat} (hn : n < 2 ^ 31) (h : inN p n = true) : ∃ j : Nat, j < n ∧ p = nI j := by
  obtain ⟨j, h1, h2, h3⟩ := inR_nI (b := (n : Int) - 1) (by omega) h
  exact ⟨j, by omega, h3⟩
theorem c_first {p x : Int32} {n : Nat} (hn : n < 2 ^ 31) (hx : x = nI n) : (if p < 0 then some (0 : Int32) else (if x ≤ p then some 0 else some 1)) = some (if inN p n = true then 1 else 0) := by
  have := ck_lle p 0 x
  rw [this, hx, nI_toInt hn]
  rfl
theorem c_isGrave (h : Hl) (v : HV h) (p : Int32) : fX3_isGrave (cst h) p = some (if inN p (h 10 0) = true then 1 else 0) := by have := v.1; exact c_first (by omega) rfl
theorem c_isHorn (h : Hl) (v : HV h) (p : Int32) : fX3_isHorn (cst h) p = some (if inN p (h 11 0) = true then 1 else 0) := by have := v.2.1; exact c_first (by omega) rfl
theorem c_isTree (h : Hl) (v : HV h) (p : Int32) : fX3_isTree (cst h) p = some (if inN p (h 12 0) = true then 1 else 0) := by have := v.2.2.1; exact c_first (by omega) rfl
theorem nI_m1 {n : Nat} (hn : n < 2 ^ 31) : ((nI n - 1).toInt64).toInt = (n : Int) - 1 := by
  rw [Int32.toInt_toInt64]
  rcases n with _ | n
  · rfl
  · have e : nI (n + 1) - 1 = nI n := nI_pred n
    rw [e, nI_toInt (by omega)]
    omega
section OM
variable {h : Hl} {r : Nat → Nat} {s : St}
theorem m_isGrave (v : HV h) (R : RR h r) (M : HM s r) (p : Int32) : fX8_isGrave s p = some (if inN p (h 10 0) = true then 1 else 0) := by
  have h0 := v.1
  unfold fX8_isGrave
  rw [if_pos (show inb (0 : Int32) 59 by decide), show (0 : Int32).toNatClampNeg = 0 from rfl, M, R.1, inp_ok p 0 _ 0 _ rfl (nI_m1 (show h 10 0 < 2 ^ 31 by omega)), q_b1s]
  simp only [isb01, if_true]
theorem m_isHorn (v : HV h) (R : RR h r) (M : HM s r) (p : Int32) : fX8_isHorn s p = some (if inN p (h 11 0) = true then 1 else 0) := by
  have h0 := v.2.1
  unfold fX8_isHorn
  rw [if_pos (show inb (1 : Int32) 59 by decide), show (1 : Int32).toNatClampNeg = 1 from rfl, M, R.2.1, inp_ok p 0 _ 0 _ rfl (nI_m1 (show h 11 0 < 2 ^ 31 by omega)), q_b1s]
  simp only [isb01, if_true]
theorem m_isTree (v : HV h) (R : RR h r) (M : HM s r) (p : Int32) : fX8_isTree s p = some (if inN p (h 12 0) = true then 1 else 0) := by
  have h0 := v.2.2.1
  unfold fX8_isTree
  rw [if_pos (show inb (2 : Int32) 59 by decide), show (2 : Int32).toNatClampNeg = 2 from rfl, M, R.2.2.1, inp_ok p 0 _ 0 _ rfl (nI_m1 (show h 12 0 < 2 ^ 31 by omega)), q_b1s]
  simp only [isb01, if_true]
theorem m_times (t : Lt) {a b x : Nat} (hx : x < 2 ^ 31) (h1 : t 21 = lN a) (h2 : t 22 = lN b) : ∃ t' : Lt, fX8_times t (nI x) = some t' ∧ t' 21 = lN (a * x) ∧ t' 22 = lN (b * 10) := by
  refine ⟨uL (uL t 21 (t 21 * (nI x).toInt64)) 22 ((uL t 21 (t 21 * (nI x).toInt64)) 22 * 10), rfl, ?_, ?_⟩
  · show t 21 * (nI x).toInt64 = _
    rw [h1, nI_l hx, lN_mul]
  · show t 22 * 10 = _
    rw [h2, show (10 : Int64) = lN 10 from rfl, lN_mul]
theorem m_pass1 (v : HV h) (R : RR h r) (M : HM s r) {hr gone a b : Nat} (hh : hr < 12) (hgo : gone < 2 ^ 31) : ∀ d n k (t : Lt), k + d = h 12 0 → d < n → t 21 = lN (a * PN (fun t => bear h t gone) (fun t => blow h t hr) k) → t 22 = lN (b * 10 ^ CN (fun t => bear h t gone) k) → ∃ t' : Lt, fX8_passes_L3 (nI hr) (nI gone) s n (nI k) t = some t' ∧ t' 21 = lN (a * PN (fun t => bear h t gone) (fun t => blow h t hr) (h 12 0)) ∧ t' 22 = lN (b * 10 ^ CN (fun t => bear h t gone) (h 12 0)) := by
  have h0 := v.2.2.1
  have r2 : s 5 2 = nI (h 12 0) := by rw [M, R.2.2.1]
  intro d
  induction d with
  | zero =>
    intro n k t e hn h1 h2
    cases n with
    | zero => omega
    | succ n =>
      have e : k = h 12 0 := by omega
      subst e
      refine ⟨t, ?_, h1, h2⟩
      rw [fX8_passes_L3]
      simp only [z_0, z_1, z_2, z_3, z_4, z_5, z_6, z_7, z_8, z_9, z_10, z_11, z_12, z_13, z_14, z_15, z_16, z_20, z_21, z_22, z_23, z_24, z_30, z_31, z_32, z_35, z_40, z_47, z_48, z_57, z_59, z_97, z_100, z_122, z_400, z_1000, iIn (show 2 < 2 ^ 31 by decide), iCl (show 2 < 2 ^ 31 by decide), show 2 < 59 by decide, if_true, r2, iLe (show h 12 0 < 2 ^ 31 by omega) (show h 12 0 < 2 ^ 31 by omega), Nat.le_refl]
  | succ d ih =>
    intro n k t e hn h1 h2
    cases n with
    | zero => omega
    | succ n =>
      have hk : k < h 12 0 := by omega
      have h9 := v.2.2.2.2.2.2.1 k hk
      have hw := v.2.2.2.1 hr hh
      have hlo := loosK_le (h 7 k)
      have hlw : loosK (h 7 k) * h 0 hr ≤ 9 := Nat.mul_le_mul hlo hw
      rw [fX8_passes_L3]
      have hbear : bear h k gone = true ↔ 0 < h 9 k ∧ gone / 2 ^ k % 2 = 0 := by
        unfold bear
        rw [Nat.testBit_eq_decide_div_mod_eq]
        simp
      have hP : PN (fun t => bear h t gone) (fun t => blow h t hr) (k + 1) = if bear h k gone = true then PN (fun t => bear h t gone) (fun t => blow h t hr) k * (10 - blow h k hr) else PN (fun t => bear h t gone) (fun t => blow h t hr) k := rfl
      have hC : CN (fun t => bear h t gone) (k + 1) = if bear h k gone = true then CN (fun t => bear h t gone) k + 1 else CN (fun t => bear h t gone) k := rfl
      simp only [z_0, z_1, z_2, z_3, z_4, z_5, z_6, z_7, z_8, z_9, z_10, z_11, z_12, z_13, z_14, z_15, z_16, z_20, z_21, z_22, z_23, z_24, z_30, z_31, z_32, z_35, z_40, z_47, z_48, z_57, z_59, z_97, z_100, z_122, z_400, z_1000, iIn (show 2 < 2 ^ 31 by decide), iCl (show 2 < 2 ^ 31 by decide), show 2 < 59 by decide, if_true, r2, iLe (show h 12 0 < 2 ^ 31 by omega) (show k < 2 ^ 31 by omega), show ¬ h 12 0 ≤ k by omega, if_false, m_fruit v R M hk, q_b1s, iLe (show h 9 k < 2 ^ 31 by omega) (show 0 < 2 ^ 31 by decide), iBit hgo (show k < 31 by omega), iEq (show gone / 2 ^ k % 2 < 2 ^ 31 by omega) (show 0 < 2 ^ 31 by decide), m_loose v R M hk, iAdd, iIn (show 3 + hr < 2 ^ 31 by omega), iCl (show 3 + hr < 2 ^ 31 by omega), show 3 + hr < 59 by omega, M (3 + hr), R.2.2.2.1 hr hh, iMul, iSub (show loosK (h 7 k) * h 0 hr ≤ 10 by omega)]
      by_cases c1 : h 9 k ≤ 0
      · have hb : ¬ bear h k gone = true := fun q => by have := (hbear.mp q).1; omega
        rw [if_pos c1, q_b1s]
        exact ih n (k + 1) t (by omega) (by omega) (by rw [hP, if_neg hb]; exact h1) (by rw [hC, if_neg hb]; exact h2)
      by_cases c2 : gone / 2 ^ k % 2 = 0
      · have hb : bear h k gone = true := hbear.mpr ⟨by omega, c2⟩
        obtain ⟨t1, e1, e2, e3⟩ := m_times t (show 10 - loosK (h 7 k) * h 0 hr < 2 ^ 31 by omega) h1 h2
        rw [if_neg c1, if_pos c2, e1, q_b1s, q_b1s]
        have hbl : blow h k hr = loosK (h 7 k) * h 0 hr := by unfold blow; rw [if_pos (by omega)]
        refine ih n (k + 1) t1 (by omega) (by omega) ?_ ?_
        · rw [hP, if_pos hb, e2, hbl, Nat.mul_assoc]
        · rw [hC, if_pos hb, e3, Nat.pow_succ, Nat.mul_assoc]
      · have hb : ¬ bear h k gone = true := fun q => c2 (hbear.mp q).2
        rw [if_neg c1, if_neg c2, q_b1s]
        exact ih n (k + 1) t (by omega) (by omega) (by rw [hP, if_neg hb]; exact h1) (by rw [hC, if_neg hb]; exact h2)
theorem m_pass2 (v : HV h) (R : RR h r) (M : HM s r) {m thr gone a b : Nat} (hm : m < 16) (hthr : thr < 16) (hgo : gone < 2 ^ 31) : ∀ d n g (t : Lt), g + d = h 10 0 → d < n → t 21 = lN (a * PN (mindB h m thr gone) (h 3) g) → t 22 = lN (b * 10 ^ CN (mindB h m thr gone) g) → ∃ t' : Lt, fX8_passes_L64 (nI m) (nI thr) (nI gone) s n (nI g) t = some t' ∧ t' 21 = lN (a * PN (mindB h m thr gone) (h 3) (h 10 0)) ∧ t' 22 = lN (b * 10 ^ CN (mindB h m thr gone) (h 10 0)) := by
  have h0 := v.1
  have r0 : s 5 0 = nI (h 10 0) := by rw [M, R.1]
  intro d
  induction d with
  | zero =>
    intro n g t e hn h1 h2
    cases n with
    | zero => omega
    | succ n =>
      have e : g = h 10 0 := by omega
      subst e
      refine ⟨t, ?_, h1, h2⟩
      rw [fX8_passes_L64]
      simp only [z_0, z_1, z_2, z_3, z_4, z_5, z_6, z_7, z_8, z_9, z_10, z_11, z_12, z_13, z_14, z_15, z_16, z_20, z_21, z_22, z_23, z_24, z_30, z_31, z_32, z_35, z_40, z_47, z_48, z_57, z_59, z_97, z_100, z_122, z_400, z_1000, iIn (show 0 < 2 ^ 31 by decide), iCl (show 0 < 2 ^ 31 by decide), show 0 < 59 by decide, if_true, r0, iLe (show h 10 0 < 2 ^ 31 by omega) (show h 10 0 < 2 ^ 31 by omega), Nat.le_refl]
  | succ d ih =>
    intro n g t e hn h1 h2
    cases n with
    | zero => omega
    | succ n =>
      have hg : g < h 10 0 := by omega
      have h4 := v.2.2.2.2.1 g hg
      have og2 : fX8_ofGrave s (nI g) (nI 2) = some (nI (h 3 g)) := m_ofGrave v R M hg (show 2 < 4 by decide)
      rw [fX8_passes_L64]
      have hP : PN (mindB h m thr gone) (h 3) (g + 1) = if mindB h m thr gone g = true then PN (mindB h m thr gone) (h 3) g * (10 - h 3 g) else PN (mindB h m thr gone) (h 3) g := rfl
      have hC : CN (mindB h m thr gone) (g + 1) = if mindB h m thr gone g = true then CN (mindB h m thr gone) g + 1 else CN (mindB h m thr gone) g := rfl
      simp only [z_0, z_1, z_2, z_3, z_4, z_5, z_6, z_7, z_8, z_9, z_10, z_11, z_12, z_13, z_14, z_15, z_16, z_20, z_21, z_22, z_23, z_24, z_30, z_31, z_32, z_35, z_40, z_47, z_48, z_57, z_59, z_97, z_100, z_122, z_400, z_1000, iIn (show 0 < 2 ^ 31 by decide), iCl (show 0 < 2 ^ 31 by decide), show 0 < 59 by decide, if_true, r0, iLe (show h 10 0 < 2 ^ 31 by omega) (show g < 2 ^ 31 by omega), show ¬ h 10 0 ≤ g by omega, if_false, m_doesMind v R M hg hm hthr hgo, q_b1s, iB0, og2, iAdd, iSub (show h 3 g ≤ 10 by omega)]
      by_cases c : mindB h m thr gone g = true
      · obtain ⟨t1, e1, e2, e3⟩ := m_times t (show 10 - h 3 g < 2 ^ 31 by omega) h1 h2
        rw [if_neg (fun q => q c), e1, q_b1s, q_b1s]
        refine ih n (g + 1) t1 (by omega) (by omega) ?_ ?_
        · rw [hP, if_pos c, e2, Nat.mul_assoc]
        · rw [hC, if_pos c, e3, Nat.pow_succ, Nat.mul_assoc]
      · rw [if_pos c, q_b1s]
        exact ih n (g + 1) t (by omega) (by omega) (by rw [hP, if_neg c]; exact h1) (by rw [hC, if_neg c]; exact h2)
theorem m_passes (v : HV h) (R : RR h r) (M : HM s r) (t : Lt) {m thr hr gone a b : Nat} (hm : m < 16) (hthr : thr < 16) (hh : hr < 12) (hgo : gone < 2 ^ 31) (h1 : t 21 = lN a) (h2 : t 22 = lN b) : ∃ t' : Lt, fX8_passes s t (nI m) (nI thr) (nI hr) (nI gone) = some t' ∧ t' 21 = lN (a * upN h m thr hr gone) ∧ t' 22 = lN (b * 10 ^ exN h m thr gone) := by
  have h0 := v.1
  have h0' := v.2.2.1
  obtain ⟨t1, e1, e2, e3⟩ := m_pass1 v R M (hr := hr) (gone := gone) (a := a) (b := b) hh hgo (h 12 0) 5000 0 t (by omega) (by omega) (by rw [h1]; congr 1; exact (Nat.mul_one a).symm) (by rw [h2]; congr 1; exact (Nat.mul_one b).symm)
  obtain ⟨t2, e4, e5, e6⟩ := m_pass2 v R M (m := m) (thr := thr) (gone := gone) (a := a * PN (fun t => bear h t gone) (fun t => blow h t hr) (h 12 0)) (b := b * 10 ^ CN (fun t => bear h t gone) (h 12 0)) hm hthr hgo (h 10 0) 5000 0 t1 (by omega) (by omega) (by rw [e2]; congr 1; exact (Nat.mul_one _).symm) (by rw [e3]; congr 1; exact (Nat.mul_one _).symm)
  have e1 : fX8_passes_L3 (nI hr) (nI gone) s 5000 0 t = some t1 := e1
  have e4 : fX8_passes_L64 (nI m) (nI thr) (nI gone) s 5000 0 t1 = some t2 := e4
  refine ⟨t2, ?_, ?_, ?_⟩
  · unfold fX8_passes
    rw [e1, q_b1s, e4, q_b1s]
  · rw [e5]; unfold upN; rw [Nat.mul_assoc]
  · rw [e6]; unfold exN; rw [Nat.pow_add, Nat.mul_assoc]
theorem m_layOdds (v : HV h) (R : RR h r) (M : HM s r) (t : Lt) {m thr hr gone : Nat} (hm : m < 16) (hthr : thr < 16) (hh : hr < 12) (hgo : gone < 2 ^ 31) : ∃ t' : Lt, fX8_layOdds s t (nI m) (nI thr) (nI hr) (nI gone) = some t' ∧ t' 21 = lN (upN h m thr hr gone) ∧ t' 22 = lN (10 ^ exN h m thr gone) := by
  obtain ⟨t1, e1, e2, e3⟩ := m_passes v R M (uL (uL t 21 1) 22 1) (a := 1) (b := 1) hm hthr hh hgo rfl rfl
  refine ⟨t1, ?_, ?_, ?_⟩
  · unfold fX8_layOdds
    rw [q_lts, q_lts, e1, q_b1s]
  · rw [e2, Nat.one_mul]
  · rw [e3, Nat.one_mul]
end OM
theorem upN_le (h : Hl) (m thr hr gone : Nat) : upN h m thr hr gone ≤ 10 ^ exN h m thr gone := by
  unfold upN exN
  rw [Nat.pow_add]
  exact Nat.mul_le_mul (PN_le _ _ _) (PN_le _ _ _)
theorem ten_le {n : Nat} (h : n ≤ 9) : 10 ^ n ≤ 10 ^ 9 := Nat.pow_le_pow_right (by decide) h
theorem upN_pos (h : Hl) (v : HV h) (m thr hr gone : Nat) (hh : hr < 12) : 0 < upN h m thr hr gone := by
  unfold upN
  refine Nat.mul_pos (PN_pos _ _ _ (fun k _ => blow_le h v k hh)) (PN_pos _ _ _ (fun k hk => (v.2.2.2.2.1 k hk).2.2.1))
