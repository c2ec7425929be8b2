/-! how the class's state and the reference's belong together -/
/-- an act undone on a hill -/
def uAct (E : Nat × Nat × Nat) (h : Hl) : Hl := if E.1 = 2 then hA h 1 E.2.1 E.2.2 else if E.1 = 3 then h1 h 13 (h 13 0 - 2 ^ E.2.1) else h2 h 9 (fun t => if t < h 12 0 ∧ E.2.1.testBit t = true then h 9 t + E.2.2 else h 9 t)
def okE (E : Nat × Nat × Nat) (h : Hl) : Prop := (E.1 = 2 ∧ E.2.1 < h 10 0 ∧ E.2.2 ≤ 30) ∨ (E.1 = 3 ∧ E.2.1 < h 11 0 ∧ (h 13 0).testBit E.2.1 = true) ∨ ((E.1 = 0 ∨ E.1 = 1) ∧ E.2.1 < 16 ∧ E.2.2 ≤ 9)
def rRows (a : St) (m2 m3 m4 : Nat → Int32) : Prop := ∀ k, k < 8 → a 0 k = m2 k ∧ a 1 k = m3 k ∧ (m2 k = -1 ∨ m2 k = 0 ∨ m2 k = 1 ∨ m2 k = 2) ∧ ∃ n : Nat, n ≤ 40 ∧ m3 k = nI n ∧ ∀ i, i < n → a 2 (40 * k + i) = m4 (40 * k + i)
def sB (b : Nat) : Int32 := (nI b).toInt8.toInt32
def rTape (a : St) (m10 : Nat → Int32) (m11 : Int32) : Prop := ∃ (u : Nat) (b : Nat → Nat), u ≤ 400 ∧ a 1 0 = nI u ∧ m11 = nI u ∧ (∀ i, b i < 256) ∧ ∀ i, i < u → m10 i = nI (b i) ∧ a 0 i = sB (b i)
def rActs (a : St) (h : Hl) (m8 : Nat → Int32) (m9 : Int32) : Prop := ∃ (n nx : Nat) (hs : Nat → Hl) (rs : Nat → Nat → Nat) (E : Nat → Nat × Nat × Nat), n ≤ 24 ∧ nx < 24 ∧ a 3 0 = nI nx ∧ a 4 0 = nI n ∧ m9 = nI n ∧ hs n = h ∧ (∀ k, k ≤ n → ∀ j, hs k 13 j = hs k 13 0) ∧ ∀ k, k < n → HV (hs k) ∧ RR (hs k) (rs k) ∧ (∀ i, i < 59 → m8 (59 * k + i) = nI (rs k i)) ∧ uAct (E k) (hs (k + 1)) = hs k ∧ okE (E k) (hs (k + 1)) ∧ a 0 ((nx + 24 - n + k) % 24) = nI (E k).1 ∧ a 1 ((nx + 24 - n + k) % 24) = nI (E k).2.1 ∧ a 2 ((nx + 24 - n + k) % 24) = nI (E k).2.2
def rImg (h6 h7 : Hl) (x11 : Int32) (m23 m24 : Nat → Int32) : Prop := ∃ i6 i7 : Bool, x11 = nI ((if i6 = true then 1 else 0) + (if i7 = true then 2 else 0)) ∧ m23 0 = nI (if i6 = true then 1 else 0) ∧ m23 1 = nI (if i7 = true then 1 else 0) ∧ (i6 = true → HV h6 ∧ ∃ r, RR h6 r ∧ ∀ i, i < 59 → m24 i = nI (r i)) ∧ (i7 = true → HV h7 ∧ ∃ r, RR h7 r ∧ ∀ i, i < 59 → m24 (59 + i) = nI (r i))
def rTr (b : St) (m25 : Nat → Int32) (m26 : Int32) : Prop := ∃ n : Nat, n ≤ 16 ∧ b 1 0 = nI n ∧ m26 = nI n ∧ ∀ i, i < n → b 0 i = m25 i
def rX (x : St) (m7 m12 m1 : Int32) : Prop := x 10 0 = m7 ∧ (m7 = 0 ∨ m7 = 1) ∧ x 12 0 = m12 ∧ x 13 0 = m1
def RelC (ro ta ac bo i6 i7 st sp x m : St) : Prop := ∃ h h6 h7 h9 : Hl, st = cst h ∧ i6 = cst h6 ∧ i7 = cst h7 ∧ sp = cst h9 ∧ (HV h ∧ ∃ r, RR h r ∧ HM m r) ∧ rRows ro (m 2) (m 3) (m 4) ∧ rTape ta (m 10) (m 11 0) ∧ rActs ac h (m 8) (m 9 0) ∧ rImg h6 h7 (x 11 0) (m 23) (m 24) ∧ rTr bo (m 25) (m 26 0) ∧ rX x (m 7 0) (m 12 0) (m 1 0)
theorem Rel0 {ro ta ac bo i6 i7 st sp x m : St} (R : RelC ro ta ac bo i6 i7 st sp x m) : RelC ro ta ac bo i6 i7 st sp x (u1 m 0 0) := R
section OPS
variable {ro ta ac bo i6 i7 st sp x m : St}
theorem fault_sim (R : RelC ro ta ac bo i6 i7 st sp x m) : ∃ (v : Int32) (m' : St), fX7_fault x = some v ∧ fX8_fault m = some (v, m') ∧ RelC ro ta ac bo i6 i7 st sp x m' := by
  have R0 := Rel0 R
  obtain ⟨h, h6, h7, h9, e1, e2, e3, e4, hh, hrow, htape, hacts, himg, htr, hx⟩ := R
  exact ⟨m 12 0, u1 m 0 0, by unfold fX7_fault; rw [hx.2.2.1], rfl, R0⟩
theorem status_sim (R : RelC ro ta ac bo i6 i7 st sp x m) : ∃ (v : Int32) (m' : St), fX7_status x = some v ∧ fX8_status m = some (v, m') ∧ RelC ro ta ac bo i6 i7 st sp x m' := by
  have R0 := Rel0 R
  obtain ⟨h, h6, h7, h9, e1, e2, e3, e4, hh, hrow, htape, hacts, himg, htr, hx⟩ := R
  exact ⟨m 1 0, u1 m 0 0, by unfold fX7_status; rw [hx.2.2.2], rfl, R0⟩
theorem trace_sim (R : RelC ro ta ac bo i6 i7 st sp x m) (p : Int32) : ∃ (v : Int32) (m' : St), fX7_trace bo p = some v ∧ fX8_trace m p = some (v, m') ∧ RelC ro ta ac bo i6 i7 st sp x m' := by
  have R0 := Rel0 R
  obtain ⟨h, h6, h7, h9, e1, e2, e3, e4, hh, hrow, htape, hacts, himg, htr, hx⟩ := R
  obtain ⟨n, hn, b1, b2, b3⟩ := htr
  have hm : fX8_trace m p = if inN p n = true then (if inb p 16 then some (m 25 p.toNatClampNeg, u1 m 0 0) else none) else some (-1000000, u1 m 0 0) := by
    unfold fX8_trace
    rw [q_lts]
    rw [show (u1 m 0 0) 26 0 = m 26 0 from rfl, b2, inp_ok p 0 _ 0 _ rfl (nI_m1 (show n < 2 ^ 31 by omega)), q_b1s]
    by_cases c : inN p n = true
    · rw [if_pos c, if_neg (show ¬ (1 : Int32) = 0 by decide)]; rw [if_pos c]; rfl
    · rw [if_neg c, if_pos rfl]; rw [if_neg c]
  by_cases c : inN p n = true
  · obtain ⟨j, hj, rfl⟩ := inN_nI (by omega) c
    refine ⟨m 25 j, u1 m 0 0, ?_, ?_, R0⟩
    · unfold fX7_trace fX1_traced
      simp only [b1, z_0, z_1, z_2, z_3, z_4, z_5, z_6, z_7, z_8, z_9, z_10, z_11, z_12, z_13, z_14, z_15, z_16, z_20, z_21, z_22, z_23, z_24, z_30, z_31, z_32, z_35, z_40, z_47, z_48, z_57, z_59, z_97, z_100, z_122, z_400, z_1000, iLt (show j < 2 ^ 31 by omega) (show 0 < 2 ^ 31 by decide), iLe (show n < 2 ^ 31 by omega) (show j < 2 ^ 31 by omega), iLe (show 16 < 2 ^ 31 by decide) (show j < 2 ^ 31 by omega), Nat.not_lt_zero, if_false, show ¬ n ≤ j by omega, show ¬ 16 ≤ j by omega, iIn (show j < 2 ^ 31 by omega), iCl (show j < 2 ^ 31 by omega), show j < 16 by omega, if_true, q_b1s, b3 j hj]
    · rw [hm, if_pos c]
      simp only [iIn (show j < 2 ^ 31 by omega), iCl (show j < 2 ^ 31 by omega), show j < 16 by omega, if_true]
  · refine ⟨-1000000, u1 m 0 0, ?_, by rw [hm, if_neg c], R0⟩
    unfold fX7_trace fX1_traced
    rw [b1]
    have : p.toInt < 0 ∨ (n : Int) ≤ p.toInt := by
      rcases Int.lt_or_le p.toInt 0 with q | q
      · exact Or.inl q
      · exact Or.inr (by rcases Int.lt_or_le p.toInt n with w | w
                         · exact absurd (by rw [inR_i]; exact ⟨q, by omega⟩) c
                         · exact w)
    simp only [Int32.lt_iff_toInt_lt, Int32.le_iff_toInt_le, nI_toInt (show n < 2 ^ 31 by omega)]
    rcases this with q | q
    · rw [if_pos (by exact q), q_b1s]
    · by_cases q0 : p.toInt < (0 : Int32).toInt
      · rw [if_pos q0, q_b1s]
      · rw [if_neg q0, if_pos q, q_b1s]
end OPS
