/-! count -/
def cntN (g : Nat) : Nat → Nat
  | 0 => 0
  | k + 1 => cntN g k + g / 2 ^ k % 2
theorem cnt_pop {g k : Nat} (hk : k ≤ 4) (hg : g < 2 ^ k) : cntN g k = popN g := by
  have key : ∀ k : Fin 5, ∀ g : Fin 16, g.val < 2 ^ k.val → cntN g.val k.val = popN g.val := by decide +kernel
  have := pw4 hk
  exact key ⟨k, by omega⟩ ⟨g, by omega⟩ hg
theorem cnt_le (g : Nat) : ∀ k, cntN g k ≤ k
  | 0 => Nat.le_refl 0
  | k + 1 => by
    have := cnt_le g k
    show cntN g k + g / 2 ^ k % 2 ≤ k + 1
    omega
def sumF (f : Nat → Nat) : Nat → Nat
  | 0 => 0
  | k + 1 => sumF f k + f k
section M86
variable {h : Hl} {r : Nat → Nat} {s : St}
theorem presL {ro : St} {m2 m3 m4 : Nat → Int32} (hr : rRows ro m2 m3 m4) (hs : s 2 = m2) : ∀ d n i (a : Int32), i + d = 8 → d < n → ∃ w : Int32, fX5_present_L4 ro n a (nI i) = some w ∧ fX8_count_L54 s n a (nI i) = some w := by
  intro d
  induction d with
  | zero =>
    intro n i a e hn
    cases n with
    | zero => omega
    | succ n =>
      have e : i = 8 := by omega
      subst e
      refine ⟨a, ?_, ?_⟩
      · rw [fX5_present_L4, if_pos (by decide)]
      · rw [fX8_count_L54, if_pos (by decide)]
  | succ d ih =>
    intro n i a e hn
    cases n with
    | zero => omega
    | succ n =>
      have hi : i < 8 := by omega
      obtain ⟨r1, r2, r3, _⟩ := hr i hi
      have nle : ¬ (8 : Int32) ≤ nI i := by rw [show (8 : Int32) = nI 8 from rfl, iLe (by decide) (by omega)]; omega
      by_cases c : m2 i = -1
      · obtain ⟨w, f1, f2⟩ := ih n (i + 1) a (by omega) (by omega)
        refine ⟨w, ?_, ?_⟩
        · rw [fX5_present_L4, if_neg nle, if_pos (inb8 hi), iCl (by omega), if_pos (by rw [r1]; exact c), q_b1s, nI_1]
          exact f1
        · rw [fX8_count_L54, if_neg nle, if_pos (inb8 hi), iCl (by omega), if_pos (by rw [hs, lane_lt r3]; exact c), q_b1s, nI_1, Int32.add_zero]
          exact f2
      · obtain ⟨w, f1, f2⟩ := ih n (i + 1) (a + 1) (by omega) (by omega)
        refine ⟨w, ?_, ?_⟩
        · rw [fX5_present_L4, if_neg nle, if_pos (inb8 hi), iCl (by omega), if_neg (by rw [r1]; exact c), q_b1s, nI_1]
          exact f1
        · rw [fX8_count_L54, if_neg nle, if_pos (inb8 hi), iCl (by omega), if_neg (by rw [hs, lane_lt r3]; exact c), q_b1s, nI_1]
          exact f2
theorem crackL (v : HV h) (R : RR h r) (M : HM s r) : ∀ d n k, k + d = h 11 0 → d < n → fX8_count_L96 s n (nI (k - cntN (h 13 0) k)) (nI k) = some (nI (h 11 0 - cntN (h 13 0) (h 11 0))) := by
  have h1 := v.2.1
  have r1 : s 5 1 = nI (h 11 0) := by rw [M, R.2.1]
  have ib : inb (1 : Int32) 59 := by decide
  intro d
  induction d with
  | zero =>
    intro n k e hn
    cases n with
    | zero => omega
    | succ n =>
      have e : k = h 11 0 := by omega
      subst e
      rw [fX8_count_L96, if_pos ib, if_pos (by show s 5 1 ≤ _; rw [r1, iLe (by omega) (by omega)]; exact Nat.le_refl _)]
  | succ d ih =>
    intro n k e hn
    cases n with
    | zero => omega
    | succ n =>
      have hk : k < h 11 0 := by omega
      have IH := ih n (k + 1) (by omega) (by omega)
      have hc := (R.2.2.2.2.2.1 k hk).2.2
      have cl := cnt_le (h 13 0) k
      have e1 : (if (h 13 0).testBit k = true then 1 else 0) = h 13 0 / 2 ^ k % 2 := by
        rw [Nat.testBit_eq_decide_div_mod_eq]
        by_cases q : h 13 0 / 2 ^ k % 2 = 1
        · simp [q]
        · have : h 13 0 / 2 ^ k % 2 = 0 := by omega
          simp [this]
      rw [e1] at hc
      rw [fX8_count_L96, if_pos ib, if_neg (by show ¬ s 5 1 ≤ _; rw [r1, iLe (by omega) (by omega)]; omega), show (35 : Int32) = nI 35 from rfl, show (3 : Int32) = nI 3 from rfl, show (2 : Int32) = nI 2 from rfl, iMul, iAdd, iAdd, if_pos (by rw [iIn (by omega)]; omega), iCl (by omega), M, hc, q_lts, show (1 : Int32) = nI 1 from rfl, iSub (by omega), iAdd, iAdd]
      have e2 : k - cntN (h 13 0) k + (1 - h 13 0 / 2 ^ k % 2) = k + 1 - cntN (h 13 0) (k + 1) := by
        show _ = k + 1 - (cntN (h 13 0) k + h 13 0 / 2 ^ k % 2)
        omega
      rw [e2]
      exact IH
theorem fruitC (v : HV h) : ∀ d n t, t + d = h 12 0 → d < n → fX3_fruitInAll_L4 (cst h) n (nI (sumF (h 9) t)) (nI t) = some (nI (sumF (h 9) (h 12 0))) := by
  have h1 := v.2.2.1
  intro d
  induction d with
  | zero =>
    intro n t e hn
    cases n with
    | zero => omega
    | succ n =>
      have e : t = h 12 0 := by omega
      subst e
      rw [fX3_fruitInAll_L4, if_pos (by rw [cst_at, iLe (by omega) (by omega)]; exact Nat.le_refl _)]
  | succ d ih =>
    intro n t e hn
    cases n with
    | zero => omega
    | succ n =>
      have ht : t < h 12 0 := by omega
      rw [fX3_fruitInAll_L4, if_neg (by rw [cst_at, iLe (by omega) (by omega)]; omega), if_pos (by rw [iIn (by omega)]; omega), iCl (by omega), cst_at, q_lts, iAdd, nI_1]
      exact ih n (t + 1) (by omega) (by omega)
theorem fruitM (v : HV h) (R : RR h r) (M : HM s r) : ∀ d n t, t + d = h 12 0 → d < n → fX8_count_L149 s n (nI (sumF (h 9) t)) (nI t) = some (nI (sumF (h 9) (h 12 0))) := by
  have h1 := v.2.2.1
  have r2 : s 5 2 = nI (h 12 0) := by rw [M, R.2.2.1]
  have ib : inb (2 : Int32) 59 := by decide
  intro d
  induction d with
  | zero =>
    intro n t e hn
    cases n with
    | zero => omega
    | succ n =>
      have e : t = h 12 0 := by omega
      subst e
      rw [fX8_count_L149, if_pos ib, if_pos (by show s 5 2 ≤ _; rw [r2, iLe (by omega) (by omega)]; exact Nat.le_refl _)]
  | succ d ih =>
    intro n t e hn
    cases n with
    | zero => omega
    | succ n =>
      have ht : t < h 12 0 := by omega
      rw [fX8_count_L149, if_pos ib, if_neg (by show ¬ s 5 2 ≤ _; rw [r2, iLe (by omega) (by omega)]; omega), m_fruit v R M ht, q_b1s, iAdd, nI_1]
      exact ih n (t + 1) (by omega) (by omega)
end M86
section OPS
variable {ro ta ac bo i6 i7 st sp x m : St}
theorem count_sim (R : RelC ro ta ac bo i6 i7 st sp x m) (p : Int32) : ∃ (v : Int64) (m' : St), fX7_count ro st ac ta p = some v ∧ fX8_count m p = some (v, m') ∧ RelC ro ta ac bo i6 i7 st sp x m' := by
  have R0 := Rel0 R
  obtain ⟨h, h6, h7, h9, rfl, rfl, rfl, rfl, ⟨hv, r, hR, hM⟩, hrow, htape, hacts, himg, htr, hx⟩ := R
  have hM0 : HM (u1 m 0 0) r := hM
  have h10 := hv.1
  have h11 := hv.2.1
  have h12 := hv.2.2.1
  have h13 := hv.cr
  unfold fX7_count fX8_count
  rw [q_lts]
  by_cases c0 : p = 0
  · rw [if_pos c0, if_pos c0]
    obtain ⟨w, e1, e2⟩ := presL (s := u1 m 0 0) hrow rfl 8 5000 0 0 (by decide) (by decide)
    have e1 : fX5_present_L4 ro 5000 0 0 = some w := e1
    have e2 : fX8_count_L54 (u1 m 0 0) 5000 0 0 = some w := e2
    unfold fX5_present
    rw [e1, e2, q_b1s, q_b1s, q_b1s]
    exact ⟨_, _, rfl, rfl, R0⟩
  rw [if_neg c0, if_neg c0]
  by_cases c1 : p = 1
  · rw [if_pos c1, if_pos c1, if_pos (by decide)]
    have : (u1 m 0 0) 5 (0 : Int32).toNatClampNeg = cst h 10 0 := by show m 5 0 = _; rw [hM, hR.1]; rfl
    rw [this]
    exact ⟨_, _, rfl, rfl, R0⟩
  rw [if_neg c1, if_neg c1]
  by_cases c2 : p = 2
  · rw [if_pos c2, if_pos c2, cst_at, cst_at, bitC_ok h13, q_b1s]
    have e := crackL hv hR hM0 (h 11 0) 5000 0 (by omega) (by omega)
    have e : fX8_count_L96 (u1 m 0 0) 5000 0 0 = _ := e
    have cl := cnt_le (h 13 0) (h 11 0)
    rw [e, q_b1s, cnt_pop h11 hv.2.2.2.2.2.2.2]
    rw [cnt_pop h11 hv.2.2.2.2.2.2.2] at cl
    rw [iSub cl]
    exact ⟨_, _, rfl, rfl, R0⟩
  rw [if_neg c2, if_neg c2]
  by_cases c3 : p = 3
  · rw [if_pos c3, if_pos c3, if_pos (by decide)]
    have : (u1 m 0 0) 5 (2 : Int32).toNatClampNeg = cst h 12 0 := by show m 5 2 = _; rw [hM, hR.2.2.1]; rfl
    rw [this]
    exact ⟨_, _, rfl, rfl, R0⟩
  rw [if_neg c3, if_neg c3]
  by_cases c4 : p = 4
  · rw [if_pos c4, if_pos c4]
    obtain ⟨n, nx, hs, rs, E, a1, a2, a3, a4, a5, _⟩ := hacts
    unfold fX0_kept
    rw [q_b1s, a4, show (u1 m 0 0) 9 0 = m 9 0 from rfl, a5]
    exact ⟨_, _, rfl, rfl, R0⟩
  rw [if_neg c4, if_neg c4]
  by_cases c5 : p = 5
  · rw [if_pos c5, if_pos c5]
    have e1 := fruitC hv (h 12 0) 5000 0 (by omega) (by omega)
    have e1 : fX3_fruitInAll_L4 (cst h) 5000 0 0 = _ := e1
    have e2 := fruitM hv hR hM0 (h 12 0) 5000 0 (by omega) (by omega)
    have e2 : fX8_count_L149 (u1 m 0 0) 5000 0 0 = _ := e2
    unfold fX3_fruitInAll
    rw [e1, e2, q_b1s, q_b1s, q_b1s]
    exact ⟨_, _, rfl, rfl, R0⟩
  rw [if_neg c5, if_neg c5]
  by_cases c6 : p = 6
  · rw [if_pos c6, if_pos c6]
    obtain ⟨u, b, a1, a2, a3, _⟩ := htape
    unfold fX6_length
    rw [q_b1s, a2, show (u1 m 0 0) 11 0 = m 11 0 from rfl, a3]
    exact ⟨_, _, rfl, rfl, R0⟩
  rw [if_neg c6, if_neg c6]
  exact ⟨_, _, rfl, rfl, R0⟩
end OPS
