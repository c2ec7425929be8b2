/-! tree, kind, as, fell, picks -/
theorem u2_ne {s : St} {j k : Nat} {f : Nat → Int32} (h : k ≠ j) : u2 s j f k = s k := by
  have : Nat.beq k j = false := by
    cases e : Nat.beq k j with
    | false => rfl
    | true => exact absurd (Nat.eq_of_beq_eq_true e) h
  show cond (Nat.beq k j) f (s k) = s k
  rw [this]
  rfl
theorem u1_ne {s : St} {j k : Nat} {v : Int32} (h : k ≠ j) : u1 s j v k = s k := u2_ne h
theorem uA_ne {s : St} {j k : Nat} {i v : Int32} (h : k ≠ j) : uA s j i v k = s k := u2_ne h
theorem u2_eq {s : St} {j : Nat} {f : Nat → Int32} : u2 s j f j = f := by
  show cond (Nat.beq j j) f (s j) = f
  rw [Nat.beq_refl]
  rfl
section OPS
variable {ro ta ac bo i6 i7 st sp x m : St}
theorem RelF (R : RelC ro ta ac bo i6 i7 st sp x m) (v : Int32) {m' : St} (hm : ∀ k, k ≠ 0 → k ≠ 1 → m' k = m k) (h1 : m' 1 0 = v) : RelC ro ta ac bo i6 i7 st sp (u1 x 13 v) m' := by
  obtain ⟨h, h6, h7, h9, e1, e2, e3, e4, ⟨hv, r, hR, hM⟩, hrow, htape, hacts, himg, htr, hx⟩ := R
  refine ⟨h, h6, h7, h9, e1, e2, e3, e4, ⟨hv, r, hR, ?_⟩, ?_, ?_, ?_, ?_, ?_, ?_⟩
  · intro i; rw [hm 5 (by decide) (by decide)]; exact hM i
  · rw [hm 2 (by decide) (by decide), hm 3 (by decide) (by decide), hm 4 (by decide) (by decide)]; exact hrow
  · rw [hm 10 (by decide) (by decide), hm 11 (by decide) (by decide)]; exact htape
  · rw [hm 8 (by decide) (by decide), hm 9 (by decide) (by decide)]; exact hacts
  · rw [hm 23 (by decide) (by decide), hm 24 (by decide) (by decide), u1_ne (show (11 : Nat) ≠ 13 by decide)]; exact himg
  · rw [hm 25 (by decide) (by decide), hm 26 (by decide) (by decide)]; exact htr
  · obtain ⟨x1, x2, x3, x4⟩ := hx
    refine ⟨?_, ?_, ?_, ?_⟩
    · rw [hm 7 (by decide) (by decide), u1_ne (show (10 : Nat) ≠ 13 by decide)]; exact x1
    · rw [hm 7 (by decide) (by decide)]; exact x2
    · rw [hm 12 (by decide) (by decide), u1_ne (show (12 : Nat) ≠ 13 by decide)]; exact x3
    · rw [h1]; rfl
theorem tree_sim (R : RelC ro ta ac bo i6 i7 st sp x m) (p q : Int32) : ∃ (v : Int64) (m' : St), fX7_tree st p q = some v ∧ fX8_tree m p q = some (v, m') ∧ RelC ro ta ac bo i6 i7 st sp x m' := by
  have R0 := Rel0 R
  obtain ⟨h, h6, h7, h9, rfl, rfl, rfl, rfl, ⟨hv, r, hR, hM⟩, hrow, htape, hacts, himg, htr, hx⟩ := R
  have hM0 : HM (u1 m 0 0) r := hM
  unfold fX7_tree fX8_tree
  rw [q_lts]
  simp only [c_isTree h hv, m_isTree hv hR hM0, inp_ok q 0 3 0 3 rfl rfl, q_b1s, b01]
  by_cases c1 : inN p (h 12 0) = true
  · have h0 := hv.2.2.1
    have hg0 := hv.1
    obtain ⟨t, ht, rfl⟩ := inN_nI (by omega) c1
    have e4 : fX8_tree_L34 (nI t) (u1 m 0 0) 5000 0 0 = some (nI (gravesOf h t)) := m_treeL2 hv hR hM0 (by omega) (h 10 0) 5000 0 (by omega) (by omega)
    by_cases c2 : inR q 0 3 = true
    · obtain ⟨w, hw, rfl⟩ := eq_of_in (b := 3) (by decide) c2
      have e1 := m_placeOf hv hR hM0 ht
      have e2 := m_fruit hv hR hM0 ht
      have e3 := m_loose hv hR hM0 ht
      have e5 := loose_ok h hv ht
      have e6 := gravesOf_ok h hv (t := t) (by omega)
      have i1 : inb (nI t) 4 = True := by rw [iIn (show t < 2 ^ 31 by omega)]; exact eq_true (by omega)
      have k1 : ¬ ¬ inN (nI t) (h 12 0) = true := fun n => n c1
      have k2 : ¬ ¬ inR (nI w) 0 3 = true := fun n => n c2
      rw [if_neg k1, if_neg k1, if_neg k2, e4, q_b1s]
      clear k1 k2 c1 c2
      have hw2 : w = 0 ∨ w = 1 ∨ w = 2 ∨ w = 3 := by omega
      rcases hw2 with e | e | e | e <;> subst e <;> simp only [t_0_0, t_0_1, t_0_2, t_0_3, t_0_4, t_0_5, t_0_6, t_1_0, t_1_1, t_1_2, t_1_3, t_1_4, t_1_5, t_1_6, t_2_0, t_2_1, t_2_2, t_2_3, t_2_4, t_2_5, t_2_6, t_3_0, t_3_1, t_3_2, t_3_3, t_3_4, t_3_5, t_3_6, t_4_0, t_4_1, t_4_2, t_4_3, t_4_4, t_4_5, t_4_6, t_5_0, t_5_1, t_5_2, t_5_3, t_5_4, t_5_5, t_5_6, t_6_0, t_6_1, t_6_2, t_6_3, t_6_4, t_6_5, t_6_6, t4_0, t4_1, t4_2, t4_3, t4_4, t4_5, t4_6, if_true, if_false, i1, iCl (show t < 2 ^ 31 by omega), cst_at]
      · rw [e1]; exact ⟨_, _, rfl, rfl, R0⟩
      · rw [e2]; exact ⟨_, _, rfl, rfl, R0⟩
      · rw [e5, e3]; exact ⟨_, _, rfl, rfl, R0⟩
      · rw [e6]; exact ⟨_, _, rfl, rfl, R0⟩
    · have n := fun {j} (hj : j ≤ 3) => ne_of_nin (b := 3) (by decide) c2 hj
      have n0 : ¬ q = 0 := n (j := 0) (by decide)
      have n1 : ¬ q = 1 := n (j := 1) (by decide)
      have n2 : ¬ q = 2 := n (j := 2) (by decide)
      have n3 : ¬ q = 3 := n (j := 3) (by decide)
      exact ⟨_, _, by rw [if_neg (fun n => n c1), if_neg n0, if_neg n1, if_neg n2, if_neg n3], by rw [if_neg (fun n => n c1), if_pos c2], R0⟩
  · exact ⟨_, _, by rw [if_pos c1], by rw [if_pos c1], R0⟩
theorem kind_sim (R : RelC ro ta ac bo i6 i7 st sp x m) (p : Int32) : ∃ (v : Int64) (m' : St), fX7_kind st p = some v ∧ fX8_kind m p = some (v, m') ∧ RelC ro ta ac bo i6 i7 st sp x m' := by
  have R0 := Rel0 R
  obtain ⟨h, h6, h7, h9, rfl, rfl, rfl, rfl, ⟨hv, r, hR, hM⟩, hrow, htape, hacts, himg, htr, hx⟩ := R
  have hM0 : HM (u1 m 0 0) r := hM
  unfold fX7_kind fX8_kind
  rw [q_lts]
  simp only [c_isTree h hv, m_isTree hv hR hM0, q_b1s, b01]
  by_cases c1 : inN p (h 12 0) = true
  · have h0 := hv.2.2.1
    obtain ⟨t, ht, rfl⟩ := inN_nI (by omega) c1
    have e1 := m_kindOf hv hR hM0 ht
    have i1 : inb (nI t) 4 := by rw [iIn (show t < 2 ^ 31 by omega)]; omega
    have k1 : ¬ ¬ inN (nI t) (h 12 0) = true := fun n => n c1
    rw [if_neg k1, if_neg k1, if_pos i1, iCl (show t < 2 ^ 31 by omega), cst_at, e1, q_b1s]
    exact ⟨_, _, rfl, rfl, R0⟩
  · exact ⟨_, _, by rw [if_pos c1], by rw [if_pos c1], R0⟩
theorem such_ok {k q : Nat} (hk1 : 1 ≤ k) (hk : k ≤ 5) (hq : q ≤ 5) : (fX7_isSuch (nI k) (nI q) = some 0 ∧ fX8_isOf (nI k) (nI q) = some 0) ∨ (fX7_isSuch (nI k) (nI q) = some 1 ∧ fX8_isOf (nI k) (nI q) = some 1) := by
  have key : ∀ k : Fin 6, ∀ q : Fin 6, 1 ≤ k.val → (fX7_isSuch (nI k.val) (nI q.val) = some 0 ∧ fX8_isOf (nI k.val) (nI q.val) = some 0) ∨ (fX7_isSuch (nI k.val) (nI q.val) = some 1 ∧ fX8_isOf (nI k.val) (nI q.val) = some 1) := by decide +kernel
  exact key ⟨k, by omega⟩ ⟨q, by omega⟩ hk1
theorem as_sim (R : RelC ro ta ac bo i6 i7 st sp x m) (p q : Int32) : ∃ (v : Int64) (x' m' : St), fX7_as x st p q = some (v, x') ∧ fX8_as m p q = some (v, m') ∧ RelC ro ta ac bo i6 i7 st sp x' m' := by
  have R0 := Rel0 R
  obtain ⟨h, h6, h7, h9, rfl, rfl, rfl, rfl, ⟨hv, r, hR, hM⟩, hrow, htape, hacts, himg, htr, hx⟩ := id R
  have hM0 : HM (u1 m 0 0) r := hM
  have hM1 : HM (u1 (u1 m 0 0) 1 0) r := hM
  unfold fX7_as fX8_as
  rw [q_lts, ck_in]
  simp only [c_isTree h hv, m_isTree hv hR hM0, inp_ok q 0 5 0 5 rfl rfl, q_b1s, b01]
  rw [show (0 : Int32).toInt = 0 from rfl, show (5 : Int32).toInt = 5 from rfl]
  by_cases c1 : inN p (h 12 0) = true
  · have h0 := hv.2.2.1
    obtain ⟨t, ht, rfl⟩ := inN_nI (by omega) c1
    by_cases c2 : inR q 0 5 = true
    · obtain ⟨w, hw, rfl⟩ := eq_of_in (b := 5) (by decide) c2
      have h7 := hv.2.2.2.2.2.2.1 t ht
      have e1 := m_kindOf hv hR hM1 ht
      have i1 : inb (nI t) 4 := by rw [iIn (show t < 2 ^ 31 by omega)]; omega
      have k1 : ¬ ¬ inN (nI t) (h 12 0) = true := fun n => n c1
      have k2 : ¬ ¬ inR (nI w) 0 5 = true := fun n => n c2
      rw [if_neg k1, if_neg k1, if_pos c2, if_neg k2, if_pos i1, iCl (show t < 2 ^ 31 by omega), cst_at, q_lts, e1, q_b1s]
      rcases such_ok h7.1 h7.2.1 hw with ⟨a, b⟩ | ⟨a, b⟩
      · rw [a, b, q_b1s, q_b1s, if_pos rfl, if_pos rfl]
        exact ⟨_, u1 x 13 3, u1 (u1 (u1 m 0 0) 1 0) 1 3, rfl, rfl, RelF R 3 (fun k a b => by rw [u1_ne b, u1_ne b, u1_ne a]) rfl⟩
      · rw [a, b, q_b1s, q_b1s, if_neg (show ¬ (1 : Int32) = 0 by decide), if_neg (show ¬ (1 : Int32) = 0 by decide)]
        exact ⟨_, u1 x 13 0, u1 (u1 m 0 0) 1 0, rfl, rfl, RelF R 0 (fun k a b => by rw [u1_ne b, u1_ne a]) rfl⟩
    · exact ⟨_, _, _, by rw [if_neg (fun n => n c1), if_neg c2], by rw [if_neg (fun n => n c1), if_pos c2], R0⟩
  · exact ⟨_, _, _, by rw [if_pos c1], by rw [if_pos c1], R0⟩
end OPS
/-! fell -/
theorem withL (h : Hl) (v : HV h) {a : Nat} (ha : a < 32) : ∀ d n g, g + d = h 10 0 → d < n → fX3_withTemper_L4 (nI a) (cst h) n (nI (bs (fun g => a.testBit g && decide (0 < h 3 g)) g)) (nI g) = some (nI (bs (fun g => a.testBit g && decide (0 < h 3 g)) (h 10 0))) := by
  have h0 := v.1
  intro d
  induction d with
  | zero =>
    intro n g e hn
    cases n with
    | zero => omega
    | succ n =>
      have e : g = h 10 0 := by omega
      subst e
      rw [fX3_withTemper_L4]
      simp only [cst_at, iLe (show h 10 0 < 2 ^ 31 by omega) (show h 10 0 < 2 ^ 31 by omega), Nat.le_refl, if_true]
  | succ d ih =>
    intro n g e hn
    cases n with
    | zero => omega
    | succ n =>
      have hg : g < h 10 0 := by omega
      have h4 := v.2.2.2.2.1 g hg
      have IH := ih n (g + 1) (by omega) (by omega)
      rw [fX3_withTemper_L4]
      simp only [cst_at, z_0, z_1, z_2, z_3, z_4, z_5, z_6, z_7, z_8, z_9, z_10, z_11, z_12, z_13, z_14, z_15, z_16, z_20, z_21, z_22, z_23, z_24, z_30, z_31, z_32, z_35, z_40, z_47, z_48, z_57, z_59, z_97, z_100, z_122, z_400, z_1000, iLe (show h 10 0 < 2 ^ 31 by omega) (show g < 2 ^ 31 by omega), show ¬ h 10 0 ≤ g by omega, if_false, has_ok (show a < 2 ^ 31 by omega) (show g < 31 by omega), q_b1s, iB0, iIn (show g < 2 ^ 31 by omega), iCl (show g < 2 ^ 31 by omega), show g < 5 by omega, if_true, iLe (show h 3 g < 2 ^ 31 by omega) (show 0 < 2 ^ 31 by decide), iShl (show g < 31 by omega), iOr, q_lts, iAdd]
      rw [show bs (fun g => a.testBit g && decide (0 < h 3 g)) (g + 1) = if (a.testBit g && decide (0 < h 3 g)) = true then bs (fun g => a.testBit g && decide (0 < h 3 g)) g ||| 2 ^ g else bs (fun g => a.testBit g && decide (0 < h 3 g)) g from rfl] at IH
      by_cases c1 : a.testBit g = true
      · by_cases c2 : h 3 g ≤ 0
        · rw [if_neg (by simp; omega)] at IH
          simpa [c1, c2, q_b1s] using IH
        · rw [if_pos (by simp [c1]; omega)] at IH
          simpa [c1, c2, q_b1s] using IH
      · rw [if_neg (by simp [c1])] at IH
        simpa [c1, q_b1s] using IH
/-- a grave that minds and has the tree for its own -/
def susB (h : Hl) (m thr t g : Nat) : Bool := mindB h m thr 0 g && decide (itsT h g 0 = some t)
theorem sus_bit (h : Hl) (m thr t g : Nat) (hg : g < h 10 0) : (gravesOf h t &&& minding h m thr 0).testBit g = susB h m thr t g := by
  unfold gravesOf minding susB
  rw [Nat.testBit_and, bs_bit, bs_bit]
  simp [hg, Bool.and_comm]
def whoN (h : Hl) (m thr t : Nat) : Nat := bs (fun g => susB h m thr t g && decide (0 < h 3 g)) (h 10 0)
theorem with_ok (h : Hl) (v : HV h) (m thr t : Nat) : fX3_withTemper (cst h) (nI (gravesOf h t &&& minding h m thr 0)) = some (nI (whoN h m thr t)) := by
  have h1 := v.1
  have ha : gravesOf h t &&& minding h m thr 0 < 32 := Nat.lt_of_le_of_lt Nat.and_le_left (gravesOf_lt h v t)
  unfold fX3_withTemper
  have e : fX3_withTemper_L4 (nI (gravesOf h t &&& minding h m thr 0)) (cst h) 5000 0 0 = some (nI (bs (fun g => (gravesOf h t &&& minding h m thr 0).testBit g && decide (0 < h 3 g)) (h 10 0))) := withL h v ha (h 10 0) 5000 0 (by omega) (by omega)
  rw [e]
  have e2 : bs (fun g => (gravesOf h t &&& minding h m thr 0).testBit g && decide (0 < h 3 g)) (h 10 0) = whoN h m thr t := bs_congr (fun j hj => by rw [sus_bit h m thr t j hj])
  rw [e2]
  rfl
/-- the odds of an objection: up and low -/
def objU (h : Hl) (m thr hr t : Nat) : Nat := 10 * 10 ^ CN (susB h m thr t) (h 10 0) - 10 * PN (susB h m thr t) (h 3) (h 10 0)
def objL (h : Hl) (m thr hr t : Nat) : Nat := 10 * 10 ^ CN (susB h m thr t) (h 10 0) - PN (susB h m thr t) (h 3) (h 10 0) * (10 - blow h t hr)
