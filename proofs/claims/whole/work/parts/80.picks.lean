/-! picks -/
def popN (g : Nat) : Nat := g % 2 + g / 2 % 2 + g / 4 % 2 + g / 8 % 2
theorem popN_le (g : Nat) : popN g ≤ 4 := by unfold popN; omega
theorem bitC_ok {g : Nat} (hg : g < 16) : fJ6_bitCount_0f7a4 (nI g) = some (nI (popN g)) := by
  have key : ∀ g : Fin 16, fJ6_bitCount_0f7a4 (nI g.val) = some (nI (popN g.val)) := by decide +kernel
  exact key ⟨g, hg⟩
theorem bits_ok {g : Nat} (hg : g < 16) : fX8_bits (nI g) = some (nI (popN g)) := by
  have key : ∀ g : Fin 16, fX8_bits (nI g.val) = some (nI (popN g.val)) := by decide +kernel
  exact key ⟨g, hg⟩
def okS (h : Hl) (m thr hr s g : Nat) : Bool := decide (1000000 * s ≤ passN h m thr hr g)
def pO : Option Nat → Nat
  | none => 5
  | some b => popN b
def pickL (h : Hl) (m thr hr s : Nat) : Nat → Option Nat
  | 0 => none
  | g + 1 => if popN g < pO (pickL h m thr hr s g) ∧ okS h m thr hr s g = true then some g else pickL h m thr hr s g
theorem pickL_succ (h : Hl) (m thr hr s g : Nat) : pickL h m thr hr s (g + 1) = if popN g < pO (pickL h m thr hr s g) ∧ okS h m thr hr s g = true then some g else pickL h m thr hr s g := rfl
theorem pickL_lt (h : Hl) (m thr hr s : Nat) : ∀ g b, pickL h m thr hr s g = some b → b < g
  | 0, b, e => by cases e
  | g + 1, b, e => by
    rw [pickL_succ] at e
    split at e
    · cases e; omega
    · exact Nat.lt_succ_of_lt (pickL_lt h m thr hr s g b e)
theorem pO_le (o : Option Nat) : pO o ≤ 5 := by
  cases o with
  | none => exact Nat.le_refl 5
  | some b => have := popN_le b; show popN b ≤ 5; omega
theorem pw4 {n : Nat} (h : n ≤ 4) : 2 ^ n ≤ 16 := Nat.pow_le_pow_right (n := 2) (by decide) h
theorem e6L : (1000000 : Int64) = lN 1000000 := by decide +kernel
theorem fewL (h : Hl) (v : HV h) {m thr hr s : Nat} (hm : m < 16) (hthr : thr < 16) (hh : hr < 12) (hs : s ≤ 1000) : ∀ d n g, g + d = 2 ^ h 12 0 → d < n → fX3_fewestGone_L10 (nI m) (nI thr) (nI hr) (nI s) (cst h) n (tI (pickL h m thr hr s g)) (nI (pO (pickL h m thr hr s g))) (nI g) = some (tI (pickL h m thr hr s (2 ^ h 12 0))) := by
  have h0 := v.2.2.1
  have hp := pw4 h0
  intro d
  induction d with
  | zero =>
    intro n g e hn
    cases n with
    | zero => omega
    | succ n =>
      have e : g = 2 ^ h 12 0 := by omega
      subst e
      rw [fX3_fewestGone_L10]
      simp only [cst_at, z_0, z_1, z_2, z_3, z_4, z_5, z_6, z_7, z_8, z_9, z_10, z_11, z_12, z_13, z_14, z_15, z_16, z_20, z_21, z_22, z_23, z_24, z_30, z_31, z_32, z_35, z_40, z_47, z_48, z_57, z_59, z_97, z_100, z_122, z_400, z_1000, iShl (show h 12 0 < 31 by omega), iLe (show 2 ^ h 12 0 < 2 ^ 31 by omega) (show 2 ^ h 12 0 < 2 ^ 31 by omega), Nat.le_refl, if_true]
  | succ d ih =>
    intro n g e hn
    cases n with
    | zero => omega
    | succ n =>
      have hg : g < 2 ^ h 12 0 := by omega
      have IH := ih n (g + 1) (by omega) (by omega)
      rw [pickL_succ] at IH
      have hpo := pO_le (pickL h m thr hr s g)
      have hpop := popN_le g
      have e1 := minding_ok h v hm hthr (gone := g) (by omega)
      have e2 := passing_ok h v (m := m) (thr := thr) (gone := g) hh (by omega)
      have hpl := passN_le h v m thr hr g
      have hlt1 : passN h m thr hr g < 2 ^ 63 := Nat.lt_of_le_of_lt hpl (by decide)
      have hlt2 : 1000000 * s < 2 ^ 63 := by omega
      have hcond : (lg_cmp (lN (passN h m thr hr g)) (1000000 * (nI s).toInt64) < 0) = ¬ okS h m thr hr s g = true := by
        rw [cLt, e6L, nI_l (show s < 2 ^ 31 by omega), lN_mul, pk_lLT hlt1 hlt2]
        unfold okS
        simp
      rw [fX3_fewestGone_L10]
      simp only [cst_at, bitC_ok (show g < 16 by omega), e1, e2, q_b1s, hcond]
      rw [show (1 : Int32) = nI 1 from rfl, show (31 : Int32) = nI 31 from rfl, iShl (show h 12 0 < 31 by omega), iAdd]
      simp only [iLe (show 2 ^ h 12 0 < 2 ^ 31 by omega) (show g < 2 ^ 31 by omega), show ¬ 2 ^ h 12 0 ≤ g by omega, if_false, iLe (show pO (pickL h m thr hr s g) < 2 ^ 31 by omega) (show popN g < 2 ^ 31 by omega)]
      by_cases c1 : pO (pickL h m thr hr s g) ≤ popN g
      · rw [if_pos c1, q_b2s]
        rw [if_neg (fun q => by omega)] at IH
        exact IH
      · by_cases c2 : okS h m thr hr s g = true
        · rw [if_neg c1, if_neg (fun n => n c2), q_b2s]
          rw [if_pos ⟨by omega, c2⟩] at IH
          exact IH
        · rw [if_neg c1, if_pos c2, q_b2s]
          rw [if_neg (fun q => c2 q.2)] at IH
          exact IH
theorem few_ok (h : Hl) (v : HV h) {m thr hr s : Nat} (hm : m < 16) (hthr : thr < 16) (hh : hr < 12) (hs : s ≤ 1000) : fX3_fewestGone (cst h) (nI m) (nI thr) (nI hr) (nI s) = some (tI (pickL h m thr hr s (2 ^ h 12 0))) := by
  have hp := pw4 v.2.2.1
  unfold fX3_fewestGone
  have e : fX3_fewestGone_L10 (nI m) (nI thr) (nI hr) (nI s) (cst h) 5000 (-1000000) 5 0 = some (tI (pickL h m thr hr s (2 ^ h 12 0))) := fewL h v hm hthr hh hs (2 ^ h 12 0) 5000 0 (by omega) (by omega)
  rw [e]
  rfl
theorem okS_frac (h : Hl) (v : HV h) (m thr hr s g : Nat) : okS h m thr hr s g = true ↔ s * 10 ^ exN h m thr g ≤ upN h m thr hr g * 1000 := by
  have hpos : 0 < 10 ^ (9 - exN h m thr g) := Nat.pow_pos (by decide)
  unfold okS
  rw [decide_eq_true_iff, passN_eq h v]
  have n9 := nine h v m thr g
  constructor
  · intro q
    have q2 : 10 ^ (9 - exN h m thr g) * (s * 10 ^ exN h m thr g) ≤ 10 ^ (9 - exN h m thr g) * (upN h m thr hr g * 1000) := by
      rw [Nat.mul_left_comm, n9, ← Nat.mul_assoc]
      have : s * 10 ^ 9 = (1000000 * s) * 1000 := by omega
      rw [this]
      exact Nat.mul_le_mul_right 1000 q
    exact Nat.le_of_mul_le_mul_left q2 hpos
  · intro q
    have q2 : 10 ^ (9 - exN h m thr g) * (s * 10 ^ exN h m thr g) ≤ 10 ^ (9 - exN h m thr g) * (upN h m thr hr g * 1000) := Nat.mul_le_mul_left _ q
    rw [Nat.mul_left_comm, n9, ← Nat.mul_assoc] at q2
    have : s * 10 ^ 9 = (1000000 * s) * 1000 := by omega
    rw [this] at q2
    exact Nat.le_of_mul_le_mul_right q2 (by decide)
section M80
variable {h : Hl} {r : Nat → Nat} {s : St}
theorem m_pickL (v : HV h) (R : RR h r) (M : HM s r) {m thr hr k : Nat} (hm : m < 16) (hthr : thr < 16) (hh : hr < 12) (hk : k ≤ 1000) : ∀ d n g (t : Lt), g + d = 2 ^ h 12 0 → d < n → ∃ t' : Lt, fX8_picks_L61 (nI m) (nI thr) (nI hr) (nI k) s n (tI (pickL h m thr hr k g)) (nI g) t = some (tI (pickL h m thr hr k (2 ^ h 12 0)), t') := by
  have h0 := v.2.2.1
  have hp := pw4 h0
  have r2 : s 5 2 = nI (h 12 0) := by rw [M, R.2.2.1]
  intro d
  induction d with
  | zero =>
    intro n g t e hn
    cases n with
    | zero => omega
    | succ n =>
      have e : g = 2 ^ h 12 0 := by omega
      subst e
      refine ⟨t, ?_⟩
      rw [fX8_picks_L61]
      simp only [z_0, z_1, z_2, z_3, z_4, z_5, z_6, z_7, z_8, z_9, z_10, z_11, z_12, z_13, z_14, z_15, z_16, z_20, z_21, z_22, z_23, z_24, z_30, z_31, z_32, z_35, z_40, z_47, z_48, z_57, z_59, z_97, z_100, z_122, z_400, z_1000, iIn (show 2 < 2 ^ 31 by decide), iCl (show 2 < 2 ^ 31 by decide), show 2 < 59 by decide, if_true, r2, iShl (show h 12 0 < 31 by omega), iLe (show 2 ^ h 12 0 < 2 ^ 31 by omega) (show 2 ^ h 12 0 < 2 ^ 31 by omega), Nat.le_refl]
  | succ d ih =>
    intro n g t e hn
    cases n with
    | zero => omega
    | succ n =>
      have hg : g < 2 ^ h 12 0 := by omega
      obtain ⟨t1, e1, e2, e3⟩ := m_layOdds v R M t (m := m) (thr := thr) (hr := hr) (gone := g) hm hthr hh (by omega)
      obtain ⟨t', IH⟩ := ih n (g + 1) t1 (by omega) (by omega)
      rw [pickL_succ] at IH
      have hpo := pO_le (pickL h m thr hr k g)
      have hpop := popN_le g
      have hup := upN_le h m thr hr g
      have hex := ten_le (exN_le h v m thr g)
      have e9 : (10 ^ 9 : Nat) = 1000000000 := by decide
      have l1 : upN h m thr hr g * 1000 < 2 ^ 63 := by omega
      have l2 : k * 10 ^ exN h m thr g < 2 ^ 63 := Nat.lt_of_le_of_lt (Nat.mul_le_mul hk hex) (by decide)
      have hcond : (lg_cmp (t1 21 * 1000) ((nI k).toInt64 * t1 22) < 0) = ¬ okS h m thr hr k g = true := by
        rw [cLt, e2, e3, show (1000 : Int64) = lN 1000 from rfl, nI_l (show k < 2 ^ 31 by omega), lN_mul, lN_mul, pk_lLT l1 l2, okS_frac h v]
        apply propext
        omega
      refine ⟨t', ?_⟩
      rw [fX8_picks_L61]
      rw [if_pos (show inb (2 : Int32) 59 by decide), show (2 : Int32).toNatClampNeg = 2 from rfl, r2]
      rw [show (1 : Int32) = nI 1 from rfl, show (31 : Int32) = nI 31 from rfl, iShl (show h 12 0 < 31 by omega), iAdd]
      rw [if_neg (by rw [iLe (show 2 ^ h 12 0 < 2 ^ 31 by omega) (show g < 2 ^ 31 by omega)]; omega), e1, q_b1s]
      by_cases c2 : okS h m thr hr k g = true
      · rw [if_neg (by rw [hcond]; exact fun n => n c2), q_b1s, if_neg (show ¬ nI 1 = 0 by decide)]
        cases q : pickL h m thr hr k g with
        | none =>
          rw [q] at IH
          rw [if_pos ⟨show popN g < 5 by omega, c2⟩] at IH
          rw [if_pos tI_none, q_b1s]
          exact IH
        | some b =>
          rw [q] at IH
          have hb := pickL_lt h m thr hr k g b q
          rw [if_neg (by rw [tI_some]; exact nI_neNONE (by omega)), bits_ok (show g < 16 by omega), q_b1s, tI_some, bits_ok (show b < 16 by omega), q_b1s]
          have hpb := popN_le b
          by_cases c1 : popN b ≤ popN g
          · rw [if_pos (by rw [iLe (show popN b < 2 ^ 31 by omega) (show popN g < 2 ^ 31 by omega)]; exact c1), q_b1s]
            rw [if_neg (fun z => by have : popN g < popN b := z.1; omega)] at IH
            exact IH
          · rw [if_neg (by rw [iLe (show popN b < 2 ^ 31 by omega) (show popN g < 2 ^ 31 by omega)]; exact c1), q_b1s]
            rw [if_pos ⟨show popN g < popN b by omega, c2⟩] at IH
            exact IH
      · rw [if_pos (by rw [hcond]; exact c2), q_b1s, if_pos rfl, q_b1s]
        rw [if_neg (fun z => c2 z.2)] at IH
        exact IH
end M80
section OPS
variable {ro ta ac bo i6 i7 st sp x m : St}
theorem picks_sim (R : RelC ro ta ac bo i6 i7 st sp x m) (t : Lt) (p q k w : Int32) : ∃ (v : Int64) (m' : St) (t' : Lt), fX7_picks x st p q k w = some v ∧ fX8_picks m t p q k w = some (v, m', t') ∧ RelC ro ta ac bo i6 i7 st sp x m' := by
  have R0 := Rel0 R
  obtain ⟨h, h6, h7, h9, rfl, rfl, rfl, rfl, ⟨hv, r, hR, hM⟩, hrow, htape, hacts, himg, htr, hx⟩ := R
  have hM0 : HM (u1 m 0 0) r := hM
  unfold fX7_picks fX8_picks
  rw [q_lts, hx.1, show (u1 m 0 0) 7 0 = m 7 0 from rfl, ck_in]
  by_cases c0 : m 7 0 = 0
  · exact ⟨_, _, _, by rw [if_pos c0], by rw [if_pos c0], R0⟩
  rw [if_neg c0, if_neg c0, c_isAsked, m_isMatter, q_b1s, q_b1s]
  rw [show (0 : Int32).toInt = 0 from rfl, show (1000 : Int32).toInt = 1000 from rfl]
  simp only [b01]
  by_cases c1 : inR p 1 15 = true
  · by_cases c2 : inR q 0 15 = true
    · by_cases c3 : inR k 0 11 = true
      · have k123 : ¬ ¬ (inR p 1 15 = true ∧ inR q 0 15 = true ∧ inR k 0 11 = true) := fun n => n ⟨c1, c2, c3⟩
        have k1 : ¬ ¬ inR p 1 15 = true := fun n => n c1
        have k2 : ¬ ¬ inR q 0 15 = true := fun n => n c2
        have k3 : ¬ ¬ inR k 0 11 = true := fun n => n c3
        rw [if_neg k123, if_neg k1, m_areHorns, q_b1s]
        simp only [b01]
        rw [if_neg k2, m_isHour, q_b1s]
        simp only [b01]
        rw [if_neg k3, inp_ok w 0 1000 0 1000 rfl rfl, q_b1s]
        simp only [b01]
        by_cases c5 : inR w 0 1000 = true
        · have k5 : ¬ ¬ inR w 0 1000 = true := fun n => n c5
          rw [if_pos c5, if_neg k5]
          clear k123 k1 k2 k3 k5
          obtain ⟨a, a1, a2, a3, rfl⟩ := inR_of (by decide) (by decide) c1
          obtain ⟨b, b1, b2, b3, rfl⟩ := inR_of (by decide) (by decide) c2
          obtain ⟨d, d1, d2, d3, rfl⟩ := inR_of (by decide) (by decide) c3
          obtain ⟨z, z1, z2, z3, rfl⟩ := inR_of (by decide) (by decide) c5
          have hp := pw4 hv.2.2.1
          obtain ⟨t', e⟩ := m_pickL hv hR hM0 (m := a) (thr := b) (hr := d) (k := z) (by omega) (by omega) (by omega) (by omega) (2 ^ h 12 0) 5000 0 t (by omega) (by omega)
          have e : fX8_picks_L61 (nI a) (nI b) (nI d) (nI z) (u1 m 0 0) 5000 (-1000000) 0 t = some (tI (pickL h a b d z (2 ^ h 12 0)), t') := e
          rw [few_ok h hv (by omega) (by omega) (by omega) (by omega), q_b1s, e, q_b2s]
          exact ⟨_, _, _, rfl, rfl, R0⟩
        · exact ⟨_, _, _, by rw [if_neg c5], by rw [if_pos c5], R0⟩
      · exact ⟨_, _, _, by rw [if_pos (fun n => c3 n.2.2)], by rw [if_neg (fun n => n c1), m_areHorns, q_b1s]; simp only [b01]; rw [if_neg (fun n => n c2), m_isHour, q_b1s]; simp only [b01]; rw [if_pos c3], R0⟩
    · exact ⟨_, _, _, by rw [if_pos (fun n => c2 n.2.1)], by rw [if_neg (fun n => n c1), m_areHorns, q_b1s]; simp only [b01]; rw [if_pos c2], R0⟩
  · exact ⟨_, _, _, by rw [if_pos (fun n => c1 n.1)], by rw [if_pos c1], R0⟩
end OPS
