/-! council -/
def cP (h : Hl) (f : Nat → Nat) (thr hr : Nat) : Nat → Nat
  | 0 => 1
  | i + 1 => cP h f thr hr i * passN h (f i) thr (hr + i) 0
def cU (h : Hl) (f : Nat → Nat) (thr hr : Nat) : Nat → Nat
  | 0 => 1
  | i + 1 => cU h f thr hr i * upN h (f i) thr (hr + i) 0
def cE (h : Hl) (f : Nat → Nat) (thr : Nat) : Nat → Nat
  | 0 => 0
  | i + 1 => cE h f thr i + exN h (f i) thr 0
theorem cP_succ (h : Hl) (f : Nat → Nat) (thr hr i : Nat) : cP h f thr hr (i + 1) = cP h f thr hr i * passN h (f i) thr (hr + i) 0 := rfl
theorem cU_succ (h : Hl) (f : Nat → Nat) (thr hr i : Nat) : cU h f thr hr (i + 1) = cU h f thr hr i * upN h (f i) thr (hr + i) 0 := rfl
theorem cE_succ (h : Hl) (f : Nat → Nat) (thr i : Nat) : cE h f thr (i + 1) = cE h f thr i + exN h (f i) thr 0 := rfl
theorem cE_le (h : Hl) (v : HV h) (f : Nat → Nat) (thr : Nat) : ∀ i, cE h f thr i ≤ 9 * i
  | 0 => Nat.le_refl 0
  | i + 1 => by
    have h1 := cE_le h v f thr i
    have h2 := exN_le h v (f i) thr 0
    rw [cE_succ]
    omega
theorem cP_eq (h : Hl) (v : HV h) (f : Nat → Nat) (thr hr : Nat) : ∀ i, cP h f thr hr i = 10 ^ (9 * i - cE h f thr i) * cU h f thr hr i
  | 0 => rfl
  | i + 1 => by
    have h1 := cE_le h v f thr i
    have h2 := exN_le h v (f i) thr 0
    rw [cP_succ, cU_succ, cE_succ, cP_eq h v f thr hr i, passN_eq h v, show 9 * (i + 1) - (cE h f thr i + exN h (f i) thr 0) = (9 * i - cE h f thr i) + (9 - exN h (f i) thr 0) by omega, Nat.pow_add]
    simp only [Nat.mul_assoc, Nat.mul_left_comm, Nat.mul_comm]
theorem cP_le (h : Hl) (v : HV h) (f : Nat → Nat) (thr hr : Nat) : ∀ i, cP h f thr hr i ≤ 10 ^ (9 * i)
  | 0 => Nat.le_refl 1
  | i + 1 => by
    rw [cP_succ, show 9 * (i + 1) = 9 * i + 9 by omega, Nat.pow_add]
    exact Nat.mul_le_mul (cP_le h v f thr hr i) (passN_le h v (f i) thr (hr + i) 0)
theorem cU_le (h : Hl) (f : Nat → Nat) (thr hr : Nat) : ∀ i, cU h f thr hr i ≤ 10 ^ cE h f thr i
  | 0 => Nat.le_refl 1
  | i + 1 => by
    rw [cU_succ, cE_succ, Nat.pow_add]
    exact Nat.mul_le_mul (cU_le h f thr hr i) (upN_le h (f i) thr (hr + i) 0)
theorem c_low (h : Hl) (v : HV h) (f : Nat → Nat) (thr hr i : Nat) (z : Bool) : lowP (cP h f thr hr i) (10 ^ (9 * i)) z = lowP (cU h f thr hr i) (10 ^ cE h f thr i) z := by
  have h1 := cE_le h v f thr i
  have e : 10 ^ (9 * i) = 10 ^ (9 * i - cE h f thr i) * 10 ^ cE h f thr i := by
    rw [← Nat.pow_add]; congr 1; omega
  rw [cP_eq h v, e]
  exact lowP_scale (Nat.pow_pos (by decide)) z
section CC
variable {h : Hl} {ro : St} {j b n c : Nat}
theorem councilL (v : HV h) (hj : j < 8) (hn : n ≤ 40) (ha : ro 1 j = nI n) (h0 : ¬ ro 0 j = -1) (hc : b + c ≤ n) {f : Nat → Nat} (hf : ∀ i, i < c → ro 2 (40 * j + b + i) = nI (f i) ∧ f i < 16) {thr hr : Nat} (hthr : thr < 16) (hh : hr + c ≤ 12) : ∀ d k i, i + d = c → d < k → fX7_setCouncil_L9 (nI thr) (nI hr) (nI j) (nI b) (nI c) ro (cst h) k (lN (cP h f thr hr i)) (lN (10 ^ (9 * i))) (nI i) = some (lN (cP h f thr hr c), lN (10 ^ (9 * c))) := by
  intro d
  induction d with
  | zero =>
    intro k i e hk
    cases k with
    | zero => omega
    | succ k =>
      have e : i = c := by omega
      subst e
      rw [fX7_setCouncil_L9, if_pos (by rw [iLe (show i < 2 ^ 31 by omega) (show i < 2 ^ 31 by omega)]; exact Nat.le_refl _)]
  | succ d ih =>
    intro k i e hk
    cases k with
    | zero => omega
    | succ k =>
      obtain ⟨f1, f2⟩ := hf i (by omega)
      have e1 := c_item ro hj hn ha h0 (b := b + i) (by omega)
      rw [← Nat.add_assoc, f1] at e1
      have e2 : fX3_minding (cst h) (nI (f i)) (nI thr) 0 = some (nI (minding h (f i) thr 0)) := minding_ok h v f2 hthr (show 0 < 2 ^ 31 by decide)
      have e3 : fX3_passing (cst h) (nI (minding h (f i) thr 0)) (nI (hr + i)) 0 = some (lN (passN h (f i) thr (hr + i) 0)) := passing_ok h v (by omega) (show 0 < 2 ^ 31 by decide)
      rw [fX7_setCouncil_L9, if_neg (by rw [iLe (show c < 2 ^ 31 by omega) (show i < 2 ^ 31 by omega)]; omega), iAdd, e1, q_b1s, e2, q_b1s, iAdd, e3, q_b1s, q_lts, lN_e9, lN_mul, lN_mul, ← Nat.pow_add, show (1 : Int32) = nI 1 from rfl, iAdd]
      exact ih k (i + 1) (by omega) (by omega)
theorem mattersL (hj : j < 8) (hn : n ≤ 40) (ha : ro 1 j = nI n) (h0 : ¬ ro 0 j = -1) (hc : b + c ≤ n) {s1 : St} (hs : ∀ i, i < c → s1 4 (40 * j + b + i) = ro 2 (40 * j + b + i)) (p1 p2 p6 : Int32) (t0 : Lt) : ∀ d k i, i + d = c → d < k → (∃ ok : Bool, fX7_areMatters_L3 (nI j) (nI b) (nI c) ro k (nI i) = some (if ok = true then 1 else 0) ∧ (ok = true → ∀ z, i ≤ z → z < c → inR (ro 2 (40 * j + b + z)) 1 15 = true) ∧ fX8_council_L121 p1 p2 (nI j) (nI b) (nI c) p6 t0 s1 k (nI i) = if ok = true then (q_lt (u1 s1 1 0) fun sn30 => q_lt (uL t0 21 1) fun tn31 => q_lt (uL tn31 22 1) fun tn32 => q_b1 (fX8_council_L177 p1 p2 (nI j) (nI b) (nI c) sn30 5000 0 tn32) (fun (z36 : Lt) => q_b1 (fX8_partOf (z36 21) (z36 22) p6) fun r41 => some (r41, sn30, z36))) else some (-9000000000000000001, s1, t0)) := by
  intro d
  induction d with
  | zero =>
    intro k i e hk
    cases k with
    | zero => omega
    | succ k =>
      have le : nI c ≤ nI i := by rw [iLe (show c < 2 ^ 31 by omega) (show i < 2 ^ 31 by omega)]; omega
      refine ⟨true, ?_, fun _ z h1 h2 => by omega, ?_⟩
      · rw [fX7_areMatters_L3, if_pos le]; rfl
      · rw [fX8_council_L121, if_pos le, if_pos rfl]
  | succ d ih =>
    intro k i e hk
    cases k with
    | zero => omega
    | succ k =>
      have nle : ¬ nI c ≤ nI i := by rw [iLe (show c < 2 ^ 31 by omega) (show i < 2 ^ 31 by omega)]; omega
      have e1 := c_item ro hj hn ha h0 (b := b + i) (by omega)
      rw [← Nat.add_assoc] at e1
      obtain ⟨ok, g1, g2, g3⟩ := ih k (i + 1) (by omega) (by omega)
      by_cases c1 : inR (ro 2 (40 * j + b + i)) 1 15 = true
      · have k1 : ¬ ¬ inR (ro 2 (40 * j + b + i)) 1 15 = true := fun n => n c1
        refine ⟨ok, ?_, fun ho z z1 z2 => ?_, ?_⟩
        · rw [fX7_areMatters_L3, if_neg nle, iAdd, e1, q_b1s, c_isMatter, q_b1s]
          simp only [b01]
          rw [if_neg k1, nI_1]
          exact g1
        · by_cases ez : z = i
          · rw [ez]; exact c1
          · exact g2 ho z (by omega) z2
        · rw [fX8_council_L121, if_neg nle, show (40 : Int32) = nI 40 from rfl, iMul, iAdd, iAdd, if_pos (by rw [iIn (by omega)]; omega), iCl (by omega), hs i (by omega), m_isMatter, q_b1s]
          simp only [b01]
          rw [if_neg k1, nI_1]
          exact g3
      · refine ⟨false, ?_, fun ho => absurd ho (by decide), ?_⟩
        · rw [fX7_areMatters_L3, if_neg nle, iAdd, e1, q_b1s, c_isMatter, q_b1s]
          simp only [b01]
          rw [if_pos c1]
          rfl
        · rw [fX8_council_L121, if_neg nle, show (40 : Int32) = nI 40 from rfl, iMul, iAdd, iAdd, if_pos (by rw [iIn (by omega)]; omega), iCl (by omega), hs i (by omega), m_isMatter, q_b1s]
          simp only [b01]
          rw [if_pos c1, if_neg (show ¬ false = true by decide)]
theorem m_councilL {r : Nat → Nat} {s : St} (v : HV h) (R : RR h r) (M : HM s r) (hj : j < 8) (hn : n ≤ 40) (hc : b + c ≤ n) {f : Nat → Nat} (hf : ∀ i, i < c → s 4 (40 * j + b + i) = nI (f i) ∧ f i < 16) {thr hr : Nat} (hthr : thr < 16) (hh : hr + c ≤ 12) : ∀ d k i (t : Lt), i + d = c → d < k → t 21 = lN (cU h f thr hr i) → t 22 = lN (10 ^ cE h f thr i) → ∃ t' : Lt, fX8_council_L177 (nI thr) (nI hr) (nI j) (nI b) (nI c) s k (nI i) t = some t' ∧ t' 21 = lN (cU h f thr hr c) ∧ t' 22 = lN (10 ^ cE h f thr c) := by
  intro d
  induction d with
  | zero =>
    intro k i t e hk h1 h2
    cases k with
    | zero => omega
    | succ k =>
      have e : i = c := by omega
      subst e
      exact ⟨t, by rw [fX8_council_L177, if_pos (by rw [iLe (show i < 2 ^ 31 by omega) (show i < 2 ^ 31 by omega)]; exact Nat.le_refl _)], h1, h2⟩
  | succ d ih =>
    intro k i t e hk h1 h2
    cases k with
    | zero => omega
    | succ k =>
      obtain ⟨f1, f2⟩ := hf i (by omega)
      obtain ⟨t1, e1, e2, e3⟩ := m_passes v R M t (m := f i) (thr := thr) (hr := hr + i) (gone := 0) f2 hthr (by omega) (by decide) h1 h2
      have e1 : fX8_passes s t (nI (f i)) (nI thr) (nI (hr + i)) 0 = some t1 := e1
      obtain ⟨t', g1, g2⟩ := ih k (i + 1) t1 (by omega) (by omega) e2 (by rw [e3, cE_succ, Nat.pow_add])
      refine ⟨t', ?_, g2⟩
      rw [fX8_council_L177, if_neg (by rw [iLe (show c < 2 ^ 31 by omega) (show i < 2 ^ 31 by omega)]; omega), show (40 : Int32) = nI 40 from rfl, iMul, iAdd, iAdd, if_pos (by rw [iIn (by omega)]; omega), iCl (by omega), f1, iAdd, e1, q_b1s, show (1 : Int32) = nI 1 from rfl, iAdd]
      exact g1
end CC
section OPS
variable {ro ta ac bo i6 i7 st sp x m : St}
theorem council_sim (R : RelC ro ta ac bo i6 i7 st sp x m) (l t : Lt) (p q k w c z : Int32) : ∃ (v : Int64) (x' m' : St) (l' t' : Lt), fX7_council x ro st l p q k w c z = some (v, x', l') ∧ fX8_council m t p q k w c z = some (v, m', t') ∧ RelC ro ta ac bo i6 i7 st sp x' m' := by
  have R0 := Rel0 R
  have RR0 := R
  obtain ⟨h, h6, h7, h9, rfl, rfl, rfl, rfl, ⟨hv, r, hR, hM⟩, hrow, htape, hacts, himg, htr, hx⟩ := R
  have hM0 : HM (u1 m 0 0) r := hM
  unfold fX7_council fX8_council
  rw [q_lts, hx.1, show (u1 m 0 0) 7 0 = m 7 0 from rfl, ck_in2]
  by_cases c0 : m 7 0 = 0
  · exact ⟨_, _, _, _, _, by rw [if_pos c0], by rw [if_pos c0], R0⟩
  rw [if_neg c0, if_neg c0, c_isHorns, m_areHorns, q_b1s, q_b1s]
  simp only [b01]
  by_cases c1 : inR p 0 15 = true
  · have k1 : ¬ ¬ inR p 0 15 = true := fun n => n c1
    rw [if_neg k1, if_neg k1, c_isHour, m_isHour, q_b1s, q_b1s]
    simp only [b01]
    by_cases c2 : inR q 0 11 = true
    · have k2 : ¬ ¬ inR q 0 11 = true := fun n => n c2
      rw [if_neg k2, if_neg k2, c_isRow, m_isRow, q_b1s, q_b1s]
      simp only [b01]
      by_cases c3 : inR k 0 7 = true
      · have k3 : ¬ ¬ inR k 0 7 = true := fun n => n c3
        rw [if_neg k3, if_neg k3, inp_ok c 1 2 1 2 rfl rfl, q_b1s, show (1 : Int32).toInt = 1 from rfl, show (2 : Int32).toInt = 2 from rfl]
        simp only [b01]
        by_cases c4 : inR c 1 2 = true
        · have k4 : ¬ ¬ inR c 1 2 = true := fun n => n c4
          rw [if_pos c4, if_neg k4]
          obtain ⟨a, a1, a2, a3, rfl⟩ := inR_of (by decide) (by decide) c1
          obtain ⟨o, o1, o2, o3, rfl⟩ := inR_of (by decide) (by decide) c2
          obtain ⟨j, j1, j2, j3, rfl⟩ := inR_of (by decide) (by decide) c3
          obtain ⟨d, d1, d2, d3, rfl⟩ := inR_of (by decide) (by decide) c4
          have hj : j < 8 := by omega
          have eh : inR (nI o + nI d - 1) 0 11 = true ↔ ¬ 12 < nI o + nI d := by
            rw [iAdd, show (1 : Int32) = nI 1 from rfl, iSub (show 1 ≤ o + d by omega), inR_i, nI_toInt (by omega), show (12 : Int32) = nI 12 from rfl, iLt (by decide) (by omega)]
            omega
          rw [c_isHour, q_b1s]
          simp only [b01]
          by_cases c5 : 12 < nI o + nI d
          · exact ⟨_, _, _, _, _, by rw [if_pos (fun n => eh.mp n c5)], by rw [if_pos c5], R0⟩
          rw [if_neg (fun n => n (eh.mpr c5)), if_neg c5, c_isPart, inp_ok z 0 1 0 1 rfl rfl, q_b1s, q_b1s]
          rw [iAdd, show (12 : Int32) = nI 12 from rfl, iLt (by decide) (by omega)] at c5
          simp only [b01]
          by_cases c6 : inR z 0 1 = true
          · have k6 : ¬ ¬ inR z 0 1 = true := fun n => n c6
            obtain ⟨r1, r2, r3, n, r4, r5, r6⟩ := hrow j hj
            have fin : ∀ y : Int32, ∃ (v : Int64) (x' m' : St) (l' t' : Lt), (q_b2 (fX7_finding x y) fun r33 sc34 => some (r33, sc34, l)) = some (v, x', l') ∧ (q_b2 (fX8_finding (u1 m 0 0) y) fun r33 sc34 => some (r33, sc34, t)) = some (v, m', t') ∧ RelC ro ta ac bo (cst h6) (cst h7) (cst h) (cst h9) x' m' := fun y => ⟨_, u1 x 13 y, u1 (u1 m 0 0) 1 y, _, _, rfl, rfl, RelF RR0 y (fun k a b => by rw [u1_ne b, u1_ne a]) rfl⟩
            rw [if_neg k6, if_neg k6, c_missing ro hj, q_b1s, if_pos (inb8 hj)]
            simp only [b01, iCl j3, show (u1 m 0 0) 2 = m 2 from rfl, show (u1 m 0 0) 3 = m 3 from rfl, lane_ge r3, r1]
            by_cases c7 : m 2 j = -1
            · rw [if_neg (fun n => n c7), if_neg (fun n => n c7)]
              exact fin 1
            rw [if_pos c7, if_pos c7, c_holds ro hj r4 (r2.trans r5), q_b1s]
            simp only [b01, hB_i, r5, sum_le w (nI d) r4]
            have e0 : ¬ ro 0 j = -1 := by rw [r1]; exact c7
            by_cases d1 : w < 0
            · have d1' : w.toInt < 0 := by rw [Int32.lt_iff_toInt_lt] at d1; exact d1
              rw [if_pos d1, if_pos (fun k => by omega)]
              exact fin 2
            rw [if_neg d1, if_pos (inb8 hj)]
            obtain ⟨b, b1, rfl⟩ := nI_of d1
            by_cases d5 : (nI b).toInt + (nI d).toInt ≤ (n : Int)
            · have A : ¬ ro 0 j = -1 ∧ 0 ≤ (nI b).toInt ∧ 0 ≤ (nI d).toInt ∧ (nI b).toInt + (nI d).toInt ≤ (n : Int) := by
                rw [nI_toInt b1, nI_toInt d3] at d5 ⊢
                exact ⟨e0, by omega, by omega, by omega⟩
              rw [if_neg (fun k => k A), if_pos d5]
              rw [nI_toInt b1, nI_toInt d3] at d5
              have hs : ∀ i, i < d → m 4 (40 * j + b + i) = ro 2 (40 * j + b + i) := fun i hi => by
                have := r6 (b + i) (by omega)
                rw [← Nat.add_assoc] at this
                exact this.symm
              obtain ⟨ok, g1, g2, g3⟩ := mattersL (b := b) (c := d) hj r4 (r2.trans r5) e0 (by omega) (s1 := u1 m 0 0) hs (nI a) (nI o) z t d 5000 0 (by omega) (by omega)
              have g1 : fX7_areMatters ro (nI j) (nI b) (nI d) = some (if ok = true then 1 else 0) := g1
              have g3 : fX8_council_L121 (nI a) (nI o) (nI j) (nI b) (nI d) z t (u1 m 0 0) 5000 0 = _ := g3
              rw [g1, q_b1s, g3]
              simp only [b01]
              by_cases c8 : ok = true
              · rw [if_neg (fun n => n c8), if_pos c8, q_lts, q_lts, q_lts]
                have hall := g2 c8
                have hf : ∀ i, i < d → ro 2 (40 * j + b + i) = nI ((ro 2 (40 * j + b + i)).toNatClampNeg) ∧ (ro 2 (40 * j + b + i)).toNatClampNeg < 16 := fun i hi => by
                  obtain ⟨y, y1, y2, y3, ey⟩ := inR_of (by decide) (by decide) (hall i (by omega) hi)
                  rw [ey, iCl y3]
                  exact ⟨rfl, by omega⟩
                have f1 := councilL hv (b := b) (c := d) (f := fun i => (ro 2 (40 * j + b + i)).toNatClampNeg) (thr := a) (hr := o) hj r4 (r2.trans r5) e0 (by omega) hf (by omega) (by omega) d 5000 0 (by omega) (by omega)
                have f1 : fX7_setCouncil_L9 (nI a) (nI o) (nI j) (nI b) (nI d) ro (cst h) 5000 1 1 0 = _ := f1
                obtain ⟨t', g4, g5, g6⟩ := m_councilL (s := u1 (u1 m 0 0) 1 0) hv hR hM0 (b := b) (c := d) (f := fun i => (ro 2 (40 * j + b + i)).toNatClampNeg) (thr := a) (hr := o) hj r4 (by omega) (fun i hi => by
                  show m 4 (40 * j + b + i) = _ ∧ _
                  rw [hs i hi]
                  exact hf i hi) (by omega) (by omega) d 5000 0 (uL (uL t 21 1) 22 1) (by omega) (by omega) rfl rfl
                have g4 : fX8_council_L177 (nI a) (nI o) (nI j) (nI b) (nI d) (u1 (u1 m 0 0) 1 0) 5000 0 (uL (uL t 21 1) 22 1) = some t' := g4
                have hd : 10 ^ (9 * d) ≤ 10 ^ 18 := Nat.pow_le_pow_right (by decide) (by omega)
                have hlt : 10 ^ (9 * d) < 2 ^ 63 := Nat.lt_of_le_of_lt hd (by decide)
                have hlt2 := Nat.lt_of_le_of_lt (cP_le h hv (fun i => (ro 2 (40 * j + b + i)).toNatClampNeg) a o d) hlt
                have hlt3 : 10 ^ cE h (fun i => (ro 2 (40 * j + b + i)).toNatClampNeg) a d < 2 ^ 63 := Nat.lt_of_le_of_lt (Nat.pow_le_pow_right (by decide) (cE_le h hv _ a d)) hlt
                obtain ⟨f', y1, y2, y3⟩ := become_ok l hlt2 hlt (Nat.pow_pos (by decide))
                unfold fX7_setCouncil
                rw [f1, q_b2s, y1, q_b1s, q_b1s, fpart_ok, q_b1s, g4, q_b1s, g5, g6, part_ok (Nat.lt_of_le_of_lt (cU_le h _ a o d) hlt3) hlt3 (Nat.pow_pos (by decide)), q_b1s]
                refine ⟨_, u1 x 13 0, u1 (u1 m 0 0) 1 0, f', t', ?_, rfl, RelF RR0 0 (fun k a b => by rw [u1_ne b, u1_ne a]) rfl⟩
                by_cases cw : z = 0
                · rw [if_pos cw, y2, c_low h hv, decide_eq_true cw]; rfl
                · rw [if_neg cw, y3, c_low h hv, decide_eq_false cw]; rfl
              · rw [if_pos c8, if_neg c8]
                exact ⟨_, _, _, _, _, rfl, rfl, R0⟩
            · rw [if_pos (fun k => d5 k.2.2.2), if_neg d5]
              exact fin 2
          · exact ⟨_, _, _, _, _, by rw [if_pos c6], by rw [if_pos c6], R0⟩
        · exact ⟨_, _, _, _, _, by rw [if_neg c4], by rw [if_pos c4], R0⟩
      · exact ⟨_, _, _, _, _, by rw [if_pos c3], by rw [if_pos c3], R0⟩
    · exact ⟨_, _, _, _, _, by rw [if_pos c2], by rw [if_pos c2], R0⟩
  · exact ⟨_, _, _, _, _, by rw [if_pos c1], by rw [if_pos c1], R0⟩
end OPS
