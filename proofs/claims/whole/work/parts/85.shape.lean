/-! shape, count -/
def TT (h : Hl) (t : Nat) (m0 b m : St) : Prop := b 2 0 = nI t ∧ b 3 0 = nI (h 7 t) ∧ b 4 0 = nI (h 8 t) ∧ b 5 0 = nI (h 9 t) ∧ b 6 0 = nI (loosK (h 7 t)) ∧ (∀ k, ¬ k = 25 → ¬ k = 26 → m k = m0 k) ∧ rTr b (m 25) (m 26 0)
section T85
variable {h : Hl} {t : Nat} {m0 b m : St} {r : Nat → Nat}
theorem leaveL (T : TT h t m0 b m) (c : Int32) : ∃ b' m' : St, fX1_leave b c = some b' ∧ fX8_began m c = some m' ∧ TT h t m0 b' m' := by
  obtain ⟨h2, h3, h4, h5, h6, hm, n, hn, b1, b2, b3⟩ := T
  by_cases q : n = 16
  · have l1 : (16 : Int32) ≤ b 1 0 := by rw [b1, q]; decide
    have l2 : (16 : Int32) ≤ m 26 0 := by rw [b2, q]; decide
    exact ⟨b, m, by unfold fX1_leave; rw [if_pos l1], by unfold fX8_began; rw [if_pos l2], h2, h3, h4, h5, h6, hm, n, hn, b1, b2, b3⟩
  · have l1 : ¬ (16 : Int32) ≤ b 1 0 := by rw [b1, show (16 : Int32) = nI 16 from rfl, iLe (by decide) (by omega)]; omega
    have l2 : ¬ (16 : Int32) ≤ m 26 0 := by rw [b2, show (16 : Int32) = nI 16 from rfl, iLe (by decide) (by omega)]; omega
    have l3 : inb (b 1 0) 16 := by rw [b1, iIn (by omega)]; omega
    have l4 : inb (m 26 0) 16 := by rw [b2, iIn (by omega)]; omega
    refine ⟨u1 (uA b 0 (b 1 0) c) 1 (b 1 0 + 1), u1 (uA m 25 (m 26 0) c) 26 (m 26 0 + 1), ?_, ?_, h2, h3, h4, h5, h6, ?_, n + 1, by omega, ?_, ?_, ?_⟩
    · unfold fX1_leave; rw [if_neg l1, if_pos l3]; rfl
    · unfold fX8_began; rw [if_neg l2, if_pos l4]; rfl
    · intro k k1 k2; rw [u1_ne k2, uA_ne k1]; exact hm k k1 k2
    · show b 1 0 + 1 = _; rw [b1, nI_1]
    · show m 26 0 + 1 = _; rw [b2, nI_1]
    · intro i hi
      show upd (b 0) (b 1 0).toNatClampNeg c i = upd (m 25) (m 26 0).toNatClampNeg c i
      rw [b1, b2, iCl (by omega)]
      by_cases e : i = n
      · rw [e, upd_same, upd_same]
      · rw [upd_diff e, upd_diff e]; exact b3 i (by omega)
theorem T_hm (T : TT h t m0 b m) (M : HM m0 r) : HM m r := fun i => by rw [T.2.2.2.2.2.1 5 (by decide) (by decide)]; exact M i
theorem kd (v : HV h) (ht : t < h 12 0) : h 7 t = 1 ∨ h 7 t = 2 ∨ h 7 t = 3 ∨ h 7 t = 4 ∨ h 7 t = 5 := by
  have h7 := v.2.2.2.2.2.2.1 t ht
  omega
theorem markL (v : HV h) (R : RR h r) (M : HM m0 r) (ht : t < h 12 0) (T : TT h t m0 b m) : ∃ (w : Int32) (b' m' : St), fX1_mark b = some (w, b') ∧ fX8_markOf m (nI t) = some (w, m') ∧ TT h t m0 b' m' := by
  unfold fX1_mark fX8_markOf
  rw [m_kindOf v R (T_hm T M) ht, q_b1s, T.2.1]
  rcases kd v ht with e | e | e | e | e <;> rw [e] <;> simp only [t_0_0, t_0_1, t_0_2, t_0_3, t_0_4, t_0_5, t_0_6, t_1_0, t_1_1, t_1_2, t_1_3, t_1_4, t_1_5, t_1_6, t_2_0, t_2_1, t_2_2, t_2_3, t_2_4, t_2_5, t_2_6, t_3_0, t_3_1, t_3_2, t_3_3, t_3_4, t_3_5, t_3_6, t_4_0, t_4_1, t_4_2, t_4_3, t_4_4, t_4_5, t_4_6, t_5_0, t_5_1, t_5_2, t_5_3, t_5_4, t_5_5, t_5_6, t_6_0, t_6_1, t_6_2, t_6_3, t_6_4, t_6_5, t_6_6, t4_0, t4_1, t4_2, t4_3, t4_4, t4_5, t4_6, if_true, if_false]
  · obtain ⟨b1, m1, e1, f1, T1⟩ := leaveL T 21
    obtain ⟨b2, m2, e2, f2, T2⟩ := leaveL T1 20
    refine ⟨nI t + nI (h 8 t), b2, m2, ?_, ?_, T2⟩
    · unfold fX1_pearMark fX1_lentMark
      rw [e1, q_b1s, e2, q_b1s, q_b2s, q_b2s, T2.1, T2.2.2.1]
    · rw [if_pos (by decide), q_b1s, q_b1s, f1, q_b1s, f2, q_b1s, m_placeOf v R (T_hm T2 M) ht, q_b1s, q_b1s, q_lts, Int32.sub_zero]
  · obtain ⟨b0, m0, e0, f0, T0⟩ := leaveL T 22
    obtain ⟨b1, m1, e1, f1, T1⟩ := leaveL T0 21
    obtain ⟨b2, m2, e2, f2, T2⟩ := leaveL T1 20
    refine ⟨nI t + nI (h 8 t) - 1000, b2, m2, ?_, ?_, T2⟩
    · unfold fX1_nutMark fX1_pearMark fX1_lentMark
      rw [e0, q_b1s, e1, q_b1s, e2, q_b1s, q_b2s, q_b2s, q_b2s, T2.1, T2.2.2.1]
    · rw [if_pos (by decide), q_b1s, f0, q_b1s, q_b1s, f1, q_b1s, f2, q_b1s, m_placeOf v R (T_hm T2 M) ht, q_b1s, q_b1s, q_lts]
  · obtain ⟨b3, m3, e3, f3, T3⟩ := leaveL T 24
    obtain ⟨b0, m0, e0, f0, T0⟩ := leaveL T3 22
    obtain ⟨b1, m1, e1, f1, T1⟩ := leaveL T0 21
    obtain ⟨b2, m2, e2, f2, T2⟩ := leaveL T1 20
    refine ⟨2 * (nI t + nI (h 8 t) - 1000), b2, m2, ?_, ?_, T2⟩
    · unfold fX1_nutMark fX1_pearMark fX1_lentMark
      rw [e3, q_b1s, e0, q_b1s, e1, q_b1s, e2, q_b1s, q_b2s, q_b2s, q_b2s, T2.1, T2.2.2.1]
    · rw [if_pos (by decide), f3, q_b1s, q_b1s, f0, q_b1s, q_b1s, f1, q_b1s, f2, q_b1s, m_placeOf v R (T_hm T2 M) ht, q_b1s, q_b1s, q_lts]
  · obtain ⟨b1, m1, e1, f1, T1⟩ := leaveL T 23
    obtain ⟨b2, m2, e2, f2, T2⟩ := leaveL T1 20
    refine ⟨nI t + 10 * nI (loosK (h 7 t)), b2, m2, ?_, ?_, T2⟩
    · unfold fX1_ashMark fX1_lentMark
      rw [e1, q_b1s, e2, q_b1s, q_b2s, q_b2s, T2.1, T2.2.2.2.2.1]
    · rw [if_neg (by decide), f1, q_b1s, f2, q_b1s, m_loose v R (T_hm T2 M) ht, q_b1s]
  · obtain ⟨b1, m1, e1, f1, T1⟩ := leaveL T 23
    obtain ⟨b2, m2, e2, f2, T2⟩ := leaveL T1 20
    refine ⟨nI t + 10 * nI (loosK (h 7 t)), b2, m2, ?_, ?_, T2⟩
    · unfold fX1_ashMark fX1_lentMark
      rw [e1, q_b1s, e2, q_b1s, q_b2s, q_b2s, T2.1, T2.2.2.2.2.1]
    · rw [if_neg (by decide), f1, q_b1s, f2, q_b1s, m_loose v R (T_hm T2 M) ht, q_b1s]
theorem plainL (v : HV h) (R : RR h r) (M : HM m0 r) (ht : t < h 12 0) (T : TT h t m0 b m) : ∃ (b' m' : St), fX1_lentSize b = some (nI (h 9 t), b') ∧ fX8_plainSize m (nI t) = some (nI (h 9 t), m') ∧ TT h t m0 b' m' := by
  obtain ⟨b1, m1, e1, f1, T1⟩ := leaveL T 10
  refine ⟨b1, m1, ?_, ?_, T1⟩
  · unfold fX1_lentSize
    rw [e1, q_b1s, T1.2.2.2.1]
  · unfold fX8_plainSize
    rw [f1, q_b1s, m_fruit v R (T_hm T1 M) ht, q_b1s]
theorem sizeL (v : HV h) (R : RR h r) (M : HM m0 r) (ht : t < h 12 0) (T : TT h t m0 b m) : ∃ (w : Int32) (b' m' : St), fX1_size b = some (w, b') ∧ fX8_sizeOf m (nI t) = some (w, m') ∧ TT h t m0 b' m' := by
  unfold fX1_size fX8_sizeOf
  rw [m_kindOf v R (T_hm T M) ht, q_b1s, T.2.1]
  rcases kd v ht with e | e | e | e | e <;> rw [e] <;> simp only [t_0_0, t_0_1, t_0_2, t_0_3, t_0_4, t_0_5, t_0_6, t_1_0, t_1_1, t_1_2, t_1_3, t_1_4, t_1_5, t_1_6, t_2_0, t_2_1, t_2_2, t_2_3, t_2_4, t_2_5, t_2_6, t_3_0, t_3_1, t_3_2, t_3_3, t_3_4, t_3_5, t_3_6, t_4_0, t_4_1, t_4_2, t_4_3, t_4_4, t_4_5, t_4_6, t_5_0, t_5_1, t_5_2, t_5_3, t_5_4, t_5_5, t_5_6, t_6_0, t_6_1, t_6_2, t_6_3, t_6_4, t_6_5, t_6_6, t4_0, t4_1, t4_2, t4_3, t4_4, t4_5, t4_6, if_true, if_false]
  · obtain ⟨b1, m1, e1, f1, T1⟩ := leaveL T 11
    obtain ⟨b2, m2, e2, f2, T2⟩ := plainL v R M ht T1
    obtain ⟨w, b3, m3, e3, f3, T3⟩ := markL v R M ht T2
    refine ⟨nI (h 9 t) + w, b3, m3, ?_, ?_, T3⟩
    · unfold fX1_pearSize
      rw [e1, q_b1s, e2, q_b2s, e3, q_b2s, q_b2s]
    · rw [q_b1s, q_b1s, f1, q_b1s, f2, q_b2s, f3, q_b2s]
  · obtain ⟨b1, m1, e1, f1, T1⟩ := leaveL T 11
    obtain ⟨b2, m2, e2, f2, T2⟩ := plainL v R M ht T1
    obtain ⟨w, b3, m3, e3, f3, T3⟩ := markL v R M ht T2
    refine ⟨nI (h 9 t) + w, b3, m3, ?_, ?_, T3⟩
    · unfold fX1_pearSize
      rw [e1, q_b1s, e2, q_b2s, e3, q_b2s, q_b2s]
    · rw [q_b1s, q_b1s, f1, q_b1s, f2, q_b2s, f3, q_b2s]
  · obtain ⟨b0, m0, e0, f0, T0⟩ := leaveL T 12
    obtain ⟨b1, m1, e1, f1, T1⟩ := leaveL T0 11
    obtain ⟨b2, m2, e2, f2, T2⟩ := plainL v R M ht T1
    obtain ⟨w, b3, m3, e3, f3, T3⟩ := markL v R M ht T2
    refine ⟨-(nI (h 9 t) + w), b3, m3, ?_, ?_, T3⟩
    · unfold fX1_pearSize
      rw [e0, q_b1s, e1, q_b1s, e2, q_b2s, e3, q_b2s, q_b2s]
    · rw [q_b1s, f0, q_b1s, q_b1s, q_b1s, f1, q_b1s, f2, q_b2s, f3, q_b2s, Int32.neg_add]
  · obtain ⟨b1, m1, e1, f1, T1⟩ := leaveL T 13
    obtain ⟨b2, m2, e2, f2, T2⟩ := plainL v R M ht T1
    obtain ⟨w, b3, m3, e3, f3, T3⟩ := markL v R M ht T2
    refine ⟨nI (h 9 t) - w, b3, m3, ?_, ?_, T3⟩
    · unfold fX1_ashSize
      rw [e1, q_b1s, e2, q_b2s, e3, q_b2s, q_b2s]
    · rw [q_b1s, q_b1s, f1, q_b1s, f2, q_b2s, f3, q_b2s]
  · obtain ⟨b0, m0, e0, f0, T0⟩ := leaveL T 14
    obtain ⟨b1, m1, e1, f1, T1⟩ := leaveL T0 13
    obtain ⟨b2, m2, e2, f2, T2⟩ := plainL v R M ht T1
    obtain ⟨w, b3, m3, e3, f3, T3⟩ := markL v R M ht T2
    refine ⟨2 * (nI (h 9 t) - w), b3, m3, ?_, ?_, T3⟩
    · unfold fX1_ashSize
      rw [e0, q_b1s, e1, q_b1s, e2, q_b2s, e3, q_b2s, q_b2s]
    · rw [q_b1s, f0, q_b1s, q_b1s, q_b1s, f1, q_b1s, f2, q_b2s, f3, q_b2s]
end T85
section OPS
variable {ro ta ac bo i6 i7 st sp x m : St}
theorem RelT {bo' m' : St} (R : RelC ro ta ac bo i6 i7 st sp x m) (hm : ∀ k, ¬ k = 0 → ¬ k = 25 → ¬ k = 26 → m' k = m k) (ht : rTr bo' (m' 25) (m' 26 0)) : RelC ro ta ac bo' i6 i7 st sp x m' := by
  obtain ⟨h, h6, h7, h9, e1, e2, e3, e4, ⟨hv, r, hR, hM⟩, hrow, htape, hacts, himg, htr, hx⟩ := R
  have a1 := hm 1 (by decide) (by decide) (by decide)
  have a2 := hm 2 (by decide) (by decide) (by decide)
  have a3 := hm 3 (by decide) (by decide) (by decide)
  have a4 := hm 4 (by decide) (by decide) (by decide)
  have a5 := hm 5 (by decide) (by decide) (by decide)
  have a7 := hm 7 (by decide) (by decide) (by decide)
  have a8 := hm 8 (by decide) (by decide) (by decide)
  have a9 := hm 9 (by decide) (by decide) (by decide)
  have a10 := hm 10 (by decide) (by decide) (by decide)
  have a11 := hm 11 (by decide) (by decide) (by decide)
  have a12 := hm 12 (by decide) (by decide) (by decide)
  have a23 := hm 23 (by decide) (by decide) (by decide)
  have a24 := hm 24 (by decide) (by decide) (by decide)
  refine ⟨h, h6, h7, h9, e1, e2, e3, e4, ⟨hv, r, hR, fun i => by rw [a5]; exact hM i⟩, ?_, ?_, ?_, ?_, ht, ?_⟩
  · rw [a2, a3, a4]; exact hrow
  · rw [a10, a11]; exact htape
  · rw [a8, a9]; exact hacts
  · rw [a23, a24]; exact himg
  · rw [a7, a12, a1]; exact hx
theorem shape_sim (R : RelC ro ta ac bo i6 i7 st sp x m) (p q : Int32) : ∃ (v : Int64) (bo' m' : St), fX7_shape st bo p q = some (v, bo') ∧ fX8_shape m p q = some (v, m') ∧ RelC ro ta ac bo' i6 i7 st sp x m' := by
  have R0 := Rel0 R
  have RR0 := R
  obtain ⟨h, h6, h7, h9, rfl, rfl, rfl, rfl, ⟨hv, r, hR, hM⟩, hrow, htape, hacts, himg, htr, hx⟩ := R
  have hM0 : HM (u1 m 0 0) r := hM
  unfold fX7_shape fX8_shape
  rw [q_lts, c_isTree h hv, m_isTree hv hR hM0, q_b1s, q_b1s, ck_in]
  simp only [b01]
  by_cases c1 : inN p (h 12 0) = true
  · have k1 : ¬ ¬ inN p (h 12 0) = true := fun n => n c1
    rw [if_neg k1, if_neg k1, inp_ok q 0 1 0 1 rfl rfl, q_b1s, show (0 : Int32).toInt = 0 from rfl, show (1 : Int32).toInt = 1 from rfl]
    simp only [b01]
    by_cases c2 : inR q 0 1 = true
    · have k2 : ¬ ¬ inR q 0 1 = true := fun n => n c2
      have h12 := hv.2.2.1
      obtain ⟨t, ht, rfl⟩ := inN_nI (by omega) c1
      have ib : inb (nI t) 4 := by rw [iIn (by omega)]; omega
      rw [if_pos c2, if_neg k2, q_lts]
      have eb : fX1_begin bo (cst h) (nI t) = some (u1 (u1 (u1 (u1 (u1 (u1 bo 1 0) 2 (nI t)) 3 (nI (h 7 t))) 4 (nI (h 8 t))) 5 (nI (h 9 t))) 6 (nI (loosK (h 7 t)))) := by
        unfold fX1_begin
        rw [q_lts, isTree_ok h hv (by omega), q_b1s, if_pos ht, if_neg (show ¬ nI 1 = 0 by decide), q_lts, if_pos ib, q_lts, if_pos ib, q_lts, if_pos ib, q_lts, loose_ok h hv ht, q_b1s, q_lts, iCl (by omega)]
        rfl
      have T : TT h t (u1 m 0 0) (u1 (u1 (u1 (u1 (u1 (u1 bo 1 0) 2 (nI t)) 3 (nI (h 7 t))) 4 (nI (h 8 t))) 5 (nI (h 9 t))) 6 (nI (loosK (h 7 t)))) (u1 (u1 m 0 0) 26 0) := ⟨rfl, rfl, rfl, rfl, rfl, fun k k1 k2 => u1_ne k2, 0, by decide, rfl, rfl, fun i hi => by omega⟩
      rw [eb, q_b1s]
      by_cases c3 : q = 0
      · rw [if_pos c3, if_pos c3]
        obtain ⟨w, b', m', e1, e2, T'⟩ := sizeL hv hR hM0 ht T
        rw [e1, e2, q_b2s, q_b2s]
        exact ⟨_, b', m', rfl, rfl, RelT RR0 (fun k a b c => by rw [T'.2.2.2.2.2.1 k b c, u1_ne a]) T'.2.2.2.2.2.2⟩
      · rw [if_neg c3, if_neg c3]
        obtain ⟨w, b', m', e1, e2, T'⟩ := markL hv hR hM0 ht T
        rw [e1, e2, q_b2s, q_b2s]
        exact ⟨_, b', m', rfl, rfl, RelT RR0 (fun k a b c => by rw [T'.2.2.2.2.2.1 k b c, u1_ne a]) T'.2.2.2.2.2.2⟩
    · exact ⟨_, _, _, by rw [if_neg c2], by rw [if_pos c2], R0⟩
  · exact ⟨_, _, _, by rw [if_pos c1], by rw [if_pos c1], R0⟩
end OPS
