/-! feed, image, restore -/
def byN (x : Int64) (i : Nat) : Nat := x.toBitVec.toNat / 2 ^ (8 * i) % 256
def upb (b : Nat → Nat) (u v : Nat) : Nat → Nat := fun j => if j = u then v else b j
theorem byN_lt (x : Int64) (i : Nat) : byN x i < 256 := Nat.mod_lt _ (by decide)
theorem byN_bit (x : Int64) (i j : Nat) : (byN x i).testBit j = (decide (j < 8) && x.toBitVec.getLsbD (8 * i + j)) := by
  unfold byN
  rw [show (256 : Nat) = 2 ^ 8 from rfl, Nat.testBit_mod_two_pow, Nat.testBit_div_two_pow, BitVec.getLsbD, Nat.add_comm j]
theorem m_byte (x : Int64) {i : Nat} (hi : i < 8) : ((x >>> (((8 : Int32) * nI i).toInt64 &&& 63)) &&& (255 : Int64)).toInt32 = nI (byN x i) := by
  have e1 : ((((8 : Int32) * nI i).toInt64 &&& 63).toBitVec.smod 64).toNat = 8 * i := by
    have key : ∀ i : Fin 8, ((((8 : Int32) * nI i.val).toInt64 &&& 63).toBitVec.smod 64).toNat = 8 * i.val := by decide +kernel
    exact key ⟨i, hi⟩
  apply Int32.toBitVec_inj.mp
  show (((x.toBitVec.sshiftRight' ((((8 : Int32) * nI i).toInt64 &&& 63).toBitVec.smod 64)) &&& 255#64)).signExtend 32 = BitVec.ofNat 32 (byN x i)
  unfold BitVec.sshiftRight'
  rw [e1]
  apply BitVec.eq_of_getLsbD_eq
  intro j hj
  rw [BitVec.getLsbD_signExtend, BitVec.getLsbD_and, BitVec.getLsbD_sshiftRight, BitVec.getLsbD_ofNat, BitVec.getLsbD_ofNat, byN_bit, show (255 : Nat) = 2 ^ 8 - 1 from rfl, Nat.testBit_two_pow_sub_one]
  by_cases c : j < 8
  · simp [hj, c, show j < 64 by omega, show 8 * i + j < 64 by omega]
  · simp [hj, c, show j < 64 by omega]
theorem c_byte (x : Int64) {i : Nat} (hi : i < 8) : vp_nar .byte ((((x.toUInt64 >>> (((8 : Int32) * nI i).toInt64.toUInt64 &&& Int64.toUInt64 63)).toInt64).toInt32).toInt8.toInt32) = sB (byN x i) := by
  have e1 : ((((8 : Int32) * nI i).toInt64.toUInt64 &&& Int64.toUInt64 63).toBitVec % 64#64).toNat = 8 * i := by
    have key : ∀ i : Fin 8, ((((8 : Int32) * nI i.val).toInt64.toUInt64 &&& Int64.toUInt64 63).toBitVec % 64#64).toNat = 8 * i.val := by decide +kernel
    exact key ⟨i, hi⟩
  have e2 : (((x.toUInt64 >>> (((8 : Int32) * nI i).toInt64.toUInt64 &&& Int64.toUInt64 63)).toInt64).toInt32).toInt8 = (nI (byN x i)).toInt8 := by
    apply Int8.toBitVec_inj.mp
    show ((x.toBitVec >>> ((((8 : Int32) * nI i).toInt64.toUInt64 &&& Int64.toUInt64 63).toBitVec % 64#64)).signExtend 32).signExtend 8 = (BitVec.ofNat 32 (byN x i)).signExtend 8
    rw [BitVec.ushiftRight_eq', e1]
    apply BitVec.eq_of_getLsbD_eq
    intro j hj
    rw [BitVec.getLsbD_signExtend, BitVec.getLsbD_signExtend, BitVec.getLsbD_signExtend, BitVec.getLsbD_ushiftRight, BitVec.getLsbD_ofNat, byN_bit]
    simp [hj, show j < 64 by omega, show j < 32 by omega]
  rw [e2]
  show (nI (byN x i)).toInt8.toInt32.toInt8.toInt32 = _
  rw [Int8.toInt8_toInt32]
  rfl
theorem iDec (i : Nat) : nI (i + 1) + (-1) = nI i := by
  rw [← nI_1, Int32.add_assoc, show (1 : Int32) + (-1) = 0 from rfl, Int32.add_zero]
theorem iDec0 : nI 0 + (-1) < 0 := by decide
theorem feedL (x : Int64) : ∀ i k (a m : St), i < 8 → i + 1 < k → ∀ (u : Nat) (b : Nat → Nat), u + (i + 1) ≤ 400 → (∀ j, b j < 256) → a 1 0 = nI u → m 11 0 = nI u → (∀ j, j < u → m 10 j = nI (b j) ∧ a 0 j = sB (b j)) → ∃ a' m' : St, fX6_append_L5 x k (nI i) a = some a' ∧ fX8_feed_L42 x k (nI i) m = some m' ∧ (∀ z, ¬ z = 10 → ¬ z = 11 → m' z = m z) ∧ a' 1 0 = nI (u + (i + 1)) ∧ m' 11 0 = nI (u + (i + 1)) ∧ rTape a' (m' 10) (m' 11 0) := by
  have step : ∀ i k (a m : St) u, i < 8 → u < 400 → a 1 0 = nI u → m 11 0 = nI u → fX6_append_L5 x (k + 1) (nI i) a = fX6_append_L5 x k (nI i + -1) (u1 (uA a 0 (nI u) (sB (byN x i))) 1 (nI (u + 1))) ∧ fX8_feed_L42 x (k + 1) (nI i) m = fX8_feed_L42 x k (nI i + -1) (u1 (uA m 10 (nI u) (nI (byN x i))) 11 (nI (u + 1))) := by
    intro i k a m u hi hu h1 h2
    have ip : ¬ nI i < 0 := nI_pos (by omega)
    constructor
    · rw [fX6_append_L5, if_neg ip, h1, if_neg (by rw [show (400 : Int32) = nI 400 from rfl, iLe (by decide) (by omega)]; omega), if_pos (by rw [iIn (by omega)]; omega), q_lts, c_byte x hi, q_lts]
      have : (uA a 0 (nI u) (sB (byN x i))) 1 0 = nI u := h1
      rw [this, nI_1]
    · rw [fX8_feed_L42, if_neg ip, h2, if_pos (by rw [iIn (by omega)]; omega), q_lts, m_byte x hi, q_lts]
      have : (uA m 10 (nI u) (nI (byN x i))) 11 0 = nI u := h2
      rw [this, nI_1]
  intro i
  induction i with
  | zero =>
    intro k a m hi hk u b hu hb h1 h2 h3
    cases k with
    | zero => omega
    | succ k =>
      cases k with
      | zero => omega
      | succ k =>
        obtain ⟨s1, s2⟩ := step 0 (k + 1) a m u (by decide) (by omega) h1 h2
        rw [s1, s2, fX6_append_L5, fX8_feed_L42, if_pos iDec0, if_pos iDec0]
        refine ⟨_, _, rfl, rfl, fun z z1 z2 => by rw [u1_ne z2, uA_ne z1], rfl, rfl, u + 1, upb b u (byN x 0), by omega, rfl, rfl, ?_, ?_⟩
        · intro j
          unfold upb
          split
          · exact byN_lt x 0
          · exact hb j
        · intro j hj
          show upd (m 10) (nI u).toNatClampNeg _ j = _ ∧ upd (a 0) (nI u).toNatClampNeg _ j = _
          rw [iCl (by omega)]
          unfold upb upd
          by_cases c : j = u
          · rw [if_pos c, if_pos c, if_pos c]; exact ⟨rfl, rfl⟩
          · rw [if_neg c, if_neg c, if_neg c]; exact h3 j (by omega)
  | succ i ih =>
    intro k a m hi hk u b hu hb h1 h2 h3
    cases k with
    | zero => omega
    | succ k =>
      obtain ⟨s1, s2⟩ := step (i + 1) k a m u hi (by omega) h1 h2
      obtain ⟨a', m', f1, f2, f3, f4, f5, f6⟩ := ih k (u1 (uA a 0 (nI u) (sB (byN x (i + 1)))) 1 (nI (u + 1))) (u1 (uA m 10 (nI u) (nI (byN x (i + 1)))) 11 (nI (u + 1))) (by omega) (by omega) (u + 1) (upb b u (byN x (i + 1))) (by omega) (by
          intro j
          unfold upb
          split
          · exact byN_lt x (i + 1)
          · exact hb j) rfl rfl (by
          intro j hj
          show upd (m 10) (nI u).toNatClampNeg _ j = _ ∧ upd (a 0) (nI u).toNatClampNeg _ j = _
          rw [iCl (by omega)]
          unfold upb upd
          by_cases c : j = u
          · rw [if_pos c, if_pos c, if_pos c]; exact ⟨rfl, rfl⟩
          · rw [if_neg c, if_neg c, if_neg c]; exact h3 j (by omega))
      refine ⟨a', m', ?_, ?_, ?_, ?_, ?_, f6⟩
      · rw [s1, iDec]; exact f1
      · rw [s2, iDec]; exact f2
      · intro z z1 z2; rw [f3 z z1 z2, u1_ne z2, uA_ne z1]
      · rw [f4]; congr 1; omega
      · rw [f5]; congr 1; omega
section OPS
variable {ro ta ac bo i6 i7 st sp x m : St}
theorem RelTp {ta' m' : St} (R : RelC ro ta ac bo i6 i7 st sp x m) (hm : ∀ k, ¬ k = 0 → ¬ k = 10 → ¬ k = 11 → m' k = m k) (ht : rTape ta' (m' 10) (m' 11 0)) : RelC ro ta' ac bo i6 i7 st sp x m' := by
  obtain ⟨h, h6, h7, h9, e1, e2, e3, e4, ⟨hv, r, hR, hM⟩, hrow, htape, hacts, himg, htr, hx⟩ := R
  have a1 := hm 1 (by decide) (by decide) (by decide)
  have a2 := hm 2 (by decide) (by decide) (by decide)
  have a3 := hm 3 (by decide) (by decide) (by decide)
  have a4 := hm 4 (by decide) (by decide) (by decide)
  have a5 := hm 5 (by decide) (by decide) (by decide)
  have a7 := hm 7 (by decide) (by decide) (by decide)
  have a8 := hm 8 (by decide) (by decide) (by decide)
  have a9 := hm 9 (by decide) (by decide) (by decide)
  have a12 := hm 12 (by decide) (by decide) (by decide)
  have a23 := hm 23 (by decide) (by decide) (by decide)
  have a24 := hm 24 (by decide) (by decide) (by decide)
  have a25 := hm 25 (by decide) (by decide) (by decide)
  have a26 := hm 26 (by decide) (by decide) (by decide)
  refine ⟨h, h6, h7, h9, e1, e2, e3, e4, ⟨hv, r, hR, fun i => by rw [a5]; exact hM i⟩, ?_, ht, ?_, ?_, ?_, ?_⟩
  · rw [a2, a3, a4]; exact hrow
  · rw [a8, a9]; exact hacts
  · rw [a23, a24]; exact himg
  · rw [a25, a26]; exact htr
  · rw [a7, a12, a1]; exact hx
theorem feed_sim (R : RelC ro ta ac bo i6 i7 st sp x m) (p : Int64) (q : Int32) : ∃ (v : Int64) (ta' m' : St), fX7_feed ta p q = some (v, ta') ∧ fX8_feed m p q = some (v, m') ∧ RelC ro ta' ac bo i6 i7 st sp x m' := by
  have R0 := Rel0 R
  have htape : rTape ta (m 10) (m 11 0) := by obtain ⟨h, h6, h7, h9, e1, e2, e3, e4, hh, hrow, htape, _⟩ := R; exact htape
  obtain ⟨u, b, hu, t1, t2, t3, t4⟩ := htape
  unfold fX7_feed fX8_feed
  rw [q_lts, ck_in, inp_ok q 1 8 1 8 rfl rfl, q_b1s, show (1 : Int32).toInt = 1 from rfl, show (8 : Int32).toInt = 8 from rfl]
  simp only [b01]
  by_cases c1 : inR q 1 8 = true
  · have k1 : ¬ ¬ inR q 1 8 = true := fun n => n c1
    obtain ⟨d, d1, d2, d3, rfl⟩ := inR_of (by decide) (by decide) c1
    have er : fX6_hasRoomFor ta (nI d) = some (if u + d ≤ 400 then 1 else 0) := by
      unfold fX6_hasRoomFor
      rw [t1, show (400 : Int32) = nI 400 from rfl, iSub hu]
      simp only [iLt (show 400 - u < 2 ^ 31 by omega) d3]
      by_cases c : u + d ≤ 400
      · rw [if_neg (by omega), if_pos c]
      · rw [if_pos (by omega), if_neg c]
    rw [if_pos c1, if_neg k1, er, q_b1s, show (u1 m 0 0) 11 0 = m 11 0 from rfl, t2, iAdd, show (400 : Int32) = nI 400 from rfl]
    simp only [b01, iLe (show u + d < 2 ^ 31 by omega) (show 400 < 2 ^ 31 by decide)]
    by_cases c : u + d ≤ 400
    · obtain ⟨e, rfl⟩ : ∃ e, d = e + 1 := ⟨d - 1, by omega⟩
      obtain ⟨a', m', f1, f2, f3, f4, f5, f6⟩ := feedL p e 5000 ta (u1 m 0 0) (by omega) (by omega) u b (by omega) t3 t1 t2 t4
      have e1 : nI (e + 1) - 1 = nI e := nI_pred e
      rw [if_neg (fun n => n c), if_pos c, q_lts, e1, f2, q_b1s]
      have ea : fX6_append ta p (nI (e + 1)) = some a' := by
        unfold fX6_append
        rw [q_lts, e1, f1, q_b1s]
      rw [ea, q_b1s]
      unfold fX6_length
      rw [q_b1s, f4, f5]
      exact ⟨_, _, _, rfl, rfl, RelTp R (fun z z0 z1 z2 => by rw [f3 z z1 z2, u1_ne z0]) f6⟩
    · rw [if_pos c, if_neg c]
      exact ⟨_, _, _, rfl, rfl, R0⟩
  · rw [if_neg c1, if_pos c1]
    exact ⟨_, _, _, rfl, rfl, R0⟩
end OPS
