/-! numbers: everything small is nI of a Nat -/
theorem z_0 : (0 : Int32) = nI 0 := by decide +kernel
theorem z_1 : (1 : Int32) = nI 1 := by decide +kernel
theorem z_2 : (2 : Int32) = nI 2 := by decide +kernel
theorem z_3 : (3 : Int32) = nI 3 := by decide +kernel
theorem z_4 : (4 : Int32) = nI 4 := by decide +kernel
theorem z_5 : (5 : Int32) = nI 5 := by decide +kernel
theorem z_6 : (6 : Int32) = nI 6 := by decide +kernel
theorem z_7 : (7 : Int32) = nI 7 := by decide +kernel
theorem z_8 : (8 : Int32) = nI 8 := by decide +kernel
theorem z_9 : (9 : Int32) = nI 9 := by decide +kernel
theorem z_10 : (10 : Int32) = nI 10 := by decide +kernel
theorem z_11 : (11 : Int32) = nI 11 := by decide +kernel
theorem z_12 : (12 : Int32) = nI 12 := by decide +kernel
theorem z_13 : (13 : Int32) = nI 13 := by decide +kernel
theorem z_14 : (14 : Int32) = nI 14 := by decide +kernel
theorem z_15 : (15 : Int32) = nI 15 := by decide +kernel
theorem z_16 : (16 : Int32) = nI 16 := by decide +kernel
theorem z_20 : (20 : Int32) = nI 20 := by decide +kernel
theorem z_21 : (21 : Int32) = nI 21 := by decide +kernel
theorem z_22 : (22 : Int32) = nI 22 := by decide +kernel
theorem z_23 : (23 : Int32) = nI 23 := by decide +kernel
theorem z_24 : (24 : Int32) = nI 24 := by decide +kernel
theorem z_30 : (30 : Int32) = nI 30 := by decide +kernel
theorem z_31 : (31 : Int32) = nI 31 := by decide +kernel
theorem z_32 : (32 : Int32) = nI 32 := by decide +kernel
theorem z_35 : (35 : Int32) = nI 35 := by decide +kernel
theorem z_40 : (40 : Int32) = nI 40 := by decide +kernel
theorem z_47 : (47 : Int32) = nI 47 := by decide +kernel
theorem z_48 : (48 : Int32) = nI 48 := by decide +kernel
theorem z_57 : (57 : Int32) = nI 57 := by decide +kernel
theorem z_59 : (59 : Int32) = nI 59 := by decide +kernel
theorem z_97 : (97 : Int32) = nI 97 := by decide +kernel
theorem z_100 : (100 : Int32) = nI 100 := by decide +kernel
theorem z_122 : (122 : Int32) = nI 122 := by decide +kernel
theorem z_400 : (400 : Int32) = nI 400 := by decide +kernel
theorem z_1000 : (1000 : Int32) = nI 1000 := by decide +kernel
abbrev Hl : Type := Nat → Nat → Nat
def cst (h : Hl) : St := fun k j => nI (h k j)
def h2 (h : Hl) (k : Nat) (f : Nat → Nat) : Hl := fun j => cond (Nat.beq j k) f (h j)
def h1 (h : Hl) (k v : Nat) : Hl := h2 h k (fun _ => v)
def hA (h : Hl) (k i v : Nat) : Hl := h2 h k (fun j => if j = i then v else h k j)
theorem cst_at (h : Hl) (k j : Nat) : cst h k j = nI (h k j) := rfl
theorem u1_cst (h : Hl) (k v : Nat) : u1 (cst h) k (nI v) = cst (h1 h k v) := by
  funext j i
  unfold u1 u2 cst h1 h2
  cases Nat.beq j k <;> rfl
theorem iCl {a : Nat} (h : a < 2 ^ 31) : (nI a).toNatClampNeg = a := nI_clamp h
theorem uA_cst (h : Hl) (k i v : Nat) (hi : i < 2 ^ 31) : uA (cst h) k (nI i) (nI v) = cst (hA h k i v) := by
  funext j x
  unfold uA u2 cst hA h2
  rw [iCl hi]
  cases Nat.beq j k
  · rfl
  · show upd (fun j => nI (h k j)) i (nI v) x = nI (if x = i then v else h k x)
    unfold upd
    split <;> rfl
theorem iLe {a b : Nat} (ha : a < 2 ^ 31) (hb : b < 2 ^ 31) : (nI a ≤ nI b) = (a ≤ b) := propext (nI_leI ha hb)
theorem iLt {a b : Nat} (ha : a < 2 ^ 31) (hb : b < 2 ^ 31) : (nI a < nI b) = (a < b) := propext (nI_ltI ha hb)
theorem iEq {a b : Nat} (ha : a < 2 ^ 31) (hb : b < 2 ^ 31) : (nI a = nI b) = (a = b) := propext (nI_eq ha hb)
theorem iIn {a n : Nat} (ha : a < 2 ^ 31) : inb (nI a) n = (a < n) := by
  have h1 : ¬ nI a < 0 := nI_pos ha
  have h2 : (nI a).toNatClampNeg = a := iCl ha
  apply propext
  constructor
  · intro h
    rcases Nat.lt_or_ge a n with q | q
    · exact q
    · exact absurd (Or.inr (by rw [h2]; exact q)) h
  · intro h q
    rcases q with q | q
    · exact h1 q
    · rw [h2] at q; omega
theorem iAdd (a b : Nat) : nI a + nI b = nI (a + b) := nI_add a b
theorem iMul (a b : Nat) : nI a * nI b = nI (a * b) := pk_mul a b
theorem iSub {a b : Nat} (h : b ≤ a) : nI a - nI b = nI (a - b) := pk_sub h
def dist (a b : Nat) : Nat := if a ≤ b then b - a else a - b
theorem iAbs {x y : Nat} (hx : x < 2 ^ 30) (hy : y < 2 ^ 30) : (if nI 0 ≤ nI x - nI y then nI x - nI y else nI 0 - (nI x - nI y)) = nI (dist x y) := by
  unfold dist
  by_cases h : x < y
  · have h1 : ¬ nI 0 ≤ nI x - nI y := by
      intro q
      have := pk_sneg hy h
      exact absurd q (Int32.not_le.mpr this)
    rw [if_neg h1, if_pos (by omega)]
    show 0 - (nI x - nI y) = nI (y - x)
    rw [Int32.zero_sub, Int32.neg_sub, iSub (by omega)]
  · rw [iSub (by omega : y ≤ x), if_pos (by rw [iLe (by omega) (by omega)]; omega)]
    by_cases h2 : x ≤ y
    · rw [if_pos h2]; congr 1; omega
    · rw [if_neg h2]
theorem iMask (j : Nat) (h : j < 32) : nI j &&& nI 31 = nI j := by
  have key : ∀ j : Fin 32, nI j.val &&& nI 31 = nI j.val := by decide +kernel
  exact key ⟨j, h⟩
theorem iSm (j : Nat) (h : j < 32) : ((nI j).toBitVec.smod 32).toNat = j := by
  have key : ∀ j : Fin 32, ((nI j.val).toBitVec.smod 32).toNat = j.val := by decide +kernel
  exact key ⟨j, h⟩
theorem iShl {j : Nat} (h : j < 31) : (nI 1) <<< (nI j &&& nI 31) = nI (2 ^ j) := by
  have key : ∀ j : Fin 31, (nI 1) <<< (nI j.val &&& nI 31) = nI (2 ^ j.val) := by decide +kernel
  exact key ⟨j, h⟩
theorem iShr {a j : Nat} (ha : a < 2 ^ 31) (h : j < 31) : nI a >>> (nI j &&& nI 31) = nI (a / 2 ^ j) := by
  rw [iMask j (by omega)]
  exact pk_shrN ha (nI j) j (iSm j (by omega))
theorem iAnd (a b : Nat) : nI a &&& nI b = nI (a &&& b) := by
  apply Int32.toBitVec_inj.mp
  show BitVec.ofNat 32 a &&& BitVec.ofNat 32 b = BitVec.ofNat 32 (a &&& b)
  exact (BitVec.ofNat_and ..).symm
theorem iOr (a b : Nat) : nI a ||| nI b = nI (a ||| b) := by
  apply Int32.toBitVec_inj.mp
  show BitVec.ofNat 32 a ||| BitVec.ofNat 32 b = BitVec.ofNat 32 (a ||| b)
  exact (BitVec.ofNat_or ..).symm
theorem iBit {a j : Nat} (ha : a < 2 ^ 31) (h : j < 31) : (nI a >>> (nI j &&& nI 31)) &&& nI 1 = nI (a / 2 ^ j % 2) := by
  rw [iShr ha h, iAnd, Nat.and_one_is_mod]
theorem q_b1s {α β : Type} (a : α) (k : α → Option β) : q_b1 (some a) k = k a := rfl
theorem q_b2s {α1 α2 β : Type} (a : α1) (b : α2) (k : α1 → α2 → Option β) : q_b2 (some (a, b)) k = k a b := rfl
theorem q_b3s {α1 α2 α3 β : Type} (a : α1) (b : α2) (c : α3) (k : α1 → α2 → α3 → Option β) : q_b3 (some (a, b, c)) k = k a b c := rfl
theorem q_b4s {α1 α2 α3 α4 β : Type} (a : α1) (b : α2) (c : α3) (d : α4) (k : α1 → α2 → α3 → α4 → Option β) : q_b4 (some (a, b, c, d)) k = k a b c d := rfl
theorem q_lts {α β : Type} (x : α) (k : α → Option β) : q_lt x k = k x := rfl
def tI : Option Nat → Int32
  | none => -1000000
  | some t => nI t
theorem tI_none : tI none = -1000000 := rfl
theorem tI_some (t : Nat) : tI (some t) = nI t := rfl
theorem nI_neNONE {a : Nat} (h : a < 2 ^ 31) : ¬ nI a = -1000000 := by
  intro q
  have h1 : ¬ nI a < 0 := nI_pos h
  rw [q] at h1
  exact h1 (by decide)
/-! sets as bits -/
def bs (p : Nat → Bool) : Nat → Nat
  | 0 => 0
  | n + 1 => if p n = true then bs p n ||| 2 ^ n else bs p n
theorem bs_lt (p : Nat → Bool) : ∀ n, bs p n < 2 ^ n
  | 0 => (by decide : (0 : Nat) < 2 ^ 0)
  | n + 1 => by
    have h := bs_lt p n
    unfold bs
    split
    · exact Nat.or_lt_two_pow (Nat.lt_trans h (Nat.pow_lt_pow_right (by decide) (Nat.lt_succ_self n))) (Nat.pow_lt_pow_right (by decide) (Nat.lt_succ_self n))
    · exact Nat.lt_trans h (Nat.pow_lt_pow_right (by decide) (Nat.lt_succ_self n))
theorem bs_bit (p : Nat → Bool) : ∀ n j, (bs p n).testBit j = (decide (j < n) && p j)
  | 0, j => by simp [bs]
  | n + 1, j => by
    unfold bs
    split
    · rename_i h
      rw [Nat.testBit_or, bs_bit p n j, Nat.testBit_two_pow]
      by_cases e : n = j
      · subst e; simp [h]
      · have : decide (j < n + 1) = decide (j < n) := by simp; omega
        simp [this, e]
    · rename_i h
      rw [bs_bit p n j]
      by_cases e : j = n
      · subst e; simp at h; simp [h]
      · have : decide (j < n + 1) = decide (j < n) := by simp; omega
        rw [this]
theorem bs_congr {p q : Nat → Bool} : ∀ {n}, (∀ j, j < n → p j = q j) → bs p n = bs q n
  | 0, _ => rfl
  | n + 1, h => by
    unfold bs
    rw [h n (Nat.lt_succ_self n), bs_congr (fun j hj => h j (Nat.lt_succ_of_lt hj))]
theorem bs_lt31 (p : Nat → Bool) {n : Nat} (h : n ≤ 30) : bs p n < 2 ^ 31 := Nat.lt_of_lt_of_le (bs_lt p n) (Nat.pow_le_pow_right (by decide) (by omega))
theorem has_ok {a j : Nat} (ha : a < 2 ^ 31) (hj : j < 31) : fX3_has (nI a) (nI j) = some (if a.testBit j = true then nI 1 else nI 0) := by
  unfold fX3_has
  simp only [z_0, z_1, z_2, z_3, z_4, z_5, z_6, z_7, z_8, z_9, z_10, z_11, z_12, z_13, z_14, z_15, z_16, z_20, z_21, z_22, z_23, z_24, z_30, z_31, z_32, z_35, z_40, z_47, z_48, z_57, z_59, z_97, z_100, z_122, z_400, z_1000, iBit ha hj, iEq (show a / 2 ^ j % 2 < 2 ^ 31 by omega) (show 0 < 2 ^ 31 by decide), Nat.testBit_eq_decide_div_mod_eq]
  by_cases h : a / 2 ^ j % 2 = 1
  · simp [h]
  · have : a / 2 ^ j % 2 = 0 := by omega
    simp [this]
