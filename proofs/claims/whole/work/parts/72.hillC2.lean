/-! the class's functions of a hill, further -/
theorem dO_some (h : Hl) (g t : Nat) : dO h g (some t) = dist (h 8 t) (h 1 g) := rfl
theorem treeL (h : Hl) (v : HV h) {g gone : Nat} (hg : g < h 10 0) (hgo : gone < 2 ^ 31) : ∀ d n t, t + d = h 12 0 → d < n → fX3_treeOf_L9 (nI g) (nI gone) (cst h) n (tI (itsL h g gone t)) (nI (dO h g (itsL h g gone t))) (nI t) = some (tI (itsL h g gone (h 12 0))) := by
  have h1 := v.2.2.1
  have h0 := v.1
  intro d
  induction d with
  | zero =>
    intro n t e hn
    cases n with
    | zero => omega
    | succ n =>
      have e : t = h 12 0 := by omega
      subst e
      rw [fX3_treeOf_L9]
      simp only [cst_at, iLe (show h 12 0 < 2 ^ 31 by omega) (show h 12 0 < 2 ^ 31 by omega), Nat.le_refl, if_true]
  | succ d ih =>
    intro n t e hn
    cases n with
    | zero => omega
    | succ n =>
      have ht : t < h 12 0 := by omega
      have h8 := v.2.2.2.2.2.2.1 t ht
      have h4 := v.2.2.2.2.1 g hg
      have hdd := dist_le h8.2.2.1 h4.1
      have hdo := dO_le h g gone t
      have IH := ih n (t + 1) (by omega) (by omega)
      rw [itsL_succ] at IH
      rw [fX3_treeOf_L9]
      simp only [cst_at, z_0, z_1, z_2, z_3, z_4, z_5, z_6, z_7, z_8, z_9, z_10, z_11, z_12, z_13, z_14, z_15, z_16, z_20, z_21, z_22, z_23, z_24, z_30, z_31, z_32, z_35, z_40, z_47, z_48, z_57, z_59, z_97, z_100, z_122, z_400, z_1000, iLe (show h 12 0 < 2 ^ 31 by omega) (show t < 2 ^ 31 by omega), show ¬ h 12 0 ≤ t by omega, if_false, isGrave_ok h v (show g < 2 ^ 31 by omega), if_pos hg, q_b1s, n10, bears_ok h v ht hgo, iB0, iIn (show t < 2 ^ 31 by omega), iCl (show t < 2 ^ 31 by omega), iIn (show g < 2 ^ 31 by omega), iCl (show g < 2 ^ 31 by omega), show t < 4 by omega, show g < 5 by omega, if_true, iAbs (show h 8 t < 2 ^ 30 by omega) (show h 1 g < 2 ^ 30 by omega), iLe (show dO h g (itsL h g gone t) < 2 ^ 31 by omega) (show dist (h 8 t) (h 1 g) < 2 ^ 31 by omega), q_lts, iAdd]
      by_cases c1 : bear h t gone = true
      · by_cases c2 : dist (h 8 t) (h 1 g) < dO h g (itsL h g gone t)
        · rw [if_pos ⟨c1, c2⟩] at IH
          simpa [c1, Nat.not_le.mpr c2, q_b2s, tI_some, dO_some] using IH
        · rw [if_neg (fun q => c2 q.2)] at IH
          simpa [c1, Nat.not_lt.mp c2, q_b2s] using IH
      · rw [if_neg (fun q => c1 q.1)] at IH
        simpa [c1, q_b2s] using IH
theorem treeOf_ok (h : Hl) (v : HV h) {g gone : Nat} (hg : g < h 10 0) (hgo : gone < 2 ^ 31) : fX3_treeOf (cst h) (nI g) (nI gone) = some (tI (itsT h g gone)) := by
  have h1 := v.2.2.1
  unfold fX3_treeOf
  have := treeL h v hg hgo (h 12 0) 5000 0 (by omega) (by omega)
  have e : fX3_treeOf_L9 (nI g) (nI gone) (cst h) 5000 (-1000000) 4 0 = some (tI (itsT h g gone)) := this
  rw [e]
  rfl
theorem tI_inj {a b : Option Nat} (ha : ∀ x, a = some x → x < 2 ^ 31) (hb : ∀ x, b = some x → x < 2 ^ 31) : (tI a = tI b) = (a = b) := by
  apply propext
  constructor
  · intro e
    cases a with
    | none =>
      cases b with
      | none => rfl
      | some y => exact absurd e.symm (nI_neNONE (hb y rfl))
    | some x =>
      cases b with
      | none => exact absurd e (nI_neNONE (ha x rfl))
      | some y =>
        have := (nI_eq (ha x rfl) (hb y rfl)).mp e
        rw [this]
  · intro e; rw [e]
theorem tI_eqN {a : Option Nat} (ha : ∀ x, a = some x → x < 2 ^ 31) {t : Nat} (ht : t < 2 ^ 31) : (tI a = nI t) = (a = some t) := tI_inj (b := some t) ha (fun x e => by cases e; exact ht)
theorem tI_isN {a : Option Nat} (ha : ∀ x, a = some x → x < 2 ^ 31) : (tI a = -1000000) = (a = none) := tI_inj (b := none) ha (fun x e => by cases e)
theorem itsT_lt (h : Hl) (v : HV h) (g gone : Nat) : ∀ x, itsT h g gone = some x → x < 2 ^ 31 := fun x e => by
  have := itsL_lt h g gone _ x e
  have := v.2.2.1
  omega
theorem gravesL (h : Hl) (v : HV h) {t : Nat} (ht : t < 2 ^ 31) : ∀ d n g, g + d = h 10 0 → d < n → fX3_gravesOf_L4 (nI t) (cst h) n (nI (bs (fun g => decide (itsT h g 0 = some t)) g)) (nI g) = some (nI (gravesOf h t)) := by
  have h0 := v.1
  intro d
  induction d with
  | zero =>
    intro n g e hn
    cases n with
    | zero => omega
    | succ n =>
      have e : g = h 10 0 := by omega
      subst e
      rw [fX3_gravesOf_L4]
      simp only [cst_at, iLe (show h 10 0 < 2 ^ 31 by omega) (show h 10 0 < 2 ^ 31 by omega), Nat.le_refl, if_true]
      rfl
  | succ d ih =>
    intro n g e hn
    cases n with
    | zero => omega
    | succ n =>
      have hg : g < h 10 0 := by omega
      have IH := ih n (g + 1) (by omega) (by omega)
      have hb : fX3_treeOf (cst h) (nI g) (nI 0) = some (tI (itsT h g 0)) := treeOf_ok h v hg (by decide)
      rw [fX3_gravesOf_L4]
      simp only [cst_at, z_0, z_1, z_2, z_3, z_4, z_5, z_6, z_7, z_8, z_9, z_10, z_11, z_12, z_13, z_14, z_15, z_16, z_20, z_21, z_22, z_23, z_24, z_30, z_31, z_32, z_35, z_40, z_47, z_48, z_57, z_59, z_97, z_100, z_122, z_400, z_1000, iLe (show h 10 0 < 2 ^ 31 by omega) (show g < 2 ^ 31 by omega), show ¬ h 10 0 ≤ g by omega, if_false, hb, q_b1s, tI_eqN (itsT_lt h v g 0) ht, iShl (show g < 31 by omega), iOr, q_lts, iAdd]
      by_cases c : itsT h g 0 = some t
      · simpa [c, bs, q_b1s] using IH
      · simpa [c, bs, q_b1s] using IH
theorem gravesOf_ok (h : Hl) (v : HV h) {t : Nat} (ht : t < 2 ^ 31) : fX3_gravesOf (cst h) (nI t) = some (nI (gravesOf h t)) := by
  have h1 := v.1
  unfold fX3_gravesOf
  have := gravesL h v ht (h 10 0) 5000 0 (by omega) (by omega)
  have e : fX3_gravesOf_L4 (nI t) (cst h) 5000 0 0 = some (nI (gravesOf h t)) := this
  rw [e]
  rfl
theorem mindL (h : Hl) (v : HV h) {m thr gone : Nat} (hm : m < 16) (hthr : thr < 16) (hgo : gone < 2 ^ 31) : ∀ d n g, g + d = h 10 0 → d < n → fX3_minding_L6 (nI m) (nI thr) (nI gone) (cst h) n (nI (bs (mindB h m thr gone) g)) (nI g) = some (nI (minding h m thr gone)) := by
  have h0 := v.1
  intro d
  induction d with
  | zero =>
    intro n g e hn
    cases n with
    | zero => omega
    | succ n =>
      have e : g = h 10 0 := by omega
      subst e
      rw [fX3_minding_L6]
      simp only [cst_at, iLe (show h 10 0 < 2 ^ 31 by omega) (show h 10 0 < 2 ^ 31 by omega), Nat.le_refl, if_true]
      rfl
  | succ d ih =>
    intro n g e hn
    cases n with
    | zero => omega
    | succ n =>
      have hg : g < h 10 0 := by omega
      have IH := ih n (g + 1) (by omega) (by omega)
      have h4 := v.2.2.2.2.1 g hg
      have hl := heard_lt h v g
      have a1 : h 4 g &&& m < 2 ^ 31 := Nat.lt_of_le_of_lt Nat.and_le_left (by omega)
      have a2 : heard h g &&& thr < 2 ^ 31 := Nat.lt_of_le_of_lt Nat.and_le_left (by omega)
      rw [fX3_minding_L6]
      simp only [cst_at, z_0, z_1, z_2, z_3, z_4, z_5, z_6, z_7, z_8, z_9, z_10, z_11, z_12, z_13, z_14, z_15, z_16, z_20, z_21, z_22, z_23, z_24, z_30, z_31, z_32, z_35, z_40, z_47, z_48, z_57, z_59, z_97, z_100, z_122, z_400, z_1000, iLe (show h 10 0 < 2 ^ 31 by omega) (show g < 2 ^ 31 by omega), show ¬ h 10 0 ≤ g by omega, if_false, iIn (show g < 2 ^ 31 by omega), iCl (show g < 2 ^ 31 by omega), show g < 5 by omega, if_true, iAnd (h 4 g) m, iAnd (heard h g) thr, iEq a1 (show 0 < 2 ^ 31 by decide), iEq a2 (show 0 < 2 ^ 31 by decide), heard_ok h v hg, treeOf_ok h v hg hgo, q_b1s, tI_isN (itsT_lt h v g gone), iShl (show g < 31 by omega), iOr, q_lts, iAdd]
      have hs : bs (mindB h m thr gone) (g + 1) = if mindB h m thr gone g = true then bs (mindB h m thr gone) g ||| 2 ^ g else bs (mindB h m thr gone) g := rfl
      rw [hs] at IH
      by_cases c1 : h 4 g &&& m = 0
      · rw [show mindB h m thr gone g = false by simp [mindB, c1]] at IH
        simpa [c1, q_b1s] using IH
      by_cases c2 : heard h g &&& thr = 0
      · rw [show mindB h m thr gone g = false by simp [mindB, c2]] at IH
        simpa [c1, c2, q_b1s] using IH
      cases c3 : itsT h g gone with
      | none =>
        rw [show mindB h m thr gone g = false by simp [mindB, c3]] at IH
        simpa [c1, c2, q_b1s] using IH
      | some z =>
        rw [show mindB h m thr gone g = true by simp [mindB, c1, c2, c3]] at IH
        simpa [c1, c2, q_b1s] using IH
theorem minding_ok (h : Hl) (v : HV h) {m thr gone : Nat} (hm : m < 16) (hthr : thr < 16) (hgo : gone < 2 ^ 31) : fX3_minding (cst h) (nI m) (nI thr) (nI gone) = some (nI (minding h m thr gone)) := by
  have h1 := v.1
  unfold fX3_minding
  have := mindL h v hm hthr hgo (h 10 0) 5000 0 (by omega) (by omega)
  have e : fX3_minding_L6 (nI m) (nI thr) (nI gone) (cst h) 5000 0 0 = some (nI (minding h m thr gone)) := this
  rw [e]
  rfl
theorem minding_lt (h : Hl) (v : HV h) (m thr gone : Nat) : minding h m thr gone < 32 := Nat.lt_of_lt_of_le (bs_lt _ _) (Nat.pow_le_pow_right (n := 2) (by decide) v.1)
theorem gravesOf_lt (h : Hl) (v : HV h) (t : Nat) : gravesOf h t < 32 := Nat.lt_of_lt_of_le (bs_lt _ _) (Nat.pow_le_pow_right (n := 2) (by decide) v.1)

/-! odds -/
def KN (q : Nat → Bool) (f : Nat → Nat) : Nat → Nat → Nat
  | 0, x => x
  | n + 1, x => if q n = true then KN q f n x / 10 * (10 - f n) else KN q f n x
def PN (q : Nat → Bool) (f : Nat → Nat) : Nat → Nat
  | 0 => 1
  | n + 1 => if q n = true then PN q f n * (10 - f n) else PN q f n
def CN (q : Nat → Bool) : Nat → Nat
  | 0 => 0
  | n + 1 => if q n = true then CN q n + 1 else CN q n
theorem CN_le (q : Nat → Bool) : ∀ n, CN q n ≤ n
  | 0 => Nat.le_refl 0
  | n + 1 => by have := CN_le q n; unfold CN; split <;> omega
theorem PN_le (q : Nat → Bool) (f : Nat → Nat) : ∀ n, PN q f n ≤ 10 ^ CN q n
  | 0 => Nat.le_refl 1
  | n + 1 => by
    have := PN_le q f n
    unfold PN CN
    split
    · rw [Nat.pow_succ]; exact Nat.mul_le_mul this (by omega)
    · exact this
theorem PN_pos (q : Nat → Bool) (f : Nat → Nat) : ∀ n, (∀ k, k < n → f k ≤ 9) → 0 < PN q f n
  | 0, _ => Nat.one_pos
  | n + 1, h => by
    have := PN_pos q f n (fun k hk => h k (Nat.lt_succ_of_lt hk))
    have h1 := h n (Nat.lt_succ_self n)
    unfold PN
    split
    · exact Nat.mul_pos this (by omega)
    · exact this
theorem KN_eq (q : Nat → Bool) (f : Nat → Nat) (y c : Nat) : ∀ n, CN q n ≤ c → KN q f n (10 ^ c * y) = 10 ^ (c - CN q n) * (y * PN q f n)
  | 0, _ => by simp [KN, CN, PN]
  | n + 1, h => by
    unfold KN PN
    unfold CN at h ⊢
    split
    · rename_i hq
      rw [if_pos hq] at h
      rw [KN_eq q f y c n (by omega), show c - CN q n = (c - (CN q n + 1)) + 1 by omega, Nat.pow_succ]
      rw [show 10 ^ (c - (CN q n + 1)) * 10 * (y * PN q f n) = 10 * (10 ^ (c - (CN q n + 1)) * (y * PN q f n)) by rw [Nat.mul_comm _ 10, Nat.mul_assoc]]
      rw [Nat.mul_div_cancel_left _ (by decide : 0 < 10), Nat.mul_assoc, Nat.mul_assoc]
    · rename_i hq
      rw [if_neg hq] at h
      exact KN_eq q f y c n h
theorem KN_le (q : Nat → Bool) (f : Nat → Nat) (x : Nat) : ∀ n, KN q f n x ≤ x
  | 0 => Nat.le_refl x
  | n + 1 => by
    have := KN_le q f x n
    unfold KN
    split
    · refine Nat.le_trans (Nat.mul_le_mul_left _ (by omega : 10 - f n ≤ 10)) ?_
      omega
    · exact this
theorem KN_congr {q q' : Nat → Bool} {f f' : Nat → Nat} {x : Nat} : ∀ {n}, (∀ k, k < n → q k = q' k ∧ (q k = true → f k = f' k)) → KN q f n x = KN q' f' n x
  | 0, _ => rfl
  | n + 1, h => by
    unfold KN
    rw [KN_congr (fun k hk => h k (Nat.lt_succ_of_lt hk)), ← (h n (Nat.lt_succ_self n)).1]
    split
    · rename_i hq; rw [(h n (Nat.lt_succ_self n)).2 hq]
    · rfl
theorem z10L : (10 : Int64) = lN 10 := by decide +kernel
theorem kept_ok {x t : Nat} (hx : x < 2 ^ 62) (ht : t ≤ 10) : fX3_kept (lN x) (nI t) = some (lN (x / 10 * (10 - t))) := by
  unfold fX3_kept
  rw [z10L, pk_lDiv (by omega) (by decide) (by decide), show (10 : Int32) = nI 10 from rfl, iSub ht, nI_l (by omega), lN_mul]
theorem keptL (h : Hl) (v : HV h) {a x : Nat} (ha : a < 32) (hx : x ≤ 10 ^ 18) : ∀ d n g, g + d = h 10 0 → d < n → fX3_keptBy_L6 (nI a) (cst h) n (lN (KN a.testBit (h 3) g x)) (nI g) = some (lN (KN a.testBit (h 3) (h 10 0) x)) := by
  have h0 := v.1
  intro d
  induction d with
  | zero =>
    intro n g e hn
    cases n with
    | zero => omega
    | succ n =>
      have e : g = h 10 0 := by omega
      subst e
      rw [fX3_keptBy_L6]
      simp only [cst_at, iLe (show h 10 0 < 2 ^ 31 by omega) (show h 10 0 < 2 ^ 31 by omega), Nat.le_refl, if_true]
  | succ d ih =>
    intro n g e hn
    cases n with
    | zero => omega
    | succ n =>
      have hg : g < h 10 0 := by omega
      have IH := ih n (g + 1) (by omega) (by omega)
      have h4 := v.2.2.2.2.1 g hg
      have hk := KN_le a.testBit (h 3) x g
      rw [fX3_keptBy_L6]
      simp only [cst_at, z_0, z_1, z_2, z_3, z_4, z_5, z_6, z_7, z_8, z_9, z_10, z_11, z_12, z_13, z_14, z_15, z_16, z_20, z_21, z_22, z_23, z_24, z_30, z_31, z_32, z_35, z_40, z_47, z_48, z_57, z_59, z_97, z_100, z_122, z_400, z_1000, iLe (show h 10 0 < 2 ^ 31 by omega) (show g < 2 ^ 31 by omega), show ¬ h 10 0 ≤ g by omega, if_false, iIn (show g < 2 ^ 31 by omega), iCl (show g < 2 ^ 31 by omega), show g < 5 by omega, if_true, has_ok (show a < 2 ^ 31 by omega) (show g < 31 by omega), q_b1s, iB0, kept_ok (show KN a.testBit (h 3) g x < 2 ^ 62 by omega) (show h 3 g ≤ 10 by omega), iAdd]
      have hs : KN a.testBit (h 3) (g + 1) x = if a.testBit g = true then KN a.testBit (h 3) g x / 10 * (10 - h 3 g) else KN a.testBit (h 3) g x := rfl
      rw [hs] at IH
      by_cases c : a.testBit g = true
      · rw [if_pos c] at IH
        simpa [c, q_b1s] using IH
      · rw [if_neg c] at IH
        simpa [c, q_b1s] using IH
theorem keptBy_ok (h : Hl) (v : HV h) {a x : Nat} (ha : a < 32) (hx : x ≤ 10 ^ 18) : fX3_keptBy (cst h) (nI a) (lN x) = some (lN (KN a.testBit (h 3) (h 10 0) x)) := by
  have h1 := v.1
  unfold fX3_keptBy
  have e : fX3_keptBy_L6 (nI a) (cst h) 5000 (lN x) 0 = some (lN (KN a.testBit (h 3) (h 10 0) x)) := keptL h v ha hx (h 10 0) 5000 0 (by omega) (by omega)
  rw [e]
  rfl
theorem blow_le (h : Hl) (v : HV h) (t : Nat) {hr : Nat} (hh : hr < 12) : blow h t hr ≤ 9 := by
  have := loosK_le (h 7 t)
  have := v.2.2.2.1 hr hh
  unfold blow
  split
  · exact Nat.mul_le_mul (by omega : loosK (h 7 t) ≤ 3) (by omega : h 0 hr ≤ 3)
  · omega
theorem passL (h : Hl) (v : HV h) {hr gone x : Nat} (hh : hr < 12) (hgo : gone < 2 ^ 31) (hx : x ≤ 10 ^ 18) : ∀ d n t, t + d = h 12 0 → d < n → fX3_passing_L13 (nI hr) (nI gone) (cst h) n (lN (KN (fun t => bear h t gone) (fun t => blow h t hr) t x)) (nI t) = some (lN (KN (fun t => bear h t gone) (fun t => blow h t hr) (h 12 0) x)) := by
  have h0 := v.2.2.1
  intro d
  induction d with
  | zero =>
    intro n t e hn
    cases n with
    | zero => omega
    | succ n =>
      have e : t = h 12 0 := by omega
      subst e
      rw [fX3_passing_L13]
      simp only [cst_at, iLe (show h 12 0 < 2 ^ 31 by omega) (show h 12 0 < 2 ^ 31 by omega), Nat.le_refl, if_true]
  | succ d ih =>
    intro n t e hn
    cases n with
    | zero => omega
    | succ n =>
      have ht : t < h 12 0 := by omega
      have IH := ih n (t + 1) (by omega) (by omega)
      have hk := KN_le (fun t => bear h t gone) (fun t => blow h t hr) x t
      have hb := blow_le h v t hh
      rw [fX3_passing_L13]
      simp only [cst_at, z_0, z_1, z_2, z_3, z_4, z_5, z_6, z_7, z_8, z_9, z_10, z_11, z_12, z_13, z_14, z_15, z_16, z_20, z_21, z_22, z_23, z_24, z_30, z_31, z_32, z_35, z_40, z_47, z_48, z_57, z_59, z_97, z_100, z_122, z_400, z_1000, iLe (show h 12 0 < 2 ^ 31 by omega) (show t < 2 ^ 31 by omega), show ¬ h 12 0 ≤ t by omega, if_false, bears_ok h v ht hgo, blown_ok h v ht hh, q_b1s, iB0, kept_ok (show KN (fun t => bear h t gone) (fun t => blow h t hr) t x < 2 ^ 62 by omega) (show blow h t hr ≤ 10 by omega), iAdd]
      have hs : KN (fun t => bear h t gone) (fun t => blow h t hr) (t + 1) x = if bear h t gone = true then KN (fun t => bear h t gone) (fun t => blow h t hr) t x / 10 * (10 - blow h t hr) else KN (fun t => bear h t gone) (fun t => blow h t hr) t x := rfl
      rw [hs] at IH
      by_cases c : bear h t gone = true
      · rw [if_pos c] at IH
        simpa [c, q_b1s] using IH
      · rw [if_neg c] at IH
        simpa [c, q_b1s] using IH
/-- of ten to the ninth, as many ways nothing falls -/
def passN (h : Hl) (m thr hr gone : Nat) : Nat := KN (fun t => bear h t gone) (fun t => blow h t hr) (h 12 0) (KN (mindB h m thr gone) (h 3) (h 10 0) (10 ^ 9))
def upN (h : Hl) (m thr hr gone : Nat) : Nat := PN (fun t => bear h t gone) (fun t => blow h t hr) (h 12 0) * PN (mindB h m thr gone) (h 3) (h 10 0)
def exN (h : Hl) (m thr gone : Nat) : Nat := CN (fun t => bear h t gone) (h 12 0) + CN (mindB h m thr gone) (h 10 0)
theorem exN_le (h : Hl) (v : HV h) (m thr gone : Nat) : exN h m thr gone ≤ 9 := by
  have h1 := CN_le (fun t => bear h t gone) (h 12 0)
  have h2 := CN_le (mindB h m thr gone) (h 10 0)
  have := v.1
  have := v.2.2.1
  unfold exN
  omega
theorem passN_eq (h : Hl) (v : HV h) (m thr hr gone : Nat) : passN h m thr hr gone = 10 ^ (9 - exN h m thr gone) * upN h m thr hr gone := by
  have h1 := CN_le (fun t => bear h t gone) (h 12 0)
  have h2 := CN_le (mindB h m thr gone) (h 10 0)
  have h3 := v.1
  have h4 := v.2.2.1
  unfold passN upN exN
  have e := KN_eq (mindB h m thr gone) (h 3) 1 9 (h 10 0) (by omega)
  rw [Nat.mul_one, Nat.one_mul] at e
  rw [e, KN_eq _ _ _ _ _ (by omega)]
  rw [show 9 - CN (mindB h m thr gone) (h 10 0) - CN (fun t => bear h t gone) (h 12 0) = 9 - (CN (fun t => bear h t gone) (h 12 0) + CN (mindB h m thr gone) (h 10 0)) by omega, Nat.mul_comm (PN (mindB h m thr gone) (h 3) (h 10 0))]
theorem passing_ok (h : Hl) (v : HV h) {m thr hr gone : Nat} (hh : hr < 12) (hgo : gone < 2 ^ 31) : fX3_passing (cst h) (nI (minding h m thr gone)) (nI hr) (nI gone) = some (lN (passN h m thr hr gone)) := by
  have h1 := v.2.2.1
  have hk := keptBy_ok h v (a := minding h m thr gone) (x := 10 ^ 9) (minding_lt h v m thr gone) (by decide)
  have hk : fX3_keptBy (cst h) (nI (minding h m thr gone)) 1000000000 = some (lN (KN (minding h m thr gone).testBit (h 3) (h 10 0) (10 ^ 9))) := by
    rw [← hk]; congr 1
  have e2 : KN (minding h m thr gone).testBit (h 3) (h 10 0) (10 ^ 9) = KN (mindB h m thr gone) (h 3) (h 10 0) (10 ^ 9) := KN_congr (fun k hk => ⟨by unfold minding; rw [bs_bit]; simp [hk], fun _ => rfl⟩)
  have hl := KN_le (mindB h m thr gone) (h 3) (10 ^ 9) (h 10 0)
  have hp := passL h v (gone := gone) (x := KN (mindB h m thr gone) (h 3) (h 10 0) (10 ^ 9)) hh hgo (by omega) (h 12 0) 5000 0 (by omega) (by omega)
  unfold fX3_passing
  rw [hk, e2, q_b1s]
  have e : fX3_passing_L13 (nI hr) (nI gone) (cst h) 5000 (lN (KN (mindB h m thr gone) (h 3) (h 10 0) (10 ^ 9))) 0 = some (lN (passN h m thr hr gone)) := hp
  rw [e]
  rfl
